section
-- ===== PART A: goes FIRST, ahead of the names: the tables' words, and 'selects' of the private methods out of them =====
/-- a private method of a class that the tables say can be made, by its rows of tables_1 -/
def lw_okq (q : MethodName × Nat) : Prop := (q.1.cls ≠ "java/lang/invoke/MethodHandle" ∧ q.1.cls ≠ "java/lang/invoke/VarHandle") ∧ Cond.instantiable q.1.cls q.2 ∈ tables_1 ∧ Cond.privateMethod q.1 ∈ tables_1 ∧ Cond.instanceMethod q.1 ∈ tables_1
theorem lw_p0 : lw_okq (⟨"java/lang/Throwable", "fillInStackTrace", "(I)Ljava/lang/Throwable;"⟩, 6) := ⟨⟨by decide +kernel, by decide +kernel⟩, List.mem_of_getElem? (i := 245) (by decide +kernel), List.mem_of_getElem? (i := 243) (by decide +kernel), List.mem_of_getElem? (i := 244) (by decide +kernel)⟩
theorem lw_p1 : lw_okq (⟨"AlloyPlans", "tell", "([IIII)V"⟩, 5) := ⟨⟨by decide +kernel, by decide +kernel⟩, List.mem_of_getElem? (i := 18) (by decide +kernel), List.mem_of_getElem? (i := 333) (by decide +kernel), List.mem_of_getElem? (i := 334) (by decide +kernel)⟩
theorem lw_p2 : lw_okq (⟨"AlloyPlans", "isKind", "(I)Z"⟩, 5) := ⟨⟨by decide +kernel, by decide +kernel⟩, List.mem_of_getElem? (i := 18) (by decide +kernel), List.mem_of_getElem? (i := 375) (by decide +kernel), List.mem_of_getElem? (i := 376) (by decide +kernel)⟩
theorem lw_p3 : lw_okq (⟨"AlloyPlans$Search", "judge", "(LAlloyPlans$Mix;)V"⟩, 7) := ⟨⟨by decide +kernel, by decide +kernel⟩, List.mem_of_getElem? (i := 127) (by decide +kernel), List.mem_of_getElem? (i := 429) (by decide +kernel), List.mem_of_getElem? (i := 430) (by decide +kernel)⟩
theorem lw_p4 : lw_okq (⟨"AlloyPlans$Search", "isWorthTrying", "(LAlloyPlans$Mix;)Z"⟩, 7) := ⟨⟨by decide +kernel, by decide +kernel⟩, List.mem_of_getElem? (i := 127) (by decide +kernel), List.mem_of_getElem? (i := 456) (by decide +kernel), List.mem_of_getElem? (i := 457) (by decide +kernel)⟩
theorem lw_p5 : lw_okq (⟨"AlloyPlans", "requirePlan", "()V"⟩, 5) := ⟨⟨by decide +kernel, by decide +kernel⟩, List.mem_of_getElem? (i := 18) (by decide +kernel), List.mem_of_getElem? (i := 473) (by decide +kernel), List.mem_of_getElem? (i := 474) (by decide +kernel)⟩
theorem lw_p6 : lw_okq (⟨"AlloyPlans", "countAddedBefore", "(I)I"⟩, 5) := ⟨⟨by decide +kernel, by decide +kernel⟩, List.mem_of_getElem? (i := 18) (by decide +kernel), List.mem_of_getElem? (i := 496) (by decide +kernel), List.mem_of_getElem? (i := 497) (by decide +kernel)⟩
theorem lw_p7 : lw_okq (⟨"AlloyPlans", "isAddedBefore", "(II)Z"⟩, 5) := ⟨⟨by decide +kernel, by decide +kernel⟩, List.mem_of_getElem? (i := 18) (by decide +kernel), List.mem_of_getElem? (i := 500) (by decide +kernel), List.mem_of_getElem? (i := 501) (by decide +kernel)⟩
theorem lw_p8 : lw_okq (⟨"AlloyPlans", "heldByPlan", "(I)J"⟩, 5) := ⟨⟨by decide +kernel, by decide +kernel⟩, List.mem_of_getElem? (i := 18) (by decide +kernel), List.mem_of_getElem? (i := 511) (by decide +kernel), List.mem_of_getElem? (i := 512) (by decide +kernel)⟩
theorem lw_p9 : lw_okq (⟨"AlloyPlans", "wholeByPlan", "()J"⟩, 5) := ⟨⟨by decide +kernel, by decide +kernel⟩, List.mem_of_getElem? (i := 18) (by decide +kernel), List.mem_of_getElem? (i := 517) (by decide +kernel), List.mem_of_getElem? (i := 518) (by decide +kernel)⟩
theorem lw_p10 : lw_okq (⟨"AlloyPlans", "roundedByPlan", "(I)I"⟩, 5) := ⟨⟨by decide +kernel, by decide +kernel⟩, List.mem_of_getElem? (i := 18) (by decide +kernel), List.mem_of_getElem? (i := 536) (by decide +kernel), List.mem_of_getElem? (i := 537) (by decide +kernel)⟩
theorem lw_p11 : lw_okq (⟨"AlloyPlansModel", "goes", "(ZZ)Z"⟩, 19) := ⟨⟨by decide +kernel, by decide +kernel⟩, List.mem_of_getElem? (i := 547) (by decide +kernel), List.mem_of_getElem? (i := 624) (by decide +kernel), List.mem_of_getElem? (i := 625) (by decide +kernel)⟩
theorem lw_p12 : lw_okq (⟨"AlloyPlansModel", "isKind", "(I)Z"⟩, 19) := ⟨⟨by decide +kernel, by decide +kernel⟩, List.mem_of_getElem? (i := 547) (by decide +kernel), List.mem_of_getElem? (i := 650) (by decide +kernel), List.mem_of_getElem? (i := 651) (by decide +kernel)⟩
theorem lw_p13 : lw_okq (⟨"AlloyPlansModel", "sets", "(I)Z"⟩, 19) := ⟨⟨by decide +kernel, by decide +kernel⟩, List.mem_of_getElem? (i := 547) (by decide +kernel), List.mem_of_getElem? (i := 663) (by decide +kernel), List.mem_of_getElem? (i := 664) (by decide +kernel)⟩
theorem lw_p14 : lw_okq (⟨"AlloyPlansModel", "cooling", "()I"⟩, 19) := ⟨⟨by decide +kernel, by decide +kernel⟩, List.mem_of_getElem? (i := 547) (by decide +kernel), List.mem_of_getElem? (i := 667) (by decide +kernel), List.mem_of_getElem? (i := 668) (by decide +kernel)⟩
theorem lw_p15 : lw_okq (⟨"AlloyPlansModel", "isMet", "(I)Z"⟩, 19) := ⟨⟨by decide +kernel, by decide +kernel⟩, List.mem_of_getElem? (i := 547) (by decide +kernel), List.mem_of_getElem? (i := 671) (by decide +kernel), List.mem_of_getElem? (i := 672) (by decide +kernel)⟩
def lw_privs_1 : List (MethodName × Nat) := [(⟨"java/lang/Throwable", "fillInStackTrace", "(I)Ljava/lang/Throwable;"⟩, 6), (⟨"AlloyPlans", "tell", "([IIII)V"⟩, 5), (⟨"AlloyPlans", "isKind", "(I)Z"⟩, 5), (⟨"AlloyPlans$Search", "judge", "(LAlloyPlans$Mix;)V"⟩, 7), (⟨"AlloyPlans$Search", "isWorthTrying", "(LAlloyPlans$Mix;)Z"⟩, 7), (⟨"AlloyPlans", "requirePlan", "()V"⟩, 5), (⟨"AlloyPlans", "countAddedBefore", "(I)I"⟩, 5), (⟨"AlloyPlans", "isAddedBefore", "(II)Z"⟩, 5), (⟨"AlloyPlans", "heldByPlan", "(I)J"⟩, 5), (⟨"AlloyPlans", "wholeByPlan", "()J"⟩, 5), (⟨"AlloyPlans", "roundedByPlan", "(I)I"⟩, 5), (⟨"AlloyPlansModel", "goes", "(ZZ)Z"⟩, 19), (⟨"AlloyPlansModel", "isKind", "(I)Z"⟩, 19), (⟨"AlloyPlansModel", "sets", "(I)Z"⟩, 19), (⟨"AlloyPlansModel", "cooling", "()I"⟩, 19), (⟨"AlloyPlansModel", "isMet", "(I)Z"⟩, 19)]
theorem lw_r1 : ∀ q ∈ lw_privs_1, lw_okq q := List.forall_mem_cons.mpr ⟨lw_p0, List.forall_mem_cons.mpr ⟨lw_p1, List.forall_mem_cons.mpr ⟨lw_p2, List.forall_mem_cons.mpr ⟨lw_p3, List.forall_mem_cons.mpr ⟨lw_p4, List.forall_mem_cons.mpr ⟨lw_p5, List.forall_mem_cons.mpr ⟨lw_p6, List.forall_mem_cons.mpr ⟨lw_p7, List.forall_mem_cons.mpr ⟨lw_p8, List.forall_mem_cons.mpr ⟨lw_p9, List.forall_mem_cons.mpr ⟨lw_p10, List.forall_mem_cons.mpr ⟨lw_p11, List.forall_mem_cons.mpr ⟨lw_p12, List.forall_mem_cons.mpr ⟨lw_p13, List.forall_mem_cons.mpr ⟨lw_p14, List.forall_mem_cons.mpr ⟨lw_p15, fun _ h => absurd h List.not_mem_nil⟩⟩⟩⟩⟩⟩⟩⟩⟩⟩⟩⟩⟩⟩⟩⟩
theorem lw_p16 : lw_okq (⟨"AlloyPlansModel", "weight", "()I"⟩, 19) := ⟨⟨by decide +kernel, by decide +kernel⟩, List.mem_of_getElem? (i := 547) (by decide +kernel), List.mem_of_getElem? (i := 676) (by decide +kernel), List.mem_of_getElem? (i := 677) (by decide +kernel)⟩
theorem lw_p17 : lw_okq (⟨"AlloyPlansModel", "amount", "(II)J"⟩, 19) := ⟨⟨by decide +kernel, by decide +kernel⟩, List.mem_of_getElem? (i := 547) (by decide +kernel), List.mem_of_getElem? (i := 680) (by decide +kernel), List.mem_of_getElem? (i := 681) (by decide +kernel)⟩
theorem lw_p18 : lw_okq (⟨"AlloyPlansModel", "cost", "()I"⟩, 19) := ⟨⟨by decide +kernel, by decide +kernel⟩, List.mem_of_getElem? (i := 547) (by decide +kernel), List.mem_of_getElem? (i := 684) (by decide +kernel), List.mem_of_getElem? (i := 685) (by decide +kernel)⟩
theorem lw_p19 : lw_okq (⟨"AlloyPlansModel", "used", "()I"⟩, 19) := ⟨⟨by decide +kernel, by decide +kernel⟩, List.mem_of_getElem? (i := 547) (by decide +kernel), List.mem_of_getElem? (i := 688) (by decide +kernel), List.mem_of_getElem? (i := 689) (by decide +kernel)⟩
theorem lw_p20 : lw_okq (⟨"AlloyPlansModel", "load", "()V"⟩, 19) := ⟨⟨by decide +kernel, by decide +kernel⟩, List.mem_of_getElem? (i := 547) (by decide +kernel), List.mem_of_getElem? (i := 700) (by decide +kernel), List.mem_of_getElem? (i := 701) (by decide +kernel)⟩
def lw_privs_2 : List (MethodName × Nat) := [(⟨"AlloyPlansModel", "weight", "()I"⟩, 19), (⟨"AlloyPlansModel", "amount", "(II)J"⟩, 19), (⟨"AlloyPlansModel", "cost", "()I"⟩, 19), (⟨"AlloyPlansModel", "used", "()I"⟩, 19), (⟨"AlloyPlansModel", "load", "()V"⟩, 19)]
theorem lw_r2 : ∀ q ∈ lw_privs_2, lw_okq q := List.forall_mem_cons.mpr ⟨lw_p16, List.forall_mem_cons.mpr ⟨lw_p17, List.forall_mem_cons.mpr ⟨lw_p18, List.forall_mem_cons.mpr ⟨lw_p19, List.forall_mem_cons.mpr ⟨lw_p20, fun _ h => absurd h List.not_mem_nil⟩⟩⟩⟩⟩
def lw_privs : List (MethodName × Nat) := lw_privs_1 ++ (lw_privs_2)
def lw_tbl : List Cond := k2_sels lw_privs ++ tables_1
theorem lw_privs_ok : ∀ q ∈ lw_privs, lw_okq q := by
  show ∀ q ∈ lw_privs_1 ++ (lw_privs_2), lw_okq q
  exact List.forall_mem_append.mpr ⟨lw_r1, lw_r2⟩
def TB : List Cond := lw_tbl.filter goodWord
theorem tb_mem {w : Cond} (h : w ∈ tables_1) (hg : goodWord w = true) : w ∈ TB := List.mem_filter.mpr ⟨List.mem_append_right _ h, hg⟩
theorem tb_sel {w : Cond} (h : w ∈ k2_sels lw_privs) (hg : goodWord w = true) : w ∈ TB := List.mem_filter.mpr ⟨List.mem_append_left _ h, hg⟩
theorem tb_ok {w : Cond} (h : w ∈ TB) : w ∈ TB ∧ ((w.onTables && w.keeps) = true ∨ ∃ ty, w = .arrayClass ty) := ⟨h, good_of_word (List.mem_filter.mp h).2⟩
theorem tb_in {ws : List Cond} (h : ∀ w ∈ ws, w ∈ TB) : GoodIn TB ws := fun w hw => tb_ok (h w hw)
theorem tb_at {args : Array Value} {s : State} (h : ∀ w ∈ lw_tbl, w.before args s = true) : ∀ w ∈ TB, w.before args s = true := fun w hw => h w (List.mem_filter.mp hw).1
end
section
/-! ===== BEGIN exceptions that leave a method, and their catching by the caller (launches without stack traces) ===== -/
section VXA
/-! The laws vx_back, vx_callV, vx_callS, vx_callSW, vx_throw0, vx_throwS follow proofs of the library, with one case more: JvmDerived/Free/Laws.lean (Back.of_free), Shelf42/LK1.lean (callV, callS), Shelf/KitTraced.lean (throwNew0V, throwNewS). -/
/-- where a method has thrown q: the class by its name, the cell, what was written, the world -/
def vx_T (XC : String → State → State → Prop) (st : State) (q : Addr) (t : State) (mc ms : Nat) (free : Addr → Prop) : Prop :=
  ∃ (E : String) (ce : Cell) (L : List Loc), XC E st t ∧ t.heap[q]? = some ce ∧ ce.vm = .none ∧ st.vm.findClass E = some ce.cls ∧ st.WarmedH t.vm ∧ st.sameButNew ({ t with vm := st.vm } : State) L mc ms ∧ ∀ z ∈ L, free z.base
def vx_Q (Qc : Array Value → State → Outcome → State → Prop) (XC : String → State → State → Prop) (mc ms : Nat) (free : Addr → Prop) : Array Value → State → Outcome → State → Prop := fun a st o t =>
  (Qc a st o t ∧ ∃ L, FrameEnd st o t L mc ms ∧ ∀ q ∈ L, free q.base) ∨ ∃ q, o = .threw q ∧ vx_T XC st q t mc ms free
/-- a callee that returns or throws -/
def vx_Met (l : Launch) (y : MethodName) (ws : List Cond) (rm : Room) (Pc : Array Value → State → Prop) (Qc : Array Value → State → Outcome → State → Prop) (XC : String → State → State → Prop) (mc ms : Nat) (free : Addr → Prop) : Prop :=
  MetFree l y (headSpec ws rm) Pc (fun _ _ _ _ _ => True) (vx_Q Qc XC mc ms free)
def vx_Post (XC : String → State → State → Prop) (mc ms : Nat) (free : Addr → Prop) : Pt → Array Value → Addr → Pt → Prop := fun A a q B =>
  ∃ (g : JFrame) (mk : MethodId) (t : State) (L : List Loc) (E : String) (ce : Cell), B.U.heap = t.heap ∧ B.U.vm = t.vm ∧ XC E (A.U.calling g mk a) t ∧ t.heap[q]? = some ce ∧ ce.vm = .none ∧ A.U.vm.findClass E = some ce.cls ∧ B.locs = A.locs ++ L ∧ (∀ z ∈ L, free z.base) ∧ B.cells = A.cells + mc ∧ B.slots = A.slots + ms
def vx_Back (l : Launch) (R : Room) (p : Program) (e : Env) (below : List Frame) (s : State) (sargs : Array Value) (y : MethodName) (len W9 : Nat)
    (Pre : Pt → Array Value → Prop) (Post : Pt → Array Value → Option Value → Pt → Prop) (PostX : Pt → Array Value → Addr → Pt → Prop) : Prop :=
  ∀ (m : MethodId) (meth : Method) (c : Code) (A : Pt) (g : JFrame) (ig : Instr) (mk : MethodId) (a : Array Value),
    Stand p l e R s m sargs below meth c A.U A.locs A.cells A.slots → g.method = m → g.locals.size = c.maxLocals → decode c.code g.pc = .ok (ig, len) →
    2 * g.monitorRoom + (g.stack.map fun v => v.category).sum ≤ W9 → A.U.methodNamed? y = some mk → Pre A a →
    (∃ (v : Option Value) (B : Pt), Stand p l e R s m sargs below meth c B.U B.locs B.cells B.slots ∧ Post A a v B ∧
      Steps p.tables e below (doInvoke e (A.U.setTop g) [] mk a).1 (B.U.setTop { g with pc := g.pc + len, stack := v.toList ++ g.stack })) ∨
    (∃ (q : Addr) (B : Pt), Stand p l e R s m sargs below meth c B.U B.locs B.cells B.slots ∧ PostX A a q B ∧
      Steps p.tables e below (doInvoke e (A.U.setTop g) [] mk a).1 ((B.U.setTop g).pushFrame (.throwing q)))
section Payer
variable {l : Launch} {R : Room} {p : Program} {e : Env} {below : List Frame} {s : State} {sargs : Array Value} {y : MethodName} {len W9 : Nat}
theorem vx_back {ws : List Cond} {rm : Room} {Pc : Array Value → State → Prop} {Qc : Array Value → State → Outcome → State → Prop} {XC : String → State → State → Prop} {mc ms : Nat} {free : Addr → Prop} {bytes : ByteArray} {maxL : Nat} {ret : Option FieldType}
    (hM : vx_Met l y ws rm Pc Qc XC mc ms free) (hblind : FrameBlind Pc) (hrc : rm.cells = mc) (hrs : rm.slots = ms)
    (hframes : rm.frames + 1 ≤ R.frames) (hlocals : W9 + (maxL + 11) + rm.locals ≤ R.locals)
    (hws : ∀ w ∈ ws, ∀ a' U, s.WarmedH U.vm → w.before a' U = true) (hcode : Cond.code y bytes maxL ret ∈ ws) (hinit : ∀ a' U, s.WarmedH U.vm → (Cond.initialized y.cls).before a' U = true) :
    vx_Back l R p e below s sargs y len W9 (PreOf R mc ms Pc) (PostOf Qc mc ms free) (vx_Post XC mc ms free) := by
  intro m meth c A g ig mk a X hg hsize hdg hW hn hp
  have h1 : (headSpec ws rm).pre.before a A.U = true := atoms_intro fun w hw => hws w hw _ _ X.warmed
  have h2 : (Cond.code y bytes maxL ret).before a A.U = true := hws _ hcode _ _ X.warmed
  have h3 : (Cond.initialized y.cls).before a A.U = true := hinit _ _ X.warmed
  have h4 : A.cells + (headSpec ws rm).room.cells ≤ R.cells := by rw [show (headSpec ws rm).room.cells = mc from hrc]; exact hp.1
  have h5 : A.slots + (headSpec ws rm).room.slots ≤ R.slots := by rw [show (headSpec ws rm).room.slots = ms from hrs]; exact hp.2.1
  have hPc : Pc a (A.U.calling g mk a) := hblind _ _ _ _ hp.2.2
  obtain ⟨U, Ls, c0, s0⟩ := A
  dsimp only [Pt.U, Pt.locs, Pt.cells, Pt.slots] at h1 h2 h3 h4 h5 X hn hPc ⊢
  obtain ⟨methY, cY, hmY, hcY, -, hlY, -, -, -, -⟩ := Cond.code_spec hn h2
  obtain ⟨kY, hkY, -⟩ := className_of_methodNamed hn
  have hinitY : kY.init = .initialized := Cond.initialized_spec (findClass_of_methodNamed hn) hkY h3
  have h : At U g.method c below := by rw [hg]; exact X.here
  have hlocals9 : W9 + (maxL + 11) + (headSpec ws rm).room.locals ≤ R.locals := hlocals
  have happ : (headSpec ws rm).appliesLoose y e.platform (U.calling g mk a) = true :=
    Spec.appliesLoose_calling (g := g) h hdg hn hkY hinitY
      (X.room_calling (g := g) (R' := (headSpec ws rm).room) hsize hmY hcY hframes (by rw [hlY]; omega) h4 h5) h1
  obtain ⟨mid, hmid⟩ := h.above
  have hfr : (U.setTop g).frames = (.java g :: mid) ++ below := by rw [State.frames_setTop' g h.top, hmid]; rfl
  obtain ⟨o, s₂, hsteps, -, hend, hq⟩ := Steps.callFree hM p X.admits X.cas X.clock (acts := []) hfr happ hPc trivial
  have hq' : vx_Q Qc XC mc ms free a (U.calling g mk a) o s₂ := hq
  rw [State.frames_setTop' g h.top] at hend
  obtain ⟨g₀, hg0⟩ := Option.isSome_iff_exists.mp h.top
  obtain ⟨r, hr⟩ := State.topJava?_eq_some.mp hg0
  have hr' : (({ U with heap := s₂.heap, slotsUsed := s₂.slotsUsed } : State).setVm s₂.vm).frames = .java g₀ :: r := hr
  rcases hq' with ⟨hqc, L, hfe, hL⟩ | ⟨q, rfl, E, ce, L, hx, hce, hcv, hcl, hW₂, hsm, hL⟩
  · obtain ⟨⟨v, rfl⟩, hW₂, e2, q2, q3, q4, q5, q6⟩ := id hfe
    have e3 : s₂ = ({ (U.calling g mk a).setFrames s₂.frames with heap := s₂.heap, slotsUsed := s₂.slotsUsed } : State).setVm s₂.vm := by
      have : s₂ = ({ s₂ with vm := (U.calling g mk a).vm } : State).setVm s₂.vm := rfl
      rw [e2] at this
      exact this
    obtain ⟨c₂, i₂, len₂, hc₂, hd₂, hf₂⟩ := hend
    have hW' : U.WarmedH s₂.vm := hW₂
    have hcc : c₂ = c := by
      have h1 : s₂.code? g.method = U.code? g.method := by
        rw [State.code?_eq, State.code?_eq, hW'.alike.method?]
      exact Option.some.inj (hc₂.symm.trans (h1.trans h.code))
    subst hcc
    have hlen : len₂ = len := by rw [hdg] at hd₂; cases hd₂; rfl
    subst hlen
    have hs₂ : s₂ = (({ U with heap := s₂.heap, slotsUsed := s₂.slotsUsed } : State).setVm s₂.vm).setTop { g with pc := g.pc + len₂, stack := v.toList ++ g.stack } := by
      refine e3.trans ?_
      rw [hf₂, State.calling_eq h.top, State.setFrames_setFrames, State.setTop_of_frames _ hr', hr]
      rfl
    have hsame : U.sameButNew ({ U with heap := s₂.heap, slotsUsed := s₂.slotsUsed } : State) L mc ms := by
      refine ⟨?_, q2, q3, q4, q5, q6⟩
      obtain ⟨t, ht, -⟩ := State.frames_cons hr
      show ({ U with heap := s₂.heap, slotsUsed := s₂.slotsUsed } : State) = { U.setFrames U.frames with heap := s₂.heap, slotsUsed := s₂.slotsUsed }
      rw [State.setFrames_self ht]
    subst hg
    refine Or.inl ⟨v, ⟨(({ U with heap := s₂.heap, slotsUsed := s₂.slotsUsed } : State).setVm s₂.vm), Ls ++ L, c0 + mc, s0 + ms⟩,
      ⟨X.admits, X.cas, X.clock, X.frames, X.room, X.hears, X.method, X.code, (X.here.setHeapUsed s₂.heap s₂.slotsUsed).setVm hW'.alike, X.tail, State.WarmedH.trans X.warmed hW', X.limits, X.bytes, X.same.trans (hsame.setVm s.vm)⟩,
      ⟨g, mk, s₂, L, rfl, rfl, hqc, rfl, hL, rfl, rfl⟩, ?_⟩
    show Steps p.tables e below _ ((({ U with heap := s₂.heap, slotsUsed := s₂.slotsUsed } : State).setVm s₂.vm).setTop { g with pc := g.pc + len₂, stack := v.toList ++ g.stack })
    rw [← hs₂]
    exact hsteps
  · obtain ⟨e2, q2, q3, q4, q5, q6⟩ := id hsm
    have e3 : s₂ = ({ (U.calling g mk a).setFrames s₂.frames with heap := s₂.heap, slotsUsed := s₂.slotsUsed } : State).setVm s₂.vm := by
      have : s₂ = ({ s₂ with vm := (U.calling g mk a).vm } : State).setVm s₂.vm := rfl
      rw [e2] at this
      exact this
    have hf₂ : s₂.frames = .throwing q :: .java g :: U.frames.tail := hend
    have hW' : U.WarmedH s₂.vm := hW₂
    have hs₂ : s₂ = ((({ U with heap := s₂.heap, slotsUsed := s₂.slotsUsed } : State).setVm s₂.vm).setTop g).pushFrame (.throwing q) := by
      refine e3.trans ?_
      rw [hf₂, State.calling_eq h.top, State.setFrames_setFrames, State.pushFrame, State.frames_setTop _ hr', State.setTop_of_frames _ hr', State.setFrames_setFrames, hr]
      rfl
    have hsame : U.sameButNew ({ U with heap := s₂.heap, slotsUsed := s₂.slotsUsed } : State) L mc ms := by
      refine ⟨?_, q2, q3, q4, q5, q6⟩
      obtain ⟨t, ht, -⟩ := State.frames_cons hr
      show ({ U with heap := s₂.heap, slotsUsed := s₂.slotsUsed } : State) = { U.setFrames U.frames with heap := s₂.heap, slotsUsed := s₂.slotsUsed }
      rw [State.setFrames_self ht]
    subst hg
    refine Or.inr ⟨q, ⟨(({ U with heap := s₂.heap, slotsUsed := s₂.slotsUsed } : State).setVm s₂.vm), Ls ++ L, c0 + mc, s0 + ms⟩,
      ⟨X.admits, X.cas, X.clock, X.frames, X.room, X.hears, X.method, X.code, (X.here.setHeapUsed s₂.heap s₂.slotsUsed).setVm hW'.alike, X.tail, State.WarmedH.trans X.warmed hW', X.limits, X.bytes, X.same.trans (hsame.setVm s.vm)⟩,
      ⟨g, mk, s₂, L, E, ce, rfl, rfl, hx, hce, hcv, hcl, rfl, hL, rfl, rfl⟩, ?_⟩
    show Steps p.tables e below _ (((({ U with heap := s₂.heap, slotsUsed := s₂.slotsUsed } : State).setVm s₂.vm).setTop g).pushFrame (.throwing q))
    rw [← hs₂]
    exact hsteps
end Payer
section Calls
variable {p : Program} {l : Launch} {e : Env} {R : Room} {s : State} {m : MethodId} {args : Array Value} {below : List Frame} {meth : Method} {c : Code} {T : State} {locs : List Loc} {cells slots : Nat}
theorem vx_callV (X : Stand p l e R s m args below meth c T locs cells slots) (hexec : p.tables.exec = Jvm.exec) {own C : String} {index : Nat} {y : MethodName} {bytes : ByteArray} {maxL : Nat} {ret : Option FieldType}
    (hown : s.vm.findClass own = some m.cls) (hlink : (Cond.methodLink own index y).before args s = true) (hinst : (Cond.instanceMethod y).before args s = true) (hsel : (Cond.selects C y y).before args s = true)
    (hcode : (Cond.code y bytes maxL ret).before args s = true) (hy : y.cls ≠ "java/lang/invoke/MethodHandle" ∧ y.cls ≠ "java/lang/invoke/VarHandle")
    {W9 : Nat} {Pre : Pt → Array Value → Prop} {Post : Pt → Array Value → Option Value → Pt → Prop} {PostX : Pt → Array Value → Addr → Pt → Prop} (hK : vx_Back l R p e below s args y 3 W9 Pre Post PostX)
    {b : Addr} {cellB : Cell} (hcell : T.heap[b]? = some cellB) (hobj : cellB.vm.isStatics = false) (hcls : s.vm.findClass C = some cellB.cls)
    {g : JFrame} (hg : g.method = m) (hsize : g.locals.size = c.maxLocals) {argsL rest : List Value} (hlen : ∀ sig, parseMethodDescriptor y.desc = some sig → argsL.length = sig.parameters.length)
    (hstack : g.stack = argsL.reverse ++ .ref b :: rest) (hW : 2 * g.monitorRoom + (rest.map fun v => v.category).sum ≤ W9) (hdg : decode c.code g.pc = .ok (.invokevirtual index, 3))
    (hpre : ∀ vm₁, s.WarmedH vm₁ → Pre ⟨T.setVm vm₁, locs, cells, slots⟩ (Value.ref b :: argsL).toArray) :
    (∃ (v : Option Value) (vm₁ : Vm) (B : Pt), s.WarmedH vm₁ ∧ Stand p l e R s m args below meth c B.U B.locs B.cells B.slots ∧ Post ⟨T.setVm vm₁, locs, cells, slots⟩ (Value.ref b :: argsL).toArray v B ∧
      ∀ target, Steps p.tables e below (B.U.setTop { g with pc := g.pc + 3, stack := v.toList ++ rest }) target → Steps p.tables e below (T.setTop g) target) ∨
    (∃ (q : Addr) (vm₁ : Vm) (B : Pt), s.WarmedH vm₁ ∧ Stand p l e R s m args below meth c B.U B.locs B.cells B.slots ∧ PostX ⟨T.setVm vm₁, locs, cells, slots⟩ (Value.ref b :: argsL).toArray q B ∧
      Steps p.tables e below (T.setTop g) ((B.U.setTop { g with stack := rest }).pushFrame (.throwing q))) := by
  obtain ⟨mk, methM, hnamed, hmethM, hstM, habM⟩ := Cond.instanceMethod_spec hinst
  obtain ⟨methM', cM, hmethM', -, -, -, -, -, -, hsigM⟩ := Cond.code_spec hnamed hcode
  cases hmethM.symm.trans hmethM'
  obtain ⟨c2, r2, m2, q1, q2, q3, q4, kP, hkP, hkPi⟩ := Cond.selects_spec hsel
  cases hcls.symm.trans q1
  cases (State.methodFound?_of_named hnamed hy).symm.trans q2
  cases hnamed.symm.trans q3
  have hselP : selectMethod e.platform s.vm cellB.cls mk = .method mk := by rw [Launch.admits_selectMethod X.admits]; exact q4
  obtain ⟨vm₁, X₁, hstep₁⟩ := X.invokevirtual hexec hown hlink hnamed hmethM hstM hkP hkPi hy (a := b) (cell := cellB) hcell
    (fun z h => by rw [h] at hobj; cases hobj) hselP hmethM habM hkP hkPi (g := g) hg (argsL := argsL) (rest := rest) (hlen _ hsigM) hstack hdg
  rcases hK m meth c ⟨T.setVm vm₁, locs, cells, slots⟩ { g with stack := rest } (.invokevirtual index) mk (Value.ref b :: argsL).toArray X₁ hg hsize hdg hW (X₁.named hnamed) (hpre vm₁ X₁.warmed) with ⟨v, B, X', hpost, hsteps⟩ | ⟨q, B, X', hpost, hsteps⟩
  · exact Or.inl ⟨v, vm₁, B, X₁.warmed, X', hpost, fun target h => hstep₁ _ fun acts => by rw [doInvoke_state]; exact hsteps.trans h⟩
  · exact Or.inr ⟨q, vm₁, B, X₁.warmed, X', hpost, hstep₁ _ fun acts => by rw [doInvoke_state]; exact hsteps⟩
theorem vx_callS (X : Stand p l e R s m args below meth c T locs cells slots) (hexec : p.tables.exec = Jvm.exec) {own : String} {index : Nat} {y : MethodName} {bytes : ByteArray} {maxL : Nat} {ret : Option FieldType}
    (hown : s.vm.findClass own = some m.cls) (hlink : (Cond.methodLink own index y).before args s = true) (hstat : (Cond.static y).before args s = true) (hinit : (Cond.initialized y.cls).before args s = true)
    (hcode : (Cond.code y bytes maxL ret).before args s = true) (hy : y.cls ≠ "java/lang/invoke/MethodHandle" ∧ y.cls ≠ "java/lang/invoke/VarHandle")
    {W9 : Nat} {Pre : Pt → Array Value → Prop} {Post : Pt → Array Value → Option Value → Pt → Prop} {PostX : Pt → Array Value → Addr → Pt → Prop} (hK : vx_Back l R p e below s args y 3 W9 Pre Post PostX)
    {g : JFrame} (hg : g.method = m) (hsize : g.locals.size = c.maxLocals) {argsL rest : List Value} (hlen : ∀ sig, parseMethodDescriptor y.desc = some sig → argsL.length = sig.parameters.length)
    (hstack : g.stack = argsL.reverse ++ rest) (hW : 2 * g.monitorRoom + (rest.map fun v => v.category).sum ≤ W9) (hdg : decode c.code g.pc = .ok (.invokestatic index, 3))
    (hpre : ∀ vm₁, s.WarmedH vm₁ → Pre ⟨T.setVm vm₁, locs, cells, slots⟩ argsL.toArray) :
    (∃ (v : Option Value) (vm₁ : Vm) (B : Pt), s.WarmedH vm₁ ∧ Stand p l e R s m args below meth c B.U B.locs B.cells B.slots ∧ Post ⟨T.setVm vm₁, locs, cells, slots⟩ argsL.toArray v B ∧
      ∀ target, Steps p.tables e below (B.U.setTop { g with pc := g.pc + 3, stack := v.toList ++ rest }) target → Steps p.tables e below (T.setTop g) target) ∨
    (∃ (q : Addr) (vm₁ : Vm) (B : Pt), s.WarmedH vm₁ ∧ Stand p l e R s m args below meth c B.U B.locs B.cells B.slots ∧ PostX ⟨T.setVm vm₁, locs, cells, slots⟩ argsL.toArray q B ∧
      Steps p.tables e below (T.setTop g) ((B.U.setTop { g with stack := rest }).pushFrame (.throwing q))) := by
  obtain ⟨mk, hnamed⟩ := Cond.code_named hcode
  obtain ⟨methM, cM, hmethM, -, -, -, -, -, -, hsigM⟩ := Cond.code_spec hnamed hcode
  have hstatic : methM.isStatic = true := Cond.static_spec hnamed hmethM hstat
  obtain ⟨kP, hkP, -⟩ := className_of_methodNamed hnamed
  have hinitP : kP.init = .initialized := Cond.initialized_spec (findClass_of_methodNamed hnamed) hkP hinit
  obtain ⟨vm₁, X₁, hstep₁⟩ := X.invokestatic hexec hown hlink hnamed hmethM hstatic hkP hinitP hy (g := g) hg (argsL := argsL) (rest := rest) (hlen _ hsigM) hstack hdg
  rcases hK m meth c ⟨T.setVm vm₁, locs, cells, slots⟩ { g with stack := rest } (.invokestatic index) mk argsL.toArray X₁ hg hsize hdg hW (X₁.named hnamed) (hpre vm₁ X₁.warmed) with ⟨v, B, X', hpost, hsteps⟩ | ⟨q, B, X', hpost, hsteps⟩
  · exact Or.inl ⟨v, vm₁, B, X₁.warmed, X', hpost, fun target h => hstep₁ _ fun acts => by rw [doInvoke_state]; exact hsteps.trans h⟩
  · exact Or.inr ⟨q, vm₁, B, X₁.warmed, X', hpost, hstep₁ _ fun acts => by rw [doInvoke_state]; exact hsteps⟩
end Calls
theorem vx_cls {s : State} {T : State} {vm₁ : Vm} {E : String} {k : ClassId} (hW : s.WarmedH vm₁) (h : (T.setVm vm₁).vm.findClass E = some k) : s.vm.findClass E = some k := by
  have h1 : vm₁.findClass E = some k := h
  rw [hW.alike.findClass] at h1
  exact h1
/-- the method's frame g, with q thrown over it -/
def vx_W (p : Program) (l : Launch) (e : Env) (R : Room) (s : State) (m : MethodId) (args : Array Value) (below : List Frame) (meth : Method) (c : Code) (H : Heap) (locs : List Loc) (cells slots : Nat) (Q : State → Prop) (g : JFrame) (q : Addr) : Prop :=
  ∀ T : State, T.heap = H → Stand p l e R s m args below meth c T locs cells slots → ∃ t, Steps p.tables e below ((T.setTop g).pushFrame (.throwing q)) t ∧ Q t
def vx_Run (p : Program) (l : Launch) (e : Env) (R : Room) (s : State) (m : MethodId) (args : Array Value) (below : List Frame) (meth : Method) (c : Code) (H : Heap) (locs : List Loc) (cells slots mc ms : Nat) (g : JFrame) (rest : List Value) (Qa : State → Outcome → State → Prop) (XC : String → State → State → Prop) (free : Addr → Prop) : Prop :=
  ∀ T : State, T.heap = H → Stand p l e R s m args below meth c T locs cells slots →
    (∃ (v : Option Value) (st₀ t T' : State) (L : List Loc), st₀.heap = H ∧ Stand p l e R s m args below meth c T' (locs ++ L) (cells + mc) (slots + ms) ∧ (∀ q ∈ L, free q.base) ∧ T'.heap = t.heap ∧ T'.vm = t.vm ∧ Qa st₀ (.returned v) t ∧
      Goes p e below T g T' { g with pc := g.pc + 3, stack := v.toList ++ rest }) ∨
    (∃ (q : Addr) (st₀ t T' : State) (L : List Loc) (E : String) (ce : Cell), st₀.heap = H ∧ Stand p l e R s m args below meth c T' (locs ++ L) (cells + mc) (slots + ms) ∧ (∀ z ∈ L, free z.base) ∧ T'.heap = t.heap ∧ T'.vm = t.vm ∧ XC E st₀ t ∧ t.heap[q]? = some ce ∧ ce.vm = .none ∧ s.vm.findClass E = some ce.cls ∧
      Steps p.tables e below (T.setTop g) ((T'.setTop { g with stack := rest }).pushFrame (.throwing q)))
def vx_X {S : Type} (px : S → Prop) (B : String → S → State → Prop) (A : Nat → Prop) : String → State → State → Prop := fun E st t => ∃ u : S, px u ∧ B E u t ∧ va_F A st t
section Runs
variable {p : Program} {l : Launch} {e : Env} {R : Room} {s : State} {m : MethodId} {args : Array Value} {below : List Frame} {meth : Method} {c : Code} {H : Heap} {locs : List Loc} {cells slots : Nat}
variable {y : MethodName} {bytes cc : ByteArray} {maxL nL mc ms n index : Nat} {ret : Option FieldType} {ws : List Cond} {rm : Room} {Pc : Array Value → State → Prop} {Qc : Array Value → State → Outcome → State → Prop} {XC : String → State → State → Prop} {free : Addr → Prop} {Ts : List Cond} {own C : String} {b : Addr} {As rest : List Value} {g : JFrame}
theorem vx_callBack (cb : CallB R s args own index y bytes maxL ret ws rm mc ms n) (hM : vx_Met l y ws rm Pc Qc XC mc ms free) (hbl : FrameBlind Pc) : vx_Back l R p e below s args y 3 8 (PreOf R mc ms Pc) (PostOf Qc mc ms free) (vx_Post XC mc ms free) := by
  obtain ⟨hrc, hrs, hfr, hlo, hws, hcw, -, hini, -⟩ := cb
  exact vx_back (bytes := bytes) (maxL := maxL) (ret := ret) hM hbl hrc hrs hfr hlo hws hcw (fun a' U hW => word_at hW (Or.inl (by first | rfl | simp [Cond.onTables, Cond.keeps, Cond.steady])) hini)
theorem vx_runV (S : CallFix p m c cc nL s args Ts own) (hM : vx_Met l y ws rm Pc Qc XC mc ms free) (cw : CallW R s args own C index y bytes maxL ret ws rm mc ms n) (hp : PreV s H C b Pc As)
    (hg : g.method = m) (hn : As.length = n) (hsize : g.locals.size = nL) (hstack : g.stack = As.reverse ++ .ref b :: rest) (hW : 2 * g.monitorRoom + (rest.map fun v => v.category).sum ≤ 8) (hdg : decode cc g.pc = .ok (.invokevirtual index, 3)) (hf : cells + mc ≤ R.cells ∧ slots + ms ≤ R.slots) :
    vx_Run p l e R s m args below meth c H locs cells slots mc ms g rest (Qc (Value.ref b :: As).toArray) XC free := by
  have hK : vx_Back l R p e below s args y 3 8 (PreOf R mc ms Pc) (PostOf Qc mc ms free) (vx_Post XC mc ms free) := vx_callBack cw.1 hM hp.1
  obtain ⟨⟨-, -, -, -, -, -, hcode, -, hy, hlen, hl⟩, hin, hse⟩ := cw
  obtain ⟨hx, hb, hml, ho, -⟩ := S
  obtain ⟨-, ⟨cellB, hcB, hoB, hclB⟩, hPc⟩ := hp
  intro T hT X
  rcases vx_callV X hx (C := C) (bytes := bytes) (maxL := maxL) (ret := ret) ho hl hin hse hcode hy hK (by rw [hT]; exact hcB) hoB hclB hg (hsize.trans hml.symm) (argsL := As) (rest := rest) (fun sig h => hn.trans (hlen sig h)) hstack hW (by rw [hb]; exact hdg)
    (fun vm₁ hW₁ => ⟨hf.1, hf.2, hPc (T.setVm vm₁) hT hW₁⟩) with ⟨v, vm₁, ⟨U', l2, c2, s2⟩, hW₁, X', ⟨g', mk, t, L, e1, e2, hq, h1, hL, h2, h3⟩, st⟩ | ⟨q, vm₁, ⟨U', l2, c2, s2⟩, hW₁, X', ⟨g', mk, t, L, E, ce, e1, e2, hq, hce, hcv, hcl, h1, hL, h2, h3⟩, st⟩
  · dsimp only [Pt.U, Pt.locs, Pt.cells, Pt.slots] at X' e1 e2 h1 h2 h3 st
    subst h1; subst h2; subst h3
    exact Or.inl ⟨v, (T.setVm vm₁).calling g' mk (Value.ref b :: As).toArray, t, U', L, hT, X', hL, e1, e2, hq, st⟩
  · dsimp only [Pt.U, Pt.locs, Pt.cells, Pt.slots] at X' e1 e2 h1 h2 h3 st hcl
    subst h1; subst h2; subst h3
    exact Or.inr ⟨q, (T.setVm vm₁).calling g' mk (Value.ref b :: As).toArray, t, U', L, E, ce, hT, X', hL, e1, e2, hq, hce, hcv, vx_cls hW₁ hcl, st⟩
theorem vx_runS (S : CallFix p m c cc nL s args Ts own) (hM : vx_Met l y ws rm Pc Qc XC mc ms free) (cw : CallB R s args own index y bytes maxL ret ws rm mc ms n ∧ (Cond.static y).before args s = true) (hp : PreS s H Pc As)
    (hg : g.method = m) (hn : As.length = n) (hsize : g.locals.size = nL) (hstack : g.stack = As.reverse ++ rest) (hW : 2 * g.monitorRoom + (rest.map fun v => v.category).sum ≤ 8) (hdg : decode cc g.pc = .ok (.invokestatic index, 3)) (hf : cells + mc ≤ R.cells ∧ slots + ms ≤ R.slots) :
    vx_Run p l e R s m args below meth c H locs cells slots mc ms g rest (Qc As.toArray) XC free := by
  have hK : vx_Back l R p e below s args y 3 8 (PreOf R mc ms Pc) (PostOf Qc mc ms free) (vx_Post XC mc ms free) := vx_callBack cw.1 hM hp.1
  obtain ⟨⟨-, -, -, -, -, -, hcode, hini, hy, hlen, hl⟩, hstt⟩ := cw
  obtain ⟨hx, hb, hml, ho, -⟩ := S
  intro T hT X
  rcases vx_callS X hx (bytes := bytes) (maxL := maxL) (ret := ret) ho hl hstt hini hcode hy hK hg (hsize.trans hml.symm) (argsL := As) (rest := rest) (fun sig h => hn.trans (hlen sig h)) hstack hW (by rw [hb]; exact hdg)
    (fun vm₁ hW₁ => ⟨hf.1, hf.2, hp.2 (T.setVm vm₁) hT hW₁⟩) with ⟨v, vm₁, ⟨U', l2, c2, s2⟩, hW₁, X', ⟨g', mk, t, L, e1, e2, hq, h1, hL, h2, h3⟩, st⟩ | ⟨q, vm₁, ⟨U', l2, c2, s2⟩, hW₁, X', ⟨g', mk, t, L, E, ce, e1, e2, hq, hce, hcv, hcl, h1, hL, h2, h3⟩, st⟩
  · dsimp only [Pt.U, Pt.locs, Pt.cells, Pt.slots] at X' e1 e2 h1 h2 h3 st
    subst h1; subst h2; subst h3
    exact Or.inl ⟨v, (T.setVm vm₁).calling g' mk As.toArray, t, U', L, hT, X', hL, e1, e2, hq, st⟩
  · dsimp only [Pt.U, Pt.locs, Pt.cells, Pt.slots] at X' e1 e2 h1 h2 h3 st hcl
    subst h1; subst h2; subst h3
    exact Or.inr ⟨q, (T.setVm vm₁).calling g' mk As.toArray, t, U', L, E, ce, hT, X', hL, e1, e2, hq, hce, hcv, vx_cls hW₁ hcl, st⟩
end Runs
section Rows
variable {p : Program} {l : Launch} {e : Env} {R : Room} {s : State} {m : MethodId} {args : Array Value} {below : List Frame} {meth : Method} {c : Code} {H : Heap} {locs : List Loc} {cells slots : Nat} {Q : State → Prop}
variable {mc ms : Nat} {free : Addr → Prop} {A0 A1 : Nat → Prop} {H0 : Heap} {a : Array Value} {pc : Nat} {ls : Array Slot} {st0 rest : List Value}
theorem vx_keep {st₀ t T' : State} {L : List Loc} (h0 : st₀.heap = H) (e1 : T'.heap = t.heap) (hS : va_S A0 H0 H locs) (hA : ∀ q, q < H.size → A1 q → A0 q) (hf : ∀ q, free q → A0 q) (hL : ∀ q ∈ L, free q.base) (hF : va_F A1 st₀ t) :
    H.size ≤ T'.heap.size ∧ (∀ q : Nat, q < H.size → ¬ A1 q → T'.heap[q]? = H[q]?) ∧ va_S A0 H0 T'.heap (locs ++ L) := by
  obtain ⟨hz, hk⟩ := hF
  rw [h0] at hz hk
  exact ⟨by rw [e1]; exact hz, fun q h1 h2 => by rw [e1]; exact hk q h1 h2,
    ⟨Nat.le_trans hS.1 (by rw [e1]; exact hz), fun q h1 h2 => by rw [e1, hk q (Nat.lt_of_lt_of_le h1 hS.1) (fun z => h2 (hA q (Nat.lt_of_lt_of_le h1 hS.1) z))]; exact hS.2.1 q h1 h2, fun q hq => by
      rcases List.mem_append.mp hq with h | h
      · exact hS.2.2 q h
      · exact hf _ (hL q h)⟩⟩
theorem vx_calli {S SX : Type} {post : Int32 → S → Prop} {px : SX → Prop} {B : S → State → Prop} {BX : String → SX → State → Prop} {AX : Nat → Prop} (hr : vx_Run p l e R s m args below meth c H locs cells slots mc ms (F0 m pc ls st0) rest (va_Qi post B A1 a) (vx_X px BX AX) free) (hS : va_S A0 H0 H locs) (hA : ∀ q, q < H.size → A1 q → A0 q) (hf : ∀ q, free q → A0 q) (hAX : ∀ q, q < H.size → AX q → A0 q)
    (kx : ∀ (E : String) (ce : Cell) (q9 : Addr) (u : SX) (t : State) (H1 : Heap) (locs1 : List Loc), t.heap = H1 → s.vm.Alike t.vm → px u → BX E u t → H.size ≤ H1.size → (∀ q : Nat, q < H.size → ¬ AX q → H1[q]? = H[q]?) → va_S A0 H0 H1 locs1 → H1[q9]? = some ce → ce.vm = .none → s.vm.findClass E = some ce.cls → vx_W p l e R s m args below meth c H1 locs1 (cells + mc) (slots + ms) Q (F0 m pc ls rest) q9)
    (kk : ∀ (r : Int32) (u : S) (t : State) (H1 : Heap) (locs1 : List Loc), t.heap = H1 → s.vm.Alike t.vm → post r u → B u t → H.size ≤ H1.size → (∀ q : Nat, q < H.size → ¬ A1 q → H1[q]? = H[q]?) → va_S A0 H0 H1 locs1 → W p l e R s m args below meth c H1 locs1 (cells + mc) (slots + ms) Q (F0 m (pc + 3) ls (.int r :: rest))) : W p l e R s m args below meth c H locs cells slots Q (F0 m pc ls st0) := by
  intro T hT X
  rcases hr T hT X with ⟨v, st₀, t, T', L, h0, X', hL, e1, e2, ⟨⟨r, u, hv, hp, hb⟩, hF⟩, st⟩ | ⟨q, st₀, t, T', L, E, ce, h0, X', hL, e1, e2, ⟨u, hp, hb, hF⟩, hce, hcv, hcl, st⟩
  · cases hv
    obtain ⟨k1, k2, k3⟩ := vx_keep h0 e1 hS hA hf hL hF
    obtain ⟨t2, a1, b1⟩ := kk r u t T'.heap (locs ++ L) e1.symm (by rw [← e2]; exact X'.warmed.alike) hp hb k1 k2 k3 T' rfl X'
    exact ⟨t2, st t2 a1, b1⟩
  · obtain ⟨k1, k2, k3⟩ := vx_keep h0 e1 hS hAX hf hL hF
    obtain ⟨t2, a1, b1⟩ := kx E ce q u t T'.heap (locs ++ L) e1.symm (by rw [← e2]; exact X'.warmed.alike) hp hb k1 k2 k3 (by rw [e1]; exact hce) hcv hcl T' rfl X'
    exact ⟨t2, st.trans a1, b1⟩
theorem vx_calll {S SX : Type} {post : Int64 → S → Prop} {px : SX → Prop} {B : S → State → Prop} {BX : String → SX → State → Prop} {AX : Nat → Prop} (hr : vx_Run p l e R s m args below meth c H locs cells slots mc ms (F0 m pc ls st0) rest (va_Ql post B A1 a) (vx_X px BX AX) free) (hS : va_S A0 H0 H locs) (hA : ∀ q, q < H.size → A1 q → A0 q) (hf : ∀ q, free q → A0 q) (hAX : ∀ q, q < H.size → AX q → A0 q)
    (kx : ∀ (E : String) (ce : Cell) (q9 : Addr) (u : SX) (t : State) (H1 : Heap) (locs1 : List Loc), t.heap = H1 → s.vm.Alike t.vm → px u → BX E u t → H.size ≤ H1.size → (∀ q : Nat, q < H.size → ¬ AX q → H1[q]? = H[q]?) → va_S A0 H0 H1 locs1 → H1[q9]? = some ce → ce.vm = .none → s.vm.findClass E = some ce.cls → vx_W p l e R s m args below meth c H1 locs1 (cells + mc) (slots + ms) Q (F0 m pc ls rest) q9)
    (kk : ∀ (r : Int64) (u : S) (t : State) (H1 : Heap) (locs1 : List Loc), t.heap = H1 → s.vm.Alike t.vm → post r u → B u t → H.size ≤ H1.size → (∀ q : Nat, q < H.size → ¬ A1 q → H1[q]? = H[q]?) → va_S A0 H0 H1 locs1 → W p l e R s m args below meth c H1 locs1 (cells + mc) (slots + ms) Q (F0 m (pc + 3) ls (.long r :: rest))) : W p l e R s m args below meth c H locs cells slots Q (F0 m pc ls st0) := by
  intro T hT X
  rcases hr T hT X with ⟨v, st₀, t, T', L, h0, X', hL, e1, e2, ⟨⟨r, u, hv, hp, hb⟩, hF⟩, st⟩ | ⟨q, st₀, t, T', L, E, ce, h0, X', hL, e1, e2, ⟨u, hp, hb, hF⟩, hce, hcv, hcl, st⟩
  · cases hv
    obtain ⟨k1, k2, k3⟩ := vx_keep h0 e1 hS hA hf hL hF
    obtain ⟨t2, a1, b1⟩ := kk r u t T'.heap (locs ++ L) e1.symm (by rw [← e2]; exact X'.warmed.alike) hp hb k1 k2 k3 T' rfl X'
    exact ⟨t2, st t2 a1, b1⟩
  · obtain ⟨k1, k2, k3⟩ := vx_keep h0 e1 hS hAX hf hL hF
    obtain ⟨t2, a1, b1⟩ := kx E ce q u t T'.heap (locs ++ L) e1.symm (by rw [← e2]; exact X'.warmed.alike) hp hb k1 k2 k3 (by rw [e1]; exact hce) hcv hcl T' rfl X'
    exact ⟨t2, st.trans a1, b1⟩
theorem vx_callf {S SX : Type} {post : UInt32 → S → Prop} {px : SX → Prop} {B : S → State → Prop} {BX : String → SX → State → Prop} {AX : Nat → Prop} (hr : vx_Run p l e R s m args below meth c H locs cells slots mc ms (F0 m pc ls st0) rest (va_Qf post B A1 a) (vx_X px BX AX) free) (hS : va_S A0 H0 H locs) (hA : ∀ q, q < H.size → A1 q → A0 q) (hf : ∀ q, free q → A0 q) (hAX : ∀ q, q < H.size → AX q → A0 q)
    (kx : ∀ (E : String) (ce : Cell) (q9 : Addr) (u : SX) (t : State) (H1 : Heap) (locs1 : List Loc), t.heap = H1 → s.vm.Alike t.vm → px u → BX E u t → H.size ≤ H1.size → (∀ q : Nat, q < H.size → ¬ AX q → H1[q]? = H[q]?) → va_S A0 H0 H1 locs1 → H1[q9]? = some ce → ce.vm = .none → s.vm.findClass E = some ce.cls → vx_W p l e R s m args below meth c H1 locs1 (cells + mc) (slots + ms) Q (F0 m pc ls rest) q9)
    (kk : ∀ (r : UInt32) (u : S) (t : State) (H1 : Heap) (locs1 : List Loc), t.heap = H1 → s.vm.Alike t.vm → post r u → B u t → H.size ≤ H1.size → (∀ q : Nat, q < H.size → ¬ A1 q → H1[q]? = H[q]?) → va_S A0 H0 H1 locs1 → W p l e R s m args below meth c H1 locs1 (cells + mc) (slots + ms) Q (F0 m (pc + 3) ls (.float r :: rest))) : W p l e R s m args below meth c H locs cells slots Q (F0 m pc ls st0) := by
  intro T hT X
  rcases hr T hT X with ⟨v, st₀, t, T', L, h0, X', hL, e1, e2, ⟨⟨r, u, hv, hp, hb⟩, hF⟩, st⟩ | ⟨q, st₀, t, T', L, E, ce, h0, X', hL, e1, e2, ⟨u, hp, hb, hF⟩, hce, hcv, hcl, st⟩
  · cases hv
    obtain ⟨k1, k2, k3⟩ := vx_keep h0 e1 hS hA hf hL hF
    obtain ⟨t2, a1, b1⟩ := kk r u t T'.heap (locs ++ L) e1.symm (by rw [← e2]; exact X'.warmed.alike) hp hb k1 k2 k3 T' rfl X'
    exact ⟨t2, st t2 a1, b1⟩
  · obtain ⟨k1, k2, k3⟩ := vx_keep h0 e1 hS hAX hf hL hF
    obtain ⟨t2, a1, b1⟩ := kx E ce q u t T'.heap (locs ++ L) e1.symm (by rw [← e2]; exact X'.warmed.alike) hp hb k1 k2 k3 (by rw [e1]; exact hce) hcv hcl T' rfl X'
    exact ⟨t2, st.trans a1, b1⟩
theorem vx_calld {S SX : Type} {post : UInt64 → S → Prop} {px : SX → Prop} {B : S → State → Prop} {BX : String → SX → State → Prop} {AX : Nat → Prop} (hr : vx_Run p l e R s m args below meth c H locs cells slots mc ms (F0 m pc ls st0) rest (va_Qd post B A1 a) (vx_X px BX AX) free) (hS : va_S A0 H0 H locs) (hA : ∀ q, q < H.size → A1 q → A0 q) (hf : ∀ q, free q → A0 q) (hAX : ∀ q, q < H.size → AX q → A0 q)
    (kx : ∀ (E : String) (ce : Cell) (q9 : Addr) (u : SX) (t : State) (H1 : Heap) (locs1 : List Loc), t.heap = H1 → s.vm.Alike t.vm → px u → BX E u t → H.size ≤ H1.size → (∀ q : Nat, q < H.size → ¬ AX q → H1[q]? = H[q]?) → va_S A0 H0 H1 locs1 → H1[q9]? = some ce → ce.vm = .none → s.vm.findClass E = some ce.cls → vx_W p l e R s m args below meth c H1 locs1 (cells + mc) (slots + ms) Q (F0 m pc ls rest) q9)
    (kk : ∀ (r : UInt64) (u : S) (t : State) (H1 : Heap) (locs1 : List Loc), t.heap = H1 → s.vm.Alike t.vm → post r u → B u t → H.size ≤ H1.size → (∀ q : Nat, q < H.size → ¬ A1 q → H1[q]? = H[q]?) → va_S A0 H0 H1 locs1 → W p l e R s m args below meth c H1 locs1 (cells + mc) (slots + ms) Q (F0 m (pc + 3) ls (.double r :: rest))) : W p l e R s m args below meth c H locs cells slots Q (F0 m pc ls st0) := by
  intro T hT X
  rcases hr T hT X with ⟨v, st₀, t, T', L, h0, X', hL, e1, e2, ⟨⟨r, u, hv, hp, hb⟩, hF⟩, st⟩ | ⟨q, st₀, t, T', L, E, ce, h0, X', hL, e1, e2, ⟨u, hp, hb, hF⟩, hce, hcv, hcl, st⟩
  · cases hv
    obtain ⟨k1, k2, k3⟩ := vx_keep h0 e1 hS hA hf hL hF
    obtain ⟨t2, a1, b1⟩ := kk r u t T'.heap (locs ++ L) e1.symm (by rw [← e2]; exact X'.warmed.alike) hp hb k1 k2 k3 T' rfl X'
    exact ⟨t2, st t2 a1, b1⟩
  · obtain ⟨k1, k2, k3⟩ := vx_keep h0 e1 hS hAX hf hL hF
    obtain ⟨t2, a1, b1⟩ := kx E ce q u t T'.heap (locs ++ L) e1.symm (by rw [← e2]; exact X'.warmed.alike) hp hb k1 k2 k3 (by rw [e1]; exact hce) hcv hcl T' rfl X'
    exact ⟨t2, st.trans a1, b1⟩
theorem vx_callv {S SX : Type} {post : S → Prop} {px : SX → Prop} {B : S → State → Prop} {BX : String → SX → State → Prop} {AX : Nat → Prop} (hr : vx_Run p l e R s m args below meth c H locs cells slots mc ms (F0 m pc ls st0) rest (va_Qv post B A1 a) (vx_X px BX AX) free) (hS : va_S A0 H0 H locs) (hA : ∀ q, q < H.size → A1 q → A0 q) (hf : ∀ q, free q → A0 q) (hAX : ∀ q, q < H.size → AX q → A0 q)
    (kx : ∀ (E : String) (ce : Cell) (q9 : Addr) (u : SX) (t : State) (H1 : Heap) (locs1 : List Loc), t.heap = H1 → s.vm.Alike t.vm → px u → BX E u t → H.size ≤ H1.size → (∀ q : Nat, q < H.size → ¬ AX q → H1[q]? = H[q]?) → va_S A0 H0 H1 locs1 → H1[q9]? = some ce → ce.vm = .none → s.vm.findClass E = some ce.cls → vx_W p l e R s m args below meth c H1 locs1 (cells + mc) (slots + ms) Q (F0 m pc ls rest) q9)
    (kk : ∀ (u : S) (t : State) (H1 : Heap) (locs1 : List Loc), t.heap = H1 → s.vm.Alike t.vm → post u → B u t → H.size ≤ H1.size → (∀ q : Nat, q < H.size → ¬ A1 q → H1[q]? = H[q]?) → va_S A0 H0 H1 locs1 → W p l e R s m args below meth c H1 locs1 (cells + mc) (slots + ms) Q (F0 m (pc + 3) ls (rest))) : W p l e R s m args below meth c H locs cells slots Q (F0 m pc ls st0) := by
  intro T hT X
  rcases hr T hT X with ⟨v, st₀, t, T', L, h0, X', hL, e1, e2, ⟨⟨u, hv, hp, hb⟩, hF⟩, st⟩ | ⟨q, st₀, t, T', L, E, ce, h0, X', hL, e1, e2, ⟨u, hp, hb, hF⟩, hce, hcv, hcl, st⟩
  · cases hv
    obtain ⟨k1, k2, k3⟩ := vx_keep h0 e1 hS hA hf hL hF
    obtain ⟨t2, a1, b1⟩ := kk u t T'.heap (locs ++ L) e1.symm (by rw [← e2]; exact X'.warmed.alike) hp hb k1 k2 k3 T' rfl X'
    exact ⟨t2, st t2 a1, b1⟩
  · obtain ⟨k1, k2, k3⟩ := vx_keep h0 e1 hS hAX hf hL hF
    obtain ⟨t2, a1, b1⟩ := kx E ce q u t T'.heap (locs ++ L) e1.symm (by rw [← e2]; exact X'.warmed.alike) hp hb k1 k2 k3 (by rw [e1]; exact hce) hcv hcl T' rfl X'
    exact ⟨t2, st.trans a1, b1⟩
/-- caught by the row x of this method's table; the rows ahead don't take it -/
theorem vx_catch {own name : String} {E : String} {ce : Cell} {q : Addr} (hown : s.vm.findClass own = some m.cls) (pre : List ExceptionTableEntry) (x : ExceptionTableEntry) (suf : List ExceptionTableEntry) (hsplit : c.exceptionTable.toList = pre ++ x :: suf)
    (hpass : ∀ z ∈ pre, covers z pc = false ∨ (z.catchType ≠ 0 ∧ ∃ nm : String, (Cond.classLink own z.catchType nm).before args s = true ∧ va_Nc E nm s)) (hx : covers x pc = true) (h0 : x.catchType ≠ 0)
    (hlink : (Cond.classLink own x.catchType name).before args s = true) (hcast : (Cond.castable E name).before args s = true) (hcell : H[q]? = some ce) (hv : ce.vm = .none) (hcl : s.vm.findClass E = some ce.cls)
    (kk : W p l e R s m args below meth c H locs cells slots Q (F0 m x.handlerPc ls [.ref q])) : vx_W p l e R s m args below meth c H locs cells slots Q (F0 m pc ls rest) q := by
  intro T hT X
  have hpl : e.platform.magicAccessors = ({} : Platform).magicAccessors := by rw [X.admits.platform]
  obtain ⟨c3, c4, hc3, hc4, hasg⟩ := Cond.castable_spec hcast
  cases Option.some.inj (hc3.symm.trans hcl)
  obtain ⟨c5, hc5, hcl5⟩ := Cond.classLink_spec hown hlink e.platform hpl
  cases Option.some.inj (hc4.symm.trans hc5)
  obtain ⟨vm', X', st⟩ := X.thenCaughtThrough q (g := F0 m pc ls rest) rfl (Steps.refl _) (by rw [hT]; exact hcell) (by rw [hv]; rfl) (by obtain ⟨k9, h9, -⟩ := Vm.findClass_spec hcl; exact ⟨k9, h9⟩) pre x suf hsplit
    (fun z hz => by
      rcases hpass z hz with h | ⟨hz0, nm, hl1, hn1⟩
      · exact Or.inl h
      · obtain ⟨c6, hc6, hcl6⟩ := Cond.classLink_spec hown hl1 e.platform hpl
        obtain ⟨a8, b8, h1, h2, h3⟩ := hn1
        cases Option.some.inj (h1.symm.trans hcl)
        cases Option.some.inj (h2.symm.trans hc6)
        exact Or.inr ⟨hz0, _, hcl6, h3⟩) hx (Or.inr ⟨h0, c4, hcl5, hasg⟩)
  obtain ⟨t, a1, b1⟩ := kk (T.setVm vm') hT X'
  exact ⟨t, st.trans a1, b1⟩
end Rows
section Ends
variable {p : Program} {l : Launch} {e : Env} {R : Room} {s : State} {m : MethodId} {args : Array Value} {below : List Frame} {meth : Method} {c : Code} {H : Heap} {locs : List Loc} {cells slots : Nat} {Q : State → Prop}
variable {mc ms : Nat} {free : Addr → Prop} {A0 A1 : Nat → Prop} {H0 : Heap} {a : Array Value} {ls : Array Slot} {st0 rest : List Value}
variable {Qc : Array Value → State → Outcome → State → Prop} {XC : String → State → State → Prop}
/-- what a body that may throw owes at its end -/
def vx_MQ (below : List Frame) (Qc : Array Value → State → Outcome → State → Prop) (XC : String → State → State → Prop) (a : Array Value) (s : State) (mc ms : Nat) (free : Addr → Prop) : State → Prop := fun t =>
  ∃ o, t.status = .running ∧ Ended t below o ∧ vx_Q Qc XC mc ms free a s o t
theorem vx_ret {g : JFrame} {mc ms : Nat} (k : W p l e R s m args below meth c H locs cells slots (MQ below Qc args s mc ms free) g) : W p l e R s m args below meth c H locs cells slots (vx_MQ below Qc XC args s mc ms free) g := by
  intro T hT X
  obtain ⟨t, a1, o, b1, b2, b3, b4⟩ := k T hT X
  exact ⟨t, a1, o, b1, b2, Or.inl ⟨b3, b4⟩⟩
/-- not caught here: it goes on to the caller -/
theorem vx_widen {g : JFrame} {q : Addr} {k n : Nat} (h1 : cells ≤ k) (h2 : slots ≤ n) (kk : vx_W p l e R s m args below meth c H locs k n Q g q) : vx_W p l e R s m args below meth c H locs cells slots Q g q := fun T hT X => kk T hT (stand_widen X h1 h2)
theorem vx_out {pc : Nat} {E : String} {ce : Cell} {q : Addr} {mc ms : Nat} (hout : ∀ x ∈ c.exceptionTable.toList, covers x pc = false) (hlocks : meth.locks = false) (hcell : H[q]? = some ce) (hv : ce.vm = .none) (hcl : s.vm.findClass E = some ce.cls)
    (hx : ∀ t : State, t.heap = H → s.vm.Alike t.vm → XC E s t) (hf : ∀ z ∈ locs, free z.base) (hc : cells ≤ mc) (hs : slots ≤ ms) :
    vx_W p l e R s m args below meth c H locs cells slots (vx_MQ below Qc XC args s mc ms free) (F0 m pc ls rest) q := by
  intro T hT X
  obtain ⟨st1, hrun, hend, hW, hsm⟩ := X.leaveThrown q (g := F0 m pc ls rest) rfl rfl rfl hout hlocks
  have hcell9 : (T.setFrames (.throwing q :: below)).heap[q]? = some ce := by
    show T.heap[q]? = some ce
    rw [hT]; exact hcell
  exact ⟨_, st1, .threw q, hrun, hend, Or.inr ⟨q, rfl, E, ce, locs, hx _ hT hW.alike, hcell9, hv, hcl, hW, hsm.mono hc hs, hf⟩⟩
theorem vx_frame {U : State} {k n : Nat} (h : s.sameButNew ({ U with vm := s.vm } : State) locs k n) : s.heap.size ≤ U.heap.size ∧ ∀ q : Nat, q < s.heap.size → (∀ z ∈ locs, z.base ≠ q) → U.heap[q]? = s.heap[q]? := by
  obtain ⟨-, h2, -, -, -, h6⟩ := h
  refine ⟨h2, fun q hq hz => ?_⟩
  obtain ⟨c9, e1, e2, e3, e4⟩ := h6 q _ (Array.getElem?_eq_getElem hq)
  have hs : c9.slots = (s.heap[q]).slots := Array.ext_getElem? fun i => e4 i fun hm => hz _ hm rfl
  have h9 : c9 = s.heap[q] := by
    rw [hs] at e2
    exact e2
  have e5 : U.heap[q]? = some c9 := e1
  rw [e5, h9, Array.getElem?_eq_getElem hq]
/-- the words of a throw but the four that speak of the heap -/
def vx_no (w : Cond) : Bool := decide (w ≠ .isRef (.static Bundle.tN "UNASSIGNED_STACK" Bundle.steD)) && decide (w ≠ .isRef (.static Bundle.tN "SUPPRESSED_SENTINEL" Bundle.listD)) && decide (w ≠ .laysStatic Bundle.tN "UNASSIGNED_STACK" Bundle.steD) && decide (w ≠ .laysStatic Bundle.tN "SUPPRESSED_SENTINEL" Bundle.listD)
def vx_at0 (own : String) (ic : Nat) (X : String) (names : List String) : List Cond := (Bundle.ownAtoms0 own ic X names).filter vx_no
def vx_atS (own : String) (ic : Nat) (X : String) (names : List String) : List Cond := (Bundle.ownAtoms own ic X names).filter vx_no
/-- a word that the tables alone decide, or a good one -/
def vx_ot (w : Cond) : Bool := w.onTables || goodWord w
theorem vx_ot_at {args a' : Array Value} {s U : State} {w : Cond} (hW : s.WarmedH U.vm) (hvm : s.vm = U.vm) (hg : vx_ot w = true) (h : w.before args s = true) : w.before a' U = true := by
  simp only [vx_ot, Bool.or_eq_true] at hg
  rcases hg with hg | hg
  · exact va_tabs hg hvm h
  · exact word_at hW (good_of_word hg) h
/-- a list's words: the good ones out of the method's own list, the others by premises of their own -/
theorem vx_hat {args : Array Value} {s : State} {L B : List Cond} (h1 : ∀ w ∈ L.filter goodWord, w.before args s = true) (h2 : ∀ w ∈ L.filter (fun w => !goodWord w), w ∈ B) (h3 : ∀ w ∈ B, w.before args s = true) : ∀ w ∈ L, w.before args s = true := by
  intro w hw
  by_cases g : goodWord w = true
  · exact h1 w (List.mem_filter.mpr ⟨hw, g⟩)
  · refine h3 w (h2 w (List.mem_filter.mpr ⟨hw, ?_⟩))
    show (!goodWord w) = true
    cases hgw : goodWord w
    · rfl
    · exact absurd hgw g
theorem vx_c {args : Array Value} {s : State} {w : Cond} {B : List Cond} (h : w.before args s = true) (t : ∀ w ∈ B, w.before args s = true) : ∀ w' ∈ w :: B, w'.before args s = true := fun w' h' => (List.mem_cons.mp h').elim (fun e => by rw [e]; exact h) (t w')
theorem vx_n {args : Array Value} {s : State} : ∀ w ∈ ([] : List Cond), w.before args s = true := fun _ h => nomatch h
theorem vx_own {args : Array Value} {s : State} {L : List Cond} (h1 : ∀ w ∈ L.filter vx_no, w.before args s = true)
    (hU : (Cond.isRef (.static Bundle.tN "UNASSIGNED_STACK" Bundle.steD)).before args s = true) (hN : (Cond.isRef (.static Bundle.tN "SUPPRESSED_SENTINEL" Bundle.listD)).before args s = true)
    (lU : (Cond.laysStatic Bundle.tN "UNASSIGNED_STACK" Bundle.steD).before args s = true) (lN : (Cond.laysStatic Bundle.tN "SUPPRESSED_SENTINEL" Bundle.listD).before args s = true) : ∀ w ∈ L, w.before args s = true := by
  intro w hw
  by_cases e1 : w = .isRef (.static Bundle.tN "UNASSIGNED_STACK" Bundle.steD)
  · rw [e1]; exact hU
  · by_cases e2 : w = .isRef (.static Bundle.tN "SUPPRESSED_SENTINEL" Bundle.listD)
    · rw [e2]; exact hN
    · by_cases e3 : w = .laysStatic Bundle.tN "UNASSIGNED_STACK" Bundle.steD
      · rw [e3]; exact lU
      · by_cases e4 : w = .laysStatic Bundle.tN "SUPPRESSED_SENTINEL" Bundle.listD
        · rw [e4]; exact lN
        · exact h1 w (List.mem_filter.mpr ⟨hw, by unfold vx_no; rw [decide_eq_true e1, decide_eq_true e2, decide_eq_true e3, decide_eq_true e4]; rfl⟩)
/-- where a static field lies, its class's statics cell in H -/
def vx_L (C n d : String) (A : Nat → Prop) (U : State) (H : Heap) : Prop := ∃ (c : ClassId) (k : Class) (i : Nat) (f : Field) (a : Nat) (cell : Cell), U.vm.findClass C = some c ∧ U.fieldFound? C n d = some (c, k, i, f) ∧ f.isStatic = true ∧ k.statics = some a ∧ H[a]? = some cell ∧ cell.vm.isStatics = true ∧ cell.cls = c ∧ f.slot < cell.slots.size ∧ k.staticTypes[f.slot]? = some f.type ∧ ¬ A a
theorem vx_L.moved {C n d : String} {A : Nat → Prop} {u U : State} {H : Heap} (hvm : u.vm.Alike U.vm) (h : vx_L C n d A u H) : vx_L C n d A U H := by
  obtain ⟨c, k, i, f, a, cell, h1, h2, h3, h4, h5, h6, h7, h8, h9, h10⟩ := h
  obtain ⟨k', hi', he⟩ := State.fieldFound?_setVm hvm h2
  exact ⟨c, k', i, f, a, cell, by rw [hvm.findClass]; exact h1, hi', h3, by rw [he]; exact h4, h5, h6, h7, h8, by rw [he]; exact h9, h10⟩
theorem vx_L.kept {C n d : String} {A : Nat → Prop} {U : State} {H H1 : Heap} (h : vx_L C n d A U H) (hq : ∀ a : Nat, a < H.size → ¬ A a → H1[a]? = H[a]?) : vx_L C n d A U H1 := by
  obtain ⟨c, k, i, f, a, cell, h1, h2, h3, h4, h5, h6, h7, h8, h9, h10⟩ := h
  exact ⟨c, k, i, f, a, cell, h1, h2, h3, h4, by rw [hq a (Array.getElem?_eq_some_iff.mp h5).1 h10]; exact h5, h6, h7, h8, h9, h10⟩
theorem vx_L.narrow {C n d : String} {A B : Nat → Prop} {U : State} {H : Heap} (h : vx_L C n d A U H) (hAB : ∀ q, B q → A q) : vx_L C n d B U H := by
  obtain ⟨c, k, i, f, a, cell, h1, h2, h3, h4, h5, h6, h7, h8, h9, h10⟩ := h
  exact ⟨c, k, i, f, a, cell, h1, h2, h3, h4, h5, h6, h7, h8, h9, fun z => h10 (hAB _ z)⟩
theorem vx_L.word {C n d : String} {A : Nat → Prop} {s : State} {args : Array Value} (h : vx_L C n d A s s.heap) : (Cond.laysStatic C n d).before args s = true := by
  obtain ⟨c, k, i, f, a, cell, h1, h2, h3, h4, h5, h6, h7, h8, h9, -⟩ := h
  show (Cond.laysStatic C n d).holds args s none s [] = true
  exact Cond.laysStatic_of h1 h2 h3 h4 h5 h6 h7 h8 h9
/-- .. and what it holds: null or some reference -/
def vx_Zq (C n d : String) (A : Nat → Prop) (U : State) (H : Heap) : Prop := va_Zq C n d A U H ∧ vx_L C n d A U H
theorem vx_Zq.moved {C n d : String} {A : Nat → Prop} {u U : State} {H : Heap} (hvm : u.vm.Alike U.vm) (h : vx_Zq C n d A u H) : vx_Zq C n d A U H := ⟨va_Zq.moved hvm h.1, vx_L.moved hvm h.2⟩
theorem vx_Zq.kept {C n d : String} {A : Nat → Prop} {U : State} {H H1 : Heap} (h : vx_Zq C n d A U H) (hq : ∀ a : Nat, a < H.size → ¬ A a → H1[a]? = H[a]?) : vx_Zq C n d A U H1 := ⟨va_Zq.kept h.1 hq, vx_L.kept h.2 hq⟩
theorem vx_Zq.narrow {C n d : String} {A B : Nat → Prop} {U : State} {H : Heap} (h : vx_Zq C n d A U H) (hAB : ∀ q, B q → A q) : vx_Zq C n d B U H := ⟨va_Zq.narrow h.1 hAB, vx_L.narrow h.2 hAB⟩
theorem vx_Zqof {args : Array Value} {s : State} {C n d : String} {A : Nat → Prop} (hl : (Cond.laysStatic C n d).before args s = true) (hini : (Cond.initialized C).before args s = true) (h : (Cond.isRef (.static C n d)).before args s = true) (hA : ∀ a : Nat, a < s.heap.size → ¬ A a) : vx_Zq C n d A s s.heap := by
  refine ⟨va_Zqof hl hini h hA, ?_⟩
  obtain ⟨c, k, i, f, a, cell, h1, h2, h3, h4, h5, h6, h7, h8, h9⟩ := Cond.laysStatic_spec hl
  exact ⟨c, k, i, f, a, cell, h1, h2, h3, h4, h5, h6, h7, h8, h9, hA a (Array.getElem?_eq_some_iff.mp h5).1⟩
theorem vx_isRef {C n d : String} {v : Value} {A : Nat → Prop} {s : State} {args : Array Value} (h : va_Z C n d v A s s.heap) (hv : v.isRef = true) : (Cond.isRef (.static C n d)).before args s = true := by
  obtain ⟨cf, kf, fi, f, a, cell, h1, h2, h3, h4, h5, h6, h7, -⟩ := h
  have he : (Term.static C n d).eval args s none [] s = some v := by
    simp [Term.eval, State.fieldNamed?, h1, h2, h4, h5, h6, h7]
  simp only [Cond.before, Cond.holds, Cond.value, he]
  cases v <;> simp_all [Value.isRef]
theorem vx_isRefq {C n d : String} {A : Nat → Prop} {s : State} {args : Array Value} (h : va_Zq C n d A s s.heap) : (Cond.isRef (.static C n d)).before args s = true := by
  rcases h with h | ⟨t, h⟩
  · exact vx_isRef h rfl
  · exact vx_isRef h rfl
/-- the same frame, seen from here: as if the method were called anew in this heap -/
theorem vx_rebase {T : State} (X : Stand p l e R s m args below meth c T locs cells slots) {R' : Room} (hf : R'.frames ≤ R.frames) (hl : R'.locals ≤ R.locals) (hc : cells + R'.cells ≤ R.cells) (hs : slots + R'.slots ≤ R.slots) :
    Stand p l e R' ((T.setVm s.vm).setFrames (.invoking m args :: below)) m args below meth c T [] 0 0 := by
  have htop : (T.setVm s.vm).topJava?.isSome := X.here.top
  have hF : ((T.setVm s.vm).setFrames (.invoking m args :: below)).frames = .invoking m args :: below := State.frames_setFrames _ (State.cur_lt_of_top htop)
  obtain ⟨g₀, hg0⟩ := Option.isSome_iff_exists.mp htop
  obtain ⟨r, hr⟩ := State.topJava?_eq_some.mp hg0
  have hl9 : e.platform.stackLimits (T.setVm s.vm).me = e.platform.stackLimits s.me := X.limits
  have hb9 : (T.setVm s.vm).me.stackBytes = s.me.stackBytes := X.bytes
  refine ⟨X.admits, X.cas, X.clock, hF, ?_, X.hears, X.method, X.code, X.here, X.tail, X.warmed, ?_, ?_, ?_⟩
  · have h := X.room
    have hU : ((T.setVm s.vm).setFrames (.invoking m args :: below)).localsInUse = s.localsInUse := by
      rw [State.localsInUse_invoking hF (meth := meth) (c := c) X.method X.code, State.localsInUse_invoking X.frames X.method X.code]
    simp only [State.hasRoom, Bool.and_eq_true, decide_eq_true_eq] at h ⊢
    obtain ⟨⟨⟨⟨h1, h2, h3, h4, h5, h6⟩, h7⟩, h8⟩, h9⟩ := h
    rw [X.frames, List.length_cons] at h2 h3
    have q1 := X.heapSize
    have q2 := X.used
    simp only [hF, hU, List.length_cons, State.stackLimits_setFrames, State.stackBytes_setFrames, hl9, hb9]
    refine ⟨⟨⟨⟨by omega, by omega, by omega, by omega, by omega, h6⟩, ?_⟩, ?_⟩, X.book⟩
    · show T.heap.size + R'.cells ≤ e.platform.maxCells
      omega
    · show T.slotsUsed + R'.slots ≤ e.platform.maxSlots
      omega
  · rw [State.stackLimits_setFrames]; rfl
  · rw [State.stackBytes_setFrames]; rfl
  · refine ⟨?_, Nat.le_refl _, Nat.le_refl _, ?_, ?_, fun a c9 h9 => ⟨c9, h9, rfl, rfl, fun _ _ => rfl⟩⟩
    · obtain ⟨t, ht, -⟩ := State.frames_cons hr
      show T.setVm s.vm = { ((T.setVm s.vm).setFrames (.invoking m args :: below)).setFrames (T.setVm s.vm).frames with heap := T.heap, slotsUsed := T.slotsUsed }
      rw [State.setFrames_setFrames, State.setFrames_self ht]
      rfl
    · show T.slotsUsed = T.slotsUsed + ((T.heap.toList.drop T.heap.size).map (·.slots.size)).sum
      rw [List.drop_eq_nil_of_le (Nat.le_of_eq Array.length_toList)]
      rfl
    · show ((T.heap.toList.drop T.heap.size).map (·.slots.size)).sum ≤ 0
      rw [List.drop_eq_nil_of_le (Nat.le_of_eq Array.length_toList)]
      exact Nat.le_refl _
/-- 'throw new E()': new; dup; invokespecial; athrow -/
theorem vx_throw0 {cc : ByteArray} {pc : Nat} (hexec : p.tables.exec = Jvm.exec) (hb : c.code = cc) (hl : l.stackTraces = false) {own cls : String} {names : List String} {ik ic mc ms : Nat} {A : Nat → Prop}
    (hown : s.vm.findClass own = some m.cls) (hcls : Bundle.fit cls = true) (hnames : ∀ n ∈ names, Bundle.fit n = true)
    (hk : (Cond.classLink own ik cls).before args s = true) (hini : (Cond.initialized cls).before args s = true) (hat : ∀ w ∈ vx_at0 own ic cls names, w.before args s = true)
    (hgood : ∀ w ∈ Cond.classLink own ik cls :: Cond.initialized cls :: vx_at0 own ic cls names, vx_ot w = true)
    (hU : vx_Zq Bundle.tN "UNASSIGNED_STACK" Bundle.steD A s s.heap) (hN : vx_Zq Bundle.tN "SUPPRESSED_SENTINEL" Bundle.listD A s s.heap) (hS : va_S A s.heap H locs) (hsize : ls.size = c.maxLocals)
    (d0 : decode cc pc = .ok (.new ik, 3)) (d3 : decode cc (pc + 3) = .ok (.dup, 1)) (d4 : decode cc (pc + 4) = .ok (.invokespecial ic, 3)) (d7 : decode cc (pc + 7) = .ok (.athrow, 1))
    (hout : ∀ x ∈ c.exceptionTable.toList, covers x (pc + 7) = false)
    (hRframes : names.length + 3 < R.frames) (hRlocals : (rest.map fun v => v.category).sum + (13 * (names.length + 1) + 42) ≤ R.locals) (hRcells : cells + 1 ≤ R.cells) (hRslots : slots + 6 ≤ R.slots) (hlocks : meth.locks = false)
    (hx : ∀ t : State, s.vm.Alike t.vm → H.size ≤ t.heap.size → (∀ q : Nat, q < H.size → t.heap[q]? = H[q]?) → XC cls s t)
    (hf : ∀ z ∈ locs, free z.base) (hc : cells + 1 ≤ mc) (hs : slots + 6 ≤ ms) :
    W p l e R s m args below meth c H locs cells slots (vx_MQ below Qc XC args s mc ms free) (F0 m pc ls rest) := by
  intro T hT X
  have htr : e.platform.stackTraces = false := (show e.platform.stackTraces = l.stackTraces by rw [X.admits.platform]).trans hl
  have Y := vx_rebase X (R' := { frames := R.frames, locals := R.locals, cells := 1, slots := 6 }) (Nat.le_refl _) (Nat.le_refl _) hRcells hRslots
  obtain ⟨s', hA⟩ : ∃ z, z = (T.setVm s.vm).setFrames (.invoking m args :: below) := ⟨_, rfl⟩
  rw [← hA] at Y
  have hvm : s'.vm = s.vm := by rw [hA]; rfl
  have hhp : s'.heap = H := by rw [hA]; exact hT
  have hW0 : s.WarmedH s'.vm := by rw [hvm]; exact State.WarmedH.refl s
  have hat' : ∀ w ∈ vx_at0 own ic cls names, w.before args s' = true := fun w hw => vx_ot_at hW0 hvm.symm (hgood w (List.mem_cons_of_mem _ (List.mem_cons_of_mem _ hw))) (hat w hw)
  have hk' : (Cond.classLink own ik cls).before args s' = true := vx_ot_at hW0 hvm.symm (hgood _ List.mem_cons_self) hk
  have hini' : (Cond.initialized cls).before args s' = true := vx_ot_at hW0 hvm.symm (hgood _ (List.mem_cons_of_mem _ List.mem_cons_self)) hini
  have hU' : vx_Zq Bundle.tN "UNASSIGNED_STACK" Bundle.steD A s' s'.heap := by rw [hhp]; exact vx_Zq.moved hW0.alike (hU.kept hS.2.1)
  have hN' : vx_Zq Bundle.tN "SUPPRESSED_SENTINEL" Bundle.listD A s' s'.heap := by rw [hhp]; exact vx_Zq.moved hW0.alike (hN.kept hS.2.1)
  have h : ∀ w ∈ Bundle.ownAtoms0 own ic cls names, w.before args s' = true := vx_own hat' (vx_isRefq hU'.1) (vx_isRefq hN'.1) hU'.2.word hN'.2.word
  have hown' : s'.vm.findClass own = some m.cls := by rw [hvm]; exact hown
  have hins : (Cond.instantiable cls 6).before args s' = true := h _ (by simp [Bundle.ownAtoms0])
  obtain ⟨vm₁, cX, kX, hfX, hkX, -, -, X₁, st1⟩ := Y.newCold hexec (own := own) (C := cls) (index := ik) (n := 6) hown' hk' hins hini'
    (g := F0 m pc ls rest) rfl (by rw [hb]; exact d0) (Nat.le_refl _) (Nat.le_refl _)
  generalize hT1 : (T.setVm vm₁).pushCell { cls := cX, slots := kX.instanceTypes.map defaultValue, vm := .none } = T1 at X₁ st1
  have hcat : (Value.ref T.heap.size).category = 1 := rfl
  have hcellA : T1.heap[T.heap.size]? = some (freshCell cX kX) := by rw [← hT1]; exact State.heap_pushCell_size _ _
  have d3' : decode c.code (pc + 3) = .ok (.dup, 1) := by rw [hb]; exact d3
  obtain ⟨U, hsteps, hrun, hend, hW, hsame, ce, hce, hO⟩ := X₁.ctorThrow0 hexec htr (own := own) (cls := cls) (names := names) (ic := ic) hown' hcls hnames h (fun x hx => nomatch hx) hfX hkX hcellA (by rw [hhp, hT]; exact Nat.le_refl _)
    (g := { method := m, pc := pc + 4, locals := ls, stack := .ref T.heap.size :: .ref T.heap.size :: rest, locked := none }) rfl hsize rfl rfl (rest := rest) rfl
    (by rw [hb]; exact d4) (by rw [hb]; exact d7) hout hRframes (by simp only [List.map_cons, List.sum_cons, hcat]; omega) hlocks
  obtain ⟨f1, f2⟩ := vx_frame hsame
  rw [hhp] at f1 f2
  have hWs : s.WarmedH U.vm := State.WarmedH.trans hW0 hW
  have hcl : s.vm.findClass cls = some ce.cls := by
    have h9 := hO.cls
    rw [hvm] at h9
    exact h9
  have hall : s.sameButNew ({ U with vm := s.vm } : State) locs mc ms := by
    subst hA
    obtain ⟨e1, e2⟩ := hsame
    rw [State.setFrames_setFrames] at e1
    have h2 : (T.setVm s.vm).sameButNew ({ U with vm := s.vm } : State) [] (0 + 1) (0 + 6) := ⟨e1, e2⟩
    have h3 := X.same.trans h2
    rw [List.append_nil] at h3
    exact h3.mono hc hs
  refine ⟨U, ?_, .threw T.heap.size, hrun, hend, Or.inr ⟨T.heap.size, rfl, cls, ce, locs, hx U hWs.alike f1 (fun q hq => f2 q hq (fun z hz => nomatch hz)), hce, hO.vm, hcl, hWs, hall, hf⟩⟩
  refine st1 _ ?_
  show Steps p.tables e below (T1.setTop { method := m, pc := pc + 3, locals := ls, stack := .ref T.heap.size :: rest, locked := none }) _
  jvm_step X₁.here [X₁.here.top, hexec, d3', Value.category]
  exact hsteps
/-- 'throw new E("text")': new; dup; ldc; invokespecial; athrow -/
theorem vx_throwS {cc : ByteArray} {pc : Nat} (hexec : p.tables.exec = Jvm.exec) (hb : c.code = cc) (hl : l.stackTraces = false) {own cls text : String} {names : List String} {ik is ic mc ms sa : Nat} {A : Nat → Prop}
    (hown : s.vm.findClass own = some m.cls) (hcls : Bundle.fit cls = true) (hnames : ∀ n ∈ names, Bundle.fit n = true)
    (hk : (Cond.classLink own ik cls).before args s = true) (hini : (Cond.initialized cls).before args s = true) (hstr : vk_R own is text sa s) (hat : ∀ w ∈ vx_atS own ic cls names, w.before args s = true)
    (hgood : ∀ w ∈ Cond.classLink own ik cls :: Cond.initialized cls :: vx_atS own ic cls names, vx_ot w = true)
    (hU : vx_Zq Bundle.tN "UNASSIGNED_STACK" Bundle.steD A s s.heap) (hN : vx_Zq Bundle.tN "SUPPRESSED_SENTINEL" Bundle.listD A s s.heap) (hS : va_S A s.heap H locs) (hsize : ls.size = c.maxLocals)
    (d0 : decode cc pc = .ok (.new ik, 3)) (d3 : decode cc (pc + 3) = .ok (.dup, 1)) (d4 : decode cc (pc + 4) = .ok (.ldc is, 2)) (d6 : decode cc (pc + 6) = .ok (.invokespecial ic, 3)) (d9 : decode cc (pc + 9) = .ok (.athrow, 1))
    (hout : ∀ x ∈ c.exceptionTable.toList, covers x (pc + 9) = false)
    (hRframes : names.length + 3 < R.frames) (hRlocals : (rest.map fun v => v.category).sum + (13 * (names.length + 1) + 43) ≤ R.locals) (hRcells : cells + 1 ≤ R.cells) (hRslots : slots + 6 ≤ R.slots) (hlocks : meth.locks = false)
    (hx : ∀ t : State, s.vm.Alike t.vm → H.size ≤ t.heap.size → (∀ q : Nat, q < H.size → t.heap[q]? = H[q]?) → XC cls s t)
    (hf : ∀ z ∈ locs, free z.base) (hc : cells + 1 ≤ mc) (hs : slots + 6 ≤ ms) :
    W p l e R s m args below meth c H locs cells slots (vx_MQ below Qc XC args s mc ms free) (F0 m pc ls rest) := by
  intro T hT X
  have htr : e.platform.stackTraces = false := (show e.platform.stackTraces = l.stackTraces by rw [X.admits.platform]).trans hl
  have Y := vx_rebase X (R' := { frames := R.frames, locals := R.locals, cells := 1, slots := 6 }) (Nat.le_refl _) (Nat.le_refl _) hRcells hRslots
  obtain ⟨s', hA⟩ : ∃ z, z = (T.setVm s.vm).setFrames (.invoking m args :: below) := ⟨_, rfl⟩
  rw [← hA] at Y
  have hvm : s'.vm = s.vm := by rw [hA]; rfl
  have hhp : s'.heap = H := by rw [hA]; exact hT
  have hW0 : s.WarmedH s'.vm := by rw [hvm]; exact State.WarmedH.refl s
  have hat' : ∀ w ∈ vx_atS own ic cls names, w.before args s' = true := fun w hw => vx_ot_at hW0 hvm.symm (hgood w (List.mem_cons_of_mem _ (List.mem_cons_of_mem _ hw))) (hat w hw)
  have hk' : (Cond.classLink own ik cls).before args s' = true := vx_ot_at hW0 hvm.symm (hgood _ List.mem_cons_self) hk
  have hini' : (Cond.initialized cls).before args s' = true := vx_ot_at hW0 hvm.symm (hgood _ (List.mem_cons_of_mem _ List.mem_cons_self)) hini
  have hU' : vx_Zq Bundle.tN "UNASSIGNED_STACK" Bundle.steD A s' s'.heap := by rw [hhp]; exact vx_Zq.moved hW0.alike (hU.kept hS.2.1)
  have hN' : vx_Zq Bundle.tN "SUPPRESSED_SENTINEL" Bundle.listD A s' s'.heap := by rw [hhp]; exact vx_Zq.moved hW0.alike (hN.kept hS.2.1)
  have h : ∀ w ∈ Bundle.ownAtoms own ic cls names, w.before args s' = true := vx_own hat' (vx_isRefq hU'.1) (vx_isRefq hN'.1) hU'.2.word hN'.2.word
  have hown' : s'.vm.findClass own = some m.cls := by rw [hvm]; exact hown
  have hins : (Cond.instantiable cls 6).before args s' = true := h _ (by simp [Bundle.ownAtoms])
  obtain ⟨vm₁, cX, kX, hfX, hkX, -, -, X₁, st1⟩ := Y.newCold hexec (own := own) (C := cls) (index := ik) (n := 6) hown' hk' hins hini'
    (g := F0 m pc ls rest) rfl (by rw [hb]; exact d0) (Nat.le_refl _) (Nat.le_refl _)
  generalize hT1 : (T.setVm vm₁).pushCell { cls := cX, slots := kX.instanceTypes.map defaultValue, vm := .none } = T1 at X₁ st1
  have hcat : (Value.ref T.heap.size).category = 1 := rfl
  have hcellA : T1.heap[T.heap.size]? = some (freshCell cX kX) := by rw [← hT1]; exact State.heap_pushCell_size _ _
  have d3' : decode c.code (pc + 3) = .ok (.dup, 1) := by rw [hb]; exact d3
  have d4' : decode c.code (pc + 4) = .ok (.ldc is, 2) := by rw [hb]; exact d4
  have hstr' : vk_R own is text sa s' := vk_R.warm hW0 hstr
  obtain ⟨U, hsteps, hrun, hend, hW, hsame, ce, hce, hO⟩ := X₁.ctorThrowS hexec htr (own := own) (cls := cls) (names := names) (ic := ic) hown' hcls hnames h (fun x hx => nomatch hx) hfX hkX hcellA (by rw [hhp, hT]; exact Nat.le_refl _) (msg := .ref sa) rfl
    (g := { method := m, pc := pc + 6, locals := ls, stack := .ref sa :: .ref T.heap.size :: .ref T.heap.size :: rest, locked := none }) rfl hsize rfl rfl (rest := rest) rfl
    (by rw [hb]; exact d6) (by rw [hb]; exact d9) hout hRframes (by simp only [List.map_cons, List.sum_cons, hcat]; omega) hlocks
  obtain ⟨f1, f2⟩ := vx_frame hsame
  rw [hhp] at f1 f2
  have hWs : s.WarmedH U.vm := State.WarmedH.trans hW0 hW
  have hcl : s.vm.findClass cls = some ce.cls := by
    have h9 := hO.cls
    rw [hvm] at h9
    exact h9
  have hall : s.sameButNew ({ U with vm := s.vm } : State) locs mc ms := by
    subst hA
    obtain ⟨e1, e2⟩ := hsame
    rw [State.setFrames_setFrames] at e1
    have h2 : (T.setVm s.vm).sameButNew ({ U with vm := s.vm } : State) [] (0 + 1) (0 + 6) := ⟨e1, e2⟩
    have h3 := X.same.trans h2
    rw [List.append_nil] at h3
    exact h3.mono hc hs
  refine ⟨U, ?_, .threw T.heap.size, hrun, hend, Or.inr ⟨T.heap.size, rfl, cls, ce, locs, hx U hWs.alike f1 (fun q hq => f2 q hq (fun z hz => nomatch hz)), hce, hO.vm, hcl, hWs, hall, hf⟩⟩
  refine st1 _ ?_
  show Steps p.tables e below (T1.setTop { method := m, pc := pc + 3, locals := ls, stack := .ref T.heap.size :: rest, locked := none }) _
  jvm_step X₁.here [X₁.here.top, hexec, d3', Value.category]
  exact X₁.ldcString hexec (own := own) (text := text) (index := is) (a := sa) hown' hstr'.1 hstr'.2
    (g := { method := m, pc := pc + 4, locals := ls, stack := .ref T.heap.size :: .ref T.heap.size :: rest, locked := none }) rfl d4' _ hsteps
/-- 'throw new E("text")', the text by a wide index -/
theorem vx_throwSW {cc : ByteArray} {pc : Nat} (hexec : p.tables.exec = Jvm.exec) (hb : c.code = cc) (hl : l.stackTraces = false) {own cls text : String} {names : List String} {ik is ic mc ms sa : Nat} {A : Nat → Prop}
    (hown : s.vm.findClass own = some m.cls) (hcls : Bundle.fit cls = true) (hnames : ∀ n ∈ names, Bundle.fit n = true)
    (hk : (Cond.classLink own ik cls).before args s = true) (hini : (Cond.initialized cls).before args s = true) (hstr : vk_R own is text sa s) (hat : ∀ w ∈ vx_atS own ic cls names, w.before args s = true)
    (hgood : ∀ w ∈ Cond.classLink own ik cls :: Cond.initialized cls :: vx_atS own ic cls names, vx_ot w = true)
    (hU : vx_Zq Bundle.tN "UNASSIGNED_STACK" Bundle.steD A s s.heap) (hN : vx_Zq Bundle.tN "SUPPRESSED_SENTINEL" Bundle.listD A s s.heap) (hS : va_S A s.heap H locs) (hsize : ls.size = c.maxLocals)
    (d0 : decode cc pc = .ok (.new ik, 3)) (d3 : decode cc (pc + 3) = .ok (.dup, 1)) (d4 : decode cc (pc + 4) = .ok (.ldc_w is, 3)) (d7 : decode cc (pc + 7) = .ok (.invokespecial ic, 3)) (d10 : decode cc (pc + 10) = .ok (.athrow, 1))
    (hout : ∀ x ∈ c.exceptionTable.toList, covers x (pc + 10) = false)
    (hRframes : names.length + 3 < R.frames) (hRlocals : (rest.map fun v => v.category).sum + (13 * (names.length + 1) + 43) ≤ R.locals) (hRcells : cells + 1 ≤ R.cells) (hRslots : slots + 6 ≤ R.slots) (hlocks : meth.locks = false)
    (hx : ∀ t : State, s.vm.Alike t.vm → H.size ≤ t.heap.size → (∀ q : Nat, q < H.size → t.heap[q]? = H[q]?) → XC cls s t)
    (hf : ∀ z ∈ locs, free z.base) (hc : cells + 1 ≤ mc) (hs : slots + 6 ≤ ms) :
    W p l e R s m args below meth c H locs cells slots (vx_MQ below Qc XC args s mc ms free) (F0 m pc ls rest) := by
  intro T hT X
  have htr : e.platform.stackTraces = false := (show e.platform.stackTraces = l.stackTraces by rw [X.admits.platform]).trans hl
  have Y := vx_rebase X (R' := { frames := R.frames, locals := R.locals, cells := 1, slots := 6 }) (Nat.le_refl _) (Nat.le_refl _) hRcells hRslots
  obtain ⟨s', hA⟩ : ∃ z, z = (T.setVm s.vm).setFrames (.invoking m args :: below) := ⟨_, rfl⟩
  rw [← hA] at Y
  have hvm : s'.vm = s.vm := by rw [hA]; rfl
  have hhp : s'.heap = H := by rw [hA]; exact hT
  have hW0 : s.WarmedH s'.vm := by rw [hvm]; exact State.WarmedH.refl s
  have hat' : ∀ w ∈ vx_atS own ic cls names, w.before args s' = true := fun w hw => vx_ot_at hW0 hvm.symm (hgood w (List.mem_cons_of_mem _ (List.mem_cons_of_mem _ hw))) (hat w hw)
  have hk' : (Cond.classLink own ik cls).before args s' = true := vx_ot_at hW0 hvm.symm (hgood _ List.mem_cons_self) hk
  have hini' : (Cond.initialized cls).before args s' = true := vx_ot_at hW0 hvm.symm (hgood _ (List.mem_cons_of_mem _ List.mem_cons_self)) hini
  have hU' : vx_Zq Bundle.tN "UNASSIGNED_STACK" Bundle.steD A s' s'.heap := by rw [hhp]; exact vx_Zq.moved hW0.alike (hU.kept hS.2.1)
  have hN' : vx_Zq Bundle.tN "SUPPRESSED_SENTINEL" Bundle.listD A s' s'.heap := by rw [hhp]; exact vx_Zq.moved hW0.alike (hN.kept hS.2.1)
  have h : ∀ w ∈ Bundle.ownAtoms own ic cls names, w.before args s' = true := vx_own hat' (vx_isRefq hU'.1) (vx_isRefq hN'.1) hU'.2.word hN'.2.word
  have hown' : s'.vm.findClass own = some m.cls := by rw [hvm]; exact hown
  have hins : (Cond.instantiable cls 6).before args s' = true := h _ (by simp [Bundle.ownAtoms])
  obtain ⟨vm₁, cX, kX, hfX, hkX, -, -, X₁, st1⟩ := Y.newCold hexec (own := own) (C := cls) (index := ik) (n := 6) hown' hk' hins hini'
    (g := F0 m pc ls rest) rfl (by rw [hb]; exact d0) (Nat.le_refl _) (Nat.le_refl _)
  generalize hT1 : (T.setVm vm₁).pushCell { cls := cX, slots := kX.instanceTypes.map defaultValue, vm := .none } = T1 at X₁ st1
  have hcat : (Value.ref T.heap.size).category = 1 := rfl
  have hcellA : T1.heap[T.heap.size]? = some (freshCell cX kX) := by rw [← hT1]; exact State.heap_pushCell_size _ _
  have d3' : decode c.code (pc + 3) = .ok (.dup, 1) := by rw [hb]; exact d3
  have d4' : decode c.code (pc + 4) = .ok (.ldc_w is, 3) := by rw [hb]; exact d4
  have hstr' : vk_R own is text sa s' := vk_R.warm hW0 hstr
  obtain ⟨U, hsteps, hrun, hend, hW, hsame, ce, hce, hO⟩ := X₁.ctorThrowS hexec htr (own := own) (cls := cls) (names := names) (ic := ic) hown' hcls hnames h (fun x hx => nomatch hx) hfX hkX hcellA (by rw [hhp, hT]; exact Nat.le_refl _) (msg := .ref sa) rfl
    (g := { method := m, pc := pc + 7, locals := ls, stack := .ref sa :: .ref T.heap.size :: .ref T.heap.size :: rest, locked := none }) rfl hsize rfl rfl (rest := rest) rfl
    (by rw [hb]; exact d7) (by rw [hb]; exact d10) hout hRframes (by simp only [List.map_cons, List.sum_cons, hcat]; omega) hlocks
  obtain ⟨f1, f2⟩ := vx_frame hsame
  rw [hhp] at f1 f2
  have hWs : s.WarmedH U.vm := State.WarmedH.trans hW0 hW
  have hcl : s.vm.findClass cls = some ce.cls := by
    have h9 := hO.cls
    rw [hvm] at h9
    exact h9
  have hall : s.sameButNew ({ U with vm := s.vm } : State) locs mc ms := by
    subst hA
    obtain ⟨e1, e2⟩ := hsame
    rw [State.setFrames_setFrames] at e1
    have h2 : (T.setVm s.vm).sameButNew ({ U with vm := s.vm } : State) [] (0 + 1) (0 + 6) := ⟨e1, e2⟩
    have h3 := X.same.trans h2
    rw [List.append_nil] at h3
    exact h3.mono hc hs
  refine ⟨U, ?_, .threw T.heap.size, hrun, hend, Or.inr ⟨T.heap.size, rfl, cls, ce, locs, hx U hWs.alike f1 (fun q hq => f2 q hq (fun z hz => nomatch hz)), hce, hO.vm, hcl, hWs, hall, hf⟩⟩
  refine st1 _ ?_
  show Steps p.tables e below (T1.setTop { method := m, pc := pc + 3, locals := ls, stack := .ref T.heap.size :: rest, locked := none }) _
  jvm_step X₁.here [X₁.here.top, hexec, d3', Value.category]
  exact X₁.ldcStringW hexec (own := own) (text := text) (index := is) (a := sa) hown' hstr'.1 hstr'.2
    (g := { method := m, pc := pc + 4, locals := ls, stack := .ref T.heap.size :: .ref T.heap.size :: rest, locked := none }) rfl d4' _ hsteps
end Ends
section Bodies
variable {l : Launch}
theorem vx_ofW {y : MethodName} {ws ws' : List Cond} {rm : Room} {Pc : Array Value → State → Prop} {Qc : Array Value → State → Outcome → State → Prop} {XC : String → State → State → Prop} {mc ms : Nat} {free : Addr → Prop} {cc : ByteArray} {maxL : Nat} {ret : Option FieldType}
    (hy : plainName y.cls = true) (hw : ws = Cond.code y cc maxL ret :: ws')
    (body : ∀ p e s m args below meth c s₁, BodyLoose p l y (headSpec ws rm) cc maxL ret e s m args below meth c s₁ → c.maxLocals = maxL → (∀ x ∈ c.exceptionTable.toList, False) → Pc args s →
      W p l e (headSpec ws rm).room s m args below meth c s.heap [] 0 0 (vx_MQ below Qc XC args s mc ms free) (entryFrame m args maxL)) : vx_Met l y ws rm Pc Qc XC mc ms free := by
  refine MetFree.of_bodyS (code := cc) (maxLocals := maxL) (ret := ret) hy ?_ ?_
  · intro args s m h hn
    obtain ⟨meth, c, h1, h2, h3, h4, h5, h6, -, -⟩ := Cond.code_spec hn (atoms_spec (ws := ws) h _ (by rw [hw]; exact List.mem_cons_self))
    exact ⟨meth, c, h1, h2, h3, h4, h5, h6⟩
  · intro p e s m args below meth c s₁ B hml hP _
    have hh0 : s₁.heap = s.heap := by rw [B.state]; rfl
    have ht : ∀ x ∈ c.exceptionTable.toList, False := by
      obtain ⟨meth9, c9, h1, h2, -, -, -, -, h7, -⟩ := Cond.code_spec B.named (atoms_spec (ws := ws) B.pre _ (by rw [hw]; exact List.mem_cons_self))
      cases Option.some.inj (h1.symm.trans B.method)
      cases Option.some.inj (h2.symm.trans (Stand.of_body B).code)
      intro x hx
      rw [Array.isEmpty_iff.mp h7] at hx
      cases hx
    obtain ⟨t, a1, o, b1, b2, b3⟩ := body p e s m args below meth c s₁ B hml ht hP s₁ hh0 (Stand.of_body B)
    exact ⟨t, o, a1, b1, b2, b3⟩
/-- the table of a body with handlers -/
theorem vx_table {p : Program} {x y : MethodName} {S : Spec} {cc bytes : ByteArray} {maxL maxL' : Nat} {ret ret' : Option FieldType} {e : Env} {s s₁ : State} {m : MethodId} {args : Array Value} {below : List Frame} {meth : Method} {c : Code} {hh : List (Nat × Nat × Nat × Nat)}
    (B : BodyLoose p l y S cc maxL ret e s m args below meth c s₁) (h : (Cond.codeWith y bytes maxL' ret' hh).before args s = true) : c.exceptionTable.toList = tableOf hh := by
  obtain ⟨m9, meth9, c9, hn9, h1, h2, -, -, h6, -⟩ := Cond.codeWith_spec h
  cases Option.some.inj (hn9.symm.trans B.named)
  cases Option.some.inj (h1.symm.trans B.method)
  cases Option.some.inj (h2.symm.trans (Stand.of_body B).code)
  rw [← h6, table_eq]
end Bodies
end VXA
/-! ===== END ===== -/
/-! ===== BEGIN a static call of a method with an exception table ===== -/
section VXS
variable {p : Program} {l : Launch} {e : Env} {R : Room} {s : State} {m : MethodId} {args : Array Value} {below : List Frame} {meth : Method} {c : Code} {T : State} {H : Heap} {locs : List Loc} {cells slots : Nat}
abbrev vx_CSW (R : Room) (s : State) (args : Array Value) (own : String) (index : Nat) (y : MethodName) (bytes : ByteArray) (maxL : Nat) (ret : Option FieldType) (hh : List (Nat × Nat × Nat × Nat)) (ws : List Cond) (rm : Room) (mc ms n : Nat) : Prop :=
  (rm.cells = mc ∧ rm.slots = ms ∧ rm.frames + 1 ≤ R.frames ∧ 8 + (maxL + 11) + rm.locals ≤ R.locals ∧ (∀ w ∈ ws, ∀ (a' : Array Value) (U : State), s.WarmedH U.vm → w.before a' U = true) ∧ Cond.codeWith y bytes maxL ret hh ∈ ws) ∧
  (Cond.codeWith y bytes maxL ret hh).before args s = true ∧ (Cond.initialized y.cls).before args s = true ∧ (y.cls ≠ "java/lang/invoke/MethodHandle" ∧ y.cls ≠ "java/lang/invoke/VarHandle") ∧
  (∀ sig, parseMethodDescriptor y.desc = some sig → n = sig.parameters.length) ∧ (Cond.methodLink own index y).before args s = true ∧ (Cond.static y).before args s = true
theorem vx_cwSW {own : String} {index maxL mc ms : Nat} {y : MethodName} {bytes : ByteArray} {ret : Option FieldType} {hh : List (Nat × Nat × Nat × Nat)} {Ts ws ws' : List Cond} {rm : Room} (n : Nat) (ht : ∀ w ∈ Ts, w.before args s = true) (hT : GoodIn Ts (va_wsS own index y ws)) (hw : ws = Cond.codeWith y bytes maxL ret hh :: ws') (hrc : rm.cells = mc) (hrs : rm.slots = ms)
    (hd : y.cls ≠ "java/lang/invoke/MethodHandle" ∧ y.cls ≠ "java/lang/invoke/VarHandle" ∧ (parseMethodDescriptor y.desc).map (fun d => d.parameters.length) = some n) (hR : rm.frames + 1 ≤ R.frames ∧ 8 + (maxL + 11) + rm.locals ≤ R.locals) :
    vx_CSW R s args own index y bytes maxL ret hh ws rm mc ms n := by
  have ok : ∀ w ∈ va_wsS own index y ws, w.before args s = true := fun w h => ht w (hT w h).1
  have hG : GoodIn Ts ws := fun w h => hT w (by unfold va_wsS; exact List.mem_append_right _ h)
  have hc : Cond.codeWith y bytes maxL ret hh ∈ ws := by rw [hw]; exact List.mem_cons_self
  refine ⟨⟨hrc, hrs, hR.1, hR.2, pay_in ht hG, hc⟩, ht _ (hG _ hc).1, ok _ (by simp [va_wsS]), ⟨hd.1, hd.2.1⟩, fun sig h => ?_, ok _ (by simp [va_wsS]), ok _ (by simp [va_wsS])⟩
  have h2 := hd.2.2
  rw [h] at h2
  exact (Option.some.inj h2).symm
theorem vx_callSW (X : Stand p l e R s m args below meth c T locs cells slots) (hexec : p.tables.exec = Jvm.exec) {own : String} {index : Nat} {y : MethodName} {bytes : ByteArray} {maxL : Nat} {ret : Option FieldType} {hh : List (Nat × Nat × Nat × Nat)}
    (hown : s.vm.findClass own = some m.cls) (hlink : (Cond.methodLink own index y).before args s = true) (hstat : (Cond.static y).before args s = true) (hinit : (Cond.initialized y.cls).before args s = true)
    (hcode : (Cond.codeWith y bytes maxL ret hh).before args s = true) (hy : y.cls ≠ "java/lang/invoke/MethodHandle" ∧ y.cls ≠ "java/lang/invoke/VarHandle")
    {W9 : Nat} {Pre : Pt → Array Value → Prop} {Post : Pt → Array Value → Option Value → Pt → Prop} (hK : Back l R p e below s args y 3 W9 Pre Post)
    {g : JFrame} (hg : g.method = m) (hsize : g.locals.size = c.maxLocals) {argsL rest : List Value} (hlen : ∀ sig, parseMethodDescriptor y.desc = some sig → argsL.length = sig.parameters.length)
    (hstack : g.stack = argsL.reverse ++ rest) (hW : 2 * g.monitorRoom + (rest.map fun v => v.category).sum ≤ W9) (hdg : decode c.code g.pc = .ok (.invokestatic index, 3))
    (hpre : ∀ vm₁, s.WarmedH vm₁ → Pre ⟨T.setVm vm₁, locs, cells, slots⟩ argsL.toArray) :
    ∃ (v : Option Value) (vm₁ : Vm) (B : Pt), s.WarmedH vm₁ ∧ Stand p l e R s m args below meth c B.U B.locs B.cells B.slots ∧ Post ⟨T.setVm vm₁, locs, cells, slots⟩ argsL.toArray v B ∧
      ∀ target, Steps p.tables e below (B.U.setTop { g with pc := g.pc + 3, stack := v.toList ++ rest }) target → Steps p.tables e below (T.setTop g) target := by
  obtain ⟨mk, methM, cM, hnamed, hmethM, -, -, -, -, -, -, hsigM⟩ := Cond.codeWith_spec hcode
  have hstatic : methM.isStatic = true := Cond.static_spec hnamed hmethM hstat
  obtain ⟨kP, hkP, -⟩ := className_of_methodNamed hnamed
  have hinitP : kP.init = .initialized := Cond.initialized_spec (findClass_of_methodNamed hnamed) hkP hinit
  obtain ⟨vm₁, X₁, hstep₁⟩ := X.invokestatic hexec hown hlink hnamed hmethM hstatic hkP hinitP hy (g := g) hg (argsL := argsL) (rest := rest) (hlen _ hsigM) hstack hdg
  obtain ⟨v, B, X', hpost, hsteps⟩ := hK m meth c ⟨T.setVm vm₁, locs, cells, slots⟩ { g with stack := rest } (.invokestatic index) mk argsL.toArray X₁ hg hsize hdg hW (X₁.named hnamed) (hpre vm₁ X₁.warmed)
  exact ⟨v, vm₁, B, X₁.warmed, X', hpost, fun target h => hstep₁ _ fun acts => by rw [doInvoke_state]; exact hsteps.trans h⟩
theorem vx_runSW {y : MethodName} {bytes cc : ByteArray} {maxL nL mc ms n index : Nat} {ret : Option FieldType} {hh : List (Nat × Nat × Nat × Nat)} {ws : List Cond} {rm : Room} {Pc : Array Value → State → Prop} {Qc : Array Value → State → Outcome → State → Prop} {free : Addr → Prop} {Ts : List Cond} {own : String} {As rest : List Value} {g : JFrame}
    (S : CallFix p m c cc nL s args Ts own) (hM : Met l y ws rm Pc Qc mc ms free) (cw : vx_CSW R s args own index y bytes maxL ret hh ws rm mc ms n) (hp : PreS s H Pc As)
    (hg : g.method = m) (hn : As.length = n) (hsize : g.locals.size = nL) (hstack : g.stack = As.reverse ++ rest) (hW : 2 * g.monitorRoom + (rest.map fun v => v.category).sum ≤ 8) (hdg : decode cc g.pc = .ok (.invokestatic index, 3)) (hf : cells + mc ≤ R.cells ∧ slots + ms ≤ R.slots) :
    va_Run p l e R s m args below meth c H locs cells slots mc ms g rest (Qc As.toArray) (free) := by
  obtain ⟨⟨hrc, hrs, hfr, hlo, hws, hcw⟩, hcode, hini, hy, hlen, hl, hstt⟩ := cw
  have hK : Back l R p e below s args y 3 8 (PreOf R mc ms Pc) (PostOf Qc mc ms free) := va_backW (hh := hh) (bytes := bytes) (maxL := maxL) (ret := ret) hM hp.1 hrc hrs hfr hlo hws hcw (fun a' U hW => word_at hW (Or.inl (by first | rfl | simp [Cond.onTables, Cond.keeps, Cond.steady])) hini)
  obtain ⟨hx, hb, hml, ho, -⟩ := S
  intro T hT X
  obtain ⟨v, vm₁, ⟨U', l2, c2, s2⟩, hW₁, X', ⟨g', mk, t, L, e1, e2, hq, h1, hL, h2, h3⟩, st⟩ := vx_callSW X hx (hh := hh) (bytes := bytes) (maxL := maxL) (ret := ret) ho hl hstt hini hcode hy hK hg (hsize.trans hml.symm) (argsL := As) (rest := rest) (fun sig h => hn.trans (hlen sig h)) hstack hW (by rw [hb]; exact hdg)
    (fun vm₁ hW₁ => ⟨hf.1, hf.2, hp.2 (T.setVm vm₁) hT hW₁⟩)
  dsimp only [Pt.U, Pt.locs, Pt.cells, Pt.slots] at X' e1 e2 h1 h2 h3 st
  subst h1; subst h2; subst h3
  exact ⟨v, (T.setVm vm₁).calling g' mk As.toArray, t, U', L, hT, X', hL, e1, e2, hq, st⟩
/-- not caught here, past rows that name other classes: it goes on to the caller -/
theorem vx_outP {p : Program} {l : Launch} {e : Env} {R : Room} {s : State} {m : MethodId} {args : Array Value} {below : List Frame} {meth : Method} {c : Code} {H : Heap} {locs : List Loc} {cells slots : Nat} {free : Addr → Prop} {ls : Array Slot} {rest : List Value} {Qc : Array Value → State → Outcome → State → Prop} {XC : String → State → State → Prop}
    {pc : Nat} {own E : String} {ce : Cell} {q : Addr} {mc ms : Nat} (hown : s.vm.findClass own = some m.cls) (hlocks : meth.locks = false)
    (hpass : ∀ z ∈ c.exceptionTable.toList, covers z pc = false ∨ (z.catchType ≠ 0 ∧ ∃ nm : String, (Cond.classLink own z.catchType nm).before args s = true ∧ va_Nc E nm s)) (hcell : H[q]? = some ce) (hv : ce.vm = .none) (hcl : s.vm.findClass E = some ce.cls)
    (hx : ∀ t : State, t.heap = H → s.vm.Alike t.vm → XC E s t) (hf : ∀ z ∈ locs, free z.base) (hc : cells ≤ mc) (hs : slots ≤ ms) :
    vx_W p l e R s m args below meth c H locs cells slots (vx_MQ below Qc XC args s mc ms free) (F0 m pc ls rest) q := by
  intro T hT X
  have hpl : e.platform.magicAccessors = ({} : Platform).magicAccessors := by rw [X.admits.platform]
  obtain ⟨vm', hW', X', st⟩ := X.outThrough hlocks q (g := F0 m pc ls rest) rfl rfl rfl (cell := ce) (by rw [hT]; exact hcell) (by rw [hv]; rfl)
    (by obtain ⟨k9, h9, -⟩ := Vm.findClass_spec hcl; exact ⟨k9, h9⟩) (fun z hz => by
      rcases hpass z hz with h | ⟨hz0, nm, hl1, hn1⟩
      · exact Or.inl h
      · obtain ⟨c6, hc6, hcl6⟩ := Cond.classLink_spec hown hl1 e.platform hpl
        obtain ⟨a8, b8, h1, h2, h3⟩ := hn1
        cases Option.some.inj (h1.symm.trans hcl)
        cases Option.some.inj (h2.symm.trans hc6)
        exact Or.inr ⟨hz0, _, hcl6, h3⟩)
  obtain ⟨g₀, hfr⟩ := X'.frames_eq
  have hcell9 : ((T.setVm vm').setFrames (.throwing q :: below)).heap[q]? = some ce := by
    show T.heap[q]? = some ce
    rw [hT]; exact hcell
  have hend : Ended ((T.setVm vm').setFrames (.throwing q :: below)) below (.threw q) := State.frames_setFrames _ (State.cur_lt_of_frames hfr)
  refine ⟨(T.setVm vm').setFrames (.throwing q :: below), ?_, .threw q, X'.here.running, hend, Or.inr ⟨q, rfl, E, ce, locs, hx _ hT (X'.ends _).1.alike, hcell9, hv, hcl, (X'.ends _).1, (X'.ends _).2.mono hc hs, hf⟩⟩
  rw [X.pushThrowing_eq]
  exact st
/-- a thing of a world lies in the heap -/
theorem vx_lt {D : va_G} {cl : List vw_C} {ws : va_W} {H1 : Heap} (h : va_P D cl ws H1) {k : Nat} {q : Nat × va_E} (hk : ws[k]? = some q) : q.1 < H1.size := (h k q hk).lt
end VXS
/-! ===== END ===== -/
/-! ===== BEGIN methods with a table of their own: called by a name, returning or throwing ===== -/
section VXH
/-! vx_backW, vx_callVX, vx_callSX, vx_callVW, vx_runVW, vx_runVX, vx_runSX, vx_ofWH follow the same proofs as their sisters above (Free/Laws.lean, Shelf42/LK1.lean); vx_outP calls Shelf42/NT130.lean (outThrough). -/
section
variable {l : Launch} {R : Room} {p : Program} {e : Env} {below : List Frame} {s : State} {sargs : Array Value} {y : MethodName} {len W9 : Nat}
theorem vx_backW {ws : List Cond} {rm : Room} {Pc : Array Value → State → Prop} {Qc : Array Value → State → Outcome → State → Prop} {XC : String → State → State → Prop} {mc ms : Nat} {free : Addr → Prop} {bytes : ByteArray} {maxL : Nat} {ret : Option FieldType} {hh : List (Nat × Nat × Nat × Nat)}
    (hM : vx_Met l y ws rm Pc Qc XC mc ms free) (hblind : FrameBlind Pc) (hrc : rm.cells = mc) (hrs : rm.slots = ms)
    (hframes : rm.frames + 1 ≤ R.frames) (hlocals : W9 + (maxL + 11) + rm.locals ≤ R.locals)
    (hws : ∀ w ∈ ws, ∀ a' U, s.WarmedH U.vm → w.before a' U = true) (hcode : Cond.codeWith y bytes maxL ret hh ∈ ws) (hinit : ∀ a' U, s.WarmedH U.vm → (Cond.initialized y.cls).before a' U = true) :
    vx_Back l R p e below s sargs y len W9 (PreOf R mc ms Pc) (PostOf Qc mc ms free) (vx_Post XC mc ms free) := by
  intro m meth c A g ig mk a X hg hsize hdg hW hn hp
  have h1 : (headSpec ws rm).pre.before a A.U = true := atoms_intro fun w hw => hws w hw _ _ X.warmed
  have h2 : (Cond.codeWith y bytes maxL ret hh).before a A.U = true := hws _ hcode _ _ X.warmed
  have h3 : (Cond.initialized y.cls).before a A.U = true := hinit _ _ X.warmed
  have h4 : A.cells + (headSpec ws rm).room.cells ≤ R.cells := by rw [show (headSpec ws rm).room.cells = mc from hrc]; exact hp.1
  have h5 : A.slots + (headSpec ws rm).room.slots ≤ R.slots := by rw [show (headSpec ws rm).room.slots = ms from hrs]; exact hp.2.1
  have hPc : Pc a (A.U.calling g mk a) := hblind _ _ _ _ hp.2.2
  obtain ⟨U, Ls, c0, s0⟩ := A
  dsimp only [Pt.U, Pt.locs, Pt.cells, Pt.slots] at h1 h2 h3 h4 h5 X hn hPc ⊢
  obtain ⟨m9, methY, cY, hn9, hmY, hcY, -, hlY, -⟩ := Cond.codeWith_spec h2
  cases Option.some.inj (hn9.symm.trans hn)
  obtain ⟨kY, hkY, -⟩ := className_of_methodNamed hn
  have hinitY : kY.init = .initialized := Cond.initialized_spec (findClass_of_methodNamed hn) hkY h3
  have h : At U g.method c below := by rw [hg]; exact X.here
  have hlocals9 : W9 + (maxL + 11) + (headSpec ws rm).room.locals ≤ R.locals := hlocals
  have happ : (headSpec ws rm).appliesLoose y e.platform (U.calling g mk a) = true :=
    Spec.appliesLoose_calling (g := g) h hdg hn hkY hinitY
      (X.room_calling (g := g) (R' := (headSpec ws rm).room) hsize hmY hcY hframes (by rw [hlY]; omega) h4 h5) h1
  obtain ⟨mid, hmid⟩ := h.above
  have hfr : (U.setTop g).frames = (.java g :: mid) ++ below := by rw [State.frames_setTop' g h.top, hmid]; rfl
  obtain ⟨o, s₂, hsteps, -, hend, hq⟩ := Steps.callFree hM p X.admits X.cas X.clock (acts := []) hfr happ hPc trivial
  have hq' : vx_Q Qc XC mc ms free a (U.calling g mk a) o s₂ := hq
  rw [State.frames_setTop' g h.top] at hend
  obtain ⟨g₀, hg0⟩ := Option.isSome_iff_exists.mp h.top
  obtain ⟨r, hr⟩ := State.topJava?_eq_some.mp hg0
  have hr' : (({ U with heap := s₂.heap, slotsUsed := s₂.slotsUsed } : State).setVm s₂.vm).frames = .java g₀ :: r := hr
  rcases hq' with ⟨hqc, L, hfe, hL⟩ | ⟨q, rfl, E, ce, L, hx, hce, hcv, hcl, hW₂, hsm, hL⟩
  · obtain ⟨⟨v, rfl⟩, hW₂, e2, q2, q3, q4, q5, q6⟩ := id hfe
    have e3 : s₂ = ({ (U.calling g mk a).setFrames s₂.frames with heap := s₂.heap, slotsUsed := s₂.slotsUsed } : State).setVm s₂.vm := by
      have : s₂ = ({ s₂ with vm := (U.calling g mk a).vm } : State).setVm s₂.vm := rfl
      rw [e2] at this
      exact this
    obtain ⟨c₂, i₂, len₂, hc₂, hd₂, hf₂⟩ := hend
    have hW' : U.WarmedH s₂.vm := hW₂
    have hcc : c₂ = c := by
      have h1 : s₂.code? g.method = U.code? g.method := by
        rw [State.code?_eq, State.code?_eq, hW'.alike.method?]
      exact Option.some.inj (hc₂.symm.trans (h1.trans h.code))
    subst hcc
    have hlen : len₂ = len := by rw [hdg] at hd₂; cases hd₂; rfl
    subst hlen
    have hs₂ : s₂ = (({ U with heap := s₂.heap, slotsUsed := s₂.slotsUsed } : State).setVm s₂.vm).setTop { g with pc := g.pc + len₂, stack := v.toList ++ g.stack } := by
      refine e3.trans ?_
      rw [hf₂, State.calling_eq h.top, State.setFrames_setFrames, State.setTop_of_frames _ hr', hr]
      rfl
    have hsame : U.sameButNew ({ U with heap := s₂.heap, slotsUsed := s₂.slotsUsed } : State) L mc ms := by
      refine ⟨?_, q2, q3, q4, q5, q6⟩
      obtain ⟨t, ht, -⟩ := State.frames_cons hr
      show ({ U with heap := s₂.heap, slotsUsed := s₂.slotsUsed } : State) = { U.setFrames U.frames with heap := s₂.heap, slotsUsed := s₂.slotsUsed }
      rw [State.setFrames_self ht]
    subst hg
    refine Or.inl ⟨v, ⟨(({ U with heap := s₂.heap, slotsUsed := s₂.slotsUsed } : State).setVm s₂.vm), Ls ++ L, c0 + mc, s0 + ms⟩,
      ⟨X.admits, X.cas, X.clock, X.frames, X.room, X.hears, X.method, X.code, (X.here.setHeapUsed s₂.heap s₂.slotsUsed).setVm hW'.alike, X.tail, State.WarmedH.trans X.warmed hW', X.limits, X.bytes, X.same.trans (hsame.setVm s.vm)⟩,
      ⟨g, mk, s₂, L, rfl, rfl, hqc, rfl, hL, rfl, rfl⟩, ?_⟩
    show Steps p.tables e below _ ((({ U with heap := s₂.heap, slotsUsed := s₂.slotsUsed } : State).setVm s₂.vm).setTop { g with pc := g.pc + len₂, stack := v.toList ++ g.stack })
    rw [← hs₂]
    exact hsteps
  · obtain ⟨e2, q2, q3, q4, q5, q6⟩ := id hsm
    have e3 : s₂ = ({ (U.calling g mk a).setFrames s₂.frames with heap := s₂.heap, slotsUsed := s₂.slotsUsed } : State).setVm s₂.vm := by
      have : s₂ = ({ s₂ with vm := (U.calling g mk a).vm } : State).setVm s₂.vm := rfl
      rw [e2] at this
      exact this
    have hf₂ : s₂.frames = .throwing q :: .java g :: U.frames.tail := hend
    have hW' : U.WarmedH s₂.vm := hW₂
    have hs₂ : s₂ = ((({ U with heap := s₂.heap, slotsUsed := s₂.slotsUsed } : State).setVm s₂.vm).setTop g).pushFrame (.throwing q) := by
      refine e3.trans ?_
      rw [hf₂, State.calling_eq h.top, State.setFrames_setFrames, State.pushFrame, State.frames_setTop _ hr', State.setTop_of_frames _ hr', State.setFrames_setFrames, hr]
      rfl
    have hsame : U.sameButNew ({ U with heap := s₂.heap, slotsUsed := s₂.slotsUsed } : State) L mc ms := by
      refine ⟨?_, q2, q3, q4, q5, q6⟩
      obtain ⟨t, ht, -⟩ := State.frames_cons hr
      show ({ U with heap := s₂.heap, slotsUsed := s₂.slotsUsed } : State) = { U.setFrames U.frames with heap := s₂.heap, slotsUsed := s₂.slotsUsed }
      rw [State.setFrames_self ht]
    subst hg
    refine Or.inr ⟨q, ⟨(({ U with heap := s₂.heap, slotsUsed := s₂.slotsUsed } : State).setVm s₂.vm), Ls ++ L, c0 + mc, s0 + ms⟩,
      ⟨X.admits, X.cas, X.clock, X.frames, X.room, X.hears, X.method, X.code, (X.here.setHeapUsed s₂.heap s₂.slotsUsed).setVm hW'.alike, X.tail, State.WarmedH.trans X.warmed hW', X.limits, X.bytes, X.same.trans (hsame.setVm s.vm)⟩,
      ⟨g, mk, s₂, L, E, ce, rfl, rfl, hx, hce, hcv, hcl, rfl, hL, rfl, rfl⟩, ?_⟩
    show Steps p.tables e below _ (((({ U with heap := s₂.heap, slotsUsed := s₂.slotsUsed } : State).setVm s₂.vm).setTop g).pushFrame (.throwing q))
    rw [← hs₂]
    exact hsteps
end
variable {p : Program} {l : Launch} {e : Env} {R : Room} {s : State} {m : MethodId} {args : Array Value} {below : List Frame} {meth : Method} {c : Code} {T : State} {H : Heap} {locs : List Loc} {cells slots : Nat}
theorem vx_callVX (X : Stand p l e R s m args below meth c T locs cells slots) (hexec : p.tables.exec = Jvm.exec) {own C : String} {index : Nat} {y : MethodName} {bytes : ByteArray} {maxL : Nat} {ret : Option FieldType} {hh : List (Nat × Nat × Nat × Nat)}
    (hown : s.vm.findClass own = some m.cls) (hlink : (Cond.methodLink own index y).before args s = true) (hinst : (Cond.instanceMethod y).before args s = true) (hsel : (Cond.selects C y y).before args s = true)
    (hcode : (Cond.codeWith y bytes maxL ret hh).before args s = true) (hy : y.cls ≠ "java/lang/invoke/MethodHandle" ∧ y.cls ≠ "java/lang/invoke/VarHandle")
    {W9 : Nat} {Pre : Pt → Array Value → Prop} {Post : Pt → Array Value → Option Value → Pt → Prop} {PostX : Pt → Array Value → Addr → Pt → Prop} (hK : vx_Back l R p e below s args y 3 W9 Pre Post PostX)
    {b : Addr} {cellB : Cell} (hcell : T.heap[b]? = some cellB) (hobj : cellB.vm.isStatics = false) (hcls : s.vm.findClass C = some cellB.cls)
    {g : JFrame} (hg : g.method = m) (hsize : g.locals.size = c.maxLocals) {argsL rest : List Value} (hlen : ∀ sig, parseMethodDescriptor y.desc = some sig → argsL.length = sig.parameters.length)
    (hstack : g.stack = argsL.reverse ++ .ref b :: rest) (hW : 2 * g.monitorRoom + (rest.map fun v => v.category).sum ≤ W9) (hdg : decode c.code g.pc = .ok (.invokevirtual index, 3))
    (hpre : ∀ vm₁, s.WarmedH vm₁ → Pre ⟨T.setVm vm₁, locs, cells, slots⟩ (Value.ref b :: argsL).toArray) :
    (∃ (v : Option Value) (vm₁ : Vm) (B : Pt), s.WarmedH vm₁ ∧ Stand p l e R s m args below meth c B.U B.locs B.cells B.slots ∧ Post ⟨T.setVm vm₁, locs, cells, slots⟩ (Value.ref b :: argsL).toArray v B ∧
      ∀ target, Steps p.tables e below (B.U.setTop { g with pc := g.pc + 3, stack := v.toList ++ rest }) target → Steps p.tables e below (T.setTop g) target) ∨
    (∃ (q : Addr) (vm₁ : Vm) (B : Pt), s.WarmedH vm₁ ∧ Stand p l e R s m args below meth c B.U B.locs B.cells B.slots ∧ PostX ⟨T.setVm vm₁, locs, cells, slots⟩ (Value.ref b :: argsL).toArray q B ∧
      Steps p.tables e below (T.setTop g) ((B.U.setTop { g with stack := rest }).pushFrame (.throwing q))) := by
  obtain ⟨mk, methM, hnamed, hmethM, hstM, habM⟩ := Cond.instanceMethod_spec hinst
  obtain ⟨m8, methM', cM, hn8, hmethM', -, -, -, -, -, -, hsigM⟩ := Cond.codeWith_spec hcode
  cases Option.some.inj (hn8.symm.trans hnamed)
  cases hmethM.symm.trans hmethM'
  obtain ⟨c2, r2, m2, q1, q2, q3, q4, kP, hkP, hkPi⟩ := Cond.selects_spec hsel
  cases hcls.symm.trans q1
  cases (State.methodFound?_of_named hnamed hy).symm.trans q2
  cases hnamed.symm.trans q3
  have hselP : selectMethod e.platform s.vm cellB.cls mk = .method mk := by rw [Launch.admits_selectMethod X.admits]; exact q4
  obtain ⟨vm₁, X₁, hstep₁⟩ := X.invokevirtual hexec hown hlink hnamed hmethM hstM hkP hkPi hy (a := b) (cell := cellB) hcell
    (fun z h => by rw [h] at hobj; cases hobj) hselP hmethM habM hkP hkPi (g := g) hg (argsL := argsL) (rest := rest) (hlen _ hsigM) hstack hdg
  rcases hK m meth c ⟨T.setVm vm₁, locs, cells, slots⟩ { g with stack := rest } (.invokevirtual index) mk (Value.ref b :: argsL).toArray X₁ hg hsize hdg hW (X₁.named hnamed) (hpre vm₁ X₁.warmed) with ⟨v, B, X', hpost, hsteps⟩ | ⟨q, B, X', hpost, hsteps⟩
  · exact Or.inl ⟨v, vm₁, B, X₁.warmed, X', hpost, fun target h => hstep₁ _ fun acts => by rw [doInvoke_state]; exact hsteps.trans h⟩
  · exact Or.inr ⟨q, vm₁, B, X₁.warmed, X', hpost, hstep₁ _ fun acts => by rw [doInvoke_state]; exact hsteps⟩
theorem vx_callSX (X : Stand p l e R s m args below meth c T locs cells slots) (hexec : p.tables.exec = Jvm.exec) {own : String} {index : Nat} {y : MethodName} {bytes : ByteArray} {maxL : Nat} {ret : Option FieldType} {hh : List (Nat × Nat × Nat × Nat)}
    (hown : s.vm.findClass own = some m.cls) (hlink : (Cond.methodLink own index y).before args s = true) (hstat : (Cond.static y).before args s = true) (hinit : (Cond.initialized y.cls).before args s = true)
    (hcode : (Cond.codeWith y bytes maxL ret hh).before args s = true) (hy : y.cls ≠ "java/lang/invoke/MethodHandle" ∧ y.cls ≠ "java/lang/invoke/VarHandle")
    {W9 : Nat} {Pre : Pt → Array Value → Prop} {Post : Pt → Array Value → Option Value → Pt → Prop} {PostX : Pt → Array Value → Addr → Pt → Prop} (hK : vx_Back l R p e below s args y 3 W9 Pre Post PostX)
    {g : JFrame} (hg : g.method = m) (hsize : g.locals.size = c.maxLocals) {argsL rest : List Value} (hlen : ∀ sig, parseMethodDescriptor y.desc = some sig → argsL.length = sig.parameters.length)
    (hstack : g.stack = argsL.reverse ++ rest) (hW : 2 * g.monitorRoom + (rest.map fun v => v.category).sum ≤ W9) (hdg : decode c.code g.pc = .ok (.invokestatic index, 3))
    (hpre : ∀ vm₁, s.WarmedH vm₁ → Pre ⟨T.setVm vm₁, locs, cells, slots⟩ argsL.toArray) :
    (∃ (v : Option Value) (vm₁ : Vm) (B : Pt), s.WarmedH vm₁ ∧ Stand p l e R s m args below meth c B.U B.locs B.cells B.slots ∧ Post ⟨T.setVm vm₁, locs, cells, slots⟩ argsL.toArray v B ∧
      ∀ target, Steps p.tables e below (B.U.setTop { g with pc := g.pc + 3, stack := v.toList ++ rest }) target → Steps p.tables e below (T.setTop g) target) ∨
    (∃ (q : Addr) (vm₁ : Vm) (B : Pt), s.WarmedH vm₁ ∧ Stand p l e R s m args below meth c B.U B.locs B.cells B.slots ∧ PostX ⟨T.setVm vm₁, locs, cells, slots⟩ argsL.toArray q B ∧
      Steps p.tables e below (T.setTop g) ((B.U.setTop { g with stack := rest }).pushFrame (.throwing q))) := by
  obtain ⟨mk, methM, cM, hnamed, hmethM, -, -, -, -, -, -, hsigM⟩ := Cond.codeWith_spec hcode
  have hstatic : methM.isStatic = true := Cond.static_spec hnamed hmethM hstat
  obtain ⟨kP, hkP, -⟩ := className_of_methodNamed hnamed
  have hinitP : kP.init = .initialized := Cond.initialized_spec (findClass_of_methodNamed hnamed) hkP hinit
  obtain ⟨vm₁, X₁, hstep₁⟩ := X.invokestatic hexec hown hlink hnamed hmethM hstatic hkP hinitP hy (g := g) hg (argsL := argsL) (rest := rest) (hlen _ hsigM) hstack hdg
  rcases hK m meth c ⟨T.setVm vm₁, locs, cells, slots⟩ { g with stack := rest } (.invokestatic index) mk argsL.toArray X₁ hg hsize hdg hW (X₁.named hnamed) (hpre vm₁ X₁.warmed) with ⟨v, B, X', hpost, hsteps⟩ | ⟨q, B, X', hpost, hsteps⟩
  · exact Or.inl ⟨v, vm₁, B, X₁.warmed, X', hpost, fun target h => hstep₁ _ fun acts => by rw [doInvoke_state]; exact hsteps.trans h⟩
  · exact Or.inr ⟨q, vm₁, B, X₁.warmed, X', hpost, hstep₁ _ fun acts => by rw [doInvoke_state]; exact hsteps⟩
theorem vx_callVW (X : Stand p l e R s m args below meth c T locs cells slots) (hexec : p.tables.exec = Jvm.exec) {own C : String} {index : Nat} {y : MethodName} {bytes : ByteArray} {maxL : Nat} {ret : Option FieldType} {hh : List (Nat × Nat × Nat × Nat)}
    (hown : s.vm.findClass own = some m.cls) (hlink : (Cond.methodLink own index y).before args s = true) (hinst : (Cond.instanceMethod y).before args s = true) (hsel : (Cond.selects C y y).before args s = true)
    (hcode : (Cond.codeWith y bytes maxL ret hh).before args s = true) (hy : y.cls ≠ "java/lang/invoke/MethodHandle" ∧ y.cls ≠ "java/lang/invoke/VarHandle")
    {W9 : Nat} {Pre : Pt → Array Value → Prop} {Post : Pt → Array Value → Option Value → Pt → Prop} (hK : Back l R p e below s args y 3 W9 Pre Post)
    {b : Addr} {cellB : Cell} (hcell : T.heap[b]? = some cellB) (hobj : cellB.vm.isStatics = false) (hcls : s.vm.findClass C = some cellB.cls)
    {g : JFrame} (hg : g.method = m) (hsize : g.locals.size = c.maxLocals) {argsL rest : List Value} (hlen : ∀ sig, parseMethodDescriptor y.desc = some sig → argsL.length = sig.parameters.length)
    (hstack : g.stack = argsL.reverse ++ .ref b :: rest) (hW : 2 * g.monitorRoom + (rest.map fun v => v.category).sum ≤ W9) (hdg : decode c.code g.pc = .ok (.invokevirtual index, 3))
    (hpre : ∀ vm₁, s.WarmedH vm₁ → Pre ⟨T.setVm vm₁, locs, cells, slots⟩ (Value.ref b :: argsL).toArray) :
    ∃ (v : Option Value) (vm₁ : Vm) (B : Pt), s.WarmedH vm₁ ∧ Stand p l e R s m args below meth c B.U B.locs B.cells B.slots ∧ Post ⟨T.setVm vm₁, locs, cells, slots⟩ (Value.ref b :: argsL).toArray v B ∧
      ∀ target, Steps p.tables e below (B.U.setTop { g with pc := g.pc + 3, stack := v.toList ++ rest }) target → Steps p.tables e below (T.setTop g) target := by
  obtain ⟨mk, methM, hnamed, hmethM, hstM, habM⟩ := Cond.instanceMethod_spec hinst
  obtain ⟨m8, methM', cM, hn8, hmethM', -, -, -, -, -, -, hsigM⟩ := Cond.codeWith_spec hcode
  cases Option.some.inj (hn8.symm.trans hnamed)
  cases hmethM.symm.trans hmethM'
  obtain ⟨c2, r2, m2, q1, q2, q3, q4, kP, hkP, hkPi⟩ := Cond.selects_spec hsel
  cases hcls.symm.trans q1
  cases (State.methodFound?_of_named hnamed hy).symm.trans q2
  cases hnamed.symm.trans q3
  have hselP : selectMethod e.platform s.vm cellB.cls mk = .method mk := by rw [Launch.admits_selectMethod X.admits]; exact q4
  obtain ⟨vm₁, X₁, hstep₁⟩ := X.invokevirtual hexec hown hlink hnamed hmethM hstM hkP hkPi hy (a := b) (cell := cellB) hcell
    (fun z h => by rw [h] at hobj; cases hobj) hselP hmethM habM hkP hkPi (g := g) hg (argsL := argsL) (rest := rest) (hlen _ hsigM) hstack hdg
  obtain ⟨v, B, X', hpost, hsteps⟩ := hK m meth c ⟨T.setVm vm₁, locs, cells, slots⟩ { g with stack := rest } (.invokevirtual index) mk (Value.ref b :: argsL).toArray X₁ hg hsize hdg hW (X₁.named hnamed) (hpre vm₁ X₁.warmed)
  exact ⟨v, vm₁, B, X₁.warmed, X', hpost, fun target h => hstep₁ _ fun acts => by rw [doInvoke_state]; exact hsteps.trans h⟩
abbrev vx_CVW (R : Room) (s : State) (args : Array Value) (own C : String) (index : Nat) (y : MethodName) (bytes : ByteArray) (maxL : Nat) (ret : Option FieldType) (hh : List (Nat × Nat × Nat × Nat)) (ws : List Cond) (rm : Room) (mc ms n : Nat) : Prop :=
  (rm.cells = mc ∧ rm.slots = ms ∧ rm.frames + 1 ≤ R.frames ∧ 8 + (maxL + 11) + rm.locals ≤ R.locals ∧ (∀ w ∈ ws, ∀ (a' : Array Value) (U : State), s.WarmedH U.vm → w.before a' U = true) ∧ Cond.codeWith y bytes maxL ret hh ∈ ws) ∧
  (Cond.codeWith y bytes maxL ret hh).before args s = true ∧ (Cond.initialized y.cls).before args s = true ∧ (y.cls ≠ "java/lang/invoke/MethodHandle" ∧ y.cls ≠ "java/lang/invoke/VarHandle") ∧
  (∀ sig, parseMethodDescriptor y.desc = some sig → n = sig.parameters.length) ∧ (Cond.methodLink own index y).before args s = true ∧ (Cond.instanceMethod y).before args s = true ∧ (Cond.selects C y y).before args s = true
theorem vx_cwVW {own C : String} {index maxL mc ms : Nat} {y : MethodName} {bytes : ByteArray} {ret : Option FieldType} {hh : List (Nat × Nat × Nat × Nat)} {Ts ws ws' : List Cond} {rm : Room} (n : Nat) (ht : ∀ w ∈ Ts, w.before args s = true) (hT : GoodIn Ts (wsV own index C y ws)) (hw : ws = Cond.codeWith y bytes maxL ret hh :: ws') (hrc : rm.cells = mc) (hrs : rm.slots = ms)
    (hd : y.cls = C ∧ y.cls ≠ "java/lang/invoke/MethodHandle" ∧ y.cls ≠ "java/lang/invoke/VarHandle" ∧ (parseMethodDescriptor y.desc).map (fun d => d.parameters.length) = some n) (hR : rm.frames + 1 ≤ R.frames ∧ 8 + (maxL + 11) + rm.locals ≤ R.locals) :
    vx_CVW R s args own C index y bytes maxL ret hh ws rm mc ms n := by
  obtain ⟨hC, hd⟩ := hd
  subst hC
  have ok : ∀ w ∈ wsV own index y.cls y ws, w.before args s = true := fun w h => ht w (hT w h).1
  have hG : GoodIn Ts ws := fun w h => hT w (by unfold wsV; exact List.mem_append_right _ h)
  have hc : Cond.codeWith y bytes maxL ret hh ∈ ws := by rw [hw]; exact List.mem_cons_self
  refine ⟨⟨hrc, hrs, hR.1, hR.2, pay_in ht hG, hc⟩, ht _ (hG _ hc).1, ok _ (by simp [wsV]), ⟨hd.1, hd.2.1⟩, fun sig h => ?_, ok _ (by simp [wsV]), ok _ (by simp [wsV]), ok _ (by simp [wsV])⟩
  have h2 := hd.2.2
  rw [h] at h2
  exact (Option.some.inj h2).symm
theorem vx_runVW {y : MethodName} {bytes cc : ByteArray} {maxL nL mc ms n index : Nat} {ret : Option FieldType} {hh : List (Nat × Nat × Nat × Nat)} {ws : List Cond} {rm : Room} {Pc : Array Value → State → Prop} {Qc : Array Value → State → Outcome → State → Prop} {free : Addr → Prop} {Ts : List Cond} {own C : String} {b : Addr} {As rest : List Value} {g : JFrame}
    (S : CallFix p m c cc nL s args Ts own) (hM : Met l y ws rm Pc Qc mc ms free) (cw : vx_CVW R s args own C index y bytes maxL ret hh ws rm mc ms n) (hp : PreV s H C b Pc As)
    (hg : g.method = m) (hn : As.length = n) (hsize : g.locals.size = nL) (hstack : g.stack = As.reverse ++ .ref b :: rest) (hW : 2 * g.monitorRoom + (rest.map fun v => v.category).sum ≤ 8) (hdg : decode cc g.pc = .ok (.invokevirtual index, 3)) (hf : cells + mc ≤ R.cells ∧ slots + ms ≤ R.slots) :
    va_Run p l e R s m args below meth c H locs cells slots mc ms g rest (Qc (Value.ref b :: As).toArray) free := by
  obtain ⟨⟨hrc, hrs, hfr, hlo, hws, hcw⟩, hcode, hini, hy, hlen, hl, hin, hse⟩ := cw
  have hK : Back l R p e below s args y 3 8 (PreOf R mc ms Pc) (PostOf Qc mc ms free) := va_backW (hh := hh) (bytes := bytes) (maxL := maxL) (ret := ret) hM hp.1 hrc hrs hfr hlo hws hcw (fun a' U hW => word_at hW (Or.inl (by first | rfl | simp [Cond.onTables, Cond.keeps, Cond.steady])) hini)
  obtain ⟨hx, hb, hml, ho, -⟩ := S
  obtain ⟨-, ⟨cellB, hcB, hoB, hclB⟩, hPc⟩ := hp
  intro T hT X
  obtain ⟨v, vm₁, ⟨U', l2, c2, s2⟩, hW₁, X', ⟨g', mk, t, L, e1, e2, hq, h1, hL, h2, h3⟩, st⟩ := vx_callVW X hx (C := C) (hh := hh) (bytes := bytes) (maxL := maxL) (ret := ret) ho hl hin hse hcode hy hK (by rw [hT]; exact hcB) hoB hclB hg (hsize.trans hml.symm) (argsL := As) (rest := rest) (fun sig h => hn.trans (hlen sig h)) hstack hW (by rw [hb]; exact hdg)
    (fun vm₁ hW₁ => ⟨hf.1, hf.2, hPc (T.setVm vm₁) hT hW₁⟩)
  dsimp only [Pt.U, Pt.locs, Pt.cells, Pt.slots] at X' e1 e2 h1 h2 h3 st
  subst h1; subst h2; subst h3
  exact ⟨v, (T.setVm vm₁).calling g' mk (Value.ref b :: As).toArray, t, U', L, hT, X', hL, e1, e2, hq, st⟩
section
variable {y : MethodName} {bytes cc : ByteArray} {maxL nL mc ms n index : Nat} {ret : Option FieldType} {ws : List Cond} {rm : Room} {Pc : Array Value → State → Prop} {Qc : Array Value → State → Outcome → State → Prop} {XC : String → State → State → Prop} {free : Addr → Prop} {Ts : List Cond} {own C : String} {b : Addr} {As rest : List Value} {g : JFrame}
theorem vx_runVX {hh : List (Nat × Nat × Nat × Nat)} (S : CallFix p m c cc nL s args Ts own) (hM : vx_Met l y ws rm Pc Qc XC mc ms free) (cw : vx_CVW R s args own C index y bytes maxL ret hh ws rm mc ms n) (hp : PreV s H C b Pc As)
    (hg : g.method = m) (hn : As.length = n) (hsize : g.locals.size = nL) (hstack : g.stack = As.reverse ++ .ref b :: rest) (hW : 2 * g.monitorRoom + (rest.map fun v => v.category).sum ≤ 8) (hdg : decode cc g.pc = .ok (.invokevirtual index, 3)) (hf : cells + mc ≤ R.cells ∧ slots + ms ≤ R.slots) :
    vx_Run p l e R s m args below meth c H locs cells slots mc ms g rest (Qc (Value.ref b :: As).toArray) XC free := by
  obtain ⟨⟨hrc, hrs, hfr, hlo, hws, hcw⟩, hcode, hini, hy, hlen, hl, hin, hse⟩ := cw
  have hK : vx_Back l R p e below s args y 3 8 (PreOf R mc ms Pc) (PostOf Qc mc ms free) (vx_Post XC mc ms free) := vx_backW (hh := hh) (bytes := bytes) (maxL := maxL) (ret := ret) hM hp.1 hrc hrs hfr hlo hws hcw (fun a' U hW => word_at hW (Or.inl (by first | rfl | simp [Cond.onTables, Cond.keeps, Cond.steady])) hini)
  obtain ⟨hx, hb, hml, ho, -⟩ := S
  obtain ⟨-, ⟨cellB, hcB, hoB, hclB⟩, hPc⟩ := hp
  intro T hT X
  rcases vx_callVX X hx (C := C) (hh := hh) (bytes := bytes) (maxL := maxL) (ret := ret) ho hl hin hse hcode hy hK (by rw [hT]; exact hcB) hoB hclB hg (hsize.trans hml.symm) (argsL := As) (rest := rest) (fun sig h => hn.trans (hlen sig h)) hstack hW (by rw [hb]; exact hdg)
    (fun vm₁ hW₁ => ⟨hf.1, hf.2, hPc (T.setVm vm₁) hT hW₁⟩) with ⟨v, vm₁, ⟨U', l2, c2, s2⟩, hW₁, X', ⟨g', mk, t, L, e1, e2, hq, h1, hL, h2, h3⟩, st⟩ | ⟨q, vm₁, ⟨U', l2, c2, s2⟩, hW₁, X', ⟨g', mk, t, L, E, ce, e1, e2, hq, hce, hcv, hcl, h1, hL, h2, h3⟩, st⟩
  · dsimp only [Pt.U, Pt.locs, Pt.cells, Pt.slots] at X' e1 e2 h1 h2 h3 st
    subst h1; subst h2; subst h3
    exact Or.inl ⟨v, (T.setVm vm₁).calling g' mk (Value.ref b :: As).toArray, t, U', L, hT, X', hL, e1, e2, hq, st⟩
  · dsimp only [Pt.U, Pt.locs, Pt.cells, Pt.slots] at X' e1 e2 h1 h2 h3 st hcl
    subst h1; subst h2; subst h3
    exact Or.inr ⟨q, (T.setVm vm₁).calling g' mk (Value.ref b :: As).toArray, t, U', L, E, ce, hT, X', hL, e1, e2, hq, hce, hcv, vx_cls hW₁ hcl, st⟩
theorem vx_runSX {hh : List (Nat × Nat × Nat × Nat)} (S : CallFix p m c cc nL s args Ts own) (hM : vx_Met l y ws rm Pc Qc XC mc ms free) (cw : vx_CSW R s args own index y bytes maxL ret hh ws rm mc ms n) (hp : PreS s H Pc As)
    (hg : g.method = m) (hn : As.length = n) (hsize : g.locals.size = nL) (hstack : g.stack = As.reverse ++ rest) (hW : 2 * g.monitorRoom + (rest.map fun v => v.category).sum ≤ 8) (hdg : decode cc g.pc = .ok (.invokestatic index, 3)) (hf : cells + mc ≤ R.cells ∧ slots + ms ≤ R.slots) :
    vx_Run p l e R s m args below meth c H locs cells slots mc ms g rest (Qc As.toArray) XC free := by
  obtain ⟨⟨hrc, hrs, hfr, hlo, hws, hcw⟩, hcode, hini, hy, hlen, hl, hstt⟩ := cw
  have hK : vx_Back l R p e below s args y 3 8 (PreOf R mc ms Pc) (PostOf Qc mc ms free) (vx_Post XC mc ms free) := vx_backW (hh := hh) (bytes := bytes) (maxL := maxL) (ret := ret) hM hp.1 hrc hrs hfr hlo hws hcw (fun a' U hW => word_at hW (Or.inl (by first | rfl | simp [Cond.onTables, Cond.keeps, Cond.steady])) hini)
  obtain ⟨hx, hb, hml, ho, -⟩ := S
  intro T hT X
  rcases vx_callSX X hx (hh := hh) (bytes := bytes) (maxL := maxL) (ret := ret) ho hl hstt hini hcode hy hK hg (hsize.trans hml.symm) (argsL := As) (rest := rest) (fun sig h => hn.trans (hlen sig h)) hstack hW (by rw [hb]; exact hdg)
    (fun vm₁ hW₁ => ⟨hf.1, hf.2, hp.2 (T.setVm vm₁) hT hW₁⟩) with ⟨v, vm₁, ⟨U', l2, c2, s2⟩, hW₁, X', ⟨g', mk, t, L, e1, e2, hq, h1, hL, h2, h3⟩, st⟩ | ⟨q, vm₁, ⟨U', l2, c2, s2⟩, hW₁, X', ⟨g', mk, t, L, E, ce, e1, e2, hq, hce, hcv, hcl, h1, hL, h2, h3⟩, st⟩
  · dsimp only [Pt.U, Pt.locs, Pt.cells, Pt.slots] at X' e1 e2 h1 h2 h3 st
    subst h1; subst h2; subst h3
    exact Or.inl ⟨v, (T.setVm vm₁).calling g' mk As.toArray, t, U', L, hT, X', hL, e1, e2, hq, st⟩
  · dsimp only [Pt.U, Pt.locs, Pt.cells, Pt.slots] at X' e1 e2 h1 h2 h3 st hcl
    subst h1; subst h2; subst h3
    exact Or.inr ⟨q, (T.setVm vm₁).calling g' mk As.toArray, t, U', L, E, ce, hT, X', hL, e1, e2, hq, hce, hcv, vx_cls hW₁ hcl, st⟩
end
end VXH
theorem vx_ofWH {l : Launch} {y : MethodName} {ws ws' : List Cond} {rm : Room} {Pc : Array Value → State → Prop} {Qc : Array Value → State → Outcome → State → Prop} {XC : String → State → State → Prop} {mc ms : Nat} {free : Addr → Prop} {cc : ByteArray} {maxL : Nat} {ret : Option FieldType} {hh : List (Nat × Nat × Nat × Nat)}
    (hy : plainName y.cls = true) (hw : ws = Cond.codeWith y cc maxL ret hh :: ws')
    (body : ∀ p e s m args below meth c s₁, BodyLoose p l y (headSpec ws rm) cc maxL ret e s m args below meth c s₁ → c.maxLocals = maxL → Pc args s →
      W p l e (headSpec ws rm).room s m args below meth c s.heap [] 0 0 (vx_MQ below Qc XC args s mc ms free) (entryFrame m args maxL)) : vx_Met l y ws rm Pc Qc XC mc ms free := by
  refine MetFree.of_bodyS (code := cc) (maxLocals := maxL) (ret := ret) hy ?_ ?_
  · intro args s m h hn
    obtain ⟨m9, meth, c, hn9, h1, h2, h3, h4, -, h5, h6, -⟩ := Cond.codeWith_spec (atoms_spec (ws := ws) h _ (by rw [hw]; exact List.mem_cons_self))
    cases hn.symm.trans hn9
    exact ⟨meth, c, h1, h2, h3, h4, h5, h6⟩
  · intro p e s m args below meth c s₁ B hml hP _
    have hh0 : s₁.heap = s.heap := by rw [B.state]; rfl
    obtain ⟨t, a1, o, b1, b2, b3⟩ := body p e s m args below meth c s₁ B hml hP s₁ hh0 (Stand.of_body B)
    exact ⟨t, o, a1, b1, b2, b3⟩
/-! ===== END ===== -/
end
section
def RX0 : String := "AlloyPlans$Alloy"
def TX0 : u_T := fun k => match k with
  | 0 => ("AlloyPlans$Alloy", "cents", "I", false)
  | 1 => ("AlloyPlans$Alloy", "kilos", "I", false)
  | 2 => ("AlloyPlans$Alloy", "mostSteps", "I", false)
  | 3 => ("AlloyPlans$Alloy", "thousandths", "I", false)
  | 4 => ("AlloyPlans$Alloy", "cooling", "I", false)
  | 5 => ("AlloyPlans$Alloy", "ends", "[I", true)
  | _ => ("AlloyPlans$Alloy", "gains", "[J", true)
def tyX0 : Nat → FieldType := fun k => match k with
  | 0 => .int
  | 1 => .int
  | 2 => .int
  | 3 => .int
  | 4 => .int
  | 5 => .array .int
  | _ => .array .long
def RX1 : String := "AlloyPlans$Melt"
def TX1 : u_T := fun k => match k with
  | 0 => ("AlloyPlans$Melt", "kilos", "I", false)
  | 1 => ("AlloyPlans$Melt", "additions", "I", false)
  | 2 => ("AlloyPlans$Melt", "cents", "J", false)
  | 3 => ("AlloyPlans$Melt", "presentEnds", "[I", true)
  | _ => ("AlloyPlans$Melt", "aimEnds", "[I", true)
def tyX1 : Nat → FieldType := fun k => match k with
  | 0 => .int
  | 1 => .int
  | 2 => .long
  | 3 => .array .int
  | _ => .array .int
def RX2 : String := "AlloyPlans$Mix"
def TX2 : u_T := fun k => match k with
  | 0 => ("AlloyPlans$Mix", "cents", "I", false)
  | 1 => ("AlloyPlans$Mix", "kinds", "I", false)
  | 2 => ("AlloyPlans$Mix", "heatLeft", "I", false)
  | _ => ("AlloyPlans$Mix", "surplus", "[J", true)
def tyX2 : Nat → FieldType := fun k => match k with
  | 0 => .int
  | 1 => .int
  | 2 => .int
  | _ => .array .long
def RX3 : String := "AlloyPlans$Plan"
def TX3 : u_T := fun k => match k with
  | 0 => ("AlloyPlans$Plan", "stands", "Z", false)
  | 1 => ("AlloyPlans$Plan", "cents", "I", false)
  | 2 => ("AlloyPlans$Plan", "kilos", "I", false)
  | 3 => ("AlloyPlans$Plan", "kinds", "I", false)
  | 4 => ("AlloyPlans$Plan", "cooling", "I", false)
  | _ => ("AlloyPlans$Plan", "taken", "[I", true)
def tyX3 : Nat → FieldType := fun k => match k with
  | 0 => .boolean
  | 1 => .int
  | 2 => .int
  | 3 => .int
  | 4 => .int
  | _ => .array .int
def RX4 : String := "AlloyPlans$Search"
def TX4 : u_T := fun k => match k with
  | 0 => ("AlloyPlans$Search", "found", "Z", false)
  | 1 => ("AlloyPlans$Search", "mostMet", "I", false)
  | 2 => ("AlloyPlans$Search", "best", "[I", true)
  | 3 => ("AlloyPlans$Search", "bestCents", "I", false)
  | 4 => ("AlloyPlans$Search", "bestKinds", "I", false)
  | 5 => ("AlloyPlans$Search", "tried", "[I", true)
  | _ => ("AlloyPlans$Search", "mixes", "[LAlloyPlans$Mix;", true)
def tyX4 : Nat → FieldType := fun k => match k with
  | 0 => .boolean
  | 1 => .int
  | 2 => .array .int
  | 3 => .int
  | 4 => .int
  | 5 => .array .int
  | _ => .array (.object "AlloyPlans$Mix")
def RX5 : String := "AlloyPlans"
def TX5 : u_T := fun k => match k with
  | 0 => ("AlloyPlans", "melt", "LAlloyPlans$Melt;", true)
  | 1 => ("AlloyPlans", "alloys", "[LAlloyPlans$Alloy;", true)
  | 2 => ("AlloyPlans", "plan", "LAlloyPlans$Plan;", true)
  | 3 => ("AlloyPlans", "search", "LAlloyPlans$Search;", true)
  | _ => ("AlloyPlans", "kindCount", "I", false)
def tyX5 : Nat → FieldType := fun k => match k with
  | 0 => .object "AlloyPlans$Melt"
  | 1 => .array (.object "AlloyPlans$Alloy")
  | 2 => .object "AlloyPlans$Plan"
  | 3 => .object "AlloyPlans$Search"
  | _ => .int
theorem nmX0 : ∀ a, a < 7 → ∀ b, b < 7 → a ≠ b → (TX0 a).2.1 ≠ (TX0 b).2.1 := by decide +kernel
theorem tyX0_ok : ∀ k, k < 7 → parseFieldDescriptor (TX0 k).2.2.1 = some (tyX0 k) := by decide +kernel
theorem nmX1 : ∀ a, a < 5 → ∀ b, b < 5 → a ≠ b → (TX1 a).2.1 ≠ (TX1 b).2.1 := by decide +kernel
theorem tyX1_ok : ∀ k, k < 5 → parseFieldDescriptor (TX1 k).2.2.1 = some (tyX1 k) := by decide +kernel
theorem nmX2 : ∀ a, a < 4 → ∀ b, b < 4 → a ≠ b → (TX2 a).2.1 ≠ (TX2 b).2.1 := by decide +kernel
theorem tyX2_ok : ∀ k, k < 4 → parseFieldDescriptor (TX2 k).2.2.1 = some (tyX2 k) := by decide +kernel
theorem nmX3 : ∀ a, a < 6 → ∀ b, b < 6 → a ≠ b → (TX3 a).2.1 ≠ (TX3 b).2.1 := by decide +kernel
theorem tyX3_ok : ∀ k, k < 6 → parseFieldDescriptor (TX3 k).2.2.1 = some (tyX3 k) := by decide +kernel
theorem nmX4 : ∀ a, a < 7 → ∀ b, b < 7 → a ≠ b → (TX4 a).2.1 ≠ (TX4 b).2.1 := by decide +kernel
theorem tyX4_ok : ∀ k, k < 7 → parseFieldDescriptor (TX4 k).2.2.1 = some (tyX4 k) := by decide +kernel
theorem nmX5 : ∀ a, a < 5 → ∀ b, b < 5 → a ≠ b → (TX5 a).2.1 ≠ (TX5 b).2.1 := by decide +kernel
theorem tyX5_ok : ∀ k, k < 5 → parseFieldDescriptor (TX5 k).2.2.1 = some (tyX5 k) := by decide +kernel
def RX6 : String := "AlloyPlansModel"
def TX6 : u_T := fun k => match k with
  | 0 => ("AlloyPlansModel", "thrown", "I", false)
  | 1 => ("AlloyPlansModel", "kilos", "I", false)
  | 2 => ("AlloyPlansModel", "presentLow", "[I", true)
  | 3 => ("AlloyPlansModel", "presentHigh", "[I", true)
  | 4 => ("AlloyPlansModel", "aimLow", "[I", true)
  | 5 => ("AlloyPlansModel", "aimHigh", "[I", true)
  | 6 => ("AlloyPlansModel", "kinds", "I", false)
  | 7 => ("AlloyPlansModel", "cents", "[I", true)
  | 8 => ("AlloyPlansModel", "each", "[I", true)
  | 9 => ("AlloyPlansModel", "most", "[I", true)
  | 10 => ("AlloyPlansModel", "low", "[I", true)
  | 11 => ("AlloyPlansModel", "high", "[I", true)
  | 12 => ("AlloyPlansModel", "stays", "[I", true)
  | 13 => ("AlloyPlansModel", "cools", "[I", true)
  | 14 => ("AlloyPlansModel", "planned", "Z", false)
  | 15 => ("AlloyPlansModel", "plan", "[I", true)
  | 16 => ("AlloyPlansModel", "tried", "[I", true)
  | 17 => ("AlloyPlansModel", "added", "I", false)
  | _ => ("AlloyPlansModel", "paid", "J", false)
def tyX6 : Nat → FieldType := fun k => match k with
  | 0 => .int
  | 1 => .int
  | 2 => .array .int
  | 3 => .array .int
  | 4 => .array .int
  | 5 => .array .int
  | 6 => .int
  | 7 => .array .int
  | 8 => .array .int
  | 9 => .array .int
  | 10 => .array .int
  | 11 => .array .int
  | 12 => .array .int
  | 13 => .array .int
  | 14 => .boolean
  | 15 => .array .int
  | 16 => .array .int
  | 17 => .int
  | _ => .long
theorem nmX6 : ∀ a, a < 19 → ∀ b, b < 19 → a ≠ b → (TX6 a).2.1 ≠ (TX6 b).2.1 := by decide +kernel
theorem tyX6_ok : ∀ k, k < 19 → parseFieldDescriptor (TX6 k).2.2.1 = some (tyX6 k) := by decide +kernel
theorem in_A : ∀ w ∈ u_ws RX0 TX0 7, w ∈ TB := by decide +kernel
theorem in_E : ∀ w ∈ u_ws RX1 TX1 5, w ∈ TB := by decide +kernel
theorem in_X : ∀ w ∈ u_ws RX2 TX2 4, w ∈ TB := by decide +kernel
theorem in_N : ∀ w ∈ u_ws RX3 TX3 6, w ∈ TB := by decide +kernel
theorem in_S : ∀ w ∈ u_ws RX4 TX4 7, w ∈ TB := by decide +kernel
theorem in_P : ∀ w ∈ u_ws RX5 TX5 5, w ∈ TB := by decide +kernel
theorem in_M : ∀ w ∈ u_ws RX6 TX6 19, w ∈ TB := by decide +kernel
abbrev CL : List vw_C := [(RX0, TX0, 7), (RX1, TX1, 5), (RX2, TX2, 4), (RX3, TX3, 6), (RX4, TX4, 7), (RX5, TX5, 5), (RX6, TX6, 19)]
abbrev c_P_init : ByteArray := prog_1_method_1_code
def y_P_init : MethodName := ⟨"AlloyPlans", "<init>", "()V"⟩
abbrev c_P_heat : ByteArray := prog_1_method_2_code
def y_P_heat : MethodName := ⟨"AlloyPlans", "heat", "(I)V"⟩
abbrev c_P_present : ByteArray := prog_1_method_3_code
def y_P_present : MethodName := ⟨"AlloyPlans", "present", "(III)V"⟩
abbrev c_P_aim : ByteArray := prog_1_method_4_code
def y_P_aim : MethodName := ⟨"AlloyPlans", "aim", "(III)V"⟩
abbrev c_P_kind : ByteArray := prog_1_method_5_code
def y_P_kind : MethodName := ⟨"AlloyPlans", "kind", "(III)I"⟩
abbrev c_P_holds : ByteArray := prog_1_method_6_code
def y_P_holds : MethodName := ⟨"AlloyPlans", "holds", "(IIII)V"⟩
abbrev c_P_yields : ByteArray := prog_1_method_7_code
def y_P_yields : MethodName := ⟨"AlloyPlans", "yields", "(III)V"⟩
abbrev c_P_run : ByteArray := prog_1_method_8_code
def y_P_run : MethodName := ⟨"AlloyPlans", "run", "(I)I"⟩
abbrev c_P_steps : ByteArray := prog_1_method_9_code
def y_P_steps : MethodName := ⟨"AlloyPlans", "steps", "(I)I"⟩
abbrev c_P_planned : ByteArray := prog_1_method_10_code
def y_P_planned : MethodName := ⟨"AlloyPlans", "planned", "(I)I"⟩
abbrev c_P_order : ByteArray := prog_1_method_11_code
def y_P_order : MethodName := ⟨"AlloyPlans", "order", "(I)I"⟩
abbrev c_P_after : ByteArray := prog_1_method_12_code
def y_P_after : MethodName := ⟨"AlloyPlans", "after", "(III)J"⟩
abbrev c_P_add : ByteArray := prog_1_method_13_code
def y_P_add : MethodName := ⟨"AlloyPlans", "add", "()I"⟩
abbrev c_P_heatAt : ByteArray := prog_1_method_14_code
def y_P_heatAt : MethodName := ⟨"AlloyPlans", "heatAt", "(I)J"⟩
abbrev c_P_requireIndex : ByteArray := prog_1_method_15_code
def y_P_requireIndex : MethodName := ⟨"AlloyPlans", "requireIndex", "(Z)V"⟩
abbrev c_P_requireRange : ByteArray := prog_1_method_16_code
def y_P_requireRange : MethodName := ⟨"AlloyPlans", "requireRange", "(Z)V"⟩
abbrev c_P_requirePlan : ByteArray := prog_1_method_17_code
def y_P_requirePlan : MethodName := ⟨"AlloyPlans", "requirePlan", "()V"⟩
abbrev c_P_isWithin : ByteArray := prog_1_method_18_code
def y_P_isWithin : MethodName := ⟨"AlloyPlans", "isWithin", "(III)Z"⟩
abbrev c_P_isSpan : ByteArray := prog_1_method_19_code
def y_P_isSpan : MethodName := ⟨"AlloyPlans", "isSpan", "(II)Z"⟩
abbrev c_P_isKind : ByteArray := prog_1_method_20_code
def y_P_isKind : MethodName := ⟨"AlloyPlans", "isKind", "(I)Z"⟩
abbrev c_P_isLowEnd : ByteArray := prog_1_method_21_code
def y_P_isLowEnd : MethodName := ⟨"AlloyPlans", "isLowEnd", "(I)Z"⟩
abbrev c_P_tell : ByteArray := prog_1_method_22_code
def y_P_tell : MethodName := ⟨"AlloyPlans", "tell", "([IIII)V"⟩
abbrev c_P_countAddedBefore : ByteArray := prog_1_method_23_code
def y_P_countAddedBefore : MethodName := ⟨"AlloyPlans", "countAddedBefore", "(I)I"⟩
abbrev c_P_isAddedBefore : ByteArray := prog_1_method_24_code
def y_P_isAddedBefore : MethodName := ⟨"AlloyPlans", "isAddedBefore", "(II)Z"⟩
abbrev c_P_heldByPlan : ByteArray := prog_1_method_25_code
def y_P_heldByPlan : MethodName := ⟨"AlloyPlans", "heldByPlan", "(I)J"⟩
abbrev c_P_wholeByPlan : ByteArray := prog_1_method_26_code
def y_P_wholeByPlan : MethodName := ⟨"AlloyPlans", "wholeByPlan", "()J"⟩
abbrev c_P_roundedByPlan : ByteArray := prog_1_method_27_code
def y_P_roundedByPlan : MethodName := ⟨"AlloyPlans", "roundedByPlan", "(I)I"⟩
abbrev c_P_quotient : ByteArray := prog_1_method_28_code
def y_P_quotient : MethodName := ⟨"AlloyPlans", "quotient", "(JJ)J"⟩
abbrev c_P_commonDivisor : ByteArray := prog_1_method_29_code
def y_P_commonDivisor : MethodName := ⟨"AlloyPlans", "commonDivisor", "(JJ)J"⟩
abbrev c_P_surplusAt : ByteArray := prog_1_method_30_code
def y_P_surplusAt : MethodName := ⟨"AlloyPlans", "surplusAt", "(IJJ)J"⟩
abbrev c_M_init : ByteArray := prog_8_method_1_code
def y_M_init : MethodName := ⟨"AlloyPlansModel", "<init>", "()V"⟩
abbrev c_M_thrown : ByteArray := prog_8_method_2_code
def y_M_thrown : MethodName := ⟨"AlloyPlansModel", "thrown", "()I"⟩
abbrev c_M_in : ByteArray := prog_8_method_3_code
def y_M_in : MethodName := ⟨"AlloyPlansModel", "in", "(III)Z"⟩
abbrev c_M_goes : ByteArray := prog_8_method_4_code
def y_M_goes : MethodName := ⟨"AlloyPlansModel", "goes", "(ZZ)Z"⟩
abbrev c_M_isElement : ByteArray := prog_8_method_5_code
def y_M_isElement : MethodName := ⟨"AlloyPlansModel", "isElement", "(I)Z"⟩
abbrev c_M_isKind : ByteArray := prog_8_method_6_code
def y_M_isKind : MethodName := ⟨"AlloyPlansModel", "isKind", "(I)Z"⟩
abbrev c_M_areShares : ByteArray := prog_8_method_7_code
def y_M_areShares : MethodName := ⟨"AlloyPlansModel", "areShares", "(II)Z"⟩
abbrev c_M_heat : ByteArray := prog_8_method_8_code
def y_M_heat : MethodName := ⟨"AlloyPlansModel", "heat", "(I)V"⟩
abbrev c_M_present : ByteArray := prog_8_method_9_code
def y_M_present : MethodName := ⟨"AlloyPlansModel", "present", "(III)V"⟩
abbrev c_M_aim : ByteArray := prog_8_method_10_code
def y_M_aim : MethodName := ⟨"AlloyPlansModel", "aim", "(III)V"⟩
abbrev c_M_kind : ByteArray := prog_8_method_11_code
def y_M_kind : MethodName := ⟨"AlloyPlansModel", "kind", "(III)I"⟩
abbrev c_M_holds : ByteArray := prog_8_method_12_code
def y_M_holds : MethodName := ⟨"AlloyPlansModel", "holds", "(IIII)V"⟩
abbrev c_M_yields : ByteArray := prog_8_method_13_code
def y_M_yields : MethodName := ⟨"AlloyPlansModel", "yields", "(III)V"⟩
abbrev c_M_weight : ByteArray := prog_8_method_14_code
def y_M_weight : MethodName := ⟨"AlloyPlansModel", "weight", "()I"⟩
abbrev c_M_cost : ByteArray := prog_8_method_15_code
def y_M_cost : MethodName := ⟨"AlloyPlansModel", "cost", "()I"⟩
abbrev c_M_used : ByteArray := prog_8_method_16_code
def y_M_used : MethodName := ⟨"AlloyPlansModel", "used", "()I"⟩
abbrev c_M_cooling : ByteArray := prog_8_method_17_code
def y_M_cooling : MethodName := ⟨"AlloyPlansModel", "cooling", "()I"⟩
abbrev c_M_amount : ByteArray := prog_8_method_18_code
def y_M_amount : MethodName := ⟨"AlloyPlansModel", "amount", "(II)J"⟩
abbrev c_M_isMet : ByteArray := prog_8_method_19_code
def y_M_isMet : MethodName := ⟨"AlloyPlansModel", "isMet", "(I)Z"⟩
abbrev c_M_sets : ByteArray := prog_8_method_20_code
def y_M_sets : MethodName := ⟨"AlloyPlansModel", "sets", "(I)Z"⟩
abbrev c_M_run : ByteArray := prog_8_method_21_code
def y_M_run : MethodName := ⟨"AlloyPlansModel", "run", "(I)I"⟩
abbrev c_M_load : ByteArray := prog_8_method_22_code
def y_M_load : MethodName := ⟨"AlloyPlansModel", "load", "()V"⟩
abbrev c_M_steps : ByteArray := prog_8_method_23_code
def y_M_steps : MethodName := ⟨"AlloyPlansModel", "steps", "(I)I"⟩
abbrev c_M_planned : ByteArray := prog_8_method_24_code
def y_M_planned : MethodName := ⟨"AlloyPlansModel", "planned", "(I)I"⟩
abbrev c_M_order : ByteArray := prog_8_method_25_code
def y_M_order : MethodName := ⟨"AlloyPlansModel", "order", "(I)I"⟩
abbrev c_M_after : ByteArray := prog_8_method_26_code
def y_M_after : MethodName := ⟨"AlloyPlansModel", "after", "(III)J"⟩
abbrev c_M_add : ByteArray := prog_8_method_27_code
def y_M_add : MethodName := ⟨"AlloyPlansModel", "add", "()I"⟩
abbrev c_M_heatAt : ByteArray := prog_8_method_28_code
def y_M_heatAt : MethodName := ⟨"AlloyPlansModel", "heatAt", "(I)J"⟩
abbrev c_A_init : ByteArray := prog_2_method_1_code
def y_A_init : MethodName := ⟨"AlloyPlans$Alloy", "<init>", "()V"⟩
abbrev c_A_coolingOfStep : ByteArray := prog_2_method_2_code
def y_A_coolingOfStep : MethodName := ⟨"AlloyPlans$Alloy", "coolingOfStep", "()I"⟩
abbrev c_A_heldInStepAt : ByteArray := prog_2_method_3_code
def y_A_heldInStepAt : MethodName := ⟨"AlloyPlans$Alloy", "heldInStepAt", "(I)J"⟩
abbrev c_A_weighAgainst : ByteArray := prog_2_method_4_code
def y_A_weighAgainst : MethodName := ⟨"AlloyPlans$Alloy", "weighAgainst", "([I)V"⟩
abbrev c_E_init : ByteArray := prog_3_method_1_code
def y_E_init : MethodName := ⟨"AlloyPlans$Melt", "<init>", "()V"⟩
abbrev c_E_heldAt : ByteArray := prog_3_method_2_code
def y_E_heldAt : MethodName := ⟨"AlloyPlans$Melt", "heldAt", "(I)J"⟩
abbrev c_E_surplusOfHeat : ByteArray := prog_3_method_3_code
def y_E_surplusOfHeat : MethodName := ⟨"AlloyPlans$Melt", "surplusOfHeat", "(I)J"⟩
abbrev c_X_init : ByteArray := prog_4_method_1_code
def y_X_init : MethodName := ⟨"AlloyPlans$Mix", "<init>", "()V"⟩
abbrev c_X_becomeHeat : ByteArray := prog_4_method_2_code
def y_X_becomeHeat : MethodName := ⟨"AlloyPlans$Mix", "becomeHeat", "(LAlloyPlans$Melt;I)V"⟩
abbrev c_X_becomeLike : ByteArray := prog_4_method_3_code
def y_X_becomeLike : MethodName := ⟨"AlloyPlans$Mix", "becomeLike", "(LAlloyPlans$Mix;)V"⟩
abbrev c_X_takeStep : ByteArray := prog_4_method_4_code
def y_X_takeStep : MethodName := ⟨"AlloyPlans$Mix", "takeStep", "(LAlloyPlans$Alloy;Z)V"⟩
abbrev c_X_countMet : ByteArray := prog_4_method_5_code
def y_X_countMet : MethodName := ⟨"AlloyPlans$Mix", "countMet", "()I"⟩
abbrev c_N_init : ByteArray := prog_5_method_1_code
def y_N_init : MethodName := ⟨"AlloyPlans$Plan", "<init>", "()V"⟩
abbrev c_N_forget : ByteArray := prog_5_method_2_code
def y_N_forget : MethodName := ⟨"AlloyPlans$Plan", "forget", "()V"⟩
abbrev c_N_isTaken : ByteArray := prog_5_method_3_code
def y_N_isTaken : MethodName := ⟨"AlloyPlans$Plan", "isTaken", "(I)Z"⟩
abbrev c_N_settle : ByteArray := prog_5_method_4_code
def y_N_settle : MethodName := ⟨"AlloyPlans$Plan", "settle", "([I[LAlloyPlans$Alloy;I)V"⟩
abbrev c_S_init : ByteArray := prog_6_method_1_code
def y_S_init : MethodName := ⟨"AlloyPlans$Search", "<init>", "()V"⟩
abbrev c_S_begin : ByteArray := prog_6_method_2_code
def y_S_begin : MethodName := ⟨"AlloyPlans$Search", "begin", "(LAlloyPlans$Melt;[LAlloyPlans$Alloy;II)V"⟩
abbrev c_S_tryKindsFrom : ByteArray := prog_6_method_3_code
def y_S_tryKindsFrom : MethodName := ⟨"AlloyPlans$Search", "tryKindsFrom", "(I[LAlloyPlans$Alloy;I)V"⟩
abbrev c_S_isWorthTrying : ByteArray := prog_6_method_4_code
def y_S_isWorthTrying : MethodName := ⟨"AlloyPlans$Search", "isWorthTrying", "(LAlloyPlans$Mix;)Z"⟩
abbrev c_S_judge : ByteArray := prog_6_method_5_code
def y_S_judge : MethodName := ⟨"AlloyPlans$Search", "judge", "(LAlloyPlans$Mix;)V"⟩
abbrev c_L_heat : ByteArray := method_3_code
def y_L_heat : MethodName := ⟨"AlloyPlansLaw", "heat", "(LAlloyPlans;I)I"⟩
abbrev c_L_present : ByteArray := method_4_code
def y_L_present : MethodName := ⟨"AlloyPlansLaw", "present", "(LAlloyPlans;III)I"⟩
abbrev c_L_aim : ByteArray := method_5_code
def y_L_aim : MethodName := ⟨"AlloyPlansLaw", "aim", "(LAlloyPlans;III)I"⟩
abbrev c_L_kind : ByteArray := method_6_code
def y_L_kind : MethodName := ⟨"AlloyPlansLaw", "kind", "(LAlloyPlans;III[J)I"⟩
abbrev c_L_holds : ByteArray := method_7_code
def y_L_holds : MethodName := ⟨"AlloyPlansLaw", "holds", "(LAlloyPlans;IIII)I"⟩
abbrev c_L_yields : ByteArray := method_8_code
def y_L_yields : MethodName := ⟨"AlloyPlansLaw", "yields", "(LAlloyPlans;III)I"⟩
abbrev c_L_run : ByteArray := method_9_code
def y_L_run : MethodName := ⟨"AlloyPlansLaw", "run", "(LAlloyPlans;I[J)I"⟩
abbrev c_L_steps : ByteArray := method_10_code
def y_L_steps : MethodName := ⟨"AlloyPlansLaw", "steps", "(LAlloyPlans;I[J)I"⟩
abbrev c_L_planned : ByteArray := method_11_code
def y_L_planned : MethodName := ⟨"AlloyPlansLaw", "planned", "(LAlloyPlans;I[J)I"⟩
abbrev c_L_order : ByteArray := method_12_code
def y_L_order : MethodName := ⟨"AlloyPlansLaw", "order", "(LAlloyPlans;I[J)I"⟩
abbrev c_L_after : ByteArray := method_13_code
def y_L_after : MethodName := ⟨"AlloyPlansLaw", "after", "(LAlloyPlans;III[J)I"⟩
abbrev c_L_add : ByteArray := method_14_code
def y_L_add : MethodName := ⟨"AlloyPlansLaw", "add", "(LAlloyPlans;[J)I"⟩
abbrev c_L_heatAt : ByteArray := method_15_code
def y_L_heatAt : MethodName := ⟨"AlloyPlansLaw", "heatAt", "(LAlloyPlans;I[J)I"⟩
abbrev c_L_law : ByteArray := code
def y_L_law : MethodName := ⟨"AlloyPlansLaw", "law", "([I)Z"⟩
end
section
theorem ci_L : Cond.initialized "AlloyPlansLaw" ∈ TB := tb_mem (List.mem_of_getElem? (i := 0) (by decide +kernel)) rfl
theorem ci_P : Cond.initialized "AlloyPlans" ∈ TB := tb_mem (List.mem_of_getElem? (i := 1) (by decide +kernel)) rfl
theorem ci_E : Cond.initialized "AlloyPlans$Melt" ∈ TB := tb_mem (List.mem_of_getElem? (i := 2) (by decide +kernel)) rfl
theorem ci_A : Cond.initialized "AlloyPlans$Alloy" ∈ TB := tb_mem (List.mem_of_getElem? (i := 3) (by decide +kernel)) rfl
theorem ci_N : Cond.initialized "AlloyPlans$Plan" ∈ TB := tb_mem (List.mem_of_getElem? (i := 4) (by decide +kernel)) rfl
theorem ci_S : Cond.initialized "AlloyPlans$Search" ∈ TB := tb_mem (List.mem_of_getElem? (i := 5) (by decide +kernel)) rfl
theorem ci_X : Cond.initialized "AlloyPlans$Mix" ∈ TB := tb_mem (List.mem_of_getElem? (i := 6) (by decide +kernel)) rfl
theorem ci_M : Cond.initialized "AlloyPlansModel" ∈ TB := tb_mem (List.mem_of_getElem? (i := 7) (by decide +kernel)) rfl
theorem ci_Throwable : Cond.initialized "java/lang/Throwable" ∈ TB := tb_mem (List.mem_of_getElem? (i := 8) (by decide +kernel)) rfl
theorem ci_Exception : Cond.initialized "java/lang/Exception" ∈ TB := tb_mem (List.mem_of_getElem? (i := 9) (by decide +kernel)) rfl
theorem ci_RuntimeException : Cond.initialized "java/lang/RuntimeException" ∈ TB := tb_mem (List.mem_of_getElem? (i := 10) (by decide +kernel)) rfl
theorem ci_IllegalStateException : Cond.initialized "java/lang/IllegalStateException" ∈ TB := tb_mem (List.mem_of_getElem? (i := 11) (by decide +kernel)) rfl
theorem ci_IllegalArgumentException : Cond.initialized "java/lang/IllegalArgumentException" ∈ TB := tb_mem (List.mem_of_getElem? (i := 12) (by decide +kernel)) rfl
theorem ci_IndexOutOfBoundsException : Cond.initialized "java/lang/IndexOutOfBoundsException" ∈ TB := tb_mem (List.mem_of_getElem? (i := 13) (by decide +kernel)) rfl
theorem ci_UnsupportedOperationException : Cond.initialized "java/lang/UnsupportedOperationException" ∈ TB := tb_mem (List.mem_of_getElem? (i := 14) (by decide +kernel)) rfl
theorem ci_Math : Cond.initialized "java/lang/Math" ∈ TB := tb_mem (List.mem_of_getElem? (i := 15) (by decide +kernel)) rfl
theorem ci_System : Cond.initialized "java/lang/System" ∈ TB := tb_mem (List.mem_of_getElem? (i := 16) (by decide +kernel)) rfl
theorem kl_L_8 : Cond.classLink "AlloyPlansLaw" 8 "AlloyPlans" ∈ TB := tb_mem (List.mem_of_getElem? (i := 17) (by decide +kernel)) rfl
theorem cm_P : Cond.instantiable "AlloyPlans" 5 ∈ TB := tb_mem (List.mem_of_getElem? (i := 18) (by decide +kernel)) rfl
theorem ml_L_64 : Cond.methodLink "AlloyPlansLaw" 64 ⟨"AlloyPlans", "<init>", "()V"⟩ ∈ TB := tb_mem (List.mem_of_getElem? (i := 19) (by decide +kernel)) rfl
theorem im_P_init : Cond.instanceMethod ⟨"AlloyPlans", "<init>", "()V"⟩ ∈ TB := tb_mem (List.mem_of_getElem? (i := 20) (by decide +kernel)) rfl
set_option maxRecDepth 20000 in
theorem w_P_init : Cond.code y_P_init c_P_init 2 none ∈ TB := tb_mem (List.mem_of_getElem? (i := 21) rfl) rfl
theorem ml_P_3 : Cond.methodLink "AlloyPlans" 3 ⟨"java/lang/Object", "<init>", "()V"⟩ ∈ TB := tb_mem (List.mem_of_getElem? (i := 22) (by decide +kernel)) rfl
theorem kl_P_9 : Cond.classLink "AlloyPlans" 9 "AlloyPlans$Melt" ∈ TB := tb_mem (List.mem_of_getElem? (i := 25) (by decide +kernel)) rfl
theorem cm_E : Cond.instantiable "AlloyPlans$Melt" 5 ∈ TB := tb_mem (List.mem_of_getElem? (i := 26) (by decide +kernel)) rfl
theorem ml_P_11 : Cond.methodLink "AlloyPlans" 11 ⟨"AlloyPlans$Melt", "<init>", "()V"⟩ ∈ TB := tb_mem (List.mem_of_getElem? (i := 27) (by decide +kernel)) rfl
theorem im_E_init : Cond.instanceMethod ⟨"AlloyPlans$Melt", "<init>", "()V"⟩ ∈ TB := tb_mem (List.mem_of_getElem? (i := 28) (by decide +kernel)) rfl
set_option maxRecDepth 20000 in
theorem w_E_init : Cond.code y_E_init c_E_init 2 none ∈ TB := tb_mem (List.mem_of_getElem? (i := 29) rfl) rfl
theorem ml_E_3 : Cond.methodLink "AlloyPlans$Melt" 3 ⟨"java/lang/Object", "<init>", "()V"⟩ ∈ TB := tb_mem (List.mem_of_getElem? (i := 30) (by decide +kernel)) rfl
theorem sm_P_isLowEnd : Cond.static ⟨"AlloyPlans", "isLowEnd", "(I)Z"⟩ ∈ TB := tb_mem (List.mem_of_getElem? (i := 32) (by decide +kernel)) rfl
set_option maxRecDepth 20000 in
theorem w_P_isLowEnd : Cond.code y_P_isLowEnd c_P_isLowEnd 1 (some .boolean) ∈ TB := tb_mem (List.mem_of_getElem? (i := 33) rfl) rfl
theorem kc_E_26 : Cond.constant "AlloyPlans$Melt" 26 (100000 : Int32) ∈ TB := tb_mem (List.mem_of_getElem? (i := 34) (by decide +kernel)) rfl
theorem fl_E_9 : Cond.fieldLink "AlloyPlans$Melt" 9 "AlloyPlans$Melt" "kilos" "I" ∈ TB := tb_mem (List.mem_of_getElem? (i := 35) (by decide +kernel)) rfl
theorem fl_P_60 : Cond.fieldLink "AlloyPlans" 60 "AlloyPlans$Melt" "kilos" "I" ∈ TB := tb_mem (List.mem_of_getElem? (i := 36) (by decide +kernel)) rfl
theorem fl_P_41 : Cond.fieldLink "AlloyPlans" 41 "AlloyPlans$Melt" "additions" "I" ∈ TB := tb_mem (List.mem_of_getElem? (i := 37) (by decide +kernel)) rfl
theorem fl_P_172 : Cond.fieldLink "AlloyPlans" 172 "AlloyPlans$Melt" "cents" "J" ∈ TB := tb_mem (List.mem_of_getElem? (i := 38) (by decide +kernel)) rfl
theorem fl_E_15 : Cond.fieldLink "AlloyPlans$Melt" 15 "AlloyPlans$Melt" "presentEnds" "[I" ∈ TB := tb_mem (List.mem_of_getElem? (i := 39) (by decide +kernel)) rfl
theorem fl_P_73 : Cond.fieldLink "AlloyPlans" 73 "AlloyPlans$Melt" "presentEnds" "[I" ∈ TB := tb_mem (List.mem_of_getElem? (i := 40) (by decide +kernel)) rfl
theorem fl_E_19 : Cond.fieldLink "AlloyPlans$Melt" 19 "AlloyPlans$Melt" "aimEnds" "[I" ∈ TB := tb_mem (List.mem_of_getElem? (i := 41) (by decide +kernel)) rfl
theorem fl_S_33 : Cond.fieldLink "AlloyPlans$Search" 33 "AlloyPlans$Melt" "aimEnds" "[I" ∈ TB := tb_mem (List.mem_of_getElem? (i := 42) (by decide +kernel)) rfl
theorem fl_P_81 : Cond.fieldLink "AlloyPlans" 81 "AlloyPlans$Melt" "aimEnds" "[I" ∈ TB := tb_mem (List.mem_of_getElem? (i := 43) (by decide +kernel)) rfl
theorem kl_P_16 : Cond.classLink "AlloyPlans" 16 "AlloyPlans$Alloy" ∈ TB := tb_mem (List.mem_of_getElem? (i := 56) (by decide +kernel)) rfl
theorem cm_A : Cond.instantiable "AlloyPlans$Alloy" 7 ∈ TB := tb_mem (List.mem_of_getElem? (i := 58) (by decide +kernel)) rfl
theorem ml_P_22 : Cond.methodLink "AlloyPlans" 22 ⟨"AlloyPlans$Alloy", "<init>", "()V"⟩ ∈ TB := tb_mem (List.mem_of_getElem? (i := 59) (by decide +kernel)) rfl
theorem im_A_init : Cond.instanceMethod ⟨"AlloyPlans$Alloy", "<init>", "()V"⟩ ∈ TB := tb_mem (List.mem_of_getElem? (i := 60) (by decide +kernel)) rfl
set_option maxRecDepth 20000 in
theorem w_A_init : Cond.code y_A_init c_A_init 1 none ∈ TB := tb_mem (List.mem_of_getElem? (i := 61) rfl) rfl
theorem ml_A_3 : Cond.methodLink "AlloyPlans$Alloy" 3 ⟨"java/lang/Object", "<init>", "()V"⟩ ∈ TB := tb_mem (List.mem_of_getElem? (i := 62) (by decide +kernel)) rfl
theorem fl_X_37 : Cond.fieldLink "AlloyPlans$Mix" 37 "AlloyPlans$Alloy" "cents" "I" ∈ TB := tb_mem (List.mem_of_getElem? (i := 63) (by decide +kernel)) rfl
theorem fl_N_32 : Cond.fieldLink "AlloyPlans$Plan" 32 "AlloyPlans$Alloy" "cents" "I" ∈ TB := tb_mem (List.mem_of_getElem? (i := 64) (by decide +kernel)) rfl
theorem fl_P_90 : Cond.fieldLink "AlloyPlans" 90 "AlloyPlans$Alloy" "cents" "I" ∈ TB := tb_mem (List.mem_of_getElem? (i := 65) (by decide +kernel)) rfl
theorem fl_A_9 : Cond.fieldLink "AlloyPlans$Alloy" 9 "AlloyPlans$Alloy" "kilos" "I" ∈ TB := tb_mem (List.mem_of_getElem? (i := 66) (by decide +kernel)) rfl
theorem fl_N_35 : Cond.fieldLink "AlloyPlans$Plan" 35 "AlloyPlans$Alloy" "kilos" "I" ∈ TB := tb_mem (List.mem_of_getElem? (i := 67) (by decide +kernel)) rfl
theorem fl_P_93 : Cond.fieldLink "AlloyPlans" 93 "AlloyPlans$Alloy" "kilos" "I" ∈ TB := tb_mem (List.mem_of_getElem? (i := 68) (by decide +kernel)) rfl
theorem fl_S_55 : Cond.fieldLink "AlloyPlans$Search" 55 "AlloyPlans$Alloy" "mostSteps" "I" ∈ TB := tb_mem (List.mem_of_getElem? (i := 69) (by decide +kernel)) rfl
theorem fl_P_94 : Cond.fieldLink "AlloyPlans" 94 "AlloyPlans$Alloy" "mostSteps" "I" ∈ TB := tb_mem (List.mem_of_getElem? (i := 70) (by decide +kernel)) rfl
theorem fl_A_15 : Cond.fieldLink "AlloyPlans$Alloy" 15 "AlloyPlans$Alloy" "thousandths" "I" ∈ TB := tb_mem (List.mem_of_getElem? (i := 71) (by decide +kernel)) rfl
theorem fl_P_104 : Cond.fieldLink "AlloyPlans" 104 "AlloyPlans$Alloy" "thousandths" "I" ∈ TB := tb_mem (List.mem_of_getElem? (i := 72) (by decide +kernel)) rfl
theorem fl_A_26 : Cond.fieldLink "AlloyPlans$Alloy" 26 "AlloyPlans$Alloy" "cooling" "I" ∈ TB := tb_mem (List.mem_of_getElem? (i := 73) (by decide +kernel)) rfl
theorem fl_P_107 : Cond.fieldLink "AlloyPlans" 107 "AlloyPlans$Alloy" "cooling" "I" ∈ TB := tb_mem (List.mem_of_getElem? (i := 74) (by decide +kernel)) rfl
theorem fl_A_18 : Cond.fieldLink "AlloyPlans$Alloy" 18 "AlloyPlans$Alloy" "ends" "[I" ∈ TB := tb_mem (List.mem_of_getElem? (i := 75) (by decide +kernel)) rfl
theorem fl_P_101 : Cond.fieldLink "AlloyPlans" 101 "AlloyPlans$Alloy" "ends" "[I" ∈ TB := tb_mem (List.mem_of_getElem? (i := 76) (by decide +kernel)) rfl
theorem fl_A_22 : Cond.fieldLink "AlloyPlans$Alloy" 22 "AlloyPlans$Alloy" "gains" "[J" ∈ TB := tb_mem (List.mem_of_getElem? (i := 77) (by decide +kernel)) rfl
theorem fl_X_44 : Cond.fieldLink "AlloyPlans$Mix" 44 "AlloyPlans$Alloy" "gains" "[J" ∈ TB := tb_mem (List.mem_of_getElem? (i := 78) (by decide +kernel)) rfl
theorem kl_P_23 : Cond.classLink "AlloyPlans" 23 "AlloyPlans$Plan" ∈ TB := tb_mem (List.mem_of_getElem? (i := 95) (by decide +kernel)) rfl
theorem cm_N : Cond.instantiable "AlloyPlans$Plan" 6 ∈ TB := tb_mem (List.mem_of_getElem? (i := 96) (by decide +kernel)) rfl
theorem ml_P_25 : Cond.methodLink "AlloyPlans" 25 ⟨"AlloyPlans$Plan", "<init>", "()V"⟩ ∈ TB := tb_mem (List.mem_of_getElem? (i := 97) (by decide +kernel)) rfl
theorem im_N_init : Cond.instanceMethod ⟨"AlloyPlans$Plan", "<init>", "()V"⟩ ∈ TB := tb_mem (List.mem_of_getElem? (i := 98) (by decide +kernel)) rfl
set_option maxRecDepth 20000 in
theorem w_N_init : Cond.code y_N_init c_N_init 1 none ∈ TB := tb_mem (List.mem_of_getElem? (i := 99) rfl) rfl
theorem ml_N_3 : Cond.methodLink "AlloyPlans$Plan" 3 ⟨"java/lang/Object", "<init>", "()V"⟩ ∈ TB := tb_mem (List.mem_of_getElem? (i := 100) (by decide +kernel)) rfl
theorem fl_N_15 : Cond.fieldLink "AlloyPlans$Plan" 15 "AlloyPlans$Plan" "stands" "Z" ∈ TB := tb_mem (List.mem_of_getElem? (i := 101) (by decide +kernel)) rfl
theorem fl_P_185 : Cond.fieldLink "AlloyPlans" 185 "AlloyPlans$Plan" "stands" "Z" ∈ TB := tb_mem (List.mem_of_getElem? (i := 102) (by decide +kernel)) rfl
theorem fl_N_19 : Cond.fieldLink "AlloyPlans$Plan" 19 "AlloyPlans$Plan" "cents" "I" ∈ TB := tb_mem (List.mem_of_getElem? (i := 103) (by decide +kernel)) rfl
theorem fl_P_139 : Cond.fieldLink "AlloyPlans" 139 "AlloyPlans$Plan" "cents" "I" ∈ TB := tb_mem (List.mem_of_getElem? (i := 104) (by decide +kernel)) rfl
theorem fl_N_23 : Cond.fieldLink "AlloyPlans$Plan" 23 "AlloyPlans$Plan" "kilos" "I" ∈ TB := tb_mem (List.mem_of_getElem? (i := 105) (by decide +kernel)) rfl
theorem fl_P_140 : Cond.fieldLink "AlloyPlans" 140 "AlloyPlans$Plan" "kilos" "I" ∈ TB := tb_mem (List.mem_of_getElem? (i := 106) (by decide +kernel)) rfl
theorem fl_N_26 : Cond.fieldLink "AlloyPlans$Plan" 26 "AlloyPlans$Plan" "kinds" "I" ∈ TB := tb_mem (List.mem_of_getElem? (i := 107) (by decide +kernel)) rfl
theorem fl_P_141 : Cond.fieldLink "AlloyPlans" 141 "AlloyPlans$Plan" "kinds" "I" ∈ TB := tb_mem (List.mem_of_getElem? (i := 108) (by decide +kernel)) rfl
theorem fl_N_29 : Cond.fieldLink "AlloyPlans$Plan" 29 "AlloyPlans$Plan" "cooling" "I" ∈ TB := tb_mem (List.mem_of_getElem? (i := 109) (by decide +kernel)) rfl
theorem fl_P_144 : Cond.fieldLink "AlloyPlans" 144 "AlloyPlans$Plan" "cooling" "I" ∈ TB := tb_mem (List.mem_of_getElem? (i := 110) (by decide +kernel)) rfl
theorem fl_N_9 : Cond.fieldLink "AlloyPlans$Plan" 9 "AlloyPlans$Plan" "taken" "[I" ∈ TB := tb_mem (List.mem_of_getElem? (i := 111) (by decide +kernel)) rfl
theorem fl_P_136 : Cond.fieldLink "AlloyPlans" 136 "AlloyPlans$Plan" "taken" "[I" ∈ TB := tb_mem (List.mem_of_getElem? (i := 112) (by decide +kernel)) rfl
theorem kl_P_30 : Cond.classLink "AlloyPlans" 30 "AlloyPlans$Search" ∈ TB := tb_mem (List.mem_of_getElem? (i := 126) (by decide +kernel)) rfl
theorem cm_S : Cond.instantiable "AlloyPlans$Search" 7 ∈ TB := tb_mem (List.mem_of_getElem? (i := 127) (by decide +kernel)) rfl
theorem ml_P_32 : Cond.methodLink "AlloyPlans" 32 ⟨"AlloyPlans$Search", "<init>", "()V"⟩ ∈ TB := tb_mem (List.mem_of_getElem? (i := 128) (by decide +kernel)) rfl
theorem im_S_init : Cond.instanceMethod ⟨"AlloyPlans$Search", "<init>", "()V"⟩ ∈ TB := tb_mem (List.mem_of_getElem? (i := 129) (by decide +kernel)) rfl
set_option maxRecDepth 20000 in
theorem w_S_init : Cond.code y_S_init c_S_init 2 none ∈ TB := tb_mem (List.mem_of_getElem? (i := 130) rfl) rfl
theorem ml_S_3 : Cond.methodLink "AlloyPlans$Search" 3 ⟨"java/lang/Object", "<init>", "()V"⟩ ∈ TB := tb_mem (List.mem_of_getElem? (i := 131) (by decide +kernel)) rfl
theorem kl_S_18 : Cond.classLink "AlloyPlans$Search" 18 "AlloyPlans$Mix" ∈ TB := tb_mem (List.mem_of_getElem? (i := 132) (by decide +kernel)) rfl
theorem cm_X : Cond.instantiable "AlloyPlans$Mix" 4 ∈ TB := tb_mem (List.mem_of_getElem? (i := 134) (by decide +kernel)) rfl
theorem ml_S_24 : Cond.methodLink "AlloyPlans$Search" 24 ⟨"AlloyPlans$Mix", "<init>", "()V"⟩ ∈ TB := tb_mem (List.mem_of_getElem? (i := 135) (by decide +kernel)) rfl
theorem im_X_init : Cond.instanceMethod ⟨"AlloyPlans$Mix", "<init>", "()V"⟩ ∈ TB := tb_mem (List.mem_of_getElem? (i := 136) (by decide +kernel)) rfl
set_option maxRecDepth 20000 in
theorem w_X_init : Cond.code y_X_init c_X_init 1 none ∈ TB := tb_mem (List.mem_of_getElem? (i := 137) rfl) rfl
theorem ml_X_3 : Cond.methodLink "AlloyPlans$Mix" 3 ⟨"java/lang/Object", "<init>", "()V"⟩ ∈ TB := tb_mem (List.mem_of_getElem? (i := 138) (by decide +kernel)) rfl
theorem fl_X_15 : Cond.fieldLink "AlloyPlans$Mix" 15 "AlloyPlans$Mix" "cents" "I" ∈ TB := tb_mem (List.mem_of_getElem? (i := 139) (by decide +kernel)) rfl
theorem fl_S_73 : Cond.fieldLink "AlloyPlans$Search" 73 "AlloyPlans$Mix" "cents" "I" ∈ TB := tb_mem (List.mem_of_getElem? (i := 140) (by decide +kernel)) rfl
theorem fl_X_19 : Cond.fieldLink "AlloyPlans$Mix" 19 "AlloyPlans$Mix" "kinds" "I" ∈ TB := tb_mem (List.mem_of_getElem? (i := 141) (by decide +kernel)) rfl
theorem fl_S_79 : Cond.fieldLink "AlloyPlans$Search" 79 "AlloyPlans$Mix" "kinds" "I" ∈ TB := tb_mem (List.mem_of_getElem? (i := 142) (by decide +kernel)) rfl
theorem fl_X_22 : Cond.fieldLink "AlloyPlans$Mix" 22 "AlloyPlans$Mix" "heatLeft" "I" ∈ TB := tb_mem (List.mem_of_getElem? (i := 143) (by decide +kernel)) rfl
theorem fl_S_70 : Cond.fieldLink "AlloyPlans$Search" 70 "AlloyPlans$Mix" "heatLeft" "I" ∈ TB := tb_mem (List.mem_of_getElem? (i := 144) (by decide +kernel)) rfl
theorem fl_X_9 : Cond.fieldLink "AlloyPlans$Mix" 9 "AlloyPlans$Mix" "surplus" "[J" ∈ TB := tb_mem (List.mem_of_getElem? (i := 145) (by decide +kernel)) rfl
theorem fl_S_25 : Cond.fieldLink "AlloyPlans$Search" 25 "AlloyPlans$Search" "found" "Z" ∈ TB := tb_mem (List.mem_of_getElem? (i := 155) (by decide +kernel)) rfl
theorem fl_P_119 : Cond.fieldLink "AlloyPlans" 119 "AlloyPlans$Search" "found" "Z" ∈ TB := tb_mem (List.mem_of_getElem? (i := 156) (by decide +kernel)) rfl
theorem fl_S_29 : Cond.fieldLink "AlloyPlans$Search" 29 "AlloyPlans$Search" "mostMet" "I" ∈ TB := tb_mem (List.mem_of_getElem? (i := 157) (by decide +kernel)) rfl
theorem fl_P_123 : Cond.fieldLink "AlloyPlans" 123 "AlloyPlans$Search" "mostMet" "I" ∈ TB := tb_mem (List.mem_of_getElem? (i := 158) (by decide +kernel)) rfl
theorem fl_S_9 : Cond.fieldLink "AlloyPlans$Search" 9 "AlloyPlans$Search" "best" "[I" ∈ TB := tb_mem (List.mem_of_getElem? (i := 159) (by decide +kernel)) rfl
theorem fl_P_126 : Cond.fieldLink "AlloyPlans" 126 "AlloyPlans$Search" "best" "[I" ∈ TB := tb_mem (List.mem_of_getElem? (i := 160) (by decide +kernel)) rfl
theorem fl_S_76 : Cond.fieldLink "AlloyPlans$Search" 76 "AlloyPlans$Search" "bestCents" "I" ∈ TB := tb_mem (List.mem_of_getElem? (i := 161) (by decide +kernel)) rfl
theorem fl_S_82 : Cond.fieldLink "AlloyPlans$Search" 82 "AlloyPlans$Search" "bestKinds" "I" ∈ TB := tb_mem (List.mem_of_getElem? (i := 162) (by decide +kernel)) rfl
theorem fl_S_15 : Cond.fieldLink "AlloyPlans$Search" 15 "AlloyPlans$Search" "tried" "[I" ∈ TB := tb_mem (List.mem_of_getElem? (i := 163) (by decide +kernel)) rfl
theorem fl_S_20 : Cond.fieldLink "AlloyPlans$Search" 20 "AlloyPlans$Search" "mixes" "[LAlloyPlans$Mix;" ∈ TB := tb_mem (List.mem_of_getElem? (i := 164) (by decide +kernel)) rfl
theorem fl_P_12 : Cond.fieldLink "AlloyPlans" 12 "AlloyPlans" "melt" "LAlloyPlans$Melt;" ∈ TB := tb_mem (List.mem_of_getElem? (i := 180) (by decide +kernel)) rfl
theorem fl_P_18 : Cond.fieldLink "AlloyPlans" 18 "AlloyPlans" "alloys" "[LAlloyPlans$Alloy;" ∈ TB := tb_mem (List.mem_of_getElem? (i := 181) (by decide +kernel)) rfl
theorem fl_P_26 : Cond.fieldLink "AlloyPlans" 26 "AlloyPlans" "plan" "LAlloyPlans$Plan;" ∈ TB := tb_mem (List.mem_of_getElem? (i := 182) (by decide +kernel)) rfl
theorem fl_P_33 : Cond.fieldLink "AlloyPlans" 33 "AlloyPlans" "search" "LAlloyPlans$Search;" ∈ TB := tb_mem (List.mem_of_getElem? (i := 183) (by decide +kernel)) rfl
theorem fl_P_37 : Cond.fieldLink "AlloyPlans" 37 "AlloyPlans" "kindCount" "I" ∈ TB := tb_mem (List.mem_of_getElem? (i := 184) (by decide +kernel)) rfl
theorem ml_L_68 : Cond.methodLink "AlloyPlansLaw" 68 ⟨"AlloyPlansLaw", "heat", "(LAlloyPlans;I)I"⟩ ∈ TB := tb_mem (List.mem_of_getElem? (i := 196) (by decide +kernel)) rfl
theorem sm_L_heat : Cond.static ⟨"AlloyPlansLaw", "heat", "(LAlloyPlans;I)I"⟩ ∈ TB := tb_mem (List.mem_of_getElem? (i := 197) (by decide +kernel)) rfl
set_option maxRecDepth 20000 in
theorem w_L_heat : Cond.codeWith y_L_heat c_L_heat 3 (some .int) [(0, 5, 8, 13), (0, 5, 11, 15)] ∈ TB := tb_mem (List.mem_of_getElem? (i := 198) rfl) rfl
theorem kl_L_13 : Cond.classLink "AlloyPlansLaw" 13 "java/lang/IllegalStateException" ∈ TB := tb_mem (List.mem_of_getElem? (i := 199) (by decide +kernel)) rfl
theorem kl_L_15 : Cond.classLink "AlloyPlansLaw" 15 "java/lang/IllegalArgumentException" ∈ TB := tb_mem (List.mem_of_getElem? (i := 200) (by decide +kernel)) rfl
theorem ml_L_7 : Cond.methodLink "AlloyPlansLaw" 7 ⟨"AlloyPlans", "heat", "(I)V"⟩ ∈ TB := tb_mem (List.mem_of_getElem? (i := 201) (by decide +kernel)) rfl
theorem im_P_heat : Cond.instanceMethod ⟨"AlloyPlans", "heat", "(I)V"⟩ ∈ TB := tb_mem (List.mem_of_getElem? (i := 202) (by decide +kernel)) rfl
theorem se_P_heat : Cond.selects "AlloyPlans" ⟨"AlloyPlans", "heat", "(I)V"⟩ ⟨"AlloyPlans", "heat", "(I)V"⟩ ∈ TB := tb_mem (List.mem_of_getElem? (i := 203) (by decide +kernel)) rfl
set_option maxRecDepth 20000 in
theorem w_P_heat : Cond.code y_P_heat c_P_heat 2 none ∈ TB := tb_mem (List.mem_of_getElem? (i := 204) rfl) rfl
theorem kl_P_44 : Cond.classLink "AlloyPlans" 44 "java/lang/IllegalStateException" ∈ TB := tb_mem (List.mem_of_getElem? (i := 205) (by decide +kernel)) rfl
theorem cm_IllegalStateException : Cond.instantiable "java/lang/IllegalStateException" 6 ∈ TB := tb_mem (List.mem_of_getElem? (i := 206) (by decide +kernel)) rfl
theorem cm_Throwable : Cond.instantiable "java/lang/Throwable" 6 ∈ TB := tb_mem (List.mem_of_getElem? (i := 245) (by decide +kernel)) rfl
theorem ml_P_48 : Cond.methodLink "AlloyPlans" 48 ⟨"java/lang/IllegalStateException", "<init>", "(Ljava/lang/String;)V"⟩ ∈ TB := tb_mem (List.mem_of_getElem? (i := 248) (by decide +kernel)) rfl
theorem kc_P_51 : Cond.constant "AlloyPlans" 51 (65536 : Int32) ∈ TB := tb_mem (List.mem_of_getElem? (i := 274) (by decide +kernel)) rfl
theorem ml_P_52 : Cond.methodLink "AlloyPlans" 52 ⟨"AlloyPlans", "isWithin", "(III)Z"⟩ ∈ TB := tb_mem (List.mem_of_getElem? (i := 275) (by decide +kernel)) rfl
theorem sm_P_isWithin : Cond.static ⟨"AlloyPlans", "isWithin", "(III)Z"⟩ ∈ TB := tb_mem (List.mem_of_getElem? (i := 276) (by decide +kernel)) rfl
set_option maxRecDepth 20000 in
theorem w_P_isWithin : Cond.code y_P_isWithin c_P_isWithin 3 (some .boolean) ∈ TB := tb_mem (List.mem_of_getElem? (i := 277) rfl) rfl
theorem ml_P_56 : Cond.methodLink "AlloyPlans" 56 ⟨"AlloyPlans", "requireRange", "(Z)V"⟩ ∈ TB := tb_mem (List.mem_of_getElem? (i := 278) (by decide +kernel)) rfl
theorem sm_P_requireRange : Cond.static ⟨"AlloyPlans", "requireRange", "(Z)V"⟩ ∈ TB := tb_mem (List.mem_of_getElem? (i := 279) (by decide +kernel)) rfl
set_option maxRecDepth 20000 in
theorem w_P_requireRange : Cond.code y_P_requireRange c_P_requireRange 1 none ∈ TB := tb_mem (List.mem_of_getElem? (i := 280) rfl) rfl
theorem kl_P_180 : Cond.classLink "AlloyPlans" 180 "java/lang/IllegalArgumentException" ∈ TB := tb_mem (List.mem_of_getElem? (i := 281) (by decide +kernel)) rfl
theorem cm_IllegalArgumentException : Cond.instantiable "java/lang/IllegalArgumentException" 6 ∈ TB := tb_mem (List.mem_of_getElem? (i := 282) (by decide +kernel)) rfl
theorem ml_P_184 : Cond.methodLink "AlloyPlans" 184 ⟨"java/lang/IllegalArgumentException", "<init>", "(Ljava/lang/String;)V"⟩ ∈ TB := tb_mem (List.mem_of_getElem? (i := 291) (by decide +kernel)) rfl
theorem ml_P_63 : Cond.methodLink "AlloyPlans" 63 ⟨"AlloyPlans$Plan", "forget", "()V"⟩ ∈ TB := tb_mem (List.mem_of_getElem? (i := 297) (by decide +kernel)) rfl
theorem im_N_forget : Cond.instanceMethod ⟨"AlloyPlans$Plan", "forget", "()V"⟩ ∈ TB := tb_mem (List.mem_of_getElem? (i := 298) (by decide +kernel)) rfl
theorem se_N_forget : Cond.selects "AlloyPlans$Plan" ⟨"AlloyPlans$Plan", "forget", "()V"⟩ ⟨"AlloyPlans$Plan", "forget", "()V"⟩ ∈ TB := tb_mem (List.mem_of_getElem? (i := 299) (by decide +kernel)) rfl
set_option maxRecDepth 20000 in
theorem w_N_forget : Cond.code y_N_forget c_N_forget 1 none ∈ TB := tb_mem (List.mem_of_getElem? (i := 300) rfl) rfl
theorem ml_L_77 : Cond.methodLink "AlloyPlansLaw" 77 ⟨"AlloyPlansLaw", "present", "(LAlloyPlans;III)I"⟩ ∈ TB := tb_mem (List.mem_of_getElem? (i := 301) (by decide +kernel)) rfl
theorem sm_L_present : Cond.static ⟨"AlloyPlansLaw", "present", "(LAlloyPlans;III)I"⟩ ∈ TB := tb_mem (List.mem_of_getElem? (i := 302) (by decide +kernel)) rfl
set_option maxRecDepth 20000 in
theorem w_L_present : Cond.codeWith y_L_present c_L_present 5 (some .int) [(0, 7, 10, 21), (0, 7, 14, 15)] ∈ TB := tb_mem (List.mem_of_getElem? (i := 303) rfl) rfl
theorem kl_L_21 : Cond.classLink "AlloyPlansLaw" 21 "java/lang/IndexOutOfBoundsException" ∈ TB := tb_mem (List.mem_of_getElem? (i := 304) (by decide +kernel)) rfl
theorem ml_L_17 : Cond.methodLink "AlloyPlansLaw" 17 ⟨"AlloyPlans", "present", "(III)V"⟩ ∈ TB := tb_mem (List.mem_of_getElem? (i := 305) (by decide +kernel)) rfl
theorem im_P_present : Cond.instanceMethod ⟨"AlloyPlans", "present", "(III)V"⟩ ∈ TB := tb_mem (List.mem_of_getElem? (i := 306) (by decide +kernel)) rfl
theorem se_P_present : Cond.selects "AlloyPlans" ⟨"AlloyPlans", "present", "(III)V"⟩ ⟨"AlloyPlans", "present", "(III)V"⟩ ∈ TB := tb_mem (List.mem_of_getElem? (i := 307) (by decide +kernel)) rfl
set_option maxRecDepth 20000 in
theorem w_P_present : Cond.code y_P_present c_P_present 4 none ∈ TB := tb_mem (List.mem_of_getElem? (i := 308) rfl) rfl
theorem ml_P_66 : Cond.methodLink "AlloyPlans" 66 ⟨"AlloyPlans", "requireIndex", "(Z)V"⟩ ∈ TB := tb_mem (List.mem_of_getElem? (i := 309) (by decide +kernel)) rfl
theorem sm_P_requireIndex : Cond.static ⟨"AlloyPlans", "requireIndex", "(Z)V"⟩ ∈ TB := tb_mem (List.mem_of_getElem? (i := 310) (by decide +kernel)) rfl
set_option maxRecDepth 20000 in
theorem w_P_requireIndex : Cond.code y_P_requireIndex c_P_requireIndex 1 none ∈ TB := tb_mem (List.mem_of_getElem? (i := 311) rfl) rfl
theorem kl_P_175 : Cond.classLink "AlloyPlans" 175 "java/lang/IndexOutOfBoundsException" ∈ TB := tb_mem (List.mem_of_getElem? (i := 312) (by decide +kernel)) rfl
theorem cm_IndexOutOfBoundsException : Cond.instantiable "java/lang/IndexOutOfBoundsException" 6 ∈ TB := tb_mem (List.mem_of_getElem? (i := 313) (by decide +kernel)) rfl
theorem ml_P_179 : Cond.methodLink "AlloyPlans" 179 ⟨"java/lang/IndexOutOfBoundsException", "<init>", "(Ljava/lang/String;)V"⟩ ∈ TB := tb_mem (List.mem_of_getElem? (i := 322) (by decide +kernel)) rfl
theorem ml_P_69 : Cond.methodLink "AlloyPlans" 69 ⟨"AlloyPlans", "isSpan", "(II)Z"⟩ ∈ TB := tb_mem (List.mem_of_getElem? (i := 328) (by decide +kernel)) rfl
theorem sm_P_isSpan : Cond.static ⟨"AlloyPlans", "isSpan", "(II)Z"⟩ ∈ TB := tb_mem (List.mem_of_getElem? (i := 329) (by decide +kernel)) rfl
set_option maxRecDepth 20000 in
theorem w_P_isSpan : Cond.code y_P_isSpan c_P_isSpan 2 (some .boolean) ∈ TB := tb_mem (List.mem_of_getElem? (i := 330) rfl) rfl
theorem kc_P_84 : Cond.constant "AlloyPlans" 84 (100000 : Int32) ∈ TB := tb_mem (List.mem_of_getElem? (i := 331) (by decide +kernel)) rfl
theorem ml_P_77 : Cond.methodLink "AlloyPlans" 77 ⟨"AlloyPlans", "tell", "([IIII)V"⟩ ∈ TB := tb_mem (List.mem_of_getElem? (i := 332) (by decide +kernel)) rfl
theorem im_P_tell : Cond.instanceMethod ⟨"AlloyPlans", "tell", "([IIII)V"⟩ ∈ TB := tb_mem (List.mem_of_getElem? (i := 334) (by decide +kernel)) rfl
set_option maxRecDepth 20000 in
theorem w_P_tell : Cond.code y_P_tell c_P_tell 5 none ∈ TB := tb_mem (List.mem_of_getElem? (i := 335) rfl) rfl
theorem ml_L_81 : Cond.methodLink "AlloyPlansLaw" 81 ⟨"AlloyPlansLaw", "aim", "(LAlloyPlans;III)I"⟩ ∈ TB := tb_mem (List.mem_of_getElem? (i := 336) (by decide +kernel)) rfl
theorem sm_L_aim : Cond.static ⟨"AlloyPlansLaw", "aim", "(LAlloyPlans;III)I"⟩ ∈ TB := tb_mem (List.mem_of_getElem? (i := 337) (by decide +kernel)) rfl
set_option maxRecDepth 20000 in
theorem w_L_aim : Cond.codeWith y_L_aim c_L_aim 5 (some .int) [(0, 7, 10, 21), (0, 7, 14, 15)] ∈ TB := tb_mem (List.mem_of_getElem? (i := 338) rfl) rfl
theorem ml_L_23 : Cond.methodLink "AlloyPlansLaw" 23 ⟨"AlloyPlans", "aim", "(III)V"⟩ ∈ TB := tb_mem (List.mem_of_getElem? (i := 339) (by decide +kernel)) rfl
theorem im_P_aim : Cond.instanceMethod ⟨"AlloyPlans", "aim", "(III)V"⟩ ∈ TB := tb_mem (List.mem_of_getElem? (i := 340) (by decide +kernel)) rfl
theorem se_P_aim : Cond.selects "AlloyPlans" ⟨"AlloyPlans", "aim", "(III)V"⟩ ⟨"AlloyPlans", "aim", "(III)V"⟩ ∈ TB := tb_mem (List.mem_of_getElem? (i := 341) (by decide +kernel)) rfl
set_option maxRecDepth 20000 in
theorem w_P_aim : Cond.code y_P_aim c_P_aim 4 none ∈ TB := tb_mem (List.mem_of_getElem? (i := 342) rfl) rfl
theorem ml_L_84 : Cond.methodLink "AlloyPlansLaw" 84 ⟨"AlloyPlansLaw", "kind", "(LAlloyPlans;III[J)I"⟩ ∈ TB := tb_mem (List.mem_of_getElem? (i := 343) (by decide +kernel)) rfl
theorem sm_L_kind : Cond.static ⟨"AlloyPlansLaw", "kind", "(LAlloyPlans;III[J)I"⟩ ∈ TB := tb_mem (List.mem_of_getElem? (i := 344) (by decide +kernel)) rfl
set_option maxRecDepth 20000 in
theorem w_L_kind : Cond.codeWith y_L_kind c_L_kind 6 (some .int) [(0, 12, 15, 15), (0, 12, 19, 30)] ∈ TB := tb_mem (List.mem_of_getElem? (i := 345) rfl) rfl
theorem kl_L_30 : Cond.classLink "AlloyPlansLaw" 30 "java/lang/UnsupportedOperationException" ∈ TB := tb_mem (List.mem_of_getElem? (i := 346) (by decide +kernel)) rfl
theorem ml_L_26 : Cond.methodLink "AlloyPlansLaw" 26 ⟨"AlloyPlans", "kind", "(III)I"⟩ ∈ TB := tb_mem (List.mem_of_getElem? (i := 347) (by decide +kernel)) rfl
theorem im_P_kind : Cond.instanceMethod ⟨"AlloyPlans", "kind", "(III)I"⟩ ∈ TB := tb_mem (List.mem_of_getElem? (i := 348) (by decide +kernel)) rfl
theorem se_P_kind : Cond.selects "AlloyPlans" ⟨"AlloyPlans", "kind", "(III)I"⟩ ⟨"AlloyPlans", "kind", "(III)I"⟩ ∈ TB := tb_mem (List.mem_of_getElem? (i := 349) (by decide +kernel)) rfl
set_option maxRecDepth 20000 in
theorem w_P_kind : Cond.code y_P_kind c_P_kind 5 (some .int) ∈ TB := tb_mem (List.mem_of_getElem? (i := 350) rfl) rfl
theorem kl_P_85 : Cond.classLink "AlloyPlans" 85 "java/lang/UnsupportedOperationException" ∈ TB := tb_mem (List.mem_of_getElem? (i := 351) (by decide +kernel)) rfl
theorem cm_UnsupportedOperationException : Cond.instantiable "java/lang/UnsupportedOperationException" 6 ∈ TB := tb_mem (List.mem_of_getElem? (i := 352) (by decide +kernel)) rfl
theorem ml_P_89 : Cond.methodLink "AlloyPlans" 89 ⟨"java/lang/UnsupportedOperationException", "<init>", "(Ljava/lang/String;)V"⟩ ∈ TB := tb_mem (List.mem_of_getElem? (i := 361) (by decide +kernel)) rfl
theorem ml_L_88 : Cond.methodLink "AlloyPlansLaw" 88 ⟨"AlloyPlansLaw", "holds", "(LAlloyPlans;IIII)I"⟩ ∈ TB := tb_mem (List.mem_of_getElem? (i := 367) (by decide +kernel)) rfl
theorem sm_L_holds : Cond.static ⟨"AlloyPlansLaw", "holds", "(LAlloyPlans;IIII)I"⟩ ∈ TB := tb_mem (List.mem_of_getElem? (i := 368) (by decide +kernel)) rfl
set_option maxRecDepth 20000 in
theorem w_L_holds : Cond.codeWith y_L_holds c_L_holds 6 (some .int) [(0, 9, 12, 21), (0, 9, 16, 15)] ∈ TB := tb_mem (List.mem_of_getElem? (i := 369) rfl) rfl
theorem ml_L_32 : Cond.methodLink "AlloyPlansLaw" 32 ⟨"AlloyPlans", "holds", "(IIII)V"⟩ ∈ TB := tb_mem (List.mem_of_getElem? (i := 370) (by decide +kernel)) rfl
theorem im_P_holds : Cond.instanceMethod ⟨"AlloyPlans", "holds", "(IIII)V"⟩ ∈ TB := tb_mem (List.mem_of_getElem? (i := 371) (by decide +kernel)) rfl
theorem se_P_holds : Cond.selects "AlloyPlans" ⟨"AlloyPlans", "holds", "(IIII)V"⟩ ⟨"AlloyPlans", "holds", "(IIII)V"⟩ ∈ TB := tb_mem (List.mem_of_getElem? (i := 372) (by decide +kernel)) rfl
set_option maxRecDepth 20000 in
theorem w_P_holds : Cond.code y_P_holds c_P_holds 5 none ∈ TB := tb_mem (List.mem_of_getElem? (i := 373) rfl) rfl
theorem ml_P_97 : Cond.methodLink "AlloyPlans" 97 ⟨"AlloyPlans", "isKind", "(I)Z"⟩ ∈ TB := tb_mem (List.mem_of_getElem? (i := 374) (by decide +kernel)) rfl
theorem im_P_isKind : Cond.instanceMethod ⟨"AlloyPlans", "isKind", "(I)Z"⟩ ∈ TB := tb_mem (List.mem_of_getElem? (i := 376) (by decide +kernel)) rfl
set_option maxRecDepth 20000 in
theorem w_P_isKind : Cond.code y_P_isKind c_P_isKind 2 (some .boolean) ∈ TB := tb_mem (List.mem_of_getElem? (i := 377) rfl) rfl
theorem ml_L_92 : Cond.methodLink "AlloyPlansLaw" 92 ⟨"AlloyPlansLaw", "yields", "(LAlloyPlans;III)I"⟩ ∈ TB := tb_mem (List.mem_of_getElem? (i := 378) (by decide +kernel)) rfl
theorem sm_L_yields : Cond.static ⟨"AlloyPlansLaw", "yields", "(LAlloyPlans;III)I"⟩ ∈ TB := tb_mem (List.mem_of_getElem? (i := 379) (by decide +kernel)) rfl
set_option maxRecDepth 20000 in
theorem w_L_yields : Cond.codeWith y_L_yields c_L_yields 5 (some .int) [(0, 7, 10, 21), (0, 7, 14, 15)] ∈ TB := tb_mem (List.mem_of_getElem? (i := 380) rfl) rfl
theorem ml_L_36 : Cond.methodLink "AlloyPlansLaw" 36 ⟨"AlloyPlans", "yields", "(III)V"⟩ ∈ TB := tb_mem (List.mem_of_getElem? (i := 381) (by decide +kernel)) rfl
theorem im_P_yields : Cond.instanceMethod ⟨"AlloyPlans", "yields", "(III)V"⟩ ∈ TB := tb_mem (List.mem_of_getElem? (i := 382) (by decide +kernel)) rfl
theorem se_P_yields : Cond.selects "AlloyPlans" ⟨"AlloyPlans", "yields", "(III)V"⟩ ⟨"AlloyPlans", "yields", "(III)V"⟩ ∈ TB := tb_mem (List.mem_of_getElem? (i := 383) (by decide +kernel)) rfl
set_option maxRecDepth 20000 in
theorem w_P_yields : Cond.code y_P_yields c_P_yields 4 none ∈ TB := tb_mem (List.mem_of_getElem? (i := 384) rfl) rfl
theorem ml_L_95 : Cond.methodLink "AlloyPlansLaw" 95 ⟨"AlloyPlansLaw", "run", "(LAlloyPlans;I[J)I"⟩ ∈ TB := tb_mem (List.mem_of_getElem? (i := 385) (by decide +kernel)) rfl
theorem sm_L_run : Cond.static ⟨"AlloyPlansLaw", "run", "(LAlloyPlans;I[J)I"⟩ ∈ TB := tb_mem (List.mem_of_getElem? (i := 386) (by decide +kernel)) rfl
set_option maxRecDepth 20000 in
theorem w_L_run : Cond.codeWith y_L_run c_L_run 4 (some .int) [(0, 9, 12, 15)] ∈ TB := tb_mem (List.mem_of_getElem? (i := 387) rfl) rfl
theorem ml_L_39 : Cond.methodLink "AlloyPlansLaw" 39 ⟨"AlloyPlans", "run", "(I)I"⟩ ∈ TB := tb_mem (List.mem_of_getElem? (i := 388) (by decide +kernel)) rfl
theorem im_P_run : Cond.instanceMethod ⟨"AlloyPlans", "run", "(I)I"⟩ ∈ TB := tb_mem (List.mem_of_getElem? (i := 389) (by decide +kernel)) rfl
theorem se_P_run : Cond.selects "AlloyPlans" ⟨"AlloyPlans", "run", "(I)I"⟩ ⟨"AlloyPlans", "run", "(I)I"⟩ ∈ TB := tb_mem (List.mem_of_getElem? (i := 390) (by decide +kernel)) rfl
set_option maxRecDepth 20000 in
theorem w_P_run : Cond.code y_P_run c_P_run 2 (some .int) ∈ TB := tb_mem (List.mem_of_getElem? (i := 391) rfl) rfl
theorem kc_P_110 : Cond.constant "AlloyPlans" 110 (100000000 : Int32) ∈ TB := tb_mem (List.mem_of_getElem? (i := 392) (by decide +kernel)) rfl
theorem ml_P_111 : Cond.methodLink "AlloyPlans" 111 ⟨"AlloyPlans$Search", "begin", "(LAlloyPlans$Melt;[LAlloyPlans$Alloy;II)V"⟩ ∈ TB := tb_mem (List.mem_of_getElem? (i := 393) (by decide +kernel)) rfl
theorem im_S_begin : Cond.instanceMethod ⟨"AlloyPlans$Search", "begin", "(LAlloyPlans$Melt;[LAlloyPlans$Alloy;II)V"⟩ ∈ TB := tb_mem (List.mem_of_getElem? (i := 394) (by decide +kernel)) rfl
theorem se_S_begin : Cond.selects "AlloyPlans$Search" ⟨"AlloyPlans$Search", "begin", "(LAlloyPlans$Melt;[LAlloyPlans$Alloy;II)V"⟩ ⟨"AlloyPlans$Search", "begin", "(LAlloyPlans$Melt;[LAlloyPlans$Alloy;II)V"⟩ ∈ TB := tb_mem (List.mem_of_getElem? (i := 395) (by decide +kernel)) rfl
set_option maxRecDepth 20000 in
theorem w_S_begin : Cond.code y_S_begin c_S_begin 6 none ∈ TB := tb_mem (List.mem_of_getElem? (i := 396) rfl) rfl
theorem ml_S_38 : Cond.methodLink "AlloyPlans$Search" 38 ⟨"AlloyPlans$Alloy", "weighAgainst", "([I)V"⟩ ∈ TB := tb_mem (List.mem_of_getElem? (i := 397) (by decide +kernel)) rfl
theorem im_A_weighAgainst : Cond.instanceMethod ⟨"AlloyPlans$Alloy", "weighAgainst", "([I)V"⟩ ∈ TB := tb_mem (List.mem_of_getElem? (i := 398) (by decide +kernel)) rfl
theorem se_A_weighAgainst : Cond.selects "AlloyPlans$Alloy" ⟨"AlloyPlans$Alloy", "weighAgainst", "([I)V"⟩ ⟨"AlloyPlans$Alloy", "weighAgainst", "([I)V"⟩ ∈ TB := tb_mem (List.mem_of_getElem? (i := 399) (by decide +kernel)) rfl
set_option maxRecDepth 20000 in
theorem w_A_weighAgainst : Cond.code y_A_weighAgainst c_A_weighAgainst 3 none ∈ TB := tb_mem (List.mem_of_getElem? (i := 400) rfl) rfl
theorem ml_A_29 : Cond.methodLink "AlloyPlans$Alloy" 29 ⟨"AlloyPlans$Alloy", "heldInStepAt", "(I)J"⟩ ∈ TB := tb_mem (List.mem_of_getElem? (i := 401) (by decide +kernel)) rfl
theorem im_A_heldInStepAt : Cond.instanceMethod ⟨"AlloyPlans$Alloy", "heldInStepAt", "(I)J"⟩ ∈ TB := tb_mem (List.mem_of_getElem? (i := 402) (by decide +kernel)) rfl
theorem se_A_heldInStepAt : Cond.selects "AlloyPlans$Alloy" ⟨"AlloyPlans$Alloy", "heldInStepAt", "(I)J"⟩ ⟨"AlloyPlans$Alloy", "heldInStepAt", "(I)J"⟩ ∈ TB := tb_mem (List.mem_of_getElem? (i := 403) (by decide +kernel)) rfl
set_option maxRecDepth 20000 in
theorem w_A_heldInStepAt : Cond.code y_A_heldInStepAt c_A_heldInStepAt 2 (some .long) ∈ TB := tb_mem (List.mem_of_getElem? (i := 404) rfl) rfl
theorem kd_A_33 : Cond.constantLong "AlloyPlans$Alloy" 33 (1000 : Int64) ∈ TB := tb_mem (List.mem_of_getElem? (i := 405) (by decide +kernel)) rfl
theorem sm_P_surplusAt : Cond.static ⟨"AlloyPlans", "surplusAt", "(IJJ)J"⟩ ∈ TB := tb_mem (List.mem_of_getElem? (i := 407) (by decide +kernel)) rfl
set_option maxRecDepth 20000 in
theorem w_P_surplusAt : Cond.code y_P_surplusAt c_P_surplusAt 5 (some .long) ∈ TB := tb_mem (List.mem_of_getElem? (i := 408) rfl) rfl
theorem ml_P_201 : Cond.methodLink "AlloyPlans" 201 ⟨"AlloyPlans", "isLowEnd", "(I)Z"⟩ ∈ TB := tb_mem (List.mem_of_getElem? (i := 409) (by decide +kernel)) rfl
theorem ml_S_44 : Cond.methodLink "AlloyPlans$Search" 44 ⟨"AlloyPlans$Mix", "becomeHeat", "(LAlloyPlans$Melt;I)V"⟩ ∈ TB := tb_mem (List.mem_of_getElem? (i := 410) (by decide +kernel)) rfl
theorem im_X_becomeHeat : Cond.instanceMethod ⟨"AlloyPlans$Mix", "becomeHeat", "(LAlloyPlans$Melt;I)V"⟩ ∈ TB := tb_mem (List.mem_of_getElem? (i := 411) (by decide +kernel)) rfl
theorem se_X_becomeHeat : Cond.selects "AlloyPlans$Mix" ⟨"AlloyPlans$Mix", "becomeHeat", "(LAlloyPlans$Melt;I)V"⟩ ⟨"AlloyPlans$Mix", "becomeHeat", "(LAlloyPlans$Melt;I)V"⟩ ∈ TB := tb_mem (List.mem_of_getElem? (i := 412) (by decide +kernel)) rfl
set_option maxRecDepth 20000 in
theorem w_X_becomeHeat : Cond.code y_X_becomeHeat c_X_becomeHeat 4 none ∈ TB := tb_mem (List.mem_of_getElem? (i := 413) rfl) rfl
theorem ml_X_25 : Cond.methodLink "AlloyPlans$Mix" 25 ⟨"AlloyPlans$Melt", "surplusOfHeat", "(I)J"⟩ ∈ TB := tb_mem (List.mem_of_getElem? (i := 414) (by decide +kernel)) rfl
theorem im_E_surplusOfHeat : Cond.instanceMethod ⟨"AlloyPlans$Melt", "surplusOfHeat", "(I)J"⟩ ∈ TB := tb_mem (List.mem_of_getElem? (i := 415) (by decide +kernel)) rfl
theorem se_E_surplusOfHeat : Cond.selects "AlloyPlans$Melt" ⟨"AlloyPlans$Melt", "surplusOfHeat", "(I)J"⟩ ⟨"AlloyPlans$Melt", "surplusOfHeat", "(I)J"⟩ ∈ TB := tb_mem (List.mem_of_getElem? (i := 416) (by decide +kernel)) rfl
set_option maxRecDepth 20000 in
theorem w_E_surplusOfHeat : Cond.code y_E_surplusOfHeat c_E_surplusOfHeat 2 (some .long) ∈ TB := tb_mem (List.mem_of_getElem? (i := 417) rfl) rfl
theorem ml_E_29 : Cond.methodLink "AlloyPlans$Melt" 29 ⟨"AlloyPlans$Melt", "heldAt", "(I)J"⟩ ∈ TB := tb_mem (List.mem_of_getElem? (i := 418) (by decide +kernel)) rfl
theorem im_E_heldAt : Cond.instanceMethod ⟨"AlloyPlans$Melt", "heldAt", "(I)J"⟩ ∈ TB := tb_mem (List.mem_of_getElem? (i := 419) (by decide +kernel)) rfl
theorem se_E_heldAt : Cond.selects "AlloyPlans$Melt" ⟨"AlloyPlans$Melt", "heldAt", "(I)J"⟩ ⟨"AlloyPlans$Melt", "heldAt", "(I)J"⟩ ∈ TB := tb_mem (List.mem_of_getElem? (i := 420) (by decide +kernel)) rfl
set_option maxRecDepth 20000 in
theorem w_E_heldAt : Cond.code y_E_heldAt c_E_heldAt 2 (some .long) ∈ TB := tb_mem (List.mem_of_getElem? (i := 421) rfl) rfl
theorem kd_E_27 : Cond.constantLong "AlloyPlans$Melt" 27 (1000 : Int64) ∈ TB := tb_mem (List.mem_of_getElem? (i := 422) (by decide +kernel)) rfl
theorem ml_P_115 : Cond.methodLink "AlloyPlans" 115 ⟨"AlloyPlans$Search", "tryKindsFrom", "(I[LAlloyPlans$Alloy;I)V"⟩ ∈ TB := tb_mem (List.mem_of_getElem? (i := 424) (by decide +kernel)) rfl
theorem im_S_tryKindsFrom : Cond.instanceMethod ⟨"AlloyPlans$Search", "tryKindsFrom", "(I[LAlloyPlans$Alloy;I)V"⟩ ∈ TB := tb_mem (List.mem_of_getElem? (i := 425) (by decide +kernel)) rfl
theorem se_S_tryKindsFrom : Cond.selects "AlloyPlans$Search" ⟨"AlloyPlans$Search", "tryKindsFrom", "(I[LAlloyPlans$Alloy;I)V"⟩ ⟨"AlloyPlans$Search", "tryKindsFrom", "(I[LAlloyPlans$Alloy;I)V"⟩ ∈ TB := tb_mem (List.mem_of_getElem? (i := 426) (by decide +kernel)) rfl
set_option maxRecDepth 20000 in
theorem w_S_tryKindsFrom : Cond.code y_S_tryKindsFrom c_S_tryKindsFrom 7 none ∈ TB := tb_mem (List.mem_of_getElem? (i := 427) rfl) rfl
theorem ml_S_48 : Cond.methodLink "AlloyPlans$Search" 48 ⟨"AlloyPlans$Search", "judge", "(LAlloyPlans$Mix;)V"⟩ ∈ TB := tb_mem (List.mem_of_getElem? (i := 428) (by decide +kernel)) rfl
theorem im_S_judge : Cond.instanceMethod ⟨"AlloyPlans$Search", "judge", "(LAlloyPlans$Mix;)V"⟩ ∈ TB := tb_mem (List.mem_of_getElem? (i := 430) (by decide +kernel)) rfl
set_option maxRecDepth 20000 in
theorem w_S_judge : Cond.code y_S_judge c_S_judge 3 none ∈ TB := tb_mem (List.mem_of_getElem? (i := 431) rfl) rfl
theorem ml_S_85 : Cond.methodLink "AlloyPlans$Search" 85 ⟨"AlloyPlans$Mix", "countMet", "()I"⟩ ∈ TB := tb_mem (List.mem_of_getElem? (i := 432) (by decide +kernel)) rfl
theorem im_X_countMet : Cond.instanceMethod ⟨"AlloyPlans$Mix", "countMet", "()I"⟩ ∈ TB := tb_mem (List.mem_of_getElem? (i := 433) (by decide +kernel)) rfl
theorem se_X_countMet : Cond.selects "AlloyPlans$Mix" ⟨"AlloyPlans$Mix", "countMet", "()I"⟩ ⟨"AlloyPlans$Mix", "countMet", "()I"⟩ ∈ TB := tb_mem (List.mem_of_getElem? (i := 434) (by decide +kernel)) rfl
set_option maxRecDepth 20000 in
theorem w_X_countMet : Cond.code y_X_countMet c_X_countMet 2 (some .int) ∈ TB := tb_mem (List.mem_of_getElem? (i := 435) rfl) rfl
theorem ml_S_89 : Cond.methodLink "AlloyPlans$Search" 89 ⟨"java/lang/Math", "max", "(II)I"⟩ ∈ TB := tb_mem (List.mem_of_getElem? (i := 436) (by decide +kernel)) rfl
theorem ml_S_95 : Cond.methodLink "AlloyPlans$Search" 95 ⟨"java/lang/System", "arraycopy", "(Ljava/lang/Object;ILjava/lang/Object;II)V"⟩ ∈ TB := tb_mem (List.mem_of_getElem? (i := 439) (by decide +kernel)) rfl
theorem ml_S_52 : Cond.methodLink "AlloyPlans$Search" 52 ⟨"AlloyPlans$Mix", "becomeLike", "(LAlloyPlans$Mix;)V"⟩ ∈ TB := tb_mem (List.mem_of_getElem? (i := 442) (by decide +kernel)) rfl
theorem im_X_becomeLike : Cond.instanceMethod ⟨"AlloyPlans$Mix", "becomeLike", "(LAlloyPlans$Mix;)V"⟩ ∈ TB := tb_mem (List.mem_of_getElem? (i := 443) (by decide +kernel)) rfl
theorem se_X_becomeLike : Cond.selects "AlloyPlans$Mix" ⟨"AlloyPlans$Mix", "becomeLike", "(LAlloyPlans$Mix;)V"⟩ ⟨"AlloyPlans$Mix", "becomeLike", "(LAlloyPlans$Mix;)V"⟩ ∈ TB := tb_mem (List.mem_of_getElem? (i := 444) (by decide +kernel)) rfl
set_option maxRecDepth 20000 in
theorem w_X_becomeLike : Cond.code y_X_becomeLike c_X_becomeLike 2 none ∈ TB := tb_mem (List.mem_of_getElem? (i := 445) rfl) rfl
theorem ml_X_31 : Cond.methodLink "AlloyPlans$Mix" 31 ⟨"java/lang/System", "arraycopy", "(Ljava/lang/Object;ILjava/lang/Object;II)V"⟩ ∈ TB := tb_mem (List.mem_of_getElem? (i := 446) (by decide +kernel)) rfl
theorem ml_S_58 : Cond.methodLink "AlloyPlans$Search" 58 ⟨"AlloyPlans$Mix", "takeStep", "(LAlloyPlans$Alloy;Z)V"⟩ ∈ TB := tb_mem (List.mem_of_getElem? (i := 447) (by decide +kernel)) rfl
theorem im_X_takeStep : Cond.instanceMethod ⟨"AlloyPlans$Mix", "takeStep", "(LAlloyPlans$Alloy;Z)V"⟩ ∈ TB := tb_mem (List.mem_of_getElem? (i := 448) (by decide +kernel)) rfl
theorem se_X_takeStep : Cond.selects "AlloyPlans$Mix" ⟨"AlloyPlans$Mix", "takeStep", "(LAlloyPlans$Alloy;Z)V"⟩ ⟨"AlloyPlans$Mix", "takeStep", "(LAlloyPlans$Alloy;Z)V"⟩ ∈ TB := tb_mem (List.mem_of_getElem? (i := 449) (by decide +kernel)) rfl
set_option maxRecDepth 20000 in
theorem w_X_takeStep : Cond.code y_X_takeStep c_X_takeStep 4 none ∈ TB := tb_mem (List.mem_of_getElem? (i := 450) rfl) rfl
theorem ml_X_40 : Cond.methodLink "AlloyPlans$Mix" 40 ⟨"AlloyPlans$Alloy", "coolingOfStep", "()I"⟩ ∈ TB := tb_mem (List.mem_of_getElem? (i := 451) (by decide +kernel)) rfl
theorem im_A_coolingOfStep : Cond.instanceMethod ⟨"AlloyPlans$Alloy", "coolingOfStep", "()I"⟩ ∈ TB := tb_mem (List.mem_of_getElem? (i := 452) (by decide +kernel)) rfl
theorem se_A_coolingOfStep : Cond.selects "AlloyPlans$Alloy" ⟨"AlloyPlans$Alloy", "coolingOfStep", "()I"⟩ ⟨"AlloyPlans$Alloy", "coolingOfStep", "()I"⟩ ∈ TB := tb_mem (List.mem_of_getElem? (i := 453) (by decide +kernel)) rfl
set_option maxRecDepth 20000 in
theorem w_A_coolingOfStep : Cond.code y_A_coolingOfStep c_A_coolingOfStep 1 (some .int) ∈ TB := tb_mem (List.mem_of_getElem? (i := 454) rfl) rfl
theorem ml_S_62 : Cond.methodLink "AlloyPlans$Search" 62 ⟨"AlloyPlans$Search", "isWorthTrying", "(LAlloyPlans$Mix;)Z"⟩ ∈ TB := tb_mem (List.mem_of_getElem? (i := 455) (by decide +kernel)) rfl
theorem im_S_isWorthTrying : Cond.instanceMethod ⟨"AlloyPlans$Search", "isWorthTrying", "(LAlloyPlans$Mix;)Z"⟩ ∈ TB := tb_mem (List.mem_of_getElem? (i := 457) (by decide +kernel)) rfl
set_option maxRecDepth 20000 in
theorem w_S_isWorthTrying : Cond.code y_S_isWorthTrying c_S_isWorthTrying 2 (some .boolean) ∈ TB := tb_mem (List.mem_of_getElem? (i := 458) rfl) rfl
theorem ml_S_66 : Cond.methodLink "AlloyPlans$Search" 66 ⟨"AlloyPlans$Search", "tryKindsFrom", "(I[LAlloyPlans$Alloy;I)V"⟩ ∈ TB := tb_mem (List.mem_of_getElem? (i := 459) (by decide +kernel)) rfl
theorem ml_P_129 : Cond.methodLink "AlloyPlans" 129 ⟨"AlloyPlans$Plan", "settle", "([I[LAlloyPlans$Alloy;I)V"⟩ ∈ TB := tb_mem (List.mem_of_getElem? (i := 460) (by decide +kernel)) rfl
theorem im_N_settle : Cond.instanceMethod ⟨"AlloyPlans$Plan", "settle", "([I[LAlloyPlans$Alloy;I)V"⟩ ∈ TB := tb_mem (List.mem_of_getElem? (i := 461) (by decide +kernel)) rfl
theorem se_N_settle : Cond.selects "AlloyPlans$Plan" ⟨"AlloyPlans$Plan", "settle", "([I[LAlloyPlans$Alloy;I)V"⟩ ⟨"AlloyPlans$Plan", "settle", "([I[LAlloyPlans$Alloy;I)V"⟩ ∈ TB := tb_mem (List.mem_of_getElem? (i := 462) (by decide +kernel)) rfl
set_option maxRecDepth 20000 in
theorem w_N_settle : Cond.code y_N_settle c_N_settle 6 none ∈ TB := tb_mem (List.mem_of_getElem? (i := 463) rfl) rfl
theorem ml_N_36 : Cond.methodLink "AlloyPlans$Plan" 36 ⟨"AlloyPlans$Alloy", "coolingOfStep", "()I"⟩ ∈ TB := tb_mem (List.mem_of_getElem? (i := 464) (by decide +kernel)) rfl
theorem ml_L_99 : Cond.methodLink "AlloyPlansLaw" 99 ⟨"AlloyPlansLaw", "steps", "(LAlloyPlans;I[J)I"⟩ ∈ TB := tb_mem (List.mem_of_getElem? (i := 465) (by decide +kernel)) rfl
theorem sm_L_steps : Cond.static ⟨"AlloyPlansLaw", "steps", "(LAlloyPlans;I[J)I"⟩ ∈ TB := tb_mem (List.mem_of_getElem? (i := 466) (by decide +kernel)) rfl
set_option maxRecDepth 20000 in
theorem w_L_steps : Cond.codeWith y_L_steps c_L_steps 4 (some .int) [(0, 9, 12, 21), (0, 9, 15, 13)] ∈ TB := tb_mem (List.mem_of_getElem? (i := 467) rfl) rfl
theorem ml_L_43 : Cond.methodLink "AlloyPlansLaw" 43 ⟨"AlloyPlans", "steps", "(I)I"⟩ ∈ TB := tb_mem (List.mem_of_getElem? (i := 468) (by decide +kernel)) rfl
theorem im_P_steps : Cond.instanceMethod ⟨"AlloyPlans", "steps", "(I)I"⟩ ∈ TB := tb_mem (List.mem_of_getElem? (i := 469) (by decide +kernel)) rfl
theorem se_P_steps : Cond.selects "AlloyPlans" ⟨"AlloyPlans", "steps", "(I)I"⟩ ⟨"AlloyPlans", "steps", "(I)I"⟩ ∈ TB := tb_mem (List.mem_of_getElem? (i := 470) (by decide +kernel)) rfl
set_option maxRecDepth 20000 in
theorem w_P_steps : Cond.code y_P_steps c_P_steps 2 (some .int) ∈ TB := tb_mem (List.mem_of_getElem? (i := 471) rfl) rfl
theorem ml_P_133 : Cond.methodLink "AlloyPlans" 133 ⟨"AlloyPlans", "requirePlan", "()V"⟩ ∈ TB := tb_mem (List.mem_of_getElem? (i := 472) (by decide +kernel)) rfl
theorem im_P_requirePlan : Cond.instanceMethod ⟨"AlloyPlans", "requirePlan", "()V"⟩ ∈ TB := tb_mem (List.mem_of_getElem? (i := 474) (by decide +kernel)) rfl
set_option maxRecDepth 20000 in
theorem w_P_requirePlan : Cond.code y_P_requirePlan c_P_requirePlan 1 none ∈ TB := tb_mem (List.mem_of_getElem? (i := 475) rfl) rfl
theorem ml_L_102 : Cond.methodLink "AlloyPlansLaw" 102 ⟨"AlloyPlansLaw", "planned", "(LAlloyPlans;I[J)I"⟩ ∈ TB := tb_mem (List.mem_of_getElem? (i := 477) (by decide +kernel)) rfl
theorem sm_L_planned : Cond.static ⟨"AlloyPlansLaw", "planned", "(LAlloyPlans;I[J)I"⟩ ∈ TB := tb_mem (List.mem_of_getElem? (i := 478) (by decide +kernel)) rfl
set_option maxRecDepth 20000 in
theorem w_L_planned : Cond.codeWith y_L_planned c_L_planned 4 (some .int) [(0, 9, 12, 21), (0, 9, 15, 13)] ∈ TB := tb_mem (List.mem_of_getElem? (i := 479) rfl) rfl
theorem ml_L_46 : Cond.methodLink "AlloyPlansLaw" 46 ⟨"AlloyPlans", "planned", "(I)I"⟩ ∈ TB := tb_mem (List.mem_of_getElem? (i := 480) (by decide +kernel)) rfl
theorem im_P_planned : Cond.instanceMethod ⟨"AlloyPlans", "planned", "(I)I"⟩ ∈ TB := tb_mem (List.mem_of_getElem? (i := 481) (by decide +kernel)) rfl
theorem se_P_planned : Cond.selects "AlloyPlans" ⟨"AlloyPlans", "planned", "(I)I"⟩ ⟨"AlloyPlans", "planned", "(I)I"⟩ ∈ TB := tb_mem (List.mem_of_getElem? (i := 482) (by decide +kernel)) rfl
set_option maxRecDepth 20000 in
theorem w_P_planned : Cond.code y_P_planned c_P_planned 2 (some .int) ∈ TB := tb_mem (List.mem_of_getElem? (i := 483) rfl) rfl
theorem ml_L_105 : Cond.methodLink "AlloyPlansLaw" 105 ⟨"AlloyPlansLaw", "order", "(LAlloyPlans;I[J)I"⟩ ∈ TB := tb_mem (List.mem_of_getElem? (i := 484) (by decide +kernel)) rfl
theorem sm_L_order : Cond.static ⟨"AlloyPlansLaw", "order", "(LAlloyPlans;I[J)I"⟩ ∈ TB := tb_mem (List.mem_of_getElem? (i := 485) (by decide +kernel)) rfl
set_option maxRecDepth 20000 in
theorem w_L_order : Cond.codeWith y_L_order c_L_order 4 (some .int) [(0, 9, 12, 21), (0, 9, 15, 13)] ∈ TB := tb_mem (List.mem_of_getElem? (i := 486) rfl) rfl
theorem ml_L_49 : Cond.methodLink "AlloyPlansLaw" 49 ⟨"AlloyPlans", "order", "(I)I"⟩ ∈ TB := tb_mem (List.mem_of_getElem? (i := 487) (by decide +kernel)) rfl
theorem im_P_order : Cond.instanceMethod ⟨"AlloyPlans", "order", "(I)I"⟩ ∈ TB := tb_mem (List.mem_of_getElem? (i := 488) (by decide +kernel)) rfl
theorem se_P_order : Cond.selects "AlloyPlans" ⟨"AlloyPlans", "order", "(I)I"⟩ ⟨"AlloyPlans", "order", "(I)I"⟩ ∈ TB := tb_mem (List.mem_of_getElem? (i := 489) (by decide +kernel)) rfl
set_option maxRecDepth 20000 in
theorem w_P_order : Cond.code y_P_order c_P_order 3 (some .int) ∈ TB := tb_mem (List.mem_of_getElem? (i := 490) rfl) rfl
theorem ml_P_145 : Cond.methodLink "AlloyPlans" 145 ⟨"AlloyPlans$Plan", "isTaken", "(I)Z"⟩ ∈ TB := tb_mem (List.mem_of_getElem? (i := 491) (by decide +kernel)) rfl
theorem im_N_isTaken : Cond.instanceMethod ⟨"AlloyPlans$Plan", "isTaken", "(I)Z"⟩ ∈ TB := tb_mem (List.mem_of_getElem? (i := 492) (by decide +kernel)) rfl
theorem se_N_isTaken : Cond.selects "AlloyPlans$Plan" ⟨"AlloyPlans$Plan", "isTaken", "(I)Z"⟩ ⟨"AlloyPlans$Plan", "isTaken", "(I)Z"⟩ ∈ TB := tb_mem (List.mem_of_getElem? (i := 493) (by decide +kernel)) rfl
set_option maxRecDepth 20000 in
theorem w_N_isTaken : Cond.code y_N_isTaken c_N_isTaken 2 (some .boolean) ∈ TB := tb_mem (List.mem_of_getElem? (i := 494) rfl) rfl
theorem ml_P_148 : Cond.methodLink "AlloyPlans" 148 ⟨"AlloyPlans", "countAddedBefore", "(I)I"⟩ ∈ TB := tb_mem (List.mem_of_getElem? (i := 495) (by decide +kernel)) rfl
theorem im_P_countAddedBefore : Cond.instanceMethod ⟨"AlloyPlans", "countAddedBefore", "(I)I"⟩ ∈ TB := tb_mem (List.mem_of_getElem? (i := 497) (by decide +kernel)) rfl
set_option maxRecDepth 20000 in
theorem w_P_countAddedBefore : Cond.code y_P_countAddedBefore c_P_countAddedBefore 4 (some .int) ∈ TB := tb_mem (List.mem_of_getElem? (i := 498) rfl) rfl
theorem ml_P_190 : Cond.methodLink "AlloyPlans" 190 ⟨"AlloyPlans", "isAddedBefore", "(II)Z"⟩ ∈ TB := tb_mem (List.mem_of_getElem? (i := 499) (by decide +kernel)) rfl
theorem im_P_isAddedBefore : Cond.instanceMethod ⟨"AlloyPlans", "isAddedBefore", "(II)Z"⟩ ∈ TB := tb_mem (List.mem_of_getElem? (i := 501) (by decide +kernel)) rfl
set_option maxRecDepth 20000 in
theorem w_P_isAddedBefore : Cond.code y_P_isAddedBefore c_P_isAddedBefore 4 (some .boolean) ∈ TB := tb_mem (List.mem_of_getElem? (i := 502) rfl) rfl
theorem ml_L_108 : Cond.methodLink "AlloyPlansLaw" 108 ⟨"AlloyPlansLaw", "after", "(LAlloyPlans;III[J)I"⟩ ∈ TB := tb_mem (List.mem_of_getElem? (i := 503) (by decide +kernel)) rfl
theorem sm_L_after : Cond.static ⟨"AlloyPlansLaw", "after", "(LAlloyPlans;III[J)I"⟩ ∈ TB := tb_mem (List.mem_of_getElem? (i := 504) (by decide +kernel)) rfl
set_option maxRecDepth 20000 in
theorem w_L_after : Cond.codeWith y_L_after c_L_after 6 (some .int) [(0, 11, 14, 21), (0, 11, 18, 13)] ∈ TB := tb_mem (List.mem_of_getElem? (i := 505) rfl) rfl
theorem ml_L_52 : Cond.methodLink "AlloyPlansLaw" 52 ⟨"AlloyPlans", "after", "(III)J"⟩ ∈ TB := tb_mem (List.mem_of_getElem? (i := 506) (by decide +kernel)) rfl
theorem im_P_after : Cond.instanceMethod ⟨"AlloyPlans", "after", "(III)J"⟩ ∈ TB := tb_mem (List.mem_of_getElem? (i := 507) (by decide +kernel)) rfl
theorem se_P_after : Cond.selects "AlloyPlans" ⟨"AlloyPlans", "after", "(III)J"⟩ ⟨"AlloyPlans", "after", "(III)J"⟩ ∈ TB := tb_mem (List.mem_of_getElem? (i := 508) (by decide +kernel)) rfl
set_option maxRecDepth 20000 in
theorem w_P_after : Cond.code y_P_after c_P_after 8 (some .long) ∈ TB := tb_mem (List.mem_of_getElem? (i := 509) rfl) rfl
theorem ml_P_152 : Cond.methodLink "AlloyPlans" 152 ⟨"AlloyPlans", "heldByPlan", "(I)J"⟩ ∈ TB := tb_mem (List.mem_of_getElem? (i := 510) (by decide +kernel)) rfl
theorem im_P_heldByPlan : Cond.instanceMethod ⟨"AlloyPlans", "heldByPlan", "(I)J"⟩ ∈ TB := tb_mem (List.mem_of_getElem? (i := 512) (by decide +kernel)) rfl
set_option maxRecDepth 20000 in
theorem w_P_heldByPlan : Cond.code y_P_heldByPlan c_P_heldByPlan 5 (some .long) ∈ TB := tb_mem (List.mem_of_getElem? (i := 513) rfl) rfl
theorem ml_P_193 : Cond.methodLink "AlloyPlans" 193 ⟨"AlloyPlans$Melt", "heldAt", "(I)J"⟩ ∈ TB := tb_mem (List.mem_of_getElem? (i := 514) (by decide +kernel)) rfl
theorem ml_P_196 : Cond.methodLink "AlloyPlans" 196 ⟨"AlloyPlans$Alloy", "heldInStepAt", "(I)J"⟩ ∈ TB := tb_mem (List.mem_of_getElem? (i := 515) (by decide +kernel)) rfl
theorem ml_P_156 : Cond.methodLink "AlloyPlans" 156 ⟨"AlloyPlans", "wholeByPlan", "()J"⟩ ∈ TB := tb_mem (List.mem_of_getElem? (i := 516) (by decide +kernel)) rfl
theorem im_P_wholeByPlan : Cond.instanceMethod ⟨"AlloyPlans", "wholeByPlan", "()J"⟩ ∈ TB := tb_mem (List.mem_of_getElem? (i := 518) (by decide +kernel)) rfl
set_option maxRecDepth 20000 in
theorem w_P_wholeByPlan : Cond.code y_P_wholeByPlan c_P_wholeByPlan 1 (some .long) ∈ TB := tb_mem (List.mem_of_getElem? (i := 519) rfl) rfl
theorem kd_P_199 : Cond.constantLong "AlloyPlans" 199 (1000 : Int64) ∈ TB := tb_mem (List.mem_of_getElem? (i := 520) (by decide +kernel)) rfl
theorem ml_P_160 : Cond.methodLink "AlloyPlans" 160 ⟨"AlloyPlans", "commonDivisor", "(JJ)J"⟩ ∈ TB := tb_mem (List.mem_of_getElem? (i := 521) (by decide +kernel)) rfl
theorem sm_P_commonDivisor : Cond.static ⟨"AlloyPlans", "commonDivisor", "(JJ)J"⟩ ∈ TB := tb_mem (List.mem_of_getElem? (i := 522) (by decide +kernel)) rfl
set_option maxRecDepth 20000 in
theorem w_P_commonDivisor : Cond.code y_P_commonDivisor c_P_commonDivisor 11 (some .long) ∈ TB := tb_mem (List.mem_of_getElem? (i := 523) rfl) rfl
theorem ml_P_164 : Cond.methodLink "AlloyPlans" 164 ⟨"AlloyPlans", "quotient", "(JJ)J"⟩ ∈ TB := tb_mem (List.mem_of_getElem? (i := 524) (by decide +kernel)) rfl
theorem sm_P_quotient : Cond.static ⟨"AlloyPlans", "quotient", "(JJ)J"⟩ ∈ TB := tb_mem (List.mem_of_getElem? (i := 525) (by decide +kernel)) rfl
set_option maxRecDepth 20000 in
theorem w_P_quotient : Cond.code y_P_quotient c_P_quotient 4 (some .long) ∈ TB := tb_mem (List.mem_of_getElem? (i := 526) rfl) rfl
theorem ml_L_111 : Cond.methodLink "AlloyPlansLaw" 111 ⟨"AlloyPlansLaw", "add", "(LAlloyPlans;[J)I"⟩ ∈ TB := tb_mem (List.mem_of_getElem? (i := 527) (by decide +kernel)) rfl
theorem sm_L_add : Cond.static ⟨"AlloyPlansLaw", "add", "(LAlloyPlans;[J)I"⟩ ∈ TB := tb_mem (List.mem_of_getElem? (i := 528) (by decide +kernel)) rfl
set_option maxRecDepth 20000 in
theorem w_L_add : Cond.codeWith y_L_add c_L_add 3 (some .int) [(0, 8, 11, 13), (0, 8, 14, 30)] ∈ TB := tb_mem (List.mem_of_getElem? (i := 529) rfl) rfl
theorem ml_L_56 : Cond.methodLink "AlloyPlansLaw" 56 ⟨"AlloyPlans", "add", "()I"⟩ ∈ TB := tb_mem (List.mem_of_getElem? (i := 530) (by decide +kernel)) rfl
theorem im_P_add : Cond.instanceMethod ⟨"AlloyPlans", "add", "()I"⟩ ∈ TB := tb_mem (List.mem_of_getElem? (i := 531) (by decide +kernel)) rfl
theorem se_P_add : Cond.selects "AlloyPlans" ⟨"AlloyPlans", "add", "()I"⟩ ⟨"AlloyPlans", "add", "()I"⟩ ∈ TB := tb_mem (List.mem_of_getElem? (i := 532) (by decide +kernel)) rfl
set_option maxRecDepth 20000 in
theorem w_P_add : Cond.code y_P_add c_P_add 2 (some .int) ∈ TB := tb_mem (List.mem_of_getElem? (i := 533) rfl) rfl
theorem ml_P_169 : Cond.methodLink "AlloyPlans" 169 ⟨"AlloyPlans", "roundedByPlan", "(I)I"⟩ ∈ TB := tb_mem (List.mem_of_getElem? (i := 535) (by decide +kernel)) rfl
theorem im_P_roundedByPlan : Cond.instanceMethod ⟨"AlloyPlans", "roundedByPlan", "(I)I"⟩ ∈ TB := tb_mem (List.mem_of_getElem? (i := 537) (by decide +kernel)) rfl
set_option maxRecDepth 20000 in
theorem w_P_roundedByPlan : Cond.code y_P_roundedByPlan c_P_roundedByPlan 6 (some .int) ∈ TB := tb_mem (List.mem_of_getElem? (i := 538) rfl) rfl
theorem ml_L_115 : Cond.methodLink "AlloyPlansLaw" 115 ⟨"AlloyPlansLaw", "heatAt", "(LAlloyPlans;I[J)I"⟩ ∈ TB := tb_mem (List.mem_of_getElem? (i := 539) (by decide +kernel)) rfl
theorem sm_L_heatAt : Cond.static ⟨"AlloyPlansLaw", "heatAt", "(LAlloyPlans;I[J)I"⟩ ∈ TB := tb_mem (List.mem_of_getElem? (i := 540) (by decide +kernel)) rfl
set_option maxRecDepth 20000 in
theorem w_L_heatAt : Cond.codeWith y_L_heatAt c_L_heatAt 4 (some .int) [(0, 8, 11, 21)] ∈ TB := tb_mem (List.mem_of_getElem? (i := 541) rfl) rfl
theorem ml_L_60 : Cond.methodLink "AlloyPlansLaw" 60 ⟨"AlloyPlans", "heatAt", "(I)J"⟩ ∈ TB := tb_mem (List.mem_of_getElem? (i := 542) (by decide +kernel)) rfl
theorem im_P_heatAt : Cond.instanceMethod ⟨"AlloyPlans", "heatAt", "(I)J"⟩ ∈ TB := tb_mem (List.mem_of_getElem? (i := 543) (by decide +kernel)) rfl
theorem se_P_heatAt : Cond.selects "AlloyPlans" ⟨"AlloyPlans", "heatAt", "(I)J"⟩ ⟨"AlloyPlans", "heatAt", "(I)J"⟩ ∈ TB := tb_mem (List.mem_of_getElem? (i := 544) (by decide +kernel)) rfl
set_option maxRecDepth 20000 in
theorem w_P_heatAt : Cond.code y_P_heatAt c_P_heatAt 2 (some .long) ∈ TB := tb_mem (List.mem_of_getElem? (i := 545) rfl) rfl
theorem kl_L_65 : Cond.classLink "AlloyPlansLaw" 65 "AlloyPlansModel" ∈ TB := tb_mem (List.mem_of_getElem? (i := 546) (by decide +kernel)) rfl
theorem cm_M : Cond.instantiable "AlloyPlansModel" 19 ∈ TB := tb_mem (List.mem_of_getElem? (i := 547) (by decide +kernel)) rfl
theorem ml_L_67 : Cond.methodLink "AlloyPlansLaw" 67 ⟨"AlloyPlansModel", "<init>", "()V"⟩ ∈ TB := tb_mem (List.mem_of_getElem? (i := 548) (by decide +kernel)) rfl
theorem im_M_init : Cond.instanceMethod ⟨"AlloyPlansModel", "<init>", "()V"⟩ ∈ TB := tb_mem (List.mem_of_getElem? (i := 549) (by decide +kernel)) rfl
set_option maxRecDepth 20000 in
theorem w_M_init : Cond.code y_M_init c_M_init 2 none ∈ TB := tb_mem (List.mem_of_getElem? (i := 550) rfl) rfl
theorem ml_M_1 : Cond.methodLink "AlloyPlansModel" 1 ⟨"java/lang/Object", "<init>", "()V"⟩ ∈ TB := tb_mem (List.mem_of_getElem? (i := 551) (by decide +kernel)) rfl
theorem kc_M_53 : Cond.constant "AlloyPlansModel" 53 (100000 : Int32) ∈ TB := tb_mem (List.mem_of_getElem? (i := 552) (by decide +kernel)) rfl
theorem fl_M_54 : Cond.fieldLink "AlloyPlansModel" 54 "AlloyPlansModel" "thrown" "I" ∈ TB := tb_mem (List.mem_of_getElem? (i := 553) (by decide +kernel)) rfl
theorem fl_M_7 : Cond.fieldLink "AlloyPlansModel" 7 "AlloyPlansModel" "kilos" "I" ∈ TB := tb_mem (List.mem_of_getElem? (i := 554) (by decide +kernel)) rfl
theorem fl_M_13 : Cond.fieldLink "AlloyPlansModel" 13 "AlloyPlansModel" "presentLow" "[I" ∈ TB := tb_mem (List.mem_of_getElem? (i := 555) (by decide +kernel)) rfl
theorem fl_M_17 : Cond.fieldLink "AlloyPlansModel" 17 "AlloyPlansModel" "presentHigh" "[I" ∈ TB := tb_mem (List.mem_of_getElem? (i := 556) (by decide +kernel)) rfl
theorem fl_M_20 : Cond.fieldLink "AlloyPlansModel" 20 "AlloyPlansModel" "aimLow" "[I" ∈ TB := tb_mem (List.mem_of_getElem? (i := 557) (by decide +kernel)) rfl
theorem fl_M_23 : Cond.fieldLink "AlloyPlansModel" 23 "AlloyPlansModel" "aimHigh" "[I" ∈ TB := tb_mem (List.mem_of_getElem? (i := 558) (by decide +kernel)) rfl
theorem fl_M_61 : Cond.fieldLink "AlloyPlansModel" 61 "AlloyPlansModel" "kinds" "I" ∈ TB := tb_mem (List.mem_of_getElem? (i := 559) (by decide +kernel)) rfl
theorem fl_M_26 : Cond.fieldLink "AlloyPlansModel" 26 "AlloyPlansModel" "cents" "[I" ∈ TB := tb_mem (List.mem_of_getElem? (i := 560) (by decide +kernel)) rfl
theorem fl_M_29 : Cond.fieldLink "AlloyPlansModel" 29 "AlloyPlansModel" "each" "[I" ∈ TB := tb_mem (List.mem_of_getElem? (i := 561) (by decide +kernel)) rfl
theorem fl_M_32 : Cond.fieldLink "AlloyPlansModel" 32 "AlloyPlansModel" "most" "[I" ∈ TB := tb_mem (List.mem_of_getElem? (i := 562) (by decide +kernel)) rfl
theorem fl_M_35 : Cond.fieldLink "AlloyPlansModel" 35 "AlloyPlansModel" "low" "[I" ∈ TB := tb_mem (List.mem_of_getElem? (i := 563) (by decide +kernel)) rfl
theorem fl_M_38 : Cond.fieldLink "AlloyPlansModel" 38 "AlloyPlansModel" "high" "[I" ∈ TB := tb_mem (List.mem_of_getElem? (i := 564) (by decide +kernel)) rfl
theorem fl_M_41 : Cond.fieldLink "AlloyPlansModel" 41 "AlloyPlansModel" "stays" "[I" ∈ TB := tb_mem (List.mem_of_getElem? (i := 565) (by decide +kernel)) rfl
theorem fl_M_44 : Cond.fieldLink "AlloyPlansModel" 44 "AlloyPlansModel" "cools" "[I" ∈ TB := tb_mem (List.mem_of_getElem? (i := 566) (by decide +kernel)) rfl
theorem fl_M_72 : Cond.fieldLink "AlloyPlansModel" 72 "AlloyPlansModel" "planned" "Z" ∈ TB := tb_mem (List.mem_of_getElem? (i := 567) (by decide +kernel)) rfl
theorem fl_M_47 : Cond.fieldLink "AlloyPlansModel" 47 "AlloyPlansModel" "plan" "[I" ∈ TB := tb_mem (List.mem_of_getElem? (i := 568) (by decide +kernel)) rfl
theorem fl_M_50 : Cond.fieldLink "AlloyPlansModel" 50 "AlloyPlansModel" "tried" "[I" ∈ TB := tb_mem (List.mem_of_getElem? (i := 569) (by decide +kernel)) rfl
theorem fl_M_64 : Cond.fieldLink "AlloyPlansModel" 64 "AlloyPlansModel" "added" "I" ∈ TB := tb_mem (List.mem_of_getElem? (i := 570) (by decide +kernel)) rfl
theorem fl_M_116 : Cond.fieldLink "AlloyPlansModel" 116 "AlloyPlansModel" "paid" "J" ∈ TB := tb_mem (List.mem_of_getElem? (i := 571) (by decide +kernel)) rfl
theorem ml_L_74 : Cond.methodLink "AlloyPlansLaw" 74 ⟨"AlloyPlansModel", "thrown", "()I"⟩ ∈ TB := tb_mem (List.mem_of_getElem? (i := 611) (by decide +kernel)) rfl
theorem im_M_thrown : Cond.instanceMethod ⟨"AlloyPlansModel", "thrown", "()I"⟩ ∈ TB := tb_mem (List.mem_of_getElem? (i := 612) (by decide +kernel)) rfl
theorem se_M_thrown : Cond.selects "AlloyPlansModel" ⟨"AlloyPlansModel", "thrown", "()I"⟩ ⟨"AlloyPlansModel", "thrown", "()I"⟩ ∈ TB := tb_mem (List.mem_of_getElem? (i := 613) (by decide +kernel)) rfl
set_option maxRecDepth 20000 in
theorem w_M_thrown : Cond.code y_M_thrown c_M_thrown 1 (some .int) ∈ TB := tb_mem (List.mem_of_getElem? (i := 614) rfl) rfl
theorem ml_L_73 : Cond.methodLink "AlloyPlansLaw" 73 ⟨"AlloyPlansModel", "heat", "(I)V"⟩ ∈ TB := tb_mem (List.mem_of_getElem? (i := 615) (by decide +kernel)) rfl
theorem im_M_heat : Cond.instanceMethod ⟨"AlloyPlansModel", "heat", "(I)V"⟩ ∈ TB := tb_mem (List.mem_of_getElem? (i := 616) (by decide +kernel)) rfl
theorem se_M_heat : Cond.selects "AlloyPlansModel" ⟨"AlloyPlansModel", "heat", "(I)V"⟩ ⟨"AlloyPlansModel", "heat", "(I)V"⟩ ∈ TB := tb_mem (List.mem_of_getElem? (i := 617) (by decide +kernel)) rfl
set_option maxRecDepth 20000 in
theorem w_M_heat : Cond.code y_M_heat c_M_heat 2 none ∈ TB := tb_mem (List.mem_of_getElem? (i := 618) rfl) rfl
theorem kc_M_67 : Cond.constant "AlloyPlansModel" 67 (65536 : Int32) ∈ TB := tb_mem (List.mem_of_getElem? (i := 619) (by decide +kernel)) rfl
theorem ml_M_57 : Cond.methodLink "AlloyPlansModel" 57 ⟨"AlloyPlansModel", "in", "(III)Z"⟩ ∈ TB := tb_mem (List.mem_of_getElem? (i := 620) (by decide +kernel)) rfl
theorem sm_M_in : Cond.static ⟨"AlloyPlansModel", "in", "(III)Z"⟩ ∈ TB := tb_mem (List.mem_of_getElem? (i := 621) (by decide +kernel)) rfl
set_option maxRecDepth 20000 in
theorem w_M_in : Cond.code y_M_in c_M_in 3 (some .boolean) ∈ TB := tb_mem (List.mem_of_getElem? (i := 622) rfl) rfl
theorem ml_M_68 : Cond.methodLink "AlloyPlansModel" 68 ⟨"AlloyPlansModel", "goes", "(ZZ)Z"⟩ ∈ TB := tb_mem (List.mem_of_getElem? (i := 623) (by decide +kernel)) rfl
theorem im_M_goes : Cond.instanceMethod ⟨"AlloyPlansModel", "goes", "(ZZ)Z"⟩ ∈ TB := tb_mem (List.mem_of_getElem? (i := 625) (by decide +kernel)) rfl
set_option maxRecDepth 20000 in
theorem w_M_goes : Cond.code y_M_goes c_M_goes 3 (some .boolean) ∈ TB := tb_mem (List.mem_of_getElem? (i := 626) rfl) rfl
theorem ml_L_80 : Cond.methodLink "AlloyPlansLaw" 80 ⟨"AlloyPlansModel", "present", "(III)V"⟩ ∈ TB := tb_mem (List.mem_of_getElem? (i := 627) (by decide +kernel)) rfl
theorem im_M_present : Cond.instanceMethod ⟨"AlloyPlansModel", "present", "(III)V"⟩ ∈ TB := tb_mem (List.mem_of_getElem? (i := 628) (by decide +kernel)) rfl
theorem se_M_present : Cond.selects "AlloyPlansModel" ⟨"AlloyPlansModel", "present", "(III)V"⟩ ⟨"AlloyPlansModel", "present", "(III)V"⟩ ∈ TB := tb_mem (List.mem_of_getElem? (i := 629) (by decide +kernel)) rfl
set_option maxRecDepth 20000 in
theorem w_M_present : Cond.code y_M_present c_M_present 4 none ∈ TB := tb_mem (List.mem_of_getElem? (i := 630) rfl) rfl
theorem ml_M_76 : Cond.methodLink "AlloyPlansModel" 76 ⟨"AlloyPlansModel", "isElement", "(I)Z"⟩ ∈ TB := tb_mem (List.mem_of_getElem? (i := 631) (by decide +kernel)) rfl
theorem sm_M_isElement : Cond.static ⟨"AlloyPlansModel", "isElement", "(I)Z"⟩ ∈ TB := tb_mem (List.mem_of_getElem? (i := 632) (by decide +kernel)) rfl
set_option maxRecDepth 20000 in
theorem w_M_isElement : Cond.code y_M_isElement c_M_isElement 1 (some .boolean) ∈ TB := tb_mem (List.mem_of_getElem? (i := 633) rfl) rfl
theorem ml_M_80 : Cond.methodLink "AlloyPlansModel" 80 ⟨"AlloyPlansModel", "areShares", "(II)Z"⟩ ∈ TB := tb_mem (List.mem_of_getElem? (i := 634) (by decide +kernel)) rfl
theorem sm_M_areShares : Cond.static ⟨"AlloyPlansModel", "areShares", "(II)Z"⟩ ∈ TB := tb_mem (List.mem_of_getElem? (i := 635) (by decide +kernel)) rfl
set_option maxRecDepth 20000 in
theorem w_M_areShares : Cond.code y_M_areShares c_M_areShares 2 (some .boolean) ∈ TB := tb_mem (List.mem_of_getElem? (i := 636) rfl) rfl
theorem ml_L_83 : Cond.methodLink "AlloyPlansLaw" 83 ⟨"AlloyPlansModel", "aim", "(III)V"⟩ ∈ TB := tb_mem (List.mem_of_getElem? (i := 637) (by decide +kernel)) rfl
theorem im_M_aim : Cond.instanceMethod ⟨"AlloyPlansModel", "aim", "(III)V"⟩ ∈ TB := tb_mem (List.mem_of_getElem? (i := 638) (by decide +kernel)) rfl
theorem se_M_aim : Cond.selects "AlloyPlansModel" ⟨"AlloyPlansModel", "aim", "(III)V"⟩ ⟨"AlloyPlansModel", "aim", "(III)V"⟩ ∈ TB := tb_mem (List.mem_of_getElem? (i := 639) (by decide +kernel)) rfl
set_option maxRecDepth 20000 in
theorem w_M_aim : Cond.code y_M_aim c_M_aim 4 none ∈ TB := tb_mem (List.mem_of_getElem? (i := 640) rfl) rfl
theorem ml_L_87 : Cond.methodLink "AlloyPlansLaw" 87 ⟨"AlloyPlansModel", "kind", "(III)I"⟩ ∈ TB := tb_mem (List.mem_of_getElem? (i := 641) (by decide +kernel)) rfl
theorem im_M_kind : Cond.instanceMethod ⟨"AlloyPlansModel", "kind", "(III)I"⟩ ∈ TB := tb_mem (List.mem_of_getElem? (i := 642) (by decide +kernel)) rfl
theorem se_M_kind : Cond.selects "AlloyPlansModel" ⟨"AlloyPlansModel", "kind", "(III)I"⟩ ⟨"AlloyPlansModel", "kind", "(III)I"⟩ ∈ TB := tb_mem (List.mem_of_getElem? (i := 643) (by decide +kernel)) rfl
set_option maxRecDepth 20000 in
theorem w_M_kind : Cond.code y_M_kind c_M_kind 4 (some .int) ∈ TB := tb_mem (List.mem_of_getElem? (i := 644) rfl) rfl
theorem ml_L_91 : Cond.methodLink "AlloyPlansLaw" 91 ⟨"AlloyPlansModel", "holds", "(IIII)V"⟩ ∈ TB := tb_mem (List.mem_of_getElem? (i := 645) (by decide +kernel)) rfl
theorem im_M_holds : Cond.instanceMethod ⟨"AlloyPlansModel", "holds", "(IIII)V"⟩ ∈ TB := tb_mem (List.mem_of_getElem? (i := 646) (by decide +kernel)) rfl
theorem se_M_holds : Cond.selects "AlloyPlansModel" ⟨"AlloyPlansModel", "holds", "(IIII)V"⟩ ⟨"AlloyPlansModel", "holds", "(IIII)V"⟩ ∈ TB := tb_mem (List.mem_of_getElem? (i := 647) (by decide +kernel)) rfl
set_option maxRecDepth 20000 in
theorem w_M_holds : Cond.code y_M_holds c_M_holds 5 none ∈ TB := tb_mem (List.mem_of_getElem? (i := 648) rfl) rfl
theorem ml_M_84 : Cond.methodLink "AlloyPlansModel" 84 ⟨"AlloyPlansModel", "isKind", "(I)Z"⟩ ∈ TB := tb_mem (List.mem_of_getElem? (i := 649) (by decide +kernel)) rfl
theorem im_M_isKind : Cond.instanceMethod ⟨"AlloyPlansModel", "isKind", "(I)Z"⟩ ∈ TB := tb_mem (List.mem_of_getElem? (i := 651) (by decide +kernel)) rfl
set_option maxRecDepth 20000 in
theorem w_M_isKind : Cond.code y_M_isKind c_M_isKind 2 (some .boolean) ∈ TB := tb_mem (List.mem_of_getElem? (i := 652) rfl) rfl
theorem ml_L_94 : Cond.methodLink "AlloyPlansLaw" 94 ⟨"AlloyPlansModel", "yields", "(III)V"⟩ ∈ TB := tb_mem (List.mem_of_getElem? (i := 653) (by decide +kernel)) rfl
theorem im_M_yields : Cond.instanceMethod ⟨"AlloyPlansModel", "yields", "(III)V"⟩ ∈ TB := tb_mem (List.mem_of_getElem? (i := 654) (by decide +kernel)) rfl
theorem se_M_yields : Cond.selects "AlloyPlansModel" ⟨"AlloyPlansModel", "yields", "(III)V"⟩ ⟨"AlloyPlansModel", "yields", "(III)V"⟩ ∈ TB := tb_mem (List.mem_of_getElem? (i := 655) (by decide +kernel)) rfl
set_option maxRecDepth 20000 in
theorem w_M_yields : Cond.code y_M_yields c_M_yields 4 none ∈ TB := tb_mem (List.mem_of_getElem? (i := 656) rfl) rfl
theorem ml_L_98 : Cond.methodLink "AlloyPlansLaw" 98 ⟨"AlloyPlansModel", "run", "(I)I"⟩ ∈ TB := tb_mem (List.mem_of_getElem? (i := 657) (by decide +kernel)) rfl
theorem im_M_run : Cond.instanceMethod ⟨"AlloyPlansModel", "run", "(I)I"⟩ ∈ TB := tb_mem (List.mem_of_getElem? (i := 658) (by decide +kernel)) rfl
theorem se_M_run : Cond.selects "AlloyPlansModel" ⟨"AlloyPlansModel", "run", "(I)I"⟩ ⟨"AlloyPlansModel", "run", "(I)I"⟩ ∈ TB := tb_mem (List.mem_of_getElem? (i := 659) (by decide +kernel)) rfl
set_option maxRecDepth 20000 in
theorem w_M_run : Cond.code y_M_run c_M_run 9 (some .int) ∈ TB := tb_mem (List.mem_of_getElem? (i := 660) rfl) rfl
theorem kc_M_97 : Cond.constant "AlloyPlansModel" 97 (100000000 : Int32) ∈ TB := tb_mem (List.mem_of_getElem? (i := 661) (by decide +kernel)) rfl
theorem ml_M_98 : Cond.methodLink "AlloyPlansModel" 98 ⟨"AlloyPlansModel", "sets", "(I)Z"⟩ ∈ TB := tb_mem (List.mem_of_getElem? (i := 662) (by decide +kernel)) rfl
theorem im_M_sets : Cond.instanceMethod ⟨"AlloyPlansModel", "sets", "(I)Z"⟩ ∈ TB := tb_mem (List.mem_of_getElem? (i := 664) (by decide +kernel)) rfl
set_option maxRecDepth 20000 in
theorem w_M_sets : Cond.code y_M_sets c_M_sets 4 (some .boolean) ∈ TB := tb_mem (List.mem_of_getElem? (i := 665) rfl) rfl
theorem ml_M_101 : Cond.methodLink "AlloyPlansModel" 101 ⟨"AlloyPlansModel", "cooling", "()I"⟩ ∈ TB := tb_mem (List.mem_of_getElem? (i := 666) (by decide +kernel)) rfl
theorem im_M_cooling : Cond.instanceMethod ⟨"AlloyPlansModel", "cooling", "()I"⟩ ∈ TB := tb_mem (List.mem_of_getElem? (i := 668) (by decide +kernel)) rfl
set_option maxRecDepth 20000 in
theorem w_M_cooling : Cond.code y_M_cooling c_M_cooling 3 (some .int) ∈ TB := tb_mem (List.mem_of_getElem? (i := 669) rfl) rfl
theorem ml_M_104 : Cond.methodLink "AlloyPlansModel" 104 ⟨"AlloyPlansModel", "isMet", "(I)Z"⟩ ∈ TB := tb_mem (List.mem_of_getElem? (i := 670) (by decide +kernel)) rfl
theorem im_M_isMet : Cond.instanceMethod ⟨"AlloyPlansModel", "isMet", "(I)Z"⟩ ∈ TB := tb_mem (List.mem_of_getElem? (i := 672) (by decide +kernel)) rfl
set_option maxRecDepth 20000 in
theorem w_M_isMet : Cond.code y_M_isMet c_M_isMet 4 (some .boolean) ∈ TB := tb_mem (List.mem_of_getElem? (i := 673) rfl) rfl
theorem kd_M_87 : Cond.constantLong "AlloyPlansModel" 87 (1000 : Int64) ∈ TB := tb_mem (List.mem_of_getElem? (i := 674) (by decide +kernel)) rfl
theorem ml_M_89 : Cond.methodLink "AlloyPlansModel" 89 ⟨"AlloyPlansModel", "weight", "()I"⟩ ∈ TB := tb_mem (List.mem_of_getElem? (i := 675) (by decide +kernel)) rfl
theorem im_M_weight : Cond.instanceMethod ⟨"AlloyPlansModel", "weight", "()I"⟩ ∈ TB := tb_mem (List.mem_of_getElem? (i := 677) (by decide +kernel)) rfl
set_option maxRecDepth 20000 in
theorem w_M_weight : Cond.code y_M_weight c_M_weight 3 (some .int) ∈ TB := tb_mem (List.mem_of_getElem? (i := 678) rfl) rfl
theorem ml_M_93 : Cond.methodLink "AlloyPlansModel" 93 ⟨"AlloyPlansModel", "amount", "(II)J"⟩ ∈ TB := tb_mem (List.mem_of_getElem? (i := 679) (by decide +kernel)) rfl
theorem im_M_amount : Cond.instanceMethod ⟨"AlloyPlansModel", "amount", "(II)J"⟩ ∈ TB := tb_mem (List.mem_of_getElem? (i := 681) (by decide +kernel)) rfl
set_option maxRecDepth 20000 in
theorem w_M_amount : Cond.code y_M_amount c_M_amount 6 (some .long) ∈ TB := tb_mem (List.mem_of_getElem? (i := 682) rfl) rfl
theorem ml_M_107 : Cond.methodLink "AlloyPlansModel" 107 ⟨"AlloyPlansModel", "cost", "()I"⟩ ∈ TB := tb_mem (List.mem_of_getElem? (i := 683) (by decide +kernel)) rfl
theorem im_M_cost : Cond.instanceMethod ⟨"AlloyPlansModel", "cost", "()I"⟩ ∈ TB := tb_mem (List.mem_of_getElem? (i := 685) (by decide +kernel)) rfl
set_option maxRecDepth 20000 in
theorem w_M_cost : Cond.code y_M_cost c_M_cost 3 (some .int) ∈ TB := tb_mem (List.mem_of_getElem? (i := 686) rfl) rfl
theorem ml_M_110 : Cond.methodLink "AlloyPlansModel" 110 ⟨"AlloyPlansModel", "used", "()I"⟩ ∈ TB := tb_mem (List.mem_of_getElem? (i := 687) (by decide +kernel)) rfl
theorem im_M_used : Cond.instanceMethod ⟨"AlloyPlansModel", "used", "()I"⟩ ∈ TB := tb_mem (List.mem_of_getElem? (i := 689) (by decide +kernel)) rfl
set_option maxRecDepth 20000 in
theorem w_M_used : Cond.code y_M_used c_M_used 3 (some .int) ∈ TB := tb_mem (List.mem_of_getElem? (i := 690) rfl) rfl
theorem ml_L_101 : Cond.methodLink "AlloyPlansLaw" 101 ⟨"AlloyPlansModel", "steps", "(I)I"⟩ ∈ TB := tb_mem (List.mem_of_getElem? (i := 691) (by decide +kernel)) rfl
theorem im_M_steps : Cond.instanceMethod ⟨"AlloyPlansModel", "steps", "(I)I"⟩ ∈ TB := tb_mem (List.mem_of_getElem? (i := 692) (by decide +kernel)) rfl
theorem se_M_steps : Cond.selects "AlloyPlansModel" ⟨"AlloyPlansModel", "steps", "(I)I"⟩ ⟨"AlloyPlansModel", "steps", "(I)I"⟩ ∈ TB := tb_mem (List.mem_of_getElem? (i := 693) (by decide +kernel)) rfl
set_option maxRecDepth 20000 in
theorem w_M_steps : Cond.code y_M_steps c_M_steps 2 (some .int) ∈ TB := tb_mem (List.mem_of_getElem? (i := 694) rfl) rfl
theorem ml_L_104 : Cond.methodLink "AlloyPlansLaw" 104 ⟨"AlloyPlansModel", "planned", "(I)I"⟩ ∈ TB := tb_mem (List.mem_of_getElem? (i := 695) (by decide +kernel)) rfl
theorem im_M_planned : Cond.instanceMethod ⟨"AlloyPlansModel", "planned", "(I)I"⟩ ∈ TB := tb_mem (List.mem_of_getElem? (i := 696) (by decide +kernel)) rfl
theorem se_M_planned : Cond.selects "AlloyPlansModel" ⟨"AlloyPlansModel", "planned", "(I)I"⟩ ⟨"AlloyPlansModel", "planned", "(I)I"⟩ ∈ TB := tb_mem (List.mem_of_getElem? (i := 697) (by decide +kernel)) rfl
set_option maxRecDepth 20000 in
theorem w_M_planned : Cond.code y_M_planned c_M_planned 2 (some .int) ∈ TB := tb_mem (List.mem_of_getElem? (i := 698) rfl) rfl
theorem ml_M_113 : Cond.methodLink "AlloyPlansModel" 113 ⟨"AlloyPlansModel", "load", "()V"⟩ ∈ TB := tb_mem (List.mem_of_getElem? (i := 699) (by decide +kernel)) rfl
theorem im_M_load : Cond.instanceMethod ⟨"AlloyPlansModel", "load", "()V"⟩ ∈ TB := tb_mem (List.mem_of_getElem? (i := 701) (by decide +kernel)) rfl
set_option maxRecDepth 20000 in
theorem w_M_load : Cond.code y_M_load c_M_load 2 none ∈ TB := tb_mem (List.mem_of_getElem? (i := 702) rfl) rfl
theorem ml_L_107 : Cond.methodLink "AlloyPlansLaw" 107 ⟨"AlloyPlansModel", "order", "(I)I"⟩ ∈ TB := tb_mem (List.mem_of_getElem? (i := 703) (by decide +kernel)) rfl
theorem im_M_order : Cond.instanceMethod ⟨"AlloyPlansModel", "order", "(I)I"⟩ ∈ TB := tb_mem (List.mem_of_getElem? (i := 704) (by decide +kernel)) rfl
theorem se_M_order : Cond.selects "AlloyPlansModel" ⟨"AlloyPlansModel", "order", "(I)I"⟩ ⟨"AlloyPlansModel", "order", "(I)I"⟩ ∈ TB := tb_mem (List.mem_of_getElem? (i := 705) (by decide +kernel)) rfl
set_option maxRecDepth 20000 in
theorem w_M_order : Cond.code y_M_order c_M_order 5 (some .int) ∈ TB := tb_mem (List.mem_of_getElem? (i := 706) rfl) rfl
theorem ml_L_110 : Cond.methodLink "AlloyPlansLaw" 110 ⟨"AlloyPlansModel", "after", "(III)J"⟩ ∈ TB := tb_mem (List.mem_of_getElem? (i := 707) (by decide +kernel)) rfl
theorem im_M_after : Cond.instanceMethod ⟨"AlloyPlansModel", "after", "(III)J"⟩ ∈ TB := tb_mem (List.mem_of_getElem? (i := 708) (by decide +kernel)) rfl
theorem se_M_after : Cond.selects "AlloyPlansModel" ⟨"AlloyPlansModel", "after", "(III)J"⟩ ⟨"AlloyPlansModel", "after", "(III)J"⟩ ∈ TB := tb_mem (List.mem_of_getElem? (i := 709) (by decide +kernel)) rfl
set_option maxRecDepth 20000 in
theorem w_M_after : Cond.code y_M_after c_M_after 14 (some .long) ∈ TB := tb_mem (List.mem_of_getElem? (i := 710) rfl) rfl
theorem ml_L_114 : Cond.methodLink "AlloyPlansLaw" 114 ⟨"AlloyPlansModel", "add", "()I"⟩ ∈ TB := tb_mem (List.mem_of_getElem? (i := 711) (by decide +kernel)) rfl
theorem im_M_add : Cond.instanceMethod ⟨"AlloyPlansModel", "add", "()I"⟩ ∈ TB := tb_mem (List.mem_of_getElem? (i := 712) (by decide +kernel)) rfl
theorem se_M_add : Cond.selects "AlloyPlansModel" ⟨"AlloyPlansModel", "add", "()I"⟩ ⟨"AlloyPlansModel", "add", "()I"⟩ ∈ TB := tb_mem (List.mem_of_getElem? (i := 713) (by decide +kernel)) rfl
set_option maxRecDepth 20000 in
theorem w_M_add : Cond.code y_M_add c_M_add 8 (some .int) ∈ TB := tb_mem (List.mem_of_getElem? (i := 714) rfl) rfl
theorem ml_L_117 : Cond.methodLink "AlloyPlansLaw" 117 ⟨"AlloyPlansModel", "heatAt", "(I)J"⟩ ∈ TB := tb_mem (List.mem_of_getElem? (i := 715) (by decide +kernel)) rfl
theorem im_M_heatAt : Cond.instanceMethod ⟨"AlloyPlansModel", "heatAt", "(I)J"⟩ ∈ TB := tb_mem (List.mem_of_getElem? (i := 716) (by decide +kernel)) rfl
theorem se_M_heatAt : Cond.selects "AlloyPlansModel" ⟨"AlloyPlansModel", "heatAt", "(I)J"⟩ ⟨"AlloyPlansModel", "heatAt", "(I)J"⟩ ∈ TB := tb_mem (List.mem_of_getElem? (i := 717) (by decide +kernel)) rfl
set_option maxRecDepth 20000 in
theorem w_M_heatAt : Cond.code y_M_heatAt c_M_heatAt 2 (some .long) ∈ TB := tb_mem (List.mem_of_getElem? (i := 718) rfl) rfl
theorem se_P_tell : Cond.selects "AlloyPlans" ⟨"AlloyPlans", "tell", "([IIII)V"⟩ ⟨"AlloyPlans", "tell", "([IIII)V"⟩ ∈ TB := tb_sel (List.mem_of_getElem? (i := 1) (by decide +kernel)) rfl
theorem se_P_isKind : Cond.selects "AlloyPlans" ⟨"AlloyPlans", "isKind", "(I)Z"⟩ ⟨"AlloyPlans", "isKind", "(I)Z"⟩ ∈ TB := tb_sel (List.mem_of_getElem? (i := 2) (by decide +kernel)) rfl
theorem se_S_judge : Cond.selects "AlloyPlans$Search" ⟨"AlloyPlans$Search", "judge", "(LAlloyPlans$Mix;)V"⟩ ⟨"AlloyPlans$Search", "judge", "(LAlloyPlans$Mix;)V"⟩ ∈ TB := tb_sel (List.mem_of_getElem? (i := 3) (by decide +kernel)) rfl
theorem se_S_isWorthTrying : Cond.selects "AlloyPlans$Search" ⟨"AlloyPlans$Search", "isWorthTrying", "(LAlloyPlans$Mix;)Z"⟩ ⟨"AlloyPlans$Search", "isWorthTrying", "(LAlloyPlans$Mix;)Z"⟩ ∈ TB := tb_sel (List.mem_of_getElem? (i := 4) (by decide +kernel)) rfl
theorem se_P_requirePlan : Cond.selects "AlloyPlans" ⟨"AlloyPlans", "requirePlan", "()V"⟩ ⟨"AlloyPlans", "requirePlan", "()V"⟩ ∈ TB := tb_sel (List.mem_of_getElem? (i := 5) (by decide +kernel)) rfl
theorem se_P_countAddedBefore : Cond.selects "AlloyPlans" ⟨"AlloyPlans", "countAddedBefore", "(I)I"⟩ ⟨"AlloyPlans", "countAddedBefore", "(I)I"⟩ ∈ TB := tb_sel (List.mem_of_getElem? (i := 6) (by decide +kernel)) rfl
theorem se_P_isAddedBefore : Cond.selects "AlloyPlans" ⟨"AlloyPlans", "isAddedBefore", "(II)Z"⟩ ⟨"AlloyPlans", "isAddedBefore", "(II)Z"⟩ ∈ TB := tb_sel (List.mem_of_getElem? (i := 7) (by decide +kernel)) rfl
theorem se_P_heldByPlan : Cond.selects "AlloyPlans" ⟨"AlloyPlans", "heldByPlan", "(I)J"⟩ ⟨"AlloyPlans", "heldByPlan", "(I)J"⟩ ∈ TB := tb_sel (List.mem_of_getElem? (i := 8) (by decide +kernel)) rfl
theorem se_P_wholeByPlan : Cond.selects "AlloyPlans" ⟨"AlloyPlans", "wholeByPlan", "()J"⟩ ⟨"AlloyPlans", "wholeByPlan", "()J"⟩ ∈ TB := tb_sel (List.mem_of_getElem? (i := 9) (by decide +kernel)) rfl
theorem se_P_roundedByPlan : Cond.selects "AlloyPlans" ⟨"AlloyPlans", "roundedByPlan", "(I)I"⟩ ⟨"AlloyPlans", "roundedByPlan", "(I)I"⟩ ∈ TB := tb_sel (List.mem_of_getElem? (i := 10) (by decide +kernel)) rfl
theorem se_M_goes : Cond.selects "AlloyPlansModel" ⟨"AlloyPlansModel", "goes", "(ZZ)Z"⟩ ⟨"AlloyPlansModel", "goes", "(ZZ)Z"⟩ ∈ TB := tb_sel (List.mem_of_getElem? (i := 11) (by decide +kernel)) rfl
theorem se_M_isKind : Cond.selects "AlloyPlansModel" ⟨"AlloyPlansModel", "isKind", "(I)Z"⟩ ⟨"AlloyPlansModel", "isKind", "(I)Z"⟩ ∈ TB := tb_sel (List.mem_of_getElem? (i := 12) (by decide +kernel)) rfl
theorem se_M_sets : Cond.selects "AlloyPlansModel" ⟨"AlloyPlansModel", "sets", "(I)Z"⟩ ⟨"AlloyPlansModel", "sets", "(I)Z"⟩ ∈ TB := tb_sel (List.mem_of_getElem? (i := 13) (by decide +kernel)) rfl
theorem se_M_cooling : Cond.selects "AlloyPlansModel" ⟨"AlloyPlansModel", "cooling", "()I"⟩ ⟨"AlloyPlansModel", "cooling", "()I"⟩ ∈ TB := tb_sel (List.mem_of_getElem? (i := 14) (by decide +kernel)) rfl
theorem se_M_isMet : Cond.selects "AlloyPlansModel" ⟨"AlloyPlansModel", "isMet", "(I)Z"⟩ ⟨"AlloyPlansModel", "isMet", "(I)Z"⟩ ∈ TB := tb_sel (List.mem_of_getElem? (i := 15) (by decide +kernel)) rfl
theorem se_M_weight : Cond.selects "AlloyPlansModel" ⟨"AlloyPlansModel", "weight", "()I"⟩ ⟨"AlloyPlansModel", "weight", "()I"⟩ ∈ TB := tb_sel (List.mem_of_getElem? (i := 16) (by decide +kernel)) rfl
theorem se_M_amount : Cond.selects "AlloyPlansModel" ⟨"AlloyPlansModel", "amount", "(II)J"⟩ ⟨"AlloyPlansModel", "amount", "(II)J"⟩ ∈ TB := tb_sel (List.mem_of_getElem? (i := 17) (by decide +kernel)) rfl
theorem se_M_cost : Cond.selects "AlloyPlansModel" ⟨"AlloyPlansModel", "cost", "()I"⟩ ⟨"AlloyPlansModel", "cost", "()I"⟩ ∈ TB := tb_sel (List.mem_of_getElem? (i := 18) (by decide +kernel)) rfl
theorem se_M_used : Cond.selects "AlloyPlansModel" ⟨"AlloyPlansModel", "used", "()I"⟩ ⟨"AlloyPlansModel", "used", "()I"⟩ ∈ TB := tb_sel (List.mem_of_getElem? (i := 19) (by decide +kernel)) rfl
theorem se_M_load : Cond.selects "AlloyPlansModel" ⟨"AlloyPlansModel", "load", "()V"⟩ ⟨"AlloyPlansModel", "load", "()V"⟩ ∈ TB := tb_sel (List.mem_of_getElem? (i := 20) (by decide +kernel)) rfl
end
section
theorem d_P_init_0 : decode c_P_init 0 = .ok (.aload_n 0, 1) := by decide +kernel
theorem d_P_init_1 : decode c_P_init 1 = .ok (.invokespecial 3, 3) := by decide +kernel
theorem d_P_init_4 : decode c_P_init 4 = .ok (.aload_n 0, 1) := by decide +kernel
theorem d_P_init_5 : decode c_P_init 5 = .ok (.new 9, 3) := by decide +kernel
theorem d_P_init_8 : decode c_P_init 8 = .ok (.dup, 1) := by decide +kernel
theorem d_P_init_9 : decode c_P_init 9 = .ok (.invokespecial 11, 3) := by decide +kernel
theorem d_P_init_12 : decode c_P_init 12 = .ok (.putfield 12, 3) := by decide +kernel
theorem d_P_init_15 : decode c_P_init 15 = .ok (.aload_n 0, 1) := by decide +kernel
theorem d_P_init_16 : decode c_P_init 16 = .ok (.iconst 4, 1) := by decide +kernel
theorem d_P_init_17 : decode c_P_init 17 = .ok (.anewarray 16, 3) := by decide +kernel
theorem d_P_init_20 : decode c_P_init 20 = .ok (.putfield 18, 3) := by decide +kernel
theorem d_P_init_23 : decode c_P_init 23 = .ok (.iconst 0, 1) := by decide +kernel
theorem d_P_init_24 : decode c_P_init 24 = .ok (.istore_n 1, 1) := by decide +kernel
theorem d_P_init_25 : decode c_P_init 25 = .ok (.iload_n 1, 1) := by decide +kernel
theorem d_P_init_26 : decode c_P_init 26 = .ok (.aload_n 0, 1) := by decide +kernel
theorem d_P_init_27 : decode c_P_init 27 = .ok (.getfield 18, 3) := by decide +kernel
theorem d_P_init_30 : decode c_P_init 30 = .ok (.arraylength, 1) := by decide +kernel
theorem d_P_init_31 : decode c_P_init 31 = .ok (.if_icmp .ge 22, 3) := by decide +kernel
theorem d_P_init_34 : decode c_P_init 34 = .ok (.aload_n 0, 1) := by decide +kernel
theorem d_P_init_35 : decode c_P_init 35 = .ok (.getfield 18, 3) := by decide +kernel
theorem d_P_init_38 : decode c_P_init 38 = .ok (.iload_n 1, 1) := by decide +kernel
theorem d_P_init_39 : decode c_P_init 39 = .ok (.new 16, 3) := by decide +kernel
theorem d_P_init_42 : decode c_P_init 42 = .ok (.dup, 1) := by decide +kernel
theorem d_P_init_43 : decode c_P_init 43 = .ok (.invokespecial 22, 3) := by decide +kernel
theorem d_P_init_46 : decode c_P_init 46 = .ok (.aastore, 1) := by decide +kernel
theorem d_P_init_47 : decode c_P_init 47 = .ok (.iinc 1 1, 3) := by decide +kernel
theorem d_P_init_50 : decode c_P_init 50 = .ok (.goto (-25), 3) := by decide +kernel
theorem d_P_init_53 : decode c_P_init 53 = .ok (.aload_n 0, 1) := by decide +kernel
theorem d_P_init_54 : decode c_P_init 54 = .ok (.new 23, 3) := by decide +kernel
theorem d_P_init_57 : decode c_P_init 57 = .ok (.dup, 1) := by decide +kernel
theorem d_P_init_58 : decode c_P_init 58 = .ok (.invokespecial 25, 3) := by decide +kernel
theorem d_P_init_61 : decode c_P_init 61 = .ok (.putfield 26, 3) := by decide +kernel
theorem d_P_init_64 : decode c_P_init 64 = .ok (.aload_n 0, 1) := by decide +kernel
theorem d_P_init_65 : decode c_P_init 65 = .ok (.new 30, 3) := by decide +kernel
theorem d_P_init_68 : decode c_P_init 68 = .ok (.dup, 1) := by decide +kernel
theorem d_P_init_69 : decode c_P_init 69 = .ok (.invokespecial 32, 3) := by decide +kernel
theorem d_P_init_72 : decode c_P_init 72 = .ok (.putfield 33, 3) := by decide +kernel
theorem d_P_init_75 : decode c_P_init 75 = .ok (.aload_n 0, 1) := by decide +kernel
theorem d_P_init_76 : decode c_P_init 76 = .ok (.iconst 0, 1) := by decide +kernel
theorem d_P_init_77 : decode c_P_init 77 = .ok (.putfield 37, 3) := by decide +kernel
theorem d_P_init_80 : decode c_P_init 80 = .ok (.return_, 1) := by decide +kernel
theorem d_P_heat_0 : decode c_P_heat 0 = .ok (.aload_n 0, 1) := by decide +kernel
theorem d_P_heat_1 : decode c_P_heat 1 = .ok (.getfield 12, 3) := by decide +kernel
theorem d_P_heat_4 : decode c_P_heat 4 = .ok (.getfield 41, 3) := by decide +kernel
theorem d_P_heat_7 : decode c_P_heat 7 = .ok (.ifCond .le 13, 3) := by decide +kernel
theorem d_P_heat_10 : decode c_P_heat 10 = .ok (.new 44, 3) := by decide +kernel
theorem d_P_heat_13 : decode c_P_heat 13 = .ok (.dup, 1) := by decide +kernel
theorem d_P_heat_14 : decode c_P_heat 14 = .ok (.ldc 46, 2) := by decide +kernel
theorem d_P_heat_16 : decode c_P_heat 16 = .ok (.invokespecial 48, 3) := by decide +kernel
theorem d_P_heat_19 : decode c_P_heat 19 = .ok (.athrow, 1) := by decide +kernel
theorem d_P_heat_20 : decode c_P_heat 20 = .ok (.iload_n 1, 1) := by decide +kernel
theorem d_P_heat_21 : decode c_P_heat 21 = .ok (.iconst 1, 1) := by decide +kernel
theorem d_P_heat_22 : decode c_P_heat 22 = .ok (.ldc 51, 2) := by decide +kernel
theorem d_P_heat_24 : decode c_P_heat 24 = .ok (.invokestatic 52, 3) := by decide +kernel
theorem d_P_heat_27 : decode c_P_heat 27 = .ok (.invokestatic 56, 3) := by decide +kernel
theorem d_P_heat_30 : decode c_P_heat 30 = .ok (.aload_n 0, 1) := by decide +kernel
theorem d_P_heat_31 : decode c_P_heat 31 = .ok (.getfield 12, 3) := by decide +kernel
theorem d_P_heat_34 : decode c_P_heat 34 = .ok (.iload_n 1, 1) := by decide +kernel
theorem d_P_heat_35 : decode c_P_heat 35 = .ok (.putfield 60, 3) := by decide +kernel
theorem d_P_heat_38 : decode c_P_heat 38 = .ok (.aload_n 0, 1) := by decide +kernel
theorem d_P_heat_39 : decode c_P_heat 39 = .ok (.getfield 26, 3) := by decide +kernel
theorem d_P_heat_42 : decode c_P_heat 42 = .ok (.invokevirtual 63, 3) := by decide +kernel
theorem d_P_heat_45 : decode c_P_heat 45 = .ok (.return_, 1) := by decide +kernel
theorem d_P_present_0 : decode c_P_present 0 = .ok (.iload_n 1, 1) := by decide +kernel
theorem d_P_present_1 : decode c_P_present 1 = .ok (.iconst 0, 1) := by decide +kernel
theorem d_P_present_2 : decode c_P_present 2 = .ok (.iconst 3, 1) := by decide +kernel
theorem d_P_present_3 : decode c_P_present 3 = .ok (.invokestatic 52, 3) := by decide +kernel
theorem d_P_present_6 : decode c_P_present 6 = .ok (.invokestatic 66, 3) := by decide +kernel
theorem d_P_present_9 : decode c_P_present 9 = .ok (.iload_n 2, 1) := by decide +kernel
theorem d_P_present_10 : decode c_P_present 10 = .ok (.iload_n 3, 1) := by decide +kernel
theorem d_P_present_11 : decode c_P_present 11 = .ok (.invokestatic 69, 3) := by decide +kernel
theorem d_P_present_14 : decode c_P_present 14 = .ok (.invokestatic 56, 3) := by decide +kernel
theorem d_P_present_17 : decode c_P_present 17 = .ok (.aload_n 0, 1) := by decide +kernel
theorem d_P_present_18 : decode c_P_present 18 = .ok (.aload_n 0, 1) := by decide +kernel
theorem d_P_present_19 : decode c_P_present 19 = .ok (.getfield 12, 3) := by decide +kernel
theorem d_P_present_22 : decode c_P_present 22 = .ok (.getfield 73, 3) := by decide +kernel
theorem d_P_present_25 : decode c_P_present 25 = .ok (.iload_n 1, 1) := by decide +kernel
theorem d_P_present_26 : decode c_P_present 26 = .ok (.iload_n 2, 1) := by decide +kernel
theorem d_P_present_27 : decode c_P_present 27 = .ok (.iload_n 3, 1) := by decide +kernel
theorem d_P_present_28 : decode c_P_present 28 = .ok (.invokevirtual 77, 3) := by decide +kernel
theorem d_P_present_31 : decode c_P_present 31 = .ok (.return_, 1) := by decide +kernel
theorem d_P_aim_0 : decode c_P_aim 0 = .ok (.iload_n 1, 1) := by decide +kernel
theorem d_P_aim_1 : decode c_P_aim 1 = .ok (.iconst 0, 1) := by decide +kernel
theorem d_P_aim_2 : decode c_P_aim 2 = .ok (.iconst 3, 1) := by decide +kernel
theorem d_P_aim_3 : decode c_P_aim 3 = .ok (.invokestatic 52, 3) := by decide +kernel
theorem d_P_aim_6 : decode c_P_aim 6 = .ok (.invokestatic 66, 3) := by decide +kernel
theorem d_P_aim_9 : decode c_P_aim 9 = .ok (.iload_n 2, 1) := by decide +kernel
theorem d_P_aim_10 : decode c_P_aim 10 = .ok (.iload_n 3, 1) := by decide +kernel
theorem d_P_aim_11 : decode c_P_aim 11 = .ok (.invokestatic 69, 3) := by decide +kernel
theorem d_P_aim_14 : decode c_P_aim 14 = .ok (.invokestatic 56, 3) := by decide +kernel
theorem d_P_aim_17 : decode c_P_aim 17 = .ok (.aload_n 0, 1) := by decide +kernel
theorem d_P_aim_18 : decode c_P_aim 18 = .ok (.aload_n 0, 1) := by decide +kernel
theorem d_P_aim_19 : decode c_P_aim 19 = .ok (.getfield 12, 3) := by decide +kernel
theorem d_P_aim_22 : decode c_P_aim 22 = .ok (.getfield 81, 3) := by decide +kernel
theorem d_P_aim_25 : decode c_P_aim 25 = .ok (.iload_n 1, 1) := by decide +kernel
theorem d_P_aim_26 : decode c_P_aim 26 = .ok (.iload_n 2, 1) := by decide +kernel
theorem d_P_aim_27 : decode c_P_aim 27 = .ok (.iload_n 3, 1) := by decide +kernel
theorem d_P_aim_28 : decode c_P_aim 28 = .ok (.invokevirtual 77, 3) := by decide +kernel
theorem d_P_aim_31 : decode c_P_aim 31 = .ok (.return_, 1) := by decide +kernel
theorem d_P_kind_0 : decode c_P_kind 0 = .ok (.iload_n 1, 1) := by decide +kernel
theorem d_P_kind_1 : decode c_P_kind 1 = .ok (.iconst 0, 1) := by decide +kernel
theorem d_P_kind_2 : decode c_P_kind 2 = .ok (.ldc 84, 2) := by decide +kernel
theorem d_P_kind_4 : decode c_P_kind 4 = .ok (.invokestatic 52, 3) := by decide +kernel
theorem d_P_kind_7 : decode c_P_kind 7 = .ok (.ifCond .eq 28, 3) := by decide +kernel
theorem d_P_kind_10 : decode c_P_kind 10 = .ok (.iload_n 2, 1) := by decide +kernel
theorem d_P_kind_11 : decode c_P_kind 11 = .ok (.iconst 1, 1) := by decide +kernel
theorem d_P_kind_12 : decode c_P_kind 12 = .ok (.sipush 1000, 3) := by decide +kernel
theorem d_P_kind_15 : decode c_P_kind 15 = .ok (.invokestatic 52, 3) := by decide +kernel
theorem d_P_kind_18 : decode c_P_kind 18 = .ok (.ifCond .eq 17, 3) := by decide +kernel
theorem d_P_kind_21 : decode c_P_kind 21 = .ok (.iload_n 3, 1) := by decide +kernel
theorem d_P_kind_22 : decode c_P_kind 22 = .ok (.iconst 0, 1) := by decide +kernel
theorem d_P_kind_23 : decode c_P_kind 23 = .ok (.bipush 12, 2) := by decide +kernel
theorem d_P_kind_25 : decode c_P_kind 25 = .ok (.invokestatic 52, 3) := by decide +kernel
theorem d_P_kind_28 : decode c_P_kind 28 = .ok (.ifCond .eq 7, 3) := by decide +kernel
theorem d_P_kind_31 : decode c_P_kind 31 = .ok (.iconst 1, 1) := by decide +kernel
theorem d_P_kind_32 : decode c_P_kind 32 = .ok (.goto 4, 3) := by decide +kernel
theorem d_P_kind_35 : decode c_P_kind 35 = .ok (.iconst 0, 1) := by decide +kernel
theorem d_P_kind_36 : decode c_P_kind 36 = .ok (.invokestatic 56, 3) := by decide +kernel
theorem d_P_kind_39 : decode c_P_kind 39 = .ok (.aload_n 0, 1) := by decide +kernel
theorem d_P_kind_40 : decode c_P_kind 40 = .ok (.getfield 37, 3) := by decide +kernel
theorem d_P_kind_43 : decode c_P_kind 43 = .ok (.aload_n 0, 1) := by decide +kernel
theorem d_P_kind_44 : decode c_P_kind 44 = .ok (.getfield 18, 3) := by decide +kernel
theorem d_P_kind_47 : decode c_P_kind 47 = .ok (.arraylength, 1) := by decide +kernel
theorem d_P_kind_48 : decode c_P_kind 48 = .ok (.if_icmp .lt 13, 3) := by decide +kernel
theorem d_P_kind_51 : decode c_P_kind 51 = .ok (.new 85, 3) := by decide +kernel
theorem d_P_kind_54 : decode c_P_kind 54 = .ok (.dup, 1) := by decide +kernel
theorem d_P_kind_55 : decode c_P_kind 55 = .ok (.ldc 87, 2) := by decide +kernel
theorem d_P_kind_57 : decode c_P_kind 57 = .ok (.invokespecial 89, 3) := by decide +kernel
theorem d_P_kind_60 : decode c_P_kind 60 = .ok (.athrow, 1) := by decide +kernel
theorem d_P_kind_61 : decode c_P_kind 61 = .ok (.aload_n 0, 1) := by decide +kernel
theorem d_P_kind_62 : decode c_P_kind 62 = .ok (.getfield 37, 3) := by decide +kernel
theorem d_P_kind_65 : decode c_P_kind 65 = .ok (.istore 4, 2) := by decide +kernel
theorem d_P_kind_67 : decode c_P_kind 67 = .ok (.aload_n 0, 1) := by decide +kernel
theorem d_P_kind_68 : decode c_P_kind 68 = .ok (.getfield 18, 3) := by decide +kernel
theorem d_P_kind_71 : decode c_P_kind 71 = .ok (.iload 4, 2) := by decide +kernel
theorem d_P_kind_73 : decode c_P_kind 73 = .ok (.aaload, 1) := by decide +kernel
theorem d_P_kind_74 : decode c_P_kind 74 = .ok (.iload_n 1, 1) := by decide +kernel
theorem d_P_kind_75 : decode c_P_kind 75 = .ok (.putfield 90, 3) := by decide +kernel
theorem d_P_kind_78 : decode c_P_kind 78 = .ok (.aload_n 0, 1) := by decide +kernel
theorem d_P_kind_79 : decode c_P_kind 79 = .ok (.getfield 18, 3) := by decide +kernel
theorem d_P_kind_82 : decode c_P_kind 82 = .ok (.iload 4, 2) := by decide +kernel
theorem d_P_kind_84 : decode c_P_kind 84 = .ok (.aaload, 1) := by decide +kernel
theorem d_P_kind_85 : decode c_P_kind 85 = .ok (.iload_n 2, 1) := by decide +kernel
theorem d_P_kind_86 : decode c_P_kind 86 = .ok (.putfield 93, 3) := by decide +kernel
theorem d_P_kind_89 : decode c_P_kind 89 = .ok (.aload_n 0, 1) := by decide +kernel
theorem d_P_kind_90 : decode c_P_kind 90 = .ok (.getfield 18, 3) := by decide +kernel
theorem d_P_kind_93 : decode c_P_kind 93 = .ok (.iload 4, 2) := by decide +kernel
theorem d_P_kind_95 : decode c_P_kind 95 = .ok (.aaload, 1) := by decide +kernel
theorem d_P_kind_96 : decode c_P_kind 96 = .ok (.iload_n 3, 1) := by decide +kernel
theorem d_P_kind_97 : decode c_P_kind 97 = .ok (.putfield 94, 3) := by decide +kernel
theorem d_P_kind_100 : decode c_P_kind 100 = .ok (.aload_n 0, 1) := by decide +kernel
theorem d_P_kind_101 : decode c_P_kind 101 = .ok (.iload 4, 2) := by decide +kernel
theorem d_P_kind_103 : decode c_P_kind 103 = .ok (.iconst 1, 1) := by decide +kernel
theorem d_P_kind_104 : decode c_P_kind 104 = .ok (.iadd, 1) := by decide +kernel
theorem d_P_kind_105 : decode c_P_kind 105 = .ok (.putfield 37, 3) := by decide +kernel
theorem d_P_kind_108 : decode c_P_kind 108 = .ok (.aload_n 0, 1) := by decide +kernel
theorem d_P_kind_109 : decode c_P_kind 109 = .ok (.getfield 26, 3) := by decide +kernel
theorem d_P_kind_112 : decode c_P_kind 112 = .ok (.invokevirtual 63, 3) := by decide +kernel
theorem d_P_kind_115 : decode c_P_kind 115 = .ok (.iload 4, 2) := by decide +kernel
theorem d_P_kind_117 : decode c_P_kind 117 = .ok (.ireturn, 1) := by decide +kernel
theorem d_P_holds_0 : decode c_P_holds 0 = .ok (.aload_n 0, 1) := by decide +kernel
theorem d_P_holds_1 : decode c_P_holds 1 = .ok (.iload_n 1, 1) := by decide +kernel
theorem d_P_holds_2 : decode c_P_holds 2 = .ok (.invokevirtual 97, 3) := by decide +kernel
theorem d_P_holds_5 : decode c_P_holds 5 = .ok (.ifCond .eq 16, 3) := by decide +kernel
theorem d_P_holds_8 : decode c_P_holds 8 = .ok (.iload_n 2, 1) := by decide +kernel
theorem d_P_holds_9 : decode c_P_holds 9 = .ok (.iconst 0, 1) := by decide +kernel
theorem d_P_holds_10 : decode c_P_holds 10 = .ok (.iconst 3, 1) := by decide +kernel
theorem d_P_holds_11 : decode c_P_holds 11 = .ok (.invokestatic 52, 3) := by decide +kernel
theorem d_P_holds_14 : decode c_P_holds 14 = .ok (.ifCond .eq 7, 3) := by decide +kernel
theorem d_P_holds_17 : decode c_P_holds 17 = .ok (.iconst 1, 1) := by decide +kernel
theorem d_P_holds_18 : decode c_P_holds 18 = .ok (.goto 4, 3) := by decide +kernel
theorem d_P_holds_21 : decode c_P_holds 21 = .ok (.iconst 0, 1) := by decide +kernel
theorem d_P_holds_22 : decode c_P_holds 22 = .ok (.invokestatic 66, 3) := by decide +kernel
theorem d_P_holds_25 : decode c_P_holds 25 = .ok (.iload_n 3, 1) := by decide +kernel
theorem d_P_holds_26 : decode c_P_holds 26 = .ok (.iload 4, 2) := by decide +kernel
theorem d_P_holds_28 : decode c_P_holds 28 = .ok (.invokestatic 69, 3) := by decide +kernel
theorem d_P_holds_31 : decode c_P_holds 31 = .ok (.invokestatic 56, 3) := by decide +kernel
theorem d_P_holds_34 : decode c_P_holds 34 = .ok (.aload_n 0, 1) := by decide +kernel
theorem d_P_holds_35 : decode c_P_holds 35 = .ok (.aload_n 0, 1) := by decide +kernel
theorem d_P_holds_36 : decode c_P_holds 36 = .ok (.getfield 18, 3) := by decide +kernel
theorem d_P_holds_39 : decode c_P_holds 39 = .ok (.iload_n 1, 1) := by decide +kernel
theorem d_P_holds_40 : decode c_P_holds 40 = .ok (.aaload, 1) := by decide +kernel
theorem d_P_holds_41 : decode c_P_holds 41 = .ok (.getfield 101, 3) := by decide +kernel
theorem d_P_holds_44 : decode c_P_holds 44 = .ok (.iload_n 2, 1) := by decide +kernel
theorem d_P_holds_45 : decode c_P_holds 45 = .ok (.iload_n 3, 1) := by decide +kernel
theorem d_P_holds_46 : decode c_P_holds 46 = .ok (.iload 4, 2) := by decide +kernel
theorem d_P_holds_48 : decode c_P_holds 48 = .ok (.invokevirtual 77, 3) := by decide +kernel
theorem d_P_holds_51 : decode c_P_holds 51 = .ok (.return_, 1) := by decide +kernel
theorem d_P_yields_0 : decode c_P_yields 0 = .ok (.aload_n 0, 1) := by decide +kernel
theorem d_P_yields_1 : decode c_P_yields 1 = .ok (.iload_n 1, 1) := by decide +kernel
theorem d_P_yields_2 : decode c_P_yields 2 = .ok (.invokevirtual 97, 3) := by decide +kernel
theorem d_P_yields_5 : decode c_P_yields 5 = .ok (.invokestatic 66, 3) := by decide +kernel
theorem d_P_yields_8 : decode c_P_yields 8 = .ok (.iload_n 2, 1) := by decide +kernel
theorem d_P_yields_9 : decode c_P_yields 9 = .ok (.iconst 0, 1) := by decide +kernel
theorem d_P_yields_10 : decode c_P_yields 10 = .ok (.sipush 1000, 3) := by decide +kernel
theorem d_P_yields_13 : decode c_P_yields 13 = .ok (.invokestatic 52, 3) := by decide +kernel
theorem d_P_yields_16 : decode c_P_yields 16 = .ok (.ifCond .eq 18, 3) := by decide +kernel
theorem d_P_yields_19 : decode c_P_yields 19 = .ok (.iload_n 3, 1) := by decide +kernel
theorem d_P_yields_20 : decode c_P_yields 20 = .ok (.iconst 0, 1) := by decide +kernel
theorem d_P_yields_21 : decode c_P_yields 21 = .ok (.sipush 1000, 3) := by decide +kernel
theorem d_P_yields_24 : decode c_P_yields 24 = .ok (.invokestatic 52, 3) := by decide +kernel
theorem d_P_yields_27 : decode c_P_yields 27 = .ok (.ifCond .eq 7, 3) := by decide +kernel
theorem d_P_yields_30 : decode c_P_yields 30 = .ok (.iconst 1, 1) := by decide +kernel
theorem d_P_yields_31 : decode c_P_yields 31 = .ok (.goto 4, 3) := by decide +kernel
theorem d_P_yields_34 : decode c_P_yields 34 = .ok (.iconst 0, 1) := by decide +kernel
theorem d_P_yields_35 : decode c_P_yields 35 = .ok (.invokestatic 56, 3) := by decide +kernel
theorem d_P_yields_38 : decode c_P_yields 38 = .ok (.aload_n 0, 1) := by decide +kernel
theorem d_P_yields_39 : decode c_P_yields 39 = .ok (.getfield 18, 3) := by decide +kernel
theorem d_P_yields_42 : decode c_P_yields 42 = .ok (.iload_n 1, 1) := by decide +kernel
theorem d_P_yields_43 : decode c_P_yields 43 = .ok (.aaload, 1) := by decide +kernel
theorem d_P_yields_44 : decode c_P_yields 44 = .ok (.iload_n 2, 1) := by decide +kernel
theorem d_P_yields_45 : decode c_P_yields 45 = .ok (.putfield 104, 3) := by decide +kernel
theorem d_P_yields_48 : decode c_P_yields 48 = .ok (.aload_n 0, 1) := by decide +kernel
theorem d_P_yields_49 : decode c_P_yields 49 = .ok (.getfield 18, 3) := by decide +kernel
theorem d_P_yields_52 : decode c_P_yields 52 = .ok (.iload_n 1, 1) := by decide +kernel
theorem d_P_yields_53 : decode c_P_yields 53 = .ok (.aaload, 1) := by decide +kernel
theorem d_P_yields_54 : decode c_P_yields 54 = .ok (.iload_n 3, 1) := by decide +kernel
theorem d_P_yields_55 : decode c_P_yields 55 = .ok (.putfield 107, 3) := by decide +kernel
theorem d_P_yields_58 : decode c_P_yields 58 = .ok (.aload_n 0, 1) := by decide +kernel
theorem d_P_yields_59 : decode c_P_yields 59 = .ok (.getfield 26, 3) := by decide +kernel
theorem d_P_yields_62 : decode c_P_yields 62 = .ok (.invokevirtual 63, 3) := by decide +kernel
theorem d_P_yields_65 : decode c_P_yields 65 = .ok (.return_, 1) := by decide +kernel
theorem d_P_run_0 : decode c_P_run 0 = .ok (.iload_n 1, 1) := by decide +kernel
theorem d_P_run_1 : decode c_P_run 1 = .ok (.iconst 0, 1) := by decide +kernel
theorem d_P_run_2 : decode c_P_run 2 = .ok (.ldc 110, 2) := by decide +kernel
theorem d_P_run_4 : decode c_P_run 4 = .ok (.invokestatic 52, 3) := by decide +kernel
theorem d_P_run_7 : decode c_P_run 7 = .ok (.invokestatic 56, 3) := by decide +kernel
theorem d_P_run_10 : decode c_P_run 10 = .ok (.aload_n 0, 1) := by decide +kernel
theorem d_P_run_11 : decode c_P_run 11 = .ok (.getfield 26, 3) := by decide +kernel
theorem d_P_run_14 : decode c_P_run 14 = .ok (.invokevirtual 63, 3) := by decide +kernel
theorem d_P_run_17 : decode c_P_run 17 = .ok (.aload_n 0, 1) := by decide +kernel
theorem d_P_run_18 : decode c_P_run 18 = .ok (.getfield 33, 3) := by decide +kernel
theorem d_P_run_21 : decode c_P_run 21 = .ok (.aload_n 0, 1) := by decide +kernel
theorem d_P_run_22 : decode c_P_run 22 = .ok (.getfield 12, 3) := by decide +kernel
theorem d_P_run_25 : decode c_P_run 25 = .ok (.aload_n 0, 1) := by decide +kernel
theorem d_P_run_26 : decode c_P_run 26 = .ok (.getfield 18, 3) := by decide +kernel
theorem d_P_run_29 : decode c_P_run 29 = .ok (.aload_n 0, 1) := by decide +kernel
theorem d_P_run_30 : decode c_P_run 30 = .ok (.getfield 37, 3) := by decide +kernel
theorem d_P_run_33 : decode c_P_run 33 = .ok (.iload_n 1, 1) := by decide +kernel
theorem d_P_run_34 : decode c_P_run 34 = .ok (.invokevirtual 111, 3) := by decide +kernel
theorem d_P_run_37 : decode c_P_run 37 = .ok (.aload_n 0, 1) := by decide +kernel
theorem d_P_run_38 : decode c_P_run 38 = .ok (.getfield 33, 3) := by decide +kernel
theorem d_P_run_41 : decode c_P_run 41 = .ok (.iconst 0, 1) := by decide +kernel
theorem d_P_run_42 : decode c_P_run 42 = .ok (.aload_n 0, 1) := by decide +kernel
theorem d_P_run_43 : decode c_P_run 43 = .ok (.getfield 18, 3) := by decide +kernel
theorem d_P_run_46 : decode c_P_run 46 = .ok (.aload_n 0, 1) := by decide +kernel
theorem d_P_run_47 : decode c_P_run 47 = .ok (.getfield 37, 3) := by decide +kernel
theorem d_P_run_50 : decode c_P_run 50 = .ok (.invokevirtual 115, 3) := by decide +kernel
theorem d_P_run_53 : decode c_P_run 53 = .ok (.aload_n 0, 1) := by decide +kernel
theorem d_P_run_54 : decode c_P_run 54 = .ok (.getfield 33, 3) := by decide +kernel
theorem d_P_run_57 : decode c_P_run 57 = .ok (.getfield 119, 3) := by decide +kernel
theorem d_P_run_60 : decode c_P_run 60 = .ok (.ifCond .ne 13, 3) := by decide +kernel
theorem d_P_run_63 : decode c_P_run 63 = .ok (.iconst 1, 1) := by decide +kernel
theorem d_P_run_64 : decode c_P_run 64 = .ok (.aload_n 0, 1) := by decide +kernel
theorem d_P_run_65 : decode c_P_run 65 = .ok (.getfield 33, 3) := by decide +kernel
theorem d_P_run_68 : decode c_P_run 68 = .ok (.getfield 123, 3) := by decide +kernel
theorem d_P_run_71 : decode c_P_run 71 = .ok (.iadd, 1) := by decide +kernel
theorem d_P_run_72 : decode c_P_run 72 = .ok (.ireturn, 1) := by decide +kernel
theorem d_P_run_73 : decode c_P_run 73 = .ok (.aload_n 0, 1) := by decide +kernel
theorem d_P_run_74 : decode c_P_run 74 = .ok (.getfield 26, 3) := by decide +kernel
theorem d_P_run_77 : decode c_P_run 77 = .ok (.aload_n 0, 1) := by decide +kernel
theorem d_P_run_78 : decode c_P_run 78 = .ok (.getfield 33, 3) := by decide +kernel
theorem d_P_run_81 : decode c_P_run 81 = .ok (.getfield 126, 3) := by decide +kernel
theorem d_P_run_84 : decode c_P_run 84 = .ok (.aload_n 0, 1) := by decide +kernel
theorem d_P_run_85 : decode c_P_run 85 = .ok (.getfield 18, 3) := by decide +kernel
theorem d_P_run_88 : decode c_P_run 88 = .ok (.aload_n 0, 1) := by decide +kernel
theorem d_P_run_89 : decode c_P_run 89 = .ok (.getfield 37, 3) := by decide +kernel
theorem d_P_run_92 : decode c_P_run 92 = .ok (.invokevirtual 129, 3) := by decide +kernel
theorem d_P_run_95 : decode c_P_run 95 = .ok (.iconst 0, 1) := by decide +kernel
theorem d_P_run_96 : decode c_P_run 96 = .ok (.ireturn, 1) := by decide +kernel
theorem d_P_steps_0 : decode c_P_steps 0 = .ok (.aload_n 0, 1) := by decide +kernel
theorem d_P_steps_1 : decode c_P_steps 1 = .ok (.iload_n 1, 1) := by decide +kernel
theorem d_P_steps_2 : decode c_P_steps 2 = .ok (.invokevirtual 97, 3) := by decide +kernel
theorem d_P_steps_5 : decode c_P_steps 5 = .ok (.invokestatic 66, 3) := by decide +kernel
theorem d_P_steps_8 : decode c_P_steps 8 = .ok (.aload_n 0, 1) := by decide +kernel
theorem d_P_steps_9 : decode c_P_steps 9 = .ok (.invokevirtual 133, 3) := by decide +kernel
theorem d_P_steps_12 : decode c_P_steps 12 = .ok (.aload_n 0, 1) := by decide +kernel
theorem d_P_steps_13 : decode c_P_steps 13 = .ok (.getfield 26, 3) := by decide +kernel
theorem d_P_steps_16 : decode c_P_steps 16 = .ok (.getfield 136, 3) := by decide +kernel
theorem d_P_steps_19 : decode c_P_steps 19 = .ok (.iload_n 1, 1) := by decide +kernel
theorem d_P_steps_20 : decode c_P_steps 20 = .ok (.iaload, 1) := by decide +kernel
theorem d_P_steps_21 : decode c_P_steps 21 = .ok (.ireturn, 1) := by decide +kernel
theorem d_P_planned_0 : decode c_P_planned 0 = .ok (.iload_n 1, 1) := by decide +kernel
theorem d_P_planned_1 : decode c_P_planned 1 = .ok (.iconst 0, 1) := by decide +kernel
theorem d_P_planned_2 : decode c_P_planned 2 = .ok (.iconst 3, 1) := by decide +kernel
theorem d_P_planned_3 : decode c_P_planned 3 = .ok (.invokestatic 52, 3) := by decide +kernel
theorem d_P_planned_6 : decode c_P_planned 6 = .ok (.invokestatic 66, 3) := by decide +kernel
theorem d_P_planned_9 : decode c_P_planned 9 = .ok (.aload_n 0, 1) := by decide +kernel
theorem d_P_planned_10 : decode c_P_planned 10 = .ok (.invokevirtual 133, 3) := by decide +kernel
theorem d_P_planned_13 : decode c_P_planned 13 = .ok (.iload_n 1, 1) := by decide +kernel
theorem d_P_planned_14 : decode c_P_planned 14 = .ok (.tableswitch 50 0 2 #[26, 34, 42], 26) := by decide +kernel
theorem d_P_planned_40 : decode c_P_planned 40 = .ok (.aload_n 0, 1) := by decide +kernel
theorem d_P_planned_41 : decode c_P_planned 41 = .ok (.getfield 26, 3) := by decide +kernel
theorem d_P_planned_44 : decode c_P_planned 44 = .ok (.getfield 139, 3) := by decide +kernel
theorem d_P_planned_47 : decode c_P_planned 47 = .ok (.ireturn, 1) := by decide +kernel
theorem d_P_planned_48 : decode c_P_planned 48 = .ok (.aload_n 0, 1) := by decide +kernel
theorem d_P_planned_49 : decode c_P_planned 49 = .ok (.getfield 26, 3) := by decide +kernel
theorem d_P_planned_52 : decode c_P_planned 52 = .ok (.getfield 140, 3) := by decide +kernel
theorem d_P_planned_55 : decode c_P_planned 55 = .ok (.ireturn, 1) := by decide +kernel
theorem d_P_planned_56 : decode c_P_planned 56 = .ok (.aload_n 0, 1) := by decide +kernel
theorem d_P_planned_57 : decode c_P_planned 57 = .ok (.getfield 26, 3) := by decide +kernel
theorem d_P_planned_60 : decode c_P_planned 60 = .ok (.getfield 141, 3) := by decide +kernel
theorem d_P_planned_63 : decode c_P_planned 63 = .ok (.ireturn, 1) := by decide +kernel
theorem d_P_planned_64 : decode c_P_planned 64 = .ok (.aload_n 0, 1) := by decide +kernel
theorem d_P_planned_65 : decode c_P_planned 65 = .ok (.getfield 26, 3) := by decide +kernel
theorem d_P_planned_68 : decode c_P_planned 68 = .ok (.getfield 144, 3) := by decide +kernel
theorem d_P_planned_71 : decode c_P_planned 71 = .ok (.ireturn, 1) := by decide +kernel
theorem d_P_order_0 : decode c_P_order 0 = .ok (.iload_n 1, 1) := by decide +kernel
theorem d_P_order_1 : decode c_P_order 1 = .ok (.ifCond .lt 7, 3) := by decide +kernel
theorem d_P_order_4 : decode c_P_order 4 = .ok (.iconst 1, 1) := by decide +kernel
theorem d_P_order_5 : decode c_P_order 5 = .ok (.goto 4, 3) := by decide +kernel
theorem d_P_order_8 : decode c_P_order 8 = .ok (.iconst 0, 1) := by decide +kernel
theorem d_P_order_9 : decode c_P_order 9 = .ok (.invokestatic 66, 3) := by decide +kernel
theorem d_P_order_12 : decode c_P_order 12 = .ok (.aload_n 0, 1) := by decide +kernel
theorem d_P_order_13 : decode c_P_order 13 = .ok (.invokevirtual 133, 3) := by decide +kernel
theorem d_P_order_16 : decode c_P_order 16 = .ok (.iconst 0, 1) := by decide +kernel
theorem d_P_order_17 : decode c_P_order 17 = .ok (.istore_n 2, 1) := by decide +kernel
theorem d_P_order_18 : decode c_P_order 18 = .ok (.iload_n 2, 1) := by decide +kernel
theorem d_P_order_19 : decode c_P_order 19 = .ok (.aload_n 0, 1) := by decide +kernel
theorem d_P_order_20 : decode c_P_order 20 = .ok (.getfield 37, 3) := by decide +kernel
theorem d_P_order_23 : decode c_P_order 23 = .ok (.if_icmp .ge 40, 3) := by decide +kernel
theorem d_P_order_26 : decode c_P_order 26 = .ok (.iload_n 2, 1) := by decide +kernel
theorem d_P_order_27 : decode c_P_order 27 = .ok (.aload_n 0, 1) := by decide +kernel
theorem d_P_order_28 : decode c_P_order 28 = .ok (.getfield 18, 3) := by decide +kernel
theorem d_P_order_31 : decode c_P_order 31 = .ok (.arraylength, 1) := by decide +kernel
theorem d_P_order_32 : decode c_P_order 32 = .ok (.if_icmp .ge 31, 3) := by decide +kernel
theorem d_P_order_35 : decode c_P_order 35 = .ok (.aload_n 0, 1) := by decide +kernel
theorem d_P_order_36 : decode c_P_order 36 = .ok (.getfield 26, 3) := by decide +kernel
theorem d_P_order_39 : decode c_P_order 39 = .ok (.iload_n 2, 1) := by decide +kernel
theorem d_P_order_40 : decode c_P_order 40 = .ok (.invokevirtual 145, 3) := by decide +kernel
theorem d_P_order_43 : decode c_P_order 43 = .ok (.ifCond .eq 14, 3) := by decide +kernel
theorem d_P_order_46 : decode c_P_order 46 = .ok (.aload_n 0, 1) := by decide +kernel
theorem d_P_order_47 : decode c_P_order 47 = .ok (.iload_n 2, 1) := by decide +kernel
theorem d_P_order_48 : decode c_P_order 48 = .ok (.invokevirtual 148, 3) := by decide +kernel
theorem d_P_order_51 : decode c_P_order 51 = .ok (.iload_n 1, 1) := by decide +kernel
theorem d_P_order_52 : decode c_P_order 52 = .ok (.if_icmp .ne 5, 3) := by decide +kernel
theorem d_P_order_55 : decode c_P_order 55 = .ok (.iload_n 2, 1) := by decide +kernel
theorem d_P_order_56 : decode c_P_order 56 = .ok (.ireturn, 1) := by decide +kernel
theorem d_P_order_57 : decode c_P_order 57 = .ok (.iinc 2 1, 3) := by decide +kernel
theorem d_P_order_60 : decode c_P_order 60 = .ok (.goto (-42), 3) := by decide +kernel
theorem d_P_order_63 : decode c_P_order 63 = .ok (.iconst (-1), 1) := by decide +kernel
theorem d_P_order_64 : decode c_P_order 64 = .ok (.ireturn, 1) := by decide +kernel
theorem d_P_after_0 : decode c_P_after 0 = .ok (.iload_n 1, 1) := by decide +kernel
theorem d_P_after_1 : decode c_P_after 1 = .ok (.iconst 0, 1) := by decide +kernel
theorem d_P_after_2 : decode c_P_after 2 = .ok (.iconst 3, 1) := by decide +kernel
theorem d_P_after_3 : decode c_P_after 3 = .ok (.invokestatic 52, 3) := by decide +kernel
theorem d_P_after_6 : decode c_P_after 6 = .ok (.ifCond .eq 25, 3) := by decide +kernel
theorem d_P_after_9 : decode c_P_after 9 = .ok (.iload_n 2, 1) := by decide +kernel
theorem d_P_after_10 : decode c_P_after 10 = .ok (.iconst 0, 1) := by decide +kernel
theorem d_P_after_11 : decode c_P_after 11 = .ok (.iconst 1, 1) := by decide +kernel
theorem d_P_after_12 : decode c_P_after 12 = .ok (.invokestatic 52, 3) := by decide +kernel
theorem d_P_after_15 : decode c_P_after 15 = .ok (.ifCond .eq 16, 3) := by decide +kernel
theorem d_P_after_18 : decode c_P_after 18 = .ok (.iload_n 3, 1) := by decide +kernel
theorem d_P_after_19 : decode c_P_after 19 = .ok (.iconst 0, 1) := by decide +kernel
theorem d_P_after_20 : decode c_P_after 20 = .ok (.iconst 1, 1) := by decide +kernel
theorem d_P_after_21 : decode c_P_after 21 = .ok (.invokestatic 52, 3) := by decide +kernel
theorem d_P_after_24 : decode c_P_after 24 = .ok (.ifCond .eq 7, 3) := by decide +kernel
theorem d_P_after_27 : decode c_P_after 27 = .ok (.iconst 1, 1) := by decide +kernel
theorem d_P_after_28 : decode c_P_after 28 = .ok (.goto 4, 3) := by decide +kernel
theorem d_P_after_31 : decode c_P_after 31 = .ok (.iconst 0, 1) := by decide +kernel
theorem d_P_after_32 : decode c_P_after 32 = .ok (.invokestatic 66, 3) := by decide +kernel
theorem d_P_after_35 : decode c_P_after 35 = .ok (.aload_n 0, 1) := by decide +kernel
theorem d_P_after_36 : decode c_P_after 36 = .ok (.invokevirtual 133, 3) := by decide +kernel
theorem d_P_after_39 : decode c_P_after 39 = .ok (.aload_n 0, 1) := by decide +kernel
theorem d_P_after_40 : decode c_P_after 40 = .ok (.iconst 2, 1) := by decide +kernel
theorem d_P_after_41 : decode c_P_after 41 = .ok (.iload_n 1, 1) := by decide +kernel
theorem d_P_after_42 : decode c_P_after 42 = .ok (.imul, 1) := by decide +kernel
theorem d_P_after_43 : decode c_P_after 43 = .ok (.iload_n 2, 1) := by decide +kernel
theorem d_P_after_44 : decode c_P_after 44 = .ok (.iadd, 1) := by decide +kernel
theorem d_P_after_45 : decode c_P_after 45 = .ok (.invokevirtual 152, 3) := by decide +kernel
theorem d_P_after_48 : decode c_P_after 48 = .ok (.lstore 4, 2) := by decide +kernel
theorem d_P_after_50 : decode c_P_after 50 = .ok (.aload_n 0, 1) := by decide +kernel
theorem d_P_after_51 : decode c_P_after 51 = .ok (.invokevirtual 156, 3) := by decide +kernel
theorem d_P_after_54 : decode c_P_after 54 = .ok (.lstore 6, 2) := by decide +kernel
theorem d_P_after_56 : decode c_P_after 56 = .ok (.iload_n 3, 1) := by decide +kernel
theorem d_P_after_57 : decode c_P_after 57 = .ok (.ifCond .ne 8, 3) := by decide +kernel
theorem d_P_after_60 : decode c_P_after 60 = .ok (.lload 4, 2) := by decide +kernel
theorem d_P_after_62 : decode c_P_after 62 = .ok (.goto 5, 3) := by decide +kernel
theorem d_P_after_65 : decode c_P_after 65 = .ok (.lload 6, 2) := by decide +kernel
theorem d_P_after_67 : decode c_P_after 67 = .ok (.lload 4, 2) := by decide +kernel
theorem d_P_after_69 : decode c_P_after 69 = .ok (.lload 6, 2) := by decide +kernel
theorem d_P_after_71 : decode c_P_after 71 = .ok (.invokestatic 160, 3) := by decide +kernel
theorem d_P_after_74 : decode c_P_after 74 = .ok (.invokestatic 164, 3) := by decide +kernel
theorem d_P_after_77 : decode c_P_after 77 = .ok (.lreturn, 1) := by decide +kernel
theorem d_P_add_0 : decode c_P_add 0 = .ok (.aload_n 0, 1) := by decide +kernel
theorem d_P_add_1 : decode c_P_add 1 = .ok (.invokevirtual 133, 3) := by decide +kernel
theorem d_P_add_4 : decode c_P_add 4 = .ok (.aload_n 0, 1) := by decide +kernel
theorem d_P_add_5 : decode c_P_add 5 = .ok (.getfield 12, 3) := by decide +kernel
theorem d_P_add_8 : decode c_P_add 8 = .ok (.getfield 60, 3) := by decide +kernel
theorem d_P_add_11 : decode c_P_add 11 = .ok (.aload_n 0, 1) := by decide +kernel
theorem d_P_add_12 : decode c_P_add 12 = .ok (.getfield 26, 3) := by decide +kernel
theorem d_P_add_15 : decode c_P_add 15 = .ok (.getfield 140, 3) := by decide +kernel
theorem d_P_add_18 : decode c_P_add 18 = .ok (.iadd, 1) := by decide +kernel
theorem d_P_add_19 : decode c_P_add 19 = .ok (.ldc 51, 2) := by decide +kernel
theorem d_P_add_21 : decode c_P_add 21 = .ok (.if_icmp .le 13, 3) := by decide +kernel
theorem d_P_add_24 : decode c_P_add 24 = .ok (.new 85, 3) := by decide +kernel
theorem d_P_add_27 : decode c_P_add 27 = .ok (.dup, 1) := by decide +kernel
theorem d_P_add_28 : decode c_P_add 28 = .ok (.ldc 167, 2) := by decide +kernel
theorem d_P_add_30 : decode c_P_add 30 = .ok (.invokespecial 89, 3) := by decide +kernel
theorem d_P_add_33 : decode c_P_add 33 = .ok (.athrow, 1) := by decide +kernel
theorem d_P_add_34 : decode c_P_add 34 = .ok (.iconst 0, 1) := by decide +kernel
theorem d_P_add_35 : decode c_P_add 35 = .ok (.istore_n 1, 1) := by decide +kernel
theorem d_P_add_36 : decode c_P_add 36 = .ok (.iload_n 1, 1) := by decide +kernel
theorem d_P_add_37 : decode c_P_add 37 = .ok (.aload_n 0, 1) := by decide +kernel
theorem d_P_add_38 : decode c_P_add 38 = .ok (.getfield 12, 3) := by decide +kernel
theorem d_P_add_41 : decode c_P_add 41 = .ok (.getfield 73, 3) := by decide +kernel
theorem d_P_add_44 : decode c_P_add 44 = .ok (.arraylength, 1) := by decide +kernel
theorem d_P_add_45 : decode c_P_add 45 = .ok (.if_icmp .ge 23, 3) := by decide +kernel
theorem d_P_add_48 : decode c_P_add 48 = .ok (.aload_n 0, 1) := by decide +kernel
theorem d_P_add_49 : decode c_P_add 49 = .ok (.getfield 12, 3) := by decide +kernel
theorem d_P_add_52 : decode c_P_add 52 = .ok (.getfield 73, 3) := by decide +kernel
theorem d_P_add_55 : decode c_P_add 55 = .ok (.iload_n 1, 1) := by decide +kernel
theorem d_P_add_56 : decode c_P_add 56 = .ok (.aload_n 0, 1) := by decide +kernel
theorem d_P_add_57 : decode c_P_add 57 = .ok (.iload_n 1, 1) := by decide +kernel
theorem d_P_add_58 : decode c_P_add 58 = .ok (.invokevirtual 169, 3) := by decide +kernel
theorem d_P_add_61 : decode c_P_add 61 = .ok (.iastore, 1) := by decide +kernel
theorem d_P_add_62 : decode c_P_add 62 = .ok (.iinc 1 1, 3) := by decide +kernel
theorem d_P_add_65 : decode c_P_add 65 = .ok (.goto (-29), 3) := by decide +kernel
theorem d_P_add_68 : decode c_P_add 68 = .ok (.aload_n 0, 1) := by decide +kernel
theorem d_P_add_69 : decode c_P_add 69 = .ok (.getfield 12, 3) := by decide +kernel
theorem d_P_add_72 : decode c_P_add 72 = .ok (.dup, 1) := by decide +kernel
theorem d_P_add_73 : decode c_P_add 73 = .ok (.getfield 60, 3) := by decide +kernel
theorem d_P_add_76 : decode c_P_add 76 = .ok (.aload_n 0, 1) := by decide +kernel
theorem d_P_add_77 : decode c_P_add 77 = .ok (.getfield 26, 3) := by decide +kernel
theorem d_P_add_80 : decode c_P_add 80 = .ok (.getfield 140, 3) := by decide +kernel
theorem d_P_add_83 : decode c_P_add 83 = .ok (.iadd, 1) := by decide +kernel
theorem d_P_add_84 : decode c_P_add 84 = .ok (.putfield 60, 3) := by decide +kernel
theorem d_P_add_87 : decode c_P_add 87 = .ok (.aload_n 0, 1) := by decide +kernel
theorem d_P_add_88 : decode c_P_add 88 = .ok (.getfield 12, 3) := by decide +kernel
theorem d_P_add_91 : decode c_P_add 91 = .ok (.dup, 1) := by decide +kernel
theorem d_P_add_92 : decode c_P_add 92 = .ok (.getfield 172, 3) := by decide +kernel
theorem d_P_add_95 : decode c_P_add 95 = .ok (.aload_n 0, 1) := by decide +kernel
theorem d_P_add_96 : decode c_P_add 96 = .ok (.getfield 26, 3) := by decide +kernel
theorem d_P_add_99 : decode c_P_add 99 = .ok (.getfield 139, 3) := by decide +kernel
theorem d_P_add_102 : decode c_P_add 102 = .ok (.i2l, 1) := by decide +kernel
theorem d_P_add_103 : decode c_P_add 103 = .ok (.ladd, 1) := by decide +kernel
theorem d_P_add_104 : decode c_P_add 104 = .ok (.putfield 172, 3) := by decide +kernel
theorem d_P_add_107 : decode c_P_add 107 = .ok (.aload_n 0, 1) := by decide +kernel
theorem d_P_add_108 : decode c_P_add 108 = .ok (.getfield 12, 3) := by decide +kernel
theorem d_P_add_111 : decode c_P_add 111 = .ok (.dup, 1) := by decide +kernel
theorem d_P_add_112 : decode c_P_add 112 = .ok (.getfield 41, 3) := by decide +kernel
theorem d_P_add_115 : decode c_P_add 115 = .ok (.iconst 1, 1) := by decide +kernel
theorem d_P_add_116 : decode c_P_add 116 = .ok (.iadd, 1) := by decide +kernel
theorem d_P_add_117 : decode c_P_add 117 = .ok (.putfield 41, 3) := by decide +kernel
theorem d_P_add_120 : decode c_P_add 120 = .ok (.aload_n 0, 1) := by decide +kernel
theorem d_P_add_121 : decode c_P_add 121 = .ok (.getfield 26, 3) := by decide +kernel
theorem d_P_add_124 : decode c_P_add 124 = .ok (.invokevirtual 63, 3) := by decide +kernel
theorem d_P_add_127 : decode c_P_add 127 = .ok (.aload_n 0, 1) := by decide +kernel
theorem d_P_add_128 : decode c_P_add 128 = .ok (.getfield 12, 3) := by decide +kernel
theorem d_P_add_131 : decode c_P_add 131 = .ok (.getfield 41, 3) := by decide +kernel
theorem d_P_add_134 : decode c_P_add 134 = .ok (.iconst 1, 1) := by decide +kernel
theorem d_P_add_135 : decode c_P_add 135 = .ok (.isub, 1) := by decide +kernel
theorem d_P_add_136 : decode c_P_add 136 = .ok (.ireturn, 1) := by decide +kernel
theorem d_P_heatAt_0 : decode c_P_heatAt 0 = .ok (.iload_n 1, 1) := by decide +kernel
theorem d_P_heatAt_1 : decode c_P_heatAt 1 = .ok (.iconst 0, 1) := by decide +kernel
theorem d_P_heatAt_2 : decode c_P_heatAt 2 = .ok (.bipush 9, 2) := by decide +kernel
theorem d_P_heatAt_4 : decode c_P_heatAt 4 = .ok (.invokestatic 52, 3) := by decide +kernel
theorem d_P_heatAt_7 : decode c_P_heatAt 7 = .ok (.invokestatic 66, 3) := by decide +kernel
theorem d_P_heatAt_10 : decode c_P_heatAt 10 = .ok (.iload_n 1, 1) := by decide +kernel
theorem d_P_heatAt_11 : decode c_P_heatAt 11 = .ok (.ifCond .ne 12, 3) := by decide +kernel
theorem d_P_heatAt_14 : decode c_P_heatAt 14 = .ok (.aload_n 0, 1) := by decide +kernel
theorem d_P_heatAt_15 : decode c_P_heatAt 15 = .ok (.getfield 12, 3) := by decide +kernel
theorem d_P_heatAt_18 : decode c_P_heatAt 18 = .ok (.getfield 60, 3) := by decide +kernel
theorem d_P_heatAt_21 : decode c_P_heatAt 21 = .ok (.i2l, 1) := by decide +kernel
theorem d_P_heatAt_22 : decode c_P_heatAt 22 = .ok (.lreturn, 1) := by decide +kernel
theorem d_P_heatAt_23 : decode c_P_heatAt 23 = .ok (.iload_n 1, 1) := by decide +kernel
theorem d_P_heatAt_24 : decode c_P_heatAt 24 = .ok (.bipush 9, 2) := by decide +kernel
theorem d_P_heatAt_26 : decode c_P_heatAt 26 = .ok (.if_icmp .ne 11, 3) := by decide +kernel
theorem d_P_heatAt_29 : decode c_P_heatAt 29 = .ok (.aload_n 0, 1) := by decide +kernel
theorem d_P_heatAt_30 : decode c_P_heatAt 30 = .ok (.getfield 12, 3) := by decide +kernel
theorem d_P_heatAt_33 : decode c_P_heatAt 33 = .ok (.getfield 172, 3) := by decide +kernel
theorem d_P_heatAt_36 : decode c_P_heatAt 36 = .ok (.lreturn, 1) := by decide +kernel
theorem d_P_heatAt_37 : decode c_P_heatAt 37 = .ok (.aload_n 0, 1) := by decide +kernel
theorem d_P_heatAt_38 : decode c_P_heatAt 38 = .ok (.getfield 12, 3) := by decide +kernel
theorem d_P_heatAt_41 : decode c_P_heatAt 41 = .ok (.getfield 73, 3) := by decide +kernel
theorem d_P_heatAt_44 : decode c_P_heatAt 44 = .ok (.iload_n 1, 1) := by decide +kernel
theorem d_P_heatAt_45 : decode c_P_heatAt 45 = .ok (.iconst 1, 1) := by decide +kernel
theorem d_P_heatAt_46 : decode c_P_heatAt 46 = .ok (.isub, 1) := by decide +kernel
theorem d_P_heatAt_47 : decode c_P_heatAt 47 = .ok (.iaload, 1) := by decide +kernel
theorem d_P_heatAt_48 : decode c_P_heatAt 48 = .ok (.i2l, 1) := by decide +kernel
theorem d_P_heatAt_49 : decode c_P_heatAt 49 = .ok (.lreturn, 1) := by decide +kernel
theorem d_P_requireIndex_0 : decode c_P_requireIndex 0 = .ok (.iload_n 0, 1) := by decide +kernel
theorem d_P_requireIndex_1 : decode c_P_requireIndex 1 = .ok (.ifCond .ne 13, 3) := by decide +kernel
theorem d_P_requireIndex_4 : decode c_P_requireIndex 4 = .ok (.new 175, 3) := by decide +kernel
theorem d_P_requireIndex_7 : decode c_P_requireIndex 7 = .ok (.dup, 1) := by decide +kernel
theorem d_P_requireIndex_8 : decode c_P_requireIndex 8 = .ok (.ldc 177, 2) := by decide +kernel
theorem d_P_requireIndex_10 : decode c_P_requireIndex 10 = .ok (.invokespecial 179, 3) := by decide +kernel
theorem d_P_requireIndex_13 : decode c_P_requireIndex 13 = .ok (.athrow, 1) := by decide +kernel
theorem d_P_requireIndex_14 : decode c_P_requireIndex 14 = .ok (.return_, 1) := by decide +kernel
theorem d_P_requireRange_0 : decode c_P_requireRange 0 = .ok (.iload_n 0, 1) := by decide +kernel
theorem d_P_requireRange_1 : decode c_P_requireRange 1 = .ok (.ifCond .ne 13, 3) := by decide +kernel
theorem d_P_requireRange_4 : decode c_P_requireRange 4 = .ok (.new 180, 3) := by decide +kernel
theorem d_P_requireRange_7 : decode c_P_requireRange 7 = .ok (.dup, 1) := by decide +kernel
theorem d_P_requireRange_8 : decode c_P_requireRange 8 = .ok (.ldc 182, 2) := by decide +kernel
theorem d_P_requireRange_10 : decode c_P_requireRange 10 = .ok (.invokespecial 184, 3) := by decide +kernel
theorem d_P_requireRange_13 : decode c_P_requireRange 13 = .ok (.athrow, 1) := by decide +kernel
theorem d_P_requireRange_14 : decode c_P_requireRange 14 = .ok (.return_, 1) := by decide +kernel
theorem d_P_requirePlan_0 : decode c_P_requirePlan 0 = .ok (.aload_n 0, 1) := by decide +kernel
theorem d_P_requirePlan_1 : decode c_P_requirePlan 1 = .ok (.getfield 26, 3) := by decide +kernel
theorem d_P_requirePlan_4 : decode c_P_requirePlan 4 = .ok (.getfield 185, 3) := by decide +kernel
theorem d_P_requirePlan_7 : decode c_P_requirePlan 7 = .ok (.ifCond .ne 13, 3) := by decide +kernel
theorem d_P_requirePlan_10 : decode c_P_requirePlan 10 = .ok (.new 44, 3) := by decide +kernel
theorem d_P_requirePlan_13 : decode c_P_requirePlan 13 = .ok (.dup, 1) := by decide +kernel
theorem d_P_requirePlan_14 : decode c_P_requirePlan 14 = .ok (.ldc 188, 2) := by decide +kernel
theorem d_P_requirePlan_16 : decode c_P_requirePlan 16 = .ok (.invokespecial 48, 3) := by decide +kernel
theorem d_P_requirePlan_19 : decode c_P_requirePlan 19 = .ok (.athrow, 1) := by decide +kernel
theorem d_P_requirePlan_20 : decode c_P_requirePlan 20 = .ok (.return_, 1) := by decide +kernel
theorem d_P_isWithin_0 : decode c_P_isWithin 0 = .ok (.iload_n 0, 1) := by decide +kernel
theorem d_P_isWithin_1 : decode c_P_isWithin 1 = .ok (.iload_n 1, 1) := by decide +kernel
theorem d_P_isWithin_2 : decode c_P_isWithin 2 = .ok (.if_icmp .lt 12, 3) := by decide +kernel
theorem d_P_isWithin_5 : decode c_P_isWithin 5 = .ok (.iload_n 0, 1) := by decide +kernel
theorem d_P_isWithin_6 : decode c_P_isWithin 6 = .ok (.iload_n 2, 1) := by decide +kernel
theorem d_P_isWithin_7 : decode c_P_isWithin 7 = .ok (.if_icmp .gt 7, 3) := by decide +kernel
theorem d_P_isWithin_10 : decode c_P_isWithin 10 = .ok (.iconst 1, 1) := by decide +kernel
theorem d_P_isWithin_11 : decode c_P_isWithin 11 = .ok (.goto 4, 3) := by decide +kernel
theorem d_P_isWithin_14 : decode c_P_isWithin 14 = .ok (.iconst 0, 1) := by decide +kernel
theorem d_P_isWithin_15 : decode c_P_isWithin 15 = .ok (.ireturn, 1) := by decide +kernel
theorem d_P_isSpan_0 : decode c_P_isSpan 0 = .ok (.iload_n 0, 1) := by decide +kernel
theorem d_P_isSpan_1 : decode c_P_isSpan 1 = .ok (.ifCond .lt 18, 3) := by decide +kernel
theorem d_P_isSpan_4 : decode c_P_isSpan 4 = .ok (.iload_n 0, 1) := by decide +kernel
theorem d_P_isSpan_5 : decode c_P_isSpan 5 = .ok (.iload_n 1, 1) := by decide +kernel
theorem d_P_isSpan_6 : decode c_P_isSpan 6 = .ok (.if_icmp .gt 13, 3) := by decide +kernel
theorem d_P_isSpan_9 : decode c_P_isSpan 9 = .ok (.iload_n 1, 1) := by decide +kernel
theorem d_P_isSpan_10 : decode c_P_isSpan 10 = .ok (.ldc 84, 2) := by decide +kernel
theorem d_P_isSpan_12 : decode c_P_isSpan 12 = .ok (.if_icmp .gt 7, 3) := by decide +kernel
theorem d_P_isSpan_15 : decode c_P_isSpan 15 = .ok (.iconst 1, 1) := by decide +kernel
theorem d_P_isSpan_16 : decode c_P_isSpan 16 = .ok (.goto 4, 3) := by decide +kernel
theorem d_P_isSpan_19 : decode c_P_isSpan 19 = .ok (.iconst 0, 1) := by decide +kernel
theorem d_P_isSpan_20 : decode c_P_isSpan 20 = .ok (.ireturn, 1) := by decide +kernel
theorem d_P_isKind_0 : decode c_P_isKind 0 = .ok (.iload_n 1, 1) := by decide +kernel
theorem d_P_isKind_1 : decode c_P_isKind 1 = .ok (.ifCond .lt 24, 3) := by decide +kernel
theorem d_P_isKind_4 : decode c_P_isKind 4 = .ok (.iload_n 1, 1) := by decide +kernel
theorem d_P_isKind_5 : decode c_P_isKind 5 = .ok (.aload_n 0, 1) := by decide +kernel
theorem d_P_isKind_6 : decode c_P_isKind 6 = .ok (.getfield 37, 3) := by decide +kernel
theorem d_P_isKind_9 : decode c_P_isKind 9 = .ok (.if_icmp .ge 16, 3) := by decide +kernel
theorem d_P_isKind_12 : decode c_P_isKind 12 = .ok (.iload_n 1, 1) := by decide +kernel
theorem d_P_isKind_13 : decode c_P_isKind 13 = .ok (.aload_n 0, 1) := by decide +kernel
theorem d_P_isKind_14 : decode c_P_isKind 14 = .ok (.getfield 18, 3) := by decide +kernel
theorem d_P_isKind_17 : decode c_P_isKind 17 = .ok (.arraylength, 1) := by decide +kernel
theorem d_P_isKind_18 : decode c_P_isKind 18 = .ok (.if_icmp .ge 7, 3) := by decide +kernel
theorem d_P_isKind_21 : decode c_P_isKind 21 = .ok (.iconst 1, 1) := by decide +kernel
theorem d_P_isKind_22 : decode c_P_isKind 22 = .ok (.goto 4, 3) := by decide +kernel
theorem d_P_isKind_25 : decode c_P_isKind 25 = .ok (.iconst 0, 1) := by decide +kernel
theorem d_P_isKind_26 : decode c_P_isKind 26 = .ok (.ireturn, 1) := by decide +kernel
theorem d_P_isLowEnd_0 : decode c_P_isLowEnd 0 = .ok (.iload_n 0, 1) := by decide +kernel
theorem d_P_isLowEnd_1 : decode c_P_isLowEnd 1 = .ok (.iconst 2, 1) := by decide +kernel
theorem d_P_isLowEnd_2 : decode c_P_isLowEnd 2 = .ok (.irem, 1) := by decide +kernel
theorem d_P_isLowEnd_3 : decode c_P_isLowEnd 3 = .ok (.ifCond .ne 7, 3) := by decide +kernel
theorem d_P_isLowEnd_6 : decode c_P_isLowEnd 6 = .ok (.iconst 1, 1) := by decide +kernel
theorem d_P_isLowEnd_7 : decode c_P_isLowEnd 7 = .ok (.goto 4, 3) := by decide +kernel
theorem d_P_isLowEnd_10 : decode c_P_isLowEnd 10 = .ok (.iconst 0, 1) := by decide +kernel
theorem d_P_isLowEnd_11 : decode c_P_isLowEnd 11 = .ok (.ireturn, 1) := by decide +kernel
theorem d_P_tell_0 : decode c_P_tell 0 = .ok (.aload_n 1, 1) := by decide +kernel
theorem d_P_tell_1 : decode c_P_tell 1 = .ok (.iconst 2, 1) := by decide +kernel
theorem d_P_tell_2 : decode c_P_tell 2 = .ok (.iload_n 2, 1) := by decide +kernel
theorem d_P_tell_3 : decode c_P_tell 3 = .ok (.imul, 1) := by decide +kernel
theorem d_P_tell_4 : decode c_P_tell 4 = .ok (.iload_n 3, 1) := by decide +kernel
theorem d_P_tell_5 : decode c_P_tell 5 = .ok (.iastore, 1) := by decide +kernel
theorem d_P_tell_6 : decode c_P_tell 6 = .ok (.aload_n 1, 1) := by decide +kernel
theorem d_P_tell_7 : decode c_P_tell 7 = .ok (.iconst 2, 1) := by decide +kernel
theorem d_P_tell_8 : decode c_P_tell 8 = .ok (.iload_n 2, 1) := by decide +kernel
theorem d_P_tell_9 : decode c_P_tell 9 = .ok (.imul, 1) := by decide +kernel
theorem d_P_tell_10 : decode c_P_tell 10 = .ok (.iconst 1, 1) := by decide +kernel
theorem d_P_tell_11 : decode c_P_tell 11 = .ok (.iadd, 1) := by decide +kernel
theorem d_P_tell_12 : decode c_P_tell 12 = .ok (.iload 4, 2) := by decide +kernel
theorem d_P_tell_14 : decode c_P_tell 14 = .ok (.iastore, 1) := by decide +kernel
theorem d_P_tell_15 : decode c_P_tell 15 = .ok (.aload_n 0, 1) := by decide +kernel
theorem d_P_tell_16 : decode c_P_tell 16 = .ok (.getfield 26, 3) := by decide +kernel
theorem d_P_tell_19 : decode c_P_tell 19 = .ok (.invokevirtual 63, 3) := by decide +kernel
theorem d_P_tell_22 : decode c_P_tell 22 = .ok (.return_, 1) := by decide +kernel
theorem d_P_countAddedBefore_0 : decode c_P_countAddedBefore 0 = .ok (.iconst 0, 1) := by decide +kernel
theorem d_P_countAddedBefore_1 : decode c_P_countAddedBefore 1 = .ok (.istore_n 2, 1) := by decide +kernel
theorem d_P_countAddedBefore_2 : decode c_P_countAddedBefore 2 = .ok (.iconst 0, 1) := by decide +kernel
theorem d_P_countAddedBefore_3 : decode c_P_countAddedBefore 3 = .ok (.istore_n 3, 1) := by decide +kernel
theorem d_P_countAddedBefore_4 : decode c_P_countAddedBefore 4 = .ok (.iload_n 3, 1) := by decide +kernel
theorem d_P_countAddedBefore_5 : decode c_P_countAddedBefore 5 = .ok (.aload_n 0, 1) := by decide +kernel
theorem d_P_countAddedBefore_6 : decode c_P_countAddedBefore 6 = .ok (.getfield 37, 3) := by decide +kernel
theorem d_P_countAddedBefore_9 : decode c_P_countAddedBefore 9 = .ok (.if_icmp .ge 46, 3) := by decide +kernel
theorem d_P_countAddedBefore_12 : decode c_P_countAddedBefore 12 = .ok (.iload_n 3, 1) := by decide +kernel
theorem d_P_countAddedBefore_13 : decode c_P_countAddedBefore 13 = .ok (.aload_n 0, 1) := by decide +kernel
theorem d_P_countAddedBefore_14 : decode c_P_countAddedBefore 14 = .ok (.getfield 18, 3) := by decide +kernel
theorem d_P_countAddedBefore_17 : decode c_P_countAddedBefore 17 = .ok (.arraylength, 1) := by decide +kernel
theorem d_P_countAddedBefore_18 : decode c_P_countAddedBefore 18 = .ok (.if_icmp .ge 37, 3) := by decide +kernel
theorem d_P_countAddedBefore_21 : decode c_P_countAddedBefore 21 = .ok (.iload_n 3, 1) := by decide +kernel
theorem d_P_countAddedBefore_22 : decode c_P_countAddedBefore 22 = .ok (.iload_n 1, 1) := by decide +kernel
theorem d_P_countAddedBefore_23 : decode c_P_countAddedBefore 23 = .ok (.if_icmp .eq 26, 3) := by decide +kernel
theorem d_P_countAddedBefore_26 : decode c_P_countAddedBefore 26 = .ok (.aload_n 0, 1) := by decide +kernel
theorem d_P_countAddedBefore_27 : decode c_P_countAddedBefore 27 = .ok (.getfield 26, 3) := by decide +kernel
theorem d_P_countAddedBefore_30 : decode c_P_countAddedBefore 30 = .ok (.iload_n 3, 1) := by decide +kernel
theorem d_P_countAddedBefore_31 : decode c_P_countAddedBefore 31 = .ok (.invokevirtual 145, 3) := by decide +kernel
theorem d_P_countAddedBefore_34 : decode c_P_countAddedBefore 34 = .ok (.ifCond .eq 15, 3) := by decide +kernel
theorem d_P_countAddedBefore_37 : decode c_P_countAddedBefore 37 = .ok (.aload_n 0, 1) := by decide +kernel
theorem d_P_countAddedBefore_38 : decode c_P_countAddedBefore 38 = .ok (.iload_n 3, 1) := by decide +kernel
theorem d_P_countAddedBefore_39 : decode c_P_countAddedBefore 39 = .ok (.iload_n 1, 1) := by decide +kernel
theorem d_P_countAddedBefore_40 : decode c_P_countAddedBefore 40 = .ok (.invokevirtual 190, 3) := by decide +kernel
theorem d_P_countAddedBefore_43 : decode c_P_countAddedBefore 43 = .ok (.ifCond .eq 6, 3) := by decide +kernel
theorem d_P_countAddedBefore_46 : decode c_P_countAddedBefore 46 = .ok (.iinc 2 1, 3) := by decide +kernel
theorem d_P_countAddedBefore_49 : decode c_P_countAddedBefore 49 = .ok (.iinc 3 1, 3) := by decide +kernel
theorem d_P_countAddedBefore_52 : decode c_P_countAddedBefore 52 = .ok (.goto (-48), 3) := by decide +kernel
theorem d_P_countAddedBefore_55 : decode c_P_countAddedBefore 55 = .ok (.iload_n 2, 1) := by decide +kernel
theorem d_P_countAddedBefore_56 : decode c_P_countAddedBefore 56 = .ok (.ireturn, 1) := by decide +kernel
theorem d_P_isAddedBefore_0 : decode c_P_isAddedBefore 0 = .ok (.aload_n 0, 1) := by decide +kernel
theorem d_P_isAddedBefore_1 : decode c_P_isAddedBefore 1 = .ok (.getfield 18, 3) := by decide +kernel
theorem d_P_isAddedBefore_4 : decode c_P_isAddedBefore 4 = .ok (.iload_n 1, 1) := by decide +kernel
theorem d_P_isAddedBefore_5 : decode c_P_isAddedBefore 5 = .ok (.aaload, 1) := by decide +kernel
theorem d_P_isAddedBefore_6 : decode c_P_isAddedBefore 6 = .ok (.getfield 107, 3) := by decide +kernel
theorem d_P_isAddedBefore_9 : decode c_P_isAddedBefore 9 = .ok (.aload_n 0, 1) := by decide +kernel
theorem d_P_isAddedBefore_10 : decode c_P_isAddedBefore 10 = .ok (.getfield 18, 3) := by decide +kernel
theorem d_P_isAddedBefore_13 : decode c_P_isAddedBefore 13 = .ok (.iload_n 2, 1) := by decide +kernel
theorem d_P_isAddedBefore_14 : decode c_P_isAddedBefore 14 = .ok (.aaload, 1) := by decide +kernel
theorem d_P_isAddedBefore_15 : decode c_P_isAddedBefore 15 = .ok (.getfield 107, 3) := by decide +kernel
theorem d_P_isAddedBefore_18 : decode c_P_isAddedBefore 18 = .ok (.isub, 1) := by decide +kernel
theorem d_P_isAddedBefore_19 : decode c_P_isAddedBefore 19 = .ok (.istore_n 3, 1) := by decide +kernel
theorem d_P_isAddedBefore_20 : decode c_P_isAddedBefore 20 = .ok (.iload_n 3, 1) := by decide +kernel
theorem d_P_isAddedBefore_21 : decode c_P_isAddedBefore 21 = .ok (.ifCond .gt 12, 3) := by decide +kernel
theorem d_P_isAddedBefore_24 : decode c_P_isAddedBefore 24 = .ok (.iload_n 3, 1) := by decide +kernel
theorem d_P_isAddedBefore_25 : decode c_P_isAddedBefore 25 = .ok (.ifCond .ne 12, 3) := by decide +kernel
theorem d_P_isAddedBefore_28 : decode c_P_isAddedBefore 28 = .ok (.iload_n 1, 1) := by decide +kernel
theorem d_P_isAddedBefore_29 : decode c_P_isAddedBefore 29 = .ok (.iload_n 2, 1) := by decide +kernel
theorem d_P_isAddedBefore_30 : decode c_P_isAddedBefore 30 = .ok (.if_icmp .ge 7, 3) := by decide +kernel
theorem d_P_isAddedBefore_33 : decode c_P_isAddedBefore 33 = .ok (.iconst 1, 1) := by decide +kernel
theorem d_P_isAddedBefore_34 : decode c_P_isAddedBefore 34 = .ok (.goto 4, 3) := by decide +kernel
theorem d_P_isAddedBefore_37 : decode c_P_isAddedBefore 37 = .ok (.iconst 0, 1) := by decide +kernel
theorem d_P_isAddedBefore_38 : decode c_P_isAddedBefore 38 = .ok (.ireturn, 1) := by decide +kernel
theorem d_P_heldByPlan_0 : decode c_P_heldByPlan 0 = .ok (.aload_n 0, 1) := by decide +kernel
theorem d_P_heldByPlan_1 : decode c_P_heldByPlan 1 = .ok (.getfield 12, 3) := by decide +kernel
theorem d_P_heldByPlan_4 : decode c_P_heldByPlan 4 = .ok (.iload_n 1, 1) := by decide +kernel
theorem d_P_heldByPlan_5 : decode c_P_heldByPlan 5 = .ok (.invokevirtual 193, 3) := by decide +kernel
theorem d_P_heldByPlan_8 : decode c_P_heldByPlan 8 = .ok (.lstore_n 2, 1) := by decide +kernel
theorem d_P_heldByPlan_9 : decode c_P_heldByPlan 9 = .ok (.iconst 0, 1) := by decide +kernel
theorem d_P_heldByPlan_10 : decode c_P_heldByPlan 10 = .ok (.istore 4, 2) := by decide +kernel
theorem d_P_heldByPlan_12 : decode c_P_heldByPlan 12 = .ok (.iload 4, 2) := by decide +kernel
theorem d_P_heldByPlan_14 : decode c_P_heldByPlan 14 = .ok (.aload_n 0, 1) := by decide +kernel
theorem d_P_heldByPlan_15 : decode c_P_heldByPlan 15 = .ok (.getfield 37, 3) := by decide +kernel
theorem d_P_heldByPlan_18 : decode c_P_heldByPlan 18 = .ok (.if_icmp .ge 45, 3) := by decide +kernel
theorem d_P_heldByPlan_21 : decode c_P_heldByPlan 21 = .ok (.iload 4, 2) := by decide +kernel
theorem d_P_heldByPlan_23 : decode c_P_heldByPlan 23 = .ok (.aload_n 0, 1) := by decide +kernel
theorem d_P_heldByPlan_24 : decode c_P_heldByPlan 24 = .ok (.getfield 18, 3) := by decide +kernel
theorem d_P_heldByPlan_27 : decode c_P_heldByPlan 27 = .ok (.arraylength, 1) := by decide +kernel
theorem d_P_heldByPlan_28 : decode c_P_heldByPlan 28 = .ok (.if_icmp .ge 35, 3) := by decide +kernel
theorem d_P_heldByPlan_31 : decode c_P_heldByPlan 31 = .ok (.lload_n 2, 1) := by decide +kernel
theorem d_P_heldByPlan_32 : decode c_P_heldByPlan 32 = .ok (.aload_n 0, 1) := by decide +kernel
theorem d_P_heldByPlan_33 : decode c_P_heldByPlan 33 = .ok (.getfield 26, 3) := by decide +kernel
theorem d_P_heldByPlan_36 : decode c_P_heldByPlan 36 = .ok (.getfield 136, 3) := by decide +kernel
theorem d_P_heldByPlan_39 : decode c_P_heldByPlan 39 = .ok (.iload 4, 2) := by decide +kernel
theorem d_P_heldByPlan_41 : decode c_P_heldByPlan 41 = .ok (.iaload, 1) := by decide +kernel
theorem d_P_heldByPlan_42 : decode c_P_heldByPlan 42 = .ok (.i2l, 1) := by decide +kernel
theorem d_P_heldByPlan_43 : decode c_P_heldByPlan 43 = .ok (.aload_n 0, 1) := by decide +kernel
theorem d_P_heldByPlan_44 : decode c_P_heldByPlan 44 = .ok (.getfield 18, 3) := by decide +kernel
theorem d_P_heldByPlan_47 : decode c_P_heldByPlan 47 = .ok (.iload 4, 2) := by decide +kernel
theorem d_P_heldByPlan_49 : decode c_P_heldByPlan 49 = .ok (.aaload, 1) := by decide +kernel
theorem d_P_heldByPlan_50 : decode c_P_heldByPlan 50 = .ok (.iload_n 1, 1) := by decide +kernel
theorem d_P_heldByPlan_51 : decode c_P_heldByPlan 51 = .ok (.invokevirtual 196, 3) := by decide +kernel
theorem d_P_heldByPlan_54 : decode c_P_heldByPlan 54 = .ok (.lmul, 1) := by decide +kernel
theorem d_P_heldByPlan_55 : decode c_P_heldByPlan 55 = .ok (.ladd, 1) := by decide +kernel
theorem d_P_heldByPlan_56 : decode c_P_heldByPlan 56 = .ok (.lstore_n 2, 1) := by decide +kernel
theorem d_P_heldByPlan_57 : decode c_P_heldByPlan 57 = .ok (.iinc 4 1, 3) := by decide +kernel
theorem d_P_heldByPlan_60 : decode c_P_heldByPlan 60 = .ok (.goto (-48), 3) := by decide +kernel
theorem d_P_heldByPlan_63 : decode c_P_heldByPlan 63 = .ok (.lload_n 2, 1) := by decide +kernel
theorem d_P_heldByPlan_64 : decode c_P_heldByPlan 64 = .ok (.lreturn, 1) := by decide +kernel
theorem d_P_wholeByPlan_0 : decode c_P_wholeByPlan 0 = .ok (.ldc2_w 199, 3) := by decide +kernel
theorem d_P_wholeByPlan_3 : decode c_P_wholeByPlan 3 = .ok (.aload_n 0, 1) := by decide +kernel
theorem d_P_wholeByPlan_4 : decode c_P_wholeByPlan 4 = .ok (.getfield 12, 3) := by decide +kernel
theorem d_P_wholeByPlan_7 : decode c_P_wholeByPlan 7 = .ok (.getfield 60, 3) := by decide +kernel
theorem d_P_wholeByPlan_10 : decode c_P_wholeByPlan 10 = .ok (.aload_n 0, 1) := by decide +kernel
theorem d_P_wholeByPlan_11 : decode c_P_wholeByPlan 11 = .ok (.getfield 26, 3) := by decide +kernel
theorem d_P_wholeByPlan_14 : decode c_P_wholeByPlan 14 = .ok (.getfield 140, 3) := by decide +kernel
theorem d_P_wholeByPlan_17 : decode c_P_wholeByPlan 17 = .ok (.iadd, 1) := by decide +kernel
theorem d_P_wholeByPlan_18 : decode c_P_wholeByPlan 18 = .ok (.i2l, 1) := by decide +kernel
theorem d_P_wholeByPlan_19 : decode c_P_wholeByPlan 19 = .ok (.lmul, 1) := by decide +kernel
theorem d_P_wholeByPlan_20 : decode c_P_wholeByPlan 20 = .ok (.lreturn, 1) := by decide +kernel
theorem d_P_roundedByPlan_0 : decode c_P_roundedByPlan 0 = .ok (.aload_n 0, 1) := by decide +kernel
theorem d_P_roundedByPlan_1 : decode c_P_roundedByPlan 1 = .ok (.iload_n 1, 1) := by decide +kernel
theorem d_P_roundedByPlan_2 : decode c_P_roundedByPlan 2 = .ok (.invokevirtual 152, 3) := by decide +kernel
theorem d_P_roundedByPlan_5 : decode c_P_roundedByPlan 5 = .ok (.lstore_n 2, 1) := by decide +kernel
theorem d_P_roundedByPlan_6 : decode c_P_roundedByPlan 6 = .ok (.aload_n 0, 1) := by decide +kernel
theorem d_P_roundedByPlan_7 : decode c_P_roundedByPlan 7 = .ok (.invokevirtual 156, 3) := by decide +kernel
theorem d_P_roundedByPlan_10 : decode c_P_roundedByPlan 10 = .ok (.lstore 4, 2) := by decide +kernel
theorem d_P_roundedByPlan_12 : decode c_P_roundedByPlan 12 = .ok (.iload_n 1, 1) := by decide +kernel
theorem d_P_roundedByPlan_13 : decode c_P_roundedByPlan 13 = .ok (.invokestatic 201, 3) := by decide +kernel
theorem d_P_roundedByPlan_16 : decode c_P_roundedByPlan 16 = .ok (.ifCond .eq 7, 3) := by decide +kernel
theorem d_P_roundedByPlan_19 : decode c_P_roundedByPlan 19 = .ok (.lload_n 2, 1) := by decide +kernel
theorem d_P_roundedByPlan_20 : decode c_P_roundedByPlan 20 = .ok (.goto 9, 3) := by decide +kernel
theorem d_P_roundedByPlan_23 : decode c_P_roundedByPlan 23 = .ok (.lload_n 2, 1) := by decide +kernel
theorem d_P_roundedByPlan_24 : decode c_P_roundedByPlan 24 = .ok (.lload 4, 2) := by decide +kernel
theorem d_P_roundedByPlan_26 : decode c_P_roundedByPlan 26 = .ok (.ladd, 1) := by decide +kernel
theorem d_P_roundedByPlan_27 : decode c_P_roundedByPlan 27 = .ok (.lconst 1, 1) := by decide +kernel
theorem d_P_roundedByPlan_28 : decode c_P_roundedByPlan 28 = .ok (.lsub, 1) := by decide +kernel
theorem d_P_roundedByPlan_29 : decode c_P_roundedByPlan 29 = .ok (.lload 4, 2) := by decide +kernel
theorem d_P_roundedByPlan_31 : decode c_P_roundedByPlan 31 = .ok (.invokestatic 164, 3) := by decide +kernel
theorem d_P_roundedByPlan_34 : decode c_P_roundedByPlan 34 = .ok (.l2i, 1) := by decide +kernel
theorem d_P_roundedByPlan_35 : decode c_P_roundedByPlan 35 = .ok (.ireturn, 1) := by decide +kernel
theorem d_P_quotient_0 : decode c_P_quotient 0 = .ok (.lload_n 2, 1) := by decide +kernel
theorem d_P_quotient_1 : decode c_P_quotient 1 = .ok (.lconst 0, 1) := by decide +kernel
theorem d_P_quotient_2 : decode c_P_quotient 2 = .ok (.lcmp, 1) := by decide +kernel
theorem d_P_quotient_3 : decode c_P_quotient 3 = .ok (.ifCond .le 9, 3) := by decide +kernel
theorem d_P_quotient_6 : decode c_P_quotient 6 = .ok (.lload_n 0, 1) := by decide +kernel
theorem d_P_quotient_7 : decode c_P_quotient 7 = .ok (.lload_n 2, 1) := by decide +kernel
theorem d_P_quotient_8 : decode c_P_quotient 8 = .ok (.ldiv, 1) := by decide +kernel
theorem d_P_quotient_9 : decode c_P_quotient 9 = .ok (.goto 4, 3) := by decide +kernel
theorem d_P_quotient_12 : decode c_P_quotient 12 = .ok (.lconst 0, 1) := by decide +kernel
theorem d_P_quotient_13 : decode c_P_quotient 13 = .ok (.lreturn, 1) := by decide +kernel
theorem d_P_commonDivisor_0 : decode c_P_commonDivisor 0 = .ok (.lload_n 0, 1) := by decide +kernel
theorem d_P_commonDivisor_1 : decode c_P_commonDivisor 1 = .ok (.lstore 4, 2) := by decide +kernel
theorem d_P_commonDivisor_3 : decode c_P_commonDivisor 3 = .ok (.lload_n 2, 1) := by decide +kernel
theorem d_P_commonDivisor_4 : decode c_P_commonDivisor 4 = .ok (.lstore 6, 2) := by decide +kernel
theorem d_P_commonDivisor_6 : decode c_P_commonDivisor 6 = .ok (.iconst 0, 1) := by decide +kernel
theorem d_P_commonDivisor_7 : decode c_P_commonDivisor 7 = .ok (.istore 8, 2) := by decide +kernel
theorem d_P_commonDivisor_9 : decode c_P_commonDivisor 9 = .ok (.iload 8, 2) := by decide +kernel
theorem d_P_commonDivisor_11 : decode c_P_commonDivisor 11 = .ok (.sipush 200, 3) := by decide +kernel
theorem d_P_commonDivisor_14 : decode c_P_commonDivisor 14 = .ok (.if_icmp .ge 31, 3) := by decide +kernel
theorem d_P_commonDivisor_17 : decode c_P_commonDivisor 17 = .ok (.lload 6, 2) := by decide +kernel
theorem d_P_commonDivisor_19 : decode c_P_commonDivisor 19 = .ok (.lconst 0, 1) := by decide +kernel
theorem d_P_commonDivisor_20 : decode c_P_commonDivisor 20 = .ok (.lcmp, 1) := by decide +kernel
theorem d_P_commonDivisor_21 : decode c_P_commonDivisor 21 = .ok (.ifCond .eq 24, 3) := by decide +kernel
theorem d_P_commonDivisor_24 : decode c_P_commonDivisor 24 = .ok (.lload 4, 2) := by decide +kernel
theorem d_P_commonDivisor_26 : decode c_P_commonDivisor 26 = .ok (.lload 6, 2) := by decide +kernel
theorem d_P_commonDivisor_28 : decode c_P_commonDivisor 28 = .ok (.lrem, 1) := by decide +kernel
theorem d_P_commonDivisor_29 : decode c_P_commonDivisor 29 = .ok (.lstore 9, 2) := by decide +kernel
theorem d_P_commonDivisor_31 : decode c_P_commonDivisor 31 = .ok (.lload 6, 2) := by decide +kernel
theorem d_P_commonDivisor_33 : decode c_P_commonDivisor 33 = .ok (.lstore 4, 2) := by decide +kernel
theorem d_P_commonDivisor_35 : decode c_P_commonDivisor 35 = .ok (.lload 9, 2) := by decide +kernel
theorem d_P_commonDivisor_37 : decode c_P_commonDivisor 37 = .ok (.lstore 6, 2) := by decide +kernel
theorem d_P_commonDivisor_39 : decode c_P_commonDivisor 39 = .ok (.iinc 8 1, 3) := by decide +kernel
theorem d_P_commonDivisor_42 : decode c_P_commonDivisor 42 = .ok (.goto (-33), 3) := by decide +kernel
theorem d_P_commonDivisor_45 : decode c_P_commonDivisor 45 = .ok (.lload 4, 2) := by decide +kernel
theorem d_P_commonDivisor_47 : decode c_P_commonDivisor 47 = .ok (.lreturn, 1) := by decide +kernel
theorem d_P_surplusAt_0 : decode c_P_surplusAt 0 = .ok (.iload_n 0, 1) := by decide +kernel
theorem d_P_surplusAt_1 : decode c_P_surplusAt 1 = .ok (.invokestatic 201, 3) := by decide +kernel
theorem d_P_surplusAt_4 : decode c_P_surplusAt 4 = .ok (.ifCond .eq 9, 3) := by decide +kernel
theorem d_P_surplusAt_7 : decode c_P_surplusAt 7 = .ok (.lload_n 1, 1) := by decide +kernel
theorem d_P_surplusAt_8 : decode c_P_surplusAt 8 = .ok (.lload_n 3, 1) := by decide +kernel
theorem d_P_surplusAt_9 : decode c_P_surplusAt 9 = .ok (.lsub, 1) := by decide +kernel
theorem d_P_surplusAt_10 : decode c_P_surplusAt 10 = .ok (.goto 6, 3) := by decide +kernel
theorem d_P_surplusAt_13 : decode c_P_surplusAt 13 = .ok (.lload_n 3, 1) := by decide +kernel
theorem d_P_surplusAt_14 : decode c_P_surplusAt 14 = .ok (.lload_n 1, 1) := by decide +kernel
theorem d_P_surplusAt_15 : decode c_P_surplusAt 15 = .ok (.lsub, 1) := by decide +kernel
theorem d_P_surplusAt_16 : decode c_P_surplusAt 16 = .ok (.lreturn, 1) := by decide +kernel
end
section
theorem d_A_init_0 : decode c_A_init 0 = .ok (.aload_n 0, 1) := by decide +kernel
theorem d_A_init_1 : decode c_A_init 1 = .ok (.invokespecial 3, 3) := by decide +kernel
theorem d_A_init_4 : decode c_A_init 4 = .ok (.aload_n 0, 1) := by decide +kernel
theorem d_A_init_5 : decode c_A_init 5 = .ok (.iconst 1, 1) := by decide +kernel
theorem d_A_init_6 : decode c_A_init 6 = .ok (.putfield 9, 3) := by decide +kernel
theorem d_A_init_9 : decode c_A_init 9 = .ok (.aload_n 0, 1) := by decide +kernel
theorem d_A_init_10 : decode c_A_init 10 = .ok (.sipush 1000, 3) := by decide +kernel
theorem d_A_init_13 : decode c_A_init 13 = .ok (.putfield 15, 3) := by decide +kernel
theorem d_A_init_16 : decode c_A_init 16 = .ok (.aload_n 0, 1) := by decide +kernel
theorem d_A_init_17 : decode c_A_init 17 = .ok (.bipush 8, 2) := by decide +kernel
theorem d_A_init_19 : decode c_A_init 19 = .ok (.newarray .int, 2) := by decide +kernel
theorem d_A_init_21 : decode c_A_init 21 = .ok (.putfield 18, 3) := by decide +kernel
theorem d_A_init_24 : decode c_A_init 24 = .ok (.aload_n 0, 1) := by decide +kernel
theorem d_A_init_25 : decode c_A_init 25 = .ok (.bipush 8, 2) := by decide +kernel
theorem d_A_init_27 : decode c_A_init 27 = .ok (.newarray .long, 2) := by decide +kernel
theorem d_A_init_29 : decode c_A_init 29 = .ok (.putfield 22, 3) := by decide +kernel
theorem d_A_init_32 : decode c_A_init 32 = .ok (.return_, 1) := by decide +kernel
theorem d_A_coolingOfStep_0 : decode c_A_coolingOfStep 0 = .ok (.aload_n 0, 1) := by decide +kernel
theorem d_A_coolingOfStep_1 : decode c_A_coolingOfStep 1 = .ok (.getfield 9, 3) := by decide +kernel
theorem d_A_coolingOfStep_4 : decode c_A_coolingOfStep 4 = .ok (.aload_n 0, 1) := by decide +kernel
theorem d_A_coolingOfStep_5 : decode c_A_coolingOfStep 5 = .ok (.getfield 26, 3) := by decide +kernel
theorem d_A_coolingOfStep_8 : decode c_A_coolingOfStep 8 = .ok (.imul, 1) := by decide +kernel
theorem d_A_coolingOfStep_9 : decode c_A_coolingOfStep 9 = .ok (.ireturn, 1) := by decide +kernel
theorem d_A_heldInStepAt_0 : decode c_A_heldInStepAt 0 = .ok (.aload_n 0, 1) := by decide +kernel
theorem d_A_heldInStepAt_1 : decode c_A_heldInStepAt 1 = .ok (.getfield 9, 3) := by decide +kernel
theorem d_A_heldInStepAt_4 : decode c_A_heldInStepAt 4 = .ok (.i2l, 1) := by decide +kernel
theorem d_A_heldInStepAt_5 : decode c_A_heldInStepAt 5 = .ok (.aload_n 0, 1) := by decide +kernel
theorem d_A_heldInStepAt_6 : decode c_A_heldInStepAt 6 = .ok (.getfield 18, 3) := by decide +kernel
theorem d_A_heldInStepAt_9 : decode c_A_heldInStepAt 9 = .ok (.iload_n 1, 1) := by decide +kernel
theorem d_A_heldInStepAt_10 : decode c_A_heldInStepAt 10 = .ok (.iaload, 1) := by decide +kernel
theorem d_A_heldInStepAt_11 : decode c_A_heldInStepAt 11 = .ok (.i2l, 1) := by decide +kernel
theorem d_A_heldInStepAt_12 : decode c_A_heldInStepAt 12 = .ok (.lmul, 1) := by decide +kernel
theorem d_A_heldInStepAt_13 : decode c_A_heldInStepAt 13 = .ok (.aload_n 0, 1) := by decide +kernel
theorem d_A_heldInStepAt_14 : decode c_A_heldInStepAt 14 = .ok (.getfield 15, 3) := by decide +kernel
theorem d_A_heldInStepAt_17 : decode c_A_heldInStepAt 17 = .ok (.i2l, 1) := by decide +kernel
theorem d_A_heldInStepAt_18 : decode c_A_heldInStepAt 18 = .ok (.lmul, 1) := by decide +kernel
theorem d_A_heldInStepAt_19 : decode c_A_heldInStepAt 19 = .ok (.lreturn, 1) := by decide +kernel
theorem d_A_weighAgainst_0 : decode c_A_weighAgainst 0 = .ok (.iconst 0, 1) := by decide +kernel
theorem d_A_weighAgainst_1 : decode c_A_weighAgainst 1 = .ok (.istore_n 2, 1) := by decide +kernel
theorem d_A_weighAgainst_2 : decode c_A_weighAgainst 2 = .ok (.iload_n 2, 1) := by decide +kernel
theorem d_A_weighAgainst_3 : decode c_A_weighAgainst 3 = .ok (.aload_n 0, 1) := by decide +kernel
theorem d_A_weighAgainst_4 : decode c_A_weighAgainst 4 = .ok (.getfield 22, 3) := by decide +kernel
theorem d_A_weighAgainst_7 : decode c_A_weighAgainst 7 = .ok (.arraylength, 1) := by decide +kernel
theorem d_A_weighAgainst_8 : decode c_A_weighAgainst 8 = .ok (.if_icmp .ge 44, 3) := by decide +kernel
theorem d_A_weighAgainst_11 : decode c_A_weighAgainst 11 = .ok (.iload_n 2, 1) := by decide +kernel
theorem d_A_weighAgainst_12 : decode c_A_weighAgainst 12 = .ok (.aload_n 1, 1) := by decide +kernel
theorem d_A_weighAgainst_13 : decode c_A_weighAgainst 13 = .ok (.arraylength, 1) := by decide +kernel
theorem d_A_weighAgainst_14 : decode c_A_weighAgainst 14 = .ok (.if_icmp .ge 38, 3) := by decide +kernel
theorem d_A_weighAgainst_17 : decode c_A_weighAgainst 17 = .ok (.aload_n 0, 1) := by decide +kernel
theorem d_A_weighAgainst_18 : decode c_A_weighAgainst 18 = .ok (.getfield 22, 3) := by decide +kernel
theorem d_A_weighAgainst_21 : decode c_A_weighAgainst 21 = .ok (.iload_n 2, 1) := by decide +kernel
theorem d_A_weighAgainst_22 : decode c_A_weighAgainst 22 = .ok (.iload_n 2, 1) := by decide +kernel
theorem d_A_weighAgainst_23 : decode c_A_weighAgainst 23 = .ok (.aload_n 0, 1) := by decide +kernel
theorem d_A_weighAgainst_24 : decode c_A_weighAgainst 24 = .ok (.iload_n 2, 1) := by decide +kernel
theorem d_A_weighAgainst_25 : decode c_A_weighAgainst 25 = .ok (.invokevirtual 29, 3) := by decide +kernel
theorem d_A_weighAgainst_28 : decode c_A_weighAgainst 28 = .ok (.ldc2_w 33, 3) := by decide +kernel
theorem d_A_weighAgainst_31 : decode c_A_weighAgainst 31 = .ok (.aload_n 0, 1) := by decide +kernel
theorem d_A_weighAgainst_32 : decode c_A_weighAgainst 32 = .ok (.getfield 9, 3) := by decide +kernel
theorem d_A_weighAgainst_35 : decode c_A_weighAgainst 35 = .ok (.i2l, 1) := by decide +kernel
theorem d_A_weighAgainst_36 : decode c_A_weighAgainst 36 = .ok (.lmul, 1) := by decide +kernel
theorem d_A_weighAgainst_37 : decode c_A_weighAgainst 37 = .ok (.aload_n 1, 1) := by decide +kernel
theorem d_A_weighAgainst_38 : decode c_A_weighAgainst 38 = .ok (.iload_n 2, 1) := by decide +kernel
theorem d_A_weighAgainst_39 : decode c_A_weighAgainst 39 = .ok (.iaload, 1) := by decide +kernel
theorem d_A_weighAgainst_40 : decode c_A_weighAgainst 40 = .ok (.i2l, 1) := by decide +kernel
theorem d_A_weighAgainst_41 : decode c_A_weighAgainst 41 = .ok (.lmul, 1) := by decide +kernel
theorem d_A_weighAgainst_42 : decode c_A_weighAgainst 42 = .ok (.invokestatic 35, 3) := by decide +kernel
theorem d_A_weighAgainst_45 : decode c_A_weighAgainst 45 = .ok (.lastore, 1) := by decide +kernel
theorem d_A_weighAgainst_46 : decode c_A_weighAgainst 46 = .ok (.iinc 2 1, 3) := by decide +kernel
theorem d_A_weighAgainst_49 : decode c_A_weighAgainst 49 = .ok (.goto (-47), 3) := by decide +kernel
theorem d_A_weighAgainst_52 : decode c_A_weighAgainst 52 = .ok (.return_, 1) := by decide +kernel
theorem d_E_init_0 : decode c_E_init 0 = .ok (.aload_n 0, 1) := by decide +kernel
theorem d_E_init_1 : decode c_E_init 1 = .ok (.invokespecial 3, 3) := by decide +kernel
theorem d_E_init_4 : decode c_E_init 4 = .ok (.aload_n 0, 1) := by decide +kernel
theorem d_E_init_5 : decode c_E_init 5 = .ok (.iconst 1, 1) := by decide +kernel
theorem d_E_init_6 : decode c_E_init 6 = .ok (.putfield 9, 3) := by decide +kernel
theorem d_E_init_9 : decode c_E_init 9 = .ok (.aload_n 0, 1) := by decide +kernel
theorem d_E_init_10 : decode c_E_init 10 = .ok (.bipush 8, 2) := by decide +kernel
theorem d_E_init_12 : decode c_E_init 12 = .ok (.newarray .int, 2) := by decide +kernel
theorem d_E_init_14 : decode c_E_init 14 = .ok (.putfield 15, 3) := by decide +kernel
theorem d_E_init_17 : decode c_E_init 17 = .ok (.aload_n 0, 1) := by decide +kernel
theorem d_E_init_18 : decode c_E_init 18 = .ok (.bipush 8, 2) := by decide +kernel
theorem d_E_init_20 : decode c_E_init 20 = .ok (.newarray .int, 2) := by decide +kernel
theorem d_E_init_22 : decode c_E_init 22 = .ok (.putfield 19, 3) := by decide +kernel
theorem d_E_init_25 : decode c_E_init 25 = .ok (.iconst 0, 1) := by decide +kernel
theorem d_E_init_26 : decode c_E_init 26 = .ok (.istore_n 1, 1) := by decide +kernel
theorem d_E_init_27 : decode c_E_init 27 = .ok (.iload_n 1, 1) := by decide +kernel
theorem d_E_init_28 : decode c_E_init 28 = .ok (.aload_n 0, 1) := by decide +kernel
theorem d_E_init_29 : decode c_E_init 29 = .ok (.getfield 19, 3) := by decide +kernel
theorem d_E_init_32 : decode c_E_init 32 = .ok (.arraylength, 1) := by decide +kernel
theorem d_E_init_33 : decode c_E_init 33 = .ok (.if_icmp .ge 28, 3) := by decide +kernel
theorem d_E_init_36 : decode c_E_init 36 = .ok (.aload_n 0, 1) := by decide +kernel
theorem d_E_init_37 : decode c_E_init 37 = .ok (.getfield 19, 3) := by decide +kernel
theorem d_E_init_40 : decode c_E_init 40 = .ok (.iload_n 1, 1) := by decide +kernel
theorem d_E_init_41 : decode c_E_init 41 = .ok (.iload_n 1, 1) := by decide +kernel
theorem d_E_init_42 : decode c_E_init 42 = .ok (.invokestatic 22, 3) := by decide +kernel
theorem d_E_init_45 : decode c_E_init 45 = .ok (.ifCond .eq 7, 3) := by decide +kernel
theorem d_E_init_48 : decode c_E_init 48 = .ok (.iconst 0, 1) := by decide +kernel
theorem d_E_init_49 : decode c_E_init 49 = .ok (.goto 5, 3) := by decide +kernel
theorem d_E_init_52 : decode c_E_init 52 = .ok (.ldc 26, 2) := by decide +kernel
theorem d_E_init_54 : decode c_E_init 54 = .ok (.iastore, 1) := by decide +kernel
theorem d_E_init_55 : decode c_E_init 55 = .ok (.iinc 1 1, 3) := by decide +kernel
theorem d_E_init_58 : decode c_E_init 58 = .ok (.goto (-31), 3) := by decide +kernel
theorem d_E_init_61 : decode c_E_init 61 = .ok (.return_, 1) := by decide +kernel
theorem d_E_heldAt_0 : decode c_E_heldAt 0 = .ok (.ldc2_w 27, 3) := by decide +kernel
theorem d_E_heldAt_3 : decode c_E_heldAt 3 = .ok (.aload_n 0, 1) := by decide +kernel
theorem d_E_heldAt_4 : decode c_E_heldAt 4 = .ok (.getfield 9, 3) := by decide +kernel
theorem d_E_heldAt_7 : decode c_E_heldAt 7 = .ok (.i2l, 1) := by decide +kernel
theorem d_E_heldAt_8 : decode c_E_heldAt 8 = .ok (.lmul, 1) := by decide +kernel
theorem d_E_heldAt_9 : decode c_E_heldAt 9 = .ok (.aload_n 0, 1) := by decide +kernel
theorem d_E_heldAt_10 : decode c_E_heldAt 10 = .ok (.getfield 15, 3) := by decide +kernel
theorem d_E_heldAt_13 : decode c_E_heldAt 13 = .ok (.iload_n 1, 1) := by decide +kernel
theorem d_E_heldAt_14 : decode c_E_heldAt 14 = .ok (.iaload, 1) := by decide +kernel
theorem d_E_heldAt_15 : decode c_E_heldAt 15 = .ok (.i2l, 1) := by decide +kernel
theorem d_E_heldAt_16 : decode c_E_heldAt 16 = .ok (.lmul, 1) := by decide +kernel
theorem d_E_heldAt_17 : decode c_E_heldAt 17 = .ok (.lreturn, 1) := by decide +kernel
theorem d_E_surplusOfHeat_0 : decode c_E_surplusOfHeat 0 = .ok (.iload_n 1, 1) := by decide +kernel
theorem d_E_surplusOfHeat_1 : decode c_E_surplusOfHeat 1 = .ok (.aload_n 0, 1) := by decide +kernel
theorem d_E_surplusOfHeat_2 : decode c_E_surplusOfHeat 2 = .ok (.iload_n 1, 1) := by decide +kernel
theorem d_E_surplusOfHeat_3 : decode c_E_surplusOfHeat 3 = .ok (.invokevirtual 29, 3) := by decide +kernel
theorem d_E_surplusOfHeat_6 : decode c_E_surplusOfHeat 6 = .ok (.ldc2_w 27, 3) := by decide +kernel
theorem d_E_surplusOfHeat_9 : decode c_E_surplusOfHeat 9 = .ok (.aload_n 0, 1) := by decide +kernel
theorem d_E_surplusOfHeat_10 : decode c_E_surplusOfHeat 10 = .ok (.getfield 9, 3) := by decide +kernel
theorem d_E_surplusOfHeat_13 : decode c_E_surplusOfHeat 13 = .ok (.i2l, 1) := by decide +kernel
theorem d_E_surplusOfHeat_14 : decode c_E_surplusOfHeat 14 = .ok (.lmul, 1) := by decide +kernel
theorem d_E_surplusOfHeat_15 : decode c_E_surplusOfHeat 15 = .ok (.aload_n 0, 1) := by decide +kernel
theorem d_E_surplusOfHeat_16 : decode c_E_surplusOfHeat 16 = .ok (.getfield 19, 3) := by decide +kernel
theorem d_E_surplusOfHeat_19 : decode c_E_surplusOfHeat 19 = .ok (.iload_n 1, 1) := by decide +kernel
theorem d_E_surplusOfHeat_20 : decode c_E_surplusOfHeat 20 = .ok (.iaload, 1) := by decide +kernel
theorem d_E_surplusOfHeat_21 : decode c_E_surplusOfHeat 21 = .ok (.i2l, 1) := by decide +kernel
theorem d_E_surplusOfHeat_22 : decode c_E_surplusOfHeat 22 = .ok (.lmul, 1) := by decide +kernel
theorem d_E_surplusOfHeat_23 : decode c_E_surplusOfHeat 23 = .ok (.invokestatic 33, 3) := by decide +kernel
theorem d_E_surplusOfHeat_26 : decode c_E_surplusOfHeat 26 = .ok (.lreturn, 1) := by decide +kernel
theorem d_X_init_0 : decode c_X_init 0 = .ok (.aload_n 0, 1) := by decide +kernel
theorem d_X_init_1 : decode c_X_init 1 = .ok (.invokespecial 3, 3) := by decide +kernel
theorem d_X_init_4 : decode c_X_init 4 = .ok (.aload_n 0, 1) := by decide +kernel
theorem d_X_init_5 : decode c_X_init 5 = .ok (.bipush 8, 2) := by decide +kernel
theorem d_X_init_7 : decode c_X_init 7 = .ok (.newarray .long, 2) := by decide +kernel
theorem d_X_init_9 : decode c_X_init 9 = .ok (.putfield 9, 3) := by decide +kernel
theorem d_X_init_12 : decode c_X_init 12 = .ok (.return_, 1) := by decide +kernel
theorem d_X_becomeHeat_0 : decode c_X_becomeHeat 0 = .ok (.aload_n 0, 1) := by decide +kernel
theorem d_X_becomeHeat_1 : decode c_X_becomeHeat 1 = .ok (.iconst 0, 1) := by decide +kernel
theorem d_X_becomeHeat_2 : decode c_X_becomeHeat 2 = .ok (.putfield 15, 3) := by decide +kernel
theorem d_X_becomeHeat_5 : decode c_X_becomeHeat 5 = .ok (.aload_n 0, 1) := by decide +kernel
theorem d_X_becomeHeat_6 : decode c_X_becomeHeat 6 = .ok (.iconst 0, 1) := by decide +kernel
theorem d_X_becomeHeat_7 : decode c_X_becomeHeat 7 = .ok (.putfield 19, 3) := by decide +kernel
theorem d_X_becomeHeat_10 : decode c_X_becomeHeat 10 = .ok (.aload_n 0, 1) := by decide +kernel
theorem d_X_becomeHeat_11 : decode c_X_becomeHeat 11 = .ok (.iload_n 2, 1) := by decide +kernel
theorem d_X_becomeHeat_12 : decode c_X_becomeHeat 12 = .ok (.putfield 22, 3) := by decide +kernel
theorem d_X_becomeHeat_15 : decode c_X_becomeHeat 15 = .ok (.iconst 0, 1) := by decide +kernel
theorem d_X_becomeHeat_16 : decode c_X_becomeHeat 16 = .ok (.istore_n 3, 1) := by decide +kernel
theorem d_X_becomeHeat_17 : decode c_X_becomeHeat 17 = .ok (.iload_n 3, 1) := by decide +kernel
theorem d_X_becomeHeat_18 : decode c_X_becomeHeat 18 = .ok (.aload_n 0, 1) := by decide +kernel
theorem d_X_becomeHeat_19 : decode c_X_becomeHeat 19 = .ok (.getfield 9, 3) := by decide +kernel
theorem d_X_becomeHeat_22 : decode c_X_becomeHeat 22 = .ok (.arraylength, 1) := by decide +kernel
theorem d_X_becomeHeat_23 : decode c_X_becomeHeat 23 = .ok (.if_icmp .ge 20, 3) := by decide +kernel
theorem d_X_becomeHeat_26 : decode c_X_becomeHeat 26 = .ok (.aload_n 0, 1) := by decide +kernel
theorem d_X_becomeHeat_27 : decode c_X_becomeHeat 27 = .ok (.getfield 9, 3) := by decide +kernel
theorem d_X_becomeHeat_30 : decode c_X_becomeHeat 30 = .ok (.iload_n 3, 1) := by decide +kernel
theorem d_X_becomeHeat_31 : decode c_X_becomeHeat 31 = .ok (.aload_n 1, 1) := by decide +kernel
theorem d_X_becomeHeat_32 : decode c_X_becomeHeat 32 = .ok (.iload_n 3, 1) := by decide +kernel
theorem d_X_becomeHeat_33 : decode c_X_becomeHeat 33 = .ok (.invokevirtual 25, 3) := by decide +kernel
theorem d_X_becomeHeat_36 : decode c_X_becomeHeat 36 = .ok (.lastore, 1) := by decide +kernel
theorem d_X_becomeHeat_37 : decode c_X_becomeHeat 37 = .ok (.iinc 3 1, 3) := by decide +kernel
theorem d_X_becomeHeat_40 : decode c_X_becomeHeat 40 = .ok (.goto (-23), 3) := by decide +kernel
theorem d_X_becomeHeat_43 : decode c_X_becomeHeat 43 = .ok (.return_, 1) := by decide +kernel
theorem d_X_becomeLike_0 : decode c_X_becomeLike 0 = .ok (.aload_n 0, 1) := by decide +kernel
theorem d_X_becomeLike_1 : decode c_X_becomeLike 1 = .ok (.aload_n 1, 1) := by decide +kernel
theorem d_X_becomeLike_2 : decode c_X_becomeLike 2 = .ok (.getfield 15, 3) := by decide +kernel
theorem d_X_becomeLike_5 : decode c_X_becomeLike 5 = .ok (.putfield 15, 3) := by decide +kernel
theorem d_X_becomeLike_8 : decode c_X_becomeLike 8 = .ok (.aload_n 0, 1) := by decide +kernel
theorem d_X_becomeLike_9 : decode c_X_becomeLike 9 = .ok (.aload_n 1, 1) := by decide +kernel
theorem d_X_becomeLike_10 : decode c_X_becomeLike 10 = .ok (.getfield 19, 3) := by decide +kernel
theorem d_X_becomeLike_13 : decode c_X_becomeLike 13 = .ok (.putfield 19, 3) := by decide +kernel
theorem d_X_becomeLike_16 : decode c_X_becomeLike 16 = .ok (.aload_n 0, 1) := by decide +kernel
theorem d_X_becomeLike_17 : decode c_X_becomeLike 17 = .ok (.aload_n 1, 1) := by decide +kernel
theorem d_X_becomeLike_18 : decode c_X_becomeLike 18 = .ok (.getfield 22, 3) := by decide +kernel
theorem d_X_becomeLike_21 : decode c_X_becomeLike 21 = .ok (.putfield 22, 3) := by decide +kernel
theorem d_X_becomeLike_24 : decode c_X_becomeLike 24 = .ok (.aload_n 1, 1) := by decide +kernel
theorem d_X_becomeLike_25 : decode c_X_becomeLike 25 = .ok (.getfield 9, 3) := by decide +kernel
theorem d_X_becomeLike_28 : decode c_X_becomeLike 28 = .ok (.iconst 0, 1) := by decide +kernel
theorem d_X_becomeLike_29 : decode c_X_becomeLike 29 = .ok (.aload_n 0, 1) := by decide +kernel
theorem d_X_becomeLike_30 : decode c_X_becomeLike 30 = .ok (.getfield 9, 3) := by decide +kernel
theorem d_X_becomeLike_33 : decode c_X_becomeLike 33 = .ok (.iconst 0, 1) := by decide +kernel
theorem d_X_becomeLike_34 : decode c_X_becomeLike 34 = .ok (.aload_n 0, 1) := by decide +kernel
theorem d_X_becomeLike_35 : decode c_X_becomeLike 35 = .ok (.getfield 9, 3) := by decide +kernel
theorem d_X_becomeLike_38 : decode c_X_becomeLike 38 = .ok (.arraylength, 1) := by decide +kernel
theorem d_X_becomeLike_39 : decode c_X_becomeLike 39 = .ok (.invokestatic 31, 3) := by decide +kernel
theorem d_X_becomeLike_42 : decode c_X_becomeLike 42 = .ok (.return_, 1) := by decide +kernel
theorem d_X_takeStep_0 : decode c_X_takeStep 0 = .ok (.aload_n 0, 1) := by decide +kernel
theorem d_X_takeStep_1 : decode c_X_takeStep 1 = .ok (.dup, 1) := by decide +kernel
theorem d_X_takeStep_2 : decode c_X_takeStep 2 = .ok (.getfield 15, 3) := by decide +kernel
theorem d_X_takeStep_5 : decode c_X_takeStep 5 = .ok (.aload_n 1, 1) := by decide +kernel
theorem d_X_takeStep_6 : decode c_X_takeStep 6 = .ok (.getfield 37, 3) := by decide +kernel
theorem d_X_takeStep_9 : decode c_X_takeStep 9 = .ok (.iadd, 1) := by decide +kernel
theorem d_X_takeStep_10 : decode c_X_takeStep 10 = .ok (.putfield 15, 3) := by decide +kernel
theorem d_X_takeStep_13 : decode c_X_takeStep 13 = .ok (.aload_n 0, 1) := by decide +kernel
theorem d_X_takeStep_14 : decode c_X_takeStep 14 = .ok (.dup, 1) := by decide +kernel
theorem d_X_takeStep_15 : decode c_X_takeStep 15 = .ok (.getfield 19, 3) := by decide +kernel
theorem d_X_takeStep_18 : decode c_X_takeStep 18 = .ok (.iload_n 2, 1) := by decide +kernel
theorem d_X_takeStep_19 : decode c_X_takeStep 19 = .ok (.ifCond .eq 7, 3) := by decide +kernel
theorem d_X_takeStep_22 : decode c_X_takeStep 22 = .ok (.iconst 1, 1) := by decide +kernel
theorem d_X_takeStep_23 : decode c_X_takeStep 23 = .ok (.goto 4, 3) := by decide +kernel
theorem d_X_takeStep_26 : decode c_X_takeStep 26 = .ok (.iconst 0, 1) := by decide +kernel
theorem d_X_takeStep_27 : decode c_X_takeStep 27 = .ok (.iadd, 1) := by decide +kernel
theorem d_X_takeStep_28 : decode c_X_takeStep 28 = .ok (.putfield 19, 3) := by decide +kernel
theorem d_X_takeStep_31 : decode c_X_takeStep 31 = .ok (.aload_n 0, 1) := by decide +kernel
theorem d_X_takeStep_32 : decode c_X_takeStep 32 = .ok (.dup, 1) := by decide +kernel
theorem d_X_takeStep_33 : decode c_X_takeStep 33 = .ok (.getfield 22, 3) := by decide +kernel
theorem d_X_takeStep_36 : decode c_X_takeStep 36 = .ok (.aload_n 1, 1) := by decide +kernel
theorem d_X_takeStep_37 : decode c_X_takeStep 37 = .ok (.invokevirtual 40, 3) := by decide +kernel
theorem d_X_takeStep_40 : decode c_X_takeStep 40 = .ok (.isub, 1) := by decide +kernel
theorem d_X_takeStep_41 : decode c_X_takeStep 41 = .ok (.putfield 22, 3) := by decide +kernel
theorem d_X_takeStep_44 : decode c_X_takeStep 44 = .ok (.iconst 0, 1) := by decide +kernel
theorem d_X_takeStep_45 : decode c_X_takeStep 45 = .ok (.istore_n 3, 1) := by decide +kernel
theorem d_X_takeStep_46 : decode c_X_takeStep 46 = .ok (.iload_n 3, 1) := by decide +kernel
theorem d_X_takeStep_47 : decode c_X_takeStep 47 = .ok (.aload_n 0, 1) := by decide +kernel
theorem d_X_takeStep_48 : decode c_X_takeStep 48 = .ok (.getfield 9, 3) := by decide +kernel
theorem d_X_takeStep_51 : decode c_X_takeStep 51 = .ok (.arraylength, 1) := by decide +kernel
theorem d_X_takeStep_52 : decode c_X_takeStep 52 = .ok (.if_icmp .ge 24, 3) := by decide +kernel
theorem d_X_takeStep_55 : decode c_X_takeStep 55 = .ok (.aload_n 0, 1) := by decide +kernel
theorem d_X_takeStep_56 : decode c_X_takeStep 56 = .ok (.getfield 9, 3) := by decide +kernel
theorem d_X_takeStep_59 : decode c_X_takeStep 59 = .ok (.iload_n 3, 1) := by decide +kernel
theorem d_X_takeStep_60 : decode c_X_takeStep 60 = .ok (.dup2, 1) := by decide +kernel
theorem d_X_takeStep_61 : decode c_X_takeStep 61 = .ok (.laload, 1) := by decide +kernel
theorem d_X_takeStep_62 : decode c_X_takeStep 62 = .ok (.aload_n 1, 1) := by decide +kernel
theorem d_X_takeStep_63 : decode c_X_takeStep 63 = .ok (.getfield 44, 3) := by decide +kernel
theorem d_X_takeStep_66 : decode c_X_takeStep 66 = .ok (.iload_n 3, 1) := by decide +kernel
theorem d_X_takeStep_67 : decode c_X_takeStep 67 = .ok (.laload, 1) := by decide +kernel
theorem d_X_takeStep_68 : decode c_X_takeStep 68 = .ok (.ladd, 1) := by decide +kernel
theorem d_X_takeStep_69 : decode c_X_takeStep 69 = .ok (.lastore, 1) := by decide +kernel
theorem d_X_takeStep_70 : decode c_X_takeStep 70 = .ok (.iinc 3 1, 3) := by decide +kernel
theorem d_X_takeStep_73 : decode c_X_takeStep 73 = .ok (.goto (-27), 3) := by decide +kernel
theorem d_X_takeStep_76 : decode c_X_takeStep 76 = .ok (.return_, 1) := by decide +kernel
theorem d_X_countMet_0 : decode c_X_countMet 0 = .ok (.iconst 0, 1) := by decide +kernel
theorem d_X_countMet_1 : decode c_X_countMet 1 = .ok (.istore_n 1, 1) := by decide +kernel
theorem d_X_countMet_2 : decode c_X_countMet 2 = .ok (.iload_n 1, 1) := by decide +kernel
theorem d_X_countMet_3 : decode c_X_countMet 3 = .ok (.aload_n 0, 1) := by decide +kernel
theorem d_X_countMet_4 : decode c_X_countMet 4 = .ok (.getfield 9, 3) := by decide +kernel
theorem d_X_countMet_7 : decode c_X_countMet 7 = .ok (.arraylength, 1) := by decide +kernel
theorem d_X_countMet_8 : decode c_X_countMet 8 = .ok (.if_icmp .ge 24, 3) := by decide +kernel
theorem d_X_countMet_11 : decode c_X_countMet 11 = .ok (.aload_n 0, 1) := by decide +kernel
theorem d_X_countMet_12 : decode c_X_countMet 12 = .ok (.getfield 9, 3) := by decide +kernel
theorem d_X_countMet_15 : decode c_X_countMet 15 = .ok (.iload_n 1, 1) := by decide +kernel
theorem d_X_countMet_16 : decode c_X_countMet 16 = .ok (.laload, 1) := by decide +kernel
theorem d_X_countMet_17 : decode c_X_countMet 17 = .ok (.lconst 0, 1) := by decide +kernel
theorem d_X_countMet_18 : decode c_X_countMet 18 = .ok (.lcmp, 1) := by decide +kernel
theorem d_X_countMet_19 : decode c_X_countMet 19 = .ok (.ifCond .ge 7, 3) := by decide +kernel
theorem d_X_countMet_22 : decode c_X_countMet 22 = .ok (.iload_n 1, 1) := by decide +kernel
theorem d_X_countMet_23 : decode c_X_countMet 23 = .ok (.iconst 2, 1) := by decide +kernel
theorem d_X_countMet_24 : decode c_X_countMet 24 = .ok (.idiv, 1) := by decide +kernel
theorem d_X_countMet_25 : decode c_X_countMet 25 = .ok (.ireturn, 1) := by decide +kernel
theorem d_X_countMet_26 : decode c_X_countMet 26 = .ok (.iinc 1 1, 3) := by decide +kernel
theorem d_X_countMet_29 : decode c_X_countMet 29 = .ok (.goto (-27), 3) := by decide +kernel
theorem d_X_countMet_32 : decode c_X_countMet 32 = .ok (.iconst 4, 1) := by decide +kernel
theorem d_X_countMet_33 : decode c_X_countMet 33 = .ok (.ireturn, 1) := by decide +kernel
theorem d_N_init_0 : decode c_N_init 0 = .ok (.aload_n 0, 1) := by decide +kernel
theorem d_N_init_1 : decode c_N_init 1 = .ok (.invokespecial 3, 3) := by decide +kernel
theorem d_N_init_4 : decode c_N_init 4 = .ok (.aload_n 0, 1) := by decide +kernel
theorem d_N_init_5 : decode c_N_init 5 = .ok (.iconst 4, 1) := by decide +kernel
theorem d_N_init_6 : decode c_N_init 6 = .ok (.newarray .int, 2) := by decide +kernel
theorem d_N_init_8 : decode c_N_init 8 = .ok (.putfield 9, 3) := by decide +kernel
theorem d_N_init_11 : decode c_N_init 11 = .ok (.return_, 1) := by decide +kernel
theorem d_N_forget_0 : decode c_N_forget 0 = .ok (.aload_n 0, 1) := by decide +kernel
theorem d_N_forget_1 : decode c_N_forget 1 = .ok (.iconst 0, 1) := by decide +kernel
theorem d_N_forget_2 : decode c_N_forget 2 = .ok (.putfield 15, 3) := by decide +kernel
theorem d_N_forget_5 : decode c_N_forget 5 = .ok (.return_, 1) := by decide +kernel
theorem d_N_isTaken_0 : decode c_N_isTaken 0 = .ok (.aload_n 0, 1) := by decide +kernel
theorem d_N_isTaken_1 : decode c_N_isTaken 1 = .ok (.getfield 9, 3) := by decide +kernel
theorem d_N_isTaken_4 : decode c_N_isTaken 4 = .ok (.iload_n 1, 1) := by decide +kernel
theorem d_N_isTaken_5 : decode c_N_isTaken 5 = .ok (.iaload, 1) := by decide +kernel
theorem d_N_isTaken_6 : decode c_N_isTaken 6 = .ok (.ifCond .le 7, 3) := by decide +kernel
theorem d_N_isTaken_9 : decode c_N_isTaken 9 = .ok (.iconst 1, 1) := by decide +kernel
theorem d_N_isTaken_10 : decode c_N_isTaken 10 = .ok (.goto 4, 3) := by decide +kernel
theorem d_N_isTaken_13 : decode c_N_isTaken 13 = .ok (.iconst 0, 1) := by decide +kernel
theorem d_N_isTaken_14 : decode c_N_isTaken 14 = .ok (.ireturn, 1) := by decide +kernel
theorem d_N_settle_0 : decode c_N_settle 0 = .ok (.aload_n 0, 1) := by decide +kernel
theorem d_N_settle_1 : decode c_N_settle 1 = .ok (.iconst 0, 1) := by decide +kernel
theorem d_N_settle_2 : decode c_N_settle 2 = .ok (.putfield 19, 3) := by decide +kernel
theorem d_N_settle_5 : decode c_N_settle 5 = .ok (.aload_n 0, 1) := by decide +kernel
theorem d_N_settle_6 : decode c_N_settle 6 = .ok (.iconst 0, 1) := by decide +kernel
theorem d_N_settle_7 : decode c_N_settle 7 = .ok (.putfield 23, 3) := by decide +kernel
theorem d_N_settle_10 : decode c_N_settle 10 = .ok (.aload_n 0, 1) := by decide +kernel
theorem d_N_settle_11 : decode c_N_settle 11 = .ok (.iconst 0, 1) := by decide +kernel
theorem d_N_settle_12 : decode c_N_settle 12 = .ok (.putfield 26, 3) := by decide +kernel
theorem d_N_settle_15 : decode c_N_settle 15 = .ok (.aload_n 0, 1) := by decide +kernel
theorem d_N_settle_16 : decode c_N_settle 16 = .ok (.iconst 0, 1) := by decide +kernel
theorem d_N_settle_17 : decode c_N_settle 17 = .ok (.putfield 29, 3) := by decide +kernel
theorem d_N_settle_20 : decode c_N_settle 20 = .ok (.iconst 0, 1) := by decide +kernel
theorem d_N_settle_21 : decode c_N_settle 21 = .ok (.istore 4, 2) := by decide +kernel
theorem d_N_settle_23 : decode c_N_settle 23 = .ok (.iload 4, 2) := by decide +kernel
theorem d_N_settle_25 : decode c_N_settle 25 = .ok (.iload_n 3, 1) := by decide +kernel
theorem d_N_settle_26 : decode c_N_settle 26 = .ok (.if_icmp .ge 110, 3) := by decide +kernel
theorem d_N_settle_29 : decode c_N_settle 29 = .ok (.iload 4, 2) := by decide +kernel
theorem d_N_settle_31 : decode c_N_settle 31 = .ok (.aload_n 0, 1) := by decide +kernel
theorem d_N_settle_32 : decode c_N_settle 32 = .ok (.getfield 9, 3) := by decide +kernel
theorem d_N_settle_35 : decode c_N_settle 35 = .ok (.arraylength, 1) := by decide +kernel
theorem d_N_settle_36 : decode c_N_settle 36 = .ok (.if_icmp .ge 100, 3) := by decide +kernel
theorem d_N_settle_39 : decode c_N_settle 39 = .ok (.aload_n 1, 1) := by decide +kernel
theorem d_N_settle_40 : decode c_N_settle 40 = .ok (.iload 4, 2) := by decide +kernel
theorem d_N_settle_42 : decode c_N_settle 42 = .ok (.iaload, 1) := by decide +kernel
theorem d_N_settle_43 : decode c_N_settle 43 = .ok (.istore 5, 2) := by decide +kernel
theorem d_N_settle_45 : decode c_N_settle 45 = .ok (.aload_n 0, 1) := by decide +kernel
theorem d_N_settle_46 : decode c_N_settle 46 = .ok (.getfield 9, 3) := by decide +kernel
theorem d_N_settle_49 : decode c_N_settle 49 = .ok (.iload 4, 2) := by decide +kernel
theorem d_N_settle_51 : decode c_N_settle 51 = .ok (.iload 5, 2) := by decide +kernel
theorem d_N_settle_53 : decode c_N_settle 53 = .ok (.iastore, 1) := by decide +kernel
theorem d_N_settle_54 : decode c_N_settle 54 = .ok (.aload_n 0, 1) := by decide +kernel
theorem d_N_settle_55 : decode c_N_settle 55 = .ok (.dup, 1) := by decide +kernel
theorem d_N_settle_56 : decode c_N_settle 56 = .ok (.getfield 19, 3) := by decide +kernel
theorem d_N_settle_59 : decode c_N_settle 59 = .ok (.iload 5, 2) := by decide +kernel
theorem d_N_settle_61 : decode c_N_settle 61 = .ok (.aload_n 2, 1) := by decide +kernel
theorem d_N_settle_62 : decode c_N_settle 62 = .ok (.iload 4, 2) := by decide +kernel
theorem d_N_settle_64 : decode c_N_settle 64 = .ok (.aaload, 1) := by decide +kernel
theorem d_N_settle_65 : decode c_N_settle 65 = .ok (.getfield 32, 3) := by decide +kernel
theorem d_N_settle_68 : decode c_N_settle 68 = .ok (.imul, 1) := by decide +kernel
theorem d_N_settle_69 : decode c_N_settle 69 = .ok (.iadd, 1) := by decide +kernel
theorem d_N_settle_70 : decode c_N_settle 70 = .ok (.putfield 19, 3) := by decide +kernel
theorem d_N_settle_73 : decode c_N_settle 73 = .ok (.aload_n 0, 1) := by decide +kernel
theorem d_N_settle_74 : decode c_N_settle 74 = .ok (.dup, 1) := by decide +kernel
theorem d_N_settle_75 : decode c_N_settle 75 = .ok (.getfield 23, 3) := by decide +kernel
theorem d_N_settle_78 : decode c_N_settle 78 = .ok (.iload 5, 2) := by decide +kernel
theorem d_N_settle_80 : decode c_N_settle 80 = .ok (.aload_n 2, 1) := by decide +kernel
theorem d_N_settle_81 : decode c_N_settle 81 = .ok (.iload 4, 2) := by decide +kernel
theorem d_N_settle_83 : decode c_N_settle 83 = .ok (.aaload, 1) := by decide +kernel
theorem d_N_settle_84 : decode c_N_settle 84 = .ok (.getfield 35, 3) := by decide +kernel
theorem d_N_settle_87 : decode c_N_settle 87 = .ok (.imul, 1) := by decide +kernel
theorem d_N_settle_88 : decode c_N_settle 88 = .ok (.iadd, 1) := by decide +kernel
theorem d_N_settle_89 : decode c_N_settle 89 = .ok (.putfield 23, 3) := by decide +kernel
theorem d_N_settle_92 : decode c_N_settle 92 = .ok (.aload_n 0, 1) := by decide +kernel
theorem d_N_settle_93 : decode c_N_settle 93 = .ok (.dup, 1) := by decide +kernel
theorem d_N_settle_94 : decode c_N_settle 94 = .ok (.getfield 26, 3) := by decide +kernel
theorem d_N_settle_97 : decode c_N_settle 97 = .ok (.iload 5, 2) := by decide +kernel
theorem d_N_settle_99 : decode c_N_settle 99 = .ok (.ifCond .le 7, 3) := by decide +kernel
theorem d_N_settle_102 : decode c_N_settle 102 = .ok (.iconst 1, 1) := by decide +kernel
theorem d_N_settle_103 : decode c_N_settle 103 = .ok (.goto 4, 3) := by decide +kernel
theorem d_N_settle_106 : decode c_N_settle 106 = .ok (.iconst 0, 1) := by decide +kernel
theorem d_N_settle_107 : decode c_N_settle 107 = .ok (.iadd, 1) := by decide +kernel
theorem d_N_settle_108 : decode c_N_settle 108 = .ok (.putfield 26, 3) := by decide +kernel
theorem d_N_settle_111 : decode c_N_settle 111 = .ok (.aload_n 0, 1) := by decide +kernel
theorem d_N_settle_112 : decode c_N_settle 112 = .ok (.dup, 1) := by decide +kernel
theorem d_N_settle_113 : decode c_N_settle 113 = .ok (.getfield 29, 3) := by decide +kernel
theorem d_N_settle_116 : decode c_N_settle 116 = .ok (.iload 5, 2) := by decide +kernel
theorem d_N_settle_118 : decode c_N_settle 118 = .ok (.aload_n 2, 1) := by decide +kernel
theorem d_N_settle_119 : decode c_N_settle 119 = .ok (.iload 4, 2) := by decide +kernel
theorem d_N_settle_121 : decode c_N_settle 121 = .ok (.aaload, 1) := by decide +kernel
theorem d_N_settle_122 : decode c_N_settle 122 = .ok (.invokevirtual 36, 3) := by decide +kernel
theorem d_N_settle_125 : decode c_N_settle 125 = .ok (.imul, 1) := by decide +kernel
theorem d_N_settle_126 : decode c_N_settle 126 = .ok (.iadd, 1) := by decide +kernel
theorem d_N_settle_127 : decode c_N_settle 127 = .ok (.putfield 29, 3) := by decide +kernel
theorem d_N_settle_130 : decode c_N_settle 130 = .ok (.iinc 4 1, 3) := by decide +kernel
theorem d_N_settle_133 : decode c_N_settle 133 = .ok (.goto (-110), 3) := by decide +kernel
theorem d_N_settle_136 : decode c_N_settle 136 = .ok (.aload_n 0, 1) := by decide +kernel
theorem d_N_settle_137 : decode c_N_settle 137 = .ok (.iconst 1, 1) := by decide +kernel
theorem d_N_settle_138 : decode c_N_settle 138 = .ok (.putfield 15, 3) := by decide +kernel
theorem d_N_settle_141 : decode c_N_settle 141 = .ok (.return_, 1) := by decide +kernel
theorem d_S_init_0 : decode c_S_init 0 = .ok (.aload_n 0, 1) := by decide +kernel
theorem d_S_init_1 : decode c_S_init 1 = .ok (.invokespecial 3, 3) := by decide +kernel
theorem d_S_init_4 : decode c_S_init 4 = .ok (.aload_n 0, 1) := by decide +kernel
theorem d_S_init_5 : decode c_S_init 5 = .ok (.iconst 4, 1) := by decide +kernel
theorem d_S_init_6 : decode c_S_init 6 = .ok (.newarray .int, 2) := by decide +kernel
theorem d_S_init_8 : decode c_S_init 8 = .ok (.putfield 9, 3) := by decide +kernel
theorem d_S_init_11 : decode c_S_init 11 = .ok (.aload_n 0, 1) := by decide +kernel
theorem d_S_init_12 : decode c_S_init 12 = .ok (.iconst 4, 1) := by decide +kernel
theorem d_S_init_13 : decode c_S_init 13 = .ok (.newarray .int, 2) := by decide +kernel
theorem d_S_init_15 : decode c_S_init 15 = .ok (.putfield 15, 3) := by decide +kernel
theorem d_S_init_18 : decode c_S_init 18 = .ok (.aload_n 0, 1) := by decide +kernel
theorem d_S_init_19 : decode c_S_init 19 = .ok (.iconst 5, 1) := by decide +kernel
theorem d_S_init_20 : decode c_S_init 20 = .ok (.anewarray 18, 3) := by decide +kernel
theorem d_S_init_23 : decode c_S_init 23 = .ok (.putfield 20, 3) := by decide +kernel
theorem d_S_init_26 : decode c_S_init 26 = .ok (.iconst 0, 1) := by decide +kernel
theorem d_S_init_27 : decode c_S_init 27 = .ok (.istore_n 1, 1) := by decide +kernel
theorem d_S_init_28 : decode c_S_init 28 = .ok (.iload_n 1, 1) := by decide +kernel
theorem d_S_init_29 : decode c_S_init 29 = .ok (.aload_n 0, 1) := by decide +kernel
theorem d_S_init_30 : decode c_S_init 30 = .ok (.getfield 20, 3) := by decide +kernel
theorem d_S_init_33 : decode c_S_init 33 = .ok (.arraylength, 1) := by decide +kernel
theorem d_S_init_34 : decode c_S_init 34 = .ok (.if_icmp .ge 22, 3) := by decide +kernel
theorem d_S_init_37 : decode c_S_init 37 = .ok (.aload_n 0, 1) := by decide +kernel
theorem d_S_init_38 : decode c_S_init 38 = .ok (.getfield 20, 3) := by decide +kernel
theorem d_S_init_41 : decode c_S_init 41 = .ok (.iload_n 1, 1) := by decide +kernel
theorem d_S_init_42 : decode c_S_init 42 = .ok (.new 18, 3) := by decide +kernel
theorem d_S_init_45 : decode c_S_init 45 = .ok (.dup, 1) := by decide +kernel
theorem d_S_init_46 : decode c_S_init 46 = .ok (.invokespecial 24, 3) := by decide +kernel
theorem d_S_init_49 : decode c_S_init 49 = .ok (.aastore, 1) := by decide +kernel
theorem d_S_init_50 : decode c_S_init 50 = .ok (.iinc 1 1, 3) := by decide +kernel
theorem d_S_init_53 : decode c_S_init 53 = .ok (.goto (-25), 3) := by decide +kernel
theorem d_S_init_56 : decode c_S_init 56 = .ok (.return_, 1) := by decide +kernel
theorem d_S_begin_0 : decode c_S_begin 0 = .ok (.aload_n 0, 1) := by decide +kernel
theorem d_S_begin_1 : decode c_S_begin 1 = .ok (.iconst 0, 1) := by decide +kernel
theorem d_S_begin_2 : decode c_S_begin 2 = .ok (.putfield 25, 3) := by decide +kernel
theorem d_S_begin_5 : decode c_S_begin 5 = .ok (.aload_n 0, 1) := by decide +kernel
theorem d_S_begin_6 : decode c_S_begin 6 = .ok (.iconst 0, 1) := by decide +kernel
theorem d_S_begin_7 : decode c_S_begin 7 = .ok (.putfield 29, 3) := by decide +kernel
theorem d_S_begin_10 : decode c_S_begin 10 = .ok (.iconst 0, 1) := by decide +kernel
theorem d_S_begin_11 : decode c_S_begin 11 = .ok (.istore 5, 2) := by decide +kernel
theorem d_S_begin_13 : decode c_S_begin 13 = .ok (.iload 5, 2) := by decide +kernel
theorem d_S_begin_15 : decode c_S_begin 15 = .ok (.iload_n 3, 1) := by decide +kernel
theorem d_S_begin_16 : decode c_S_begin 16 = .ok (.if_icmp .ge 27, 3) := by decide +kernel
theorem d_S_begin_19 : decode c_S_begin 19 = .ok (.iload 5, 2) := by decide +kernel
theorem d_S_begin_21 : decode c_S_begin 21 = .ok (.aload_n 2, 1) := by decide +kernel
theorem d_S_begin_22 : decode c_S_begin 22 = .ok (.arraylength, 1) := by decide +kernel
theorem d_S_begin_23 : decode c_S_begin 23 = .ok (.if_icmp .ge 20, 3) := by decide +kernel
theorem d_S_begin_26 : decode c_S_begin 26 = .ok (.aload_n 2, 1) := by decide +kernel
theorem d_S_begin_27 : decode c_S_begin 27 = .ok (.iload 5, 2) := by decide +kernel
theorem d_S_begin_29 : decode c_S_begin 29 = .ok (.aaload, 1) := by decide +kernel
theorem d_S_begin_30 : decode c_S_begin 30 = .ok (.aload_n 1, 1) := by decide +kernel
theorem d_S_begin_31 : decode c_S_begin 31 = .ok (.getfield 33, 3) := by decide +kernel
theorem d_S_begin_34 : decode c_S_begin 34 = .ok (.invokevirtual 38, 3) := by decide +kernel
theorem d_S_begin_37 : decode c_S_begin 37 = .ok (.iinc 5 1, 3) := by decide +kernel
theorem d_S_begin_40 : decode c_S_begin 40 = .ok (.goto (-27), 3) := by decide +kernel
theorem d_S_begin_43 : decode c_S_begin 43 = .ok (.aload_n 0, 1) := by decide +kernel
theorem d_S_begin_44 : decode c_S_begin 44 = .ok (.getfield 20, 3) := by decide +kernel
theorem d_S_begin_47 : decode c_S_begin 47 = .ok (.iconst 0, 1) := by decide +kernel
theorem d_S_begin_48 : decode c_S_begin 48 = .ok (.aaload, 1) := by decide +kernel
theorem d_S_begin_49 : decode c_S_begin 49 = .ok (.aload_n 1, 1) := by decide +kernel
theorem d_S_begin_50 : decode c_S_begin 50 = .ok (.iload 4, 2) := by decide +kernel
theorem d_S_begin_52 : decode c_S_begin 52 = .ok (.invokevirtual 44, 3) := by decide +kernel
theorem d_S_begin_55 : decode c_S_begin 55 = .ok (.return_, 1) := by decide +kernel
theorem d_S_tryKindsFrom_0 : decode c_S_tryKindsFrom 0 = .ok (.iload_n 1, 1) := by decide +kernel
theorem d_S_tryKindsFrom_1 : decode c_S_tryKindsFrom 1 = .ok (.iload_n 3, 1) := by decide +kernel
theorem d_S_tryKindsFrom_2 : decode c_S_tryKindsFrom 2 = .ok (.if_icmp .ge 18, 3) := by decide +kernel
theorem d_S_tryKindsFrom_5 : decode c_S_tryKindsFrom 5 = .ok (.iload_n 1, 1) := by decide +kernel
theorem d_S_tryKindsFrom_6 : decode c_S_tryKindsFrom 6 = .ok (.aload_n 2, 1) := by decide +kernel
theorem d_S_tryKindsFrom_7 : decode c_S_tryKindsFrom 7 = .ok (.arraylength, 1) := by decide +kernel
theorem d_S_tryKindsFrom_8 : decode c_S_tryKindsFrom 8 = .ok (.if_icmp .ge 12, 3) := by decide +kernel
theorem d_S_tryKindsFrom_11 : decode c_S_tryKindsFrom 11 = .ok (.iload_n 1, 1) := by decide +kernel
theorem d_S_tryKindsFrom_12 : decode c_S_tryKindsFrom 12 = .ok (.aload_n 0, 1) := by decide +kernel
theorem d_S_tryKindsFrom_13 : decode c_S_tryKindsFrom 13 = .ok (.getfield 15, 3) := by decide +kernel
theorem d_S_tryKindsFrom_16 : decode c_S_tryKindsFrom 16 = .ok (.arraylength, 1) := by decide +kernel
theorem d_S_tryKindsFrom_17 : decode c_S_tryKindsFrom 17 = .ok (.if_icmp .lt 14, 3) := by decide +kernel
theorem d_S_tryKindsFrom_20 : decode c_S_tryKindsFrom 20 = .ok (.aload_n 0, 1) := by decide +kernel
theorem d_S_tryKindsFrom_21 : decode c_S_tryKindsFrom 21 = .ok (.aload_n 0, 1) := by decide +kernel
theorem d_S_tryKindsFrom_22 : decode c_S_tryKindsFrom 22 = .ok (.getfield 20, 3) := by decide +kernel
theorem d_S_tryKindsFrom_25 : decode c_S_tryKindsFrom 25 = .ok (.iload_n 1, 1) := by decide +kernel
theorem d_S_tryKindsFrom_26 : decode c_S_tryKindsFrom 26 = .ok (.aaload, 1) := by decide +kernel
theorem d_S_tryKindsFrom_27 : decode c_S_tryKindsFrom 27 = .ok (.invokevirtual 48, 3) := by decide +kernel
theorem d_S_tryKindsFrom_30 : decode c_S_tryKindsFrom 30 = .ok (.return_, 1) := by decide +kernel
theorem d_S_tryKindsFrom_31 : decode c_S_tryKindsFrom 31 = .ok (.aload_n 2, 1) := by decide +kernel
theorem d_S_tryKindsFrom_32 : decode c_S_tryKindsFrom 32 = .ok (.iload_n 1, 1) := by decide +kernel
theorem d_S_tryKindsFrom_33 : decode c_S_tryKindsFrom 33 = .ok (.aaload, 1) := by decide +kernel
theorem d_S_tryKindsFrom_34 : decode c_S_tryKindsFrom 34 = .ok (.astore 4, 2) := by decide +kernel
theorem d_S_tryKindsFrom_36 : decode c_S_tryKindsFrom 36 = .ok (.aload_n 0, 1) := by decide +kernel
theorem d_S_tryKindsFrom_37 : decode c_S_tryKindsFrom 37 = .ok (.getfield 20, 3) := by decide +kernel
theorem d_S_tryKindsFrom_40 : decode c_S_tryKindsFrom 40 = .ok (.iload_n 1, 1) := by decide +kernel
theorem d_S_tryKindsFrom_41 : decode c_S_tryKindsFrom 41 = .ok (.iconst 1, 1) := by decide +kernel
theorem d_S_tryKindsFrom_42 : decode c_S_tryKindsFrom 42 = .ok (.iadd, 1) := by decide +kernel
theorem d_S_tryKindsFrom_43 : decode c_S_tryKindsFrom 43 = .ok (.aaload, 1) := by decide +kernel
theorem d_S_tryKindsFrom_44 : decode c_S_tryKindsFrom 44 = .ok (.astore 5, 2) := by decide +kernel
theorem d_S_tryKindsFrom_46 : decode c_S_tryKindsFrom 46 = .ok (.aload 5, 2) := by decide +kernel
theorem d_S_tryKindsFrom_48 : decode c_S_tryKindsFrom 48 = .ok (.aload_n 0, 1) := by decide +kernel
theorem d_S_tryKindsFrom_49 : decode c_S_tryKindsFrom 49 = .ok (.getfield 20, 3) := by decide +kernel
theorem d_S_tryKindsFrom_52 : decode c_S_tryKindsFrom 52 = .ok (.iload_n 1, 1) := by decide +kernel
theorem d_S_tryKindsFrom_53 : decode c_S_tryKindsFrom 53 = .ok (.aaload, 1) := by decide +kernel
theorem d_S_tryKindsFrom_54 : decode c_S_tryKindsFrom 54 = .ok (.invokevirtual 52, 3) := by decide +kernel
theorem d_S_tryKindsFrom_57 : decode c_S_tryKindsFrom 57 = .ok (.iconst 0, 1) := by decide +kernel
theorem d_S_tryKindsFrom_58 : decode c_S_tryKindsFrom 58 = .ok (.istore 6, 2) := by decide +kernel
theorem d_S_tryKindsFrom_60 : decode c_S_tryKindsFrom 60 = .ok (.iload 6, 2) := by decide +kernel
theorem d_S_tryKindsFrom_62 : decode c_S_tryKindsFrom 62 = .ok (.aload 4, 2) := by decide +kernel
theorem d_S_tryKindsFrom_64 : decode c_S_tryKindsFrom 64 = .ok (.getfield 55, 3) := by decide +kernel
theorem d_S_tryKindsFrom_67 : decode c_S_tryKindsFrom 67 = .ok (.if_icmp .gt 59, 3) := by decide +kernel
theorem d_S_tryKindsFrom_70 : decode c_S_tryKindsFrom 70 = .ok (.iload 6, 2) := by decide +kernel
theorem d_S_tryKindsFrom_72 : decode c_S_tryKindsFrom 72 = .ok (.ifCond .le 21, 3) := by decide +kernel
theorem d_S_tryKindsFrom_75 : decode c_S_tryKindsFrom 75 = .ok (.aload 5, 2) := by decide +kernel
theorem d_S_tryKindsFrom_77 : decode c_S_tryKindsFrom 77 = .ok (.aload 4, 2) := by decide +kernel
theorem d_S_tryKindsFrom_79 : decode c_S_tryKindsFrom 79 = .ok (.iload 6, 2) := by decide +kernel
theorem d_S_tryKindsFrom_81 : decode c_S_tryKindsFrom 81 = .ok (.iconst 1, 1) := by decide +kernel
theorem d_S_tryKindsFrom_82 : decode c_S_tryKindsFrom 82 = .ok (.if_icmp .ne 7, 3) := by decide +kernel
theorem d_S_tryKindsFrom_85 : decode c_S_tryKindsFrom 85 = .ok (.iconst 1, 1) := by decide +kernel
theorem d_S_tryKindsFrom_86 : decode c_S_tryKindsFrom 86 = .ok (.goto 4, 3) := by decide +kernel
theorem d_S_tryKindsFrom_89 : decode c_S_tryKindsFrom 89 = .ok (.iconst 0, 1) := by decide +kernel
theorem d_S_tryKindsFrom_90 : decode c_S_tryKindsFrom 90 = .ok (.invokevirtual 58, 3) := by decide +kernel
theorem d_S_tryKindsFrom_93 : decode c_S_tryKindsFrom 93 = .ok (.aload_n 0, 1) := by decide +kernel
theorem d_S_tryKindsFrom_94 : decode c_S_tryKindsFrom 94 = .ok (.aload 5, 2) := by decide +kernel
theorem d_S_tryKindsFrom_96 : decode c_S_tryKindsFrom 96 = .ok (.invokevirtual 62, 3) := by decide +kernel
theorem d_S_tryKindsFrom_99 : decode c_S_tryKindsFrom 99 = .ok (.ifCond .ne 4, 3) := by decide +kernel
theorem d_S_tryKindsFrom_102 : decode c_S_tryKindsFrom 102 = .ok (.return_, 1) := by decide +kernel
theorem d_S_tryKindsFrom_103 : decode c_S_tryKindsFrom 103 = .ok (.aload_n 0, 1) := by decide +kernel
theorem d_S_tryKindsFrom_104 : decode c_S_tryKindsFrom 104 = .ok (.getfield 15, 3) := by decide +kernel
theorem d_S_tryKindsFrom_107 : decode c_S_tryKindsFrom 107 = .ok (.iload_n 1, 1) := by decide +kernel
theorem d_S_tryKindsFrom_108 : decode c_S_tryKindsFrom 108 = .ok (.iload 6, 2) := by decide +kernel
theorem d_S_tryKindsFrom_110 : decode c_S_tryKindsFrom 110 = .ok (.iastore, 1) := by decide +kernel
theorem d_S_tryKindsFrom_111 : decode c_S_tryKindsFrom 111 = .ok (.aload_n 0, 1) := by decide +kernel
theorem d_S_tryKindsFrom_112 : decode c_S_tryKindsFrom 112 = .ok (.iload_n 1, 1) := by decide +kernel
theorem d_S_tryKindsFrom_113 : decode c_S_tryKindsFrom 113 = .ok (.iconst 1, 1) := by decide +kernel
theorem d_S_tryKindsFrom_114 : decode c_S_tryKindsFrom 114 = .ok (.iadd, 1) := by decide +kernel
theorem d_S_tryKindsFrom_115 : decode c_S_tryKindsFrom 115 = .ok (.aload_n 2, 1) := by decide +kernel
theorem d_S_tryKindsFrom_116 : decode c_S_tryKindsFrom 116 = .ok (.iload_n 3, 1) := by decide +kernel
theorem d_S_tryKindsFrom_117 : decode c_S_tryKindsFrom 117 = .ok (.invokevirtual 66, 3) := by decide +kernel
theorem d_S_tryKindsFrom_120 : decode c_S_tryKindsFrom 120 = .ok (.iinc 6 1, 3) := by decide +kernel
theorem d_S_tryKindsFrom_123 : decode c_S_tryKindsFrom 123 = .ok (.goto (-63), 3) := by decide +kernel
theorem d_S_tryKindsFrom_126 : decode c_S_tryKindsFrom 126 = .ok (.return_, 1) := by decide +kernel
theorem d_S_isWorthTrying_0 : decode c_S_isWorthTrying 0 = .ok (.aload_n 1, 1) := by decide +kernel
theorem d_S_isWorthTrying_1 : decode c_S_isWorthTrying 1 = .ok (.getfield 70, 3) := by decide +kernel
theorem d_S_isWorthTrying_4 : decode c_S_isWorthTrying 4 = .ok (.ifCond .ge 5, 3) := by decide +kernel
theorem d_S_isWorthTrying_7 : decode c_S_isWorthTrying 7 = .ok (.iconst 0, 1) := by decide +kernel
theorem d_S_isWorthTrying_8 : decode c_S_isWorthTrying 8 = .ok (.ireturn, 1) := by decide +kernel
theorem d_S_isWorthTrying_9 : decode c_S_isWorthTrying 9 = .ok (.aload_n 0, 1) := by decide +kernel
theorem d_S_isWorthTrying_10 : decode c_S_isWorthTrying 10 = .ok (.getfield 25, 3) := by decide +kernel
theorem d_S_isWorthTrying_13 : decode c_S_isWorthTrying 13 = .ok (.ifCond .eq 36, 3) := by decide +kernel
theorem d_S_isWorthTrying_16 : decode c_S_isWorthTrying 16 = .ok (.aload_n 1, 1) := by decide +kernel
theorem d_S_isWorthTrying_17 : decode c_S_isWorthTrying 17 = .ok (.getfield 73, 3) := by decide +kernel
theorem d_S_isWorthTrying_20 : decode c_S_isWorthTrying 20 = .ok (.aload_n 0, 1) := by decide +kernel
theorem d_S_isWorthTrying_21 : decode c_S_isWorthTrying 21 = .ok (.getfield 76, 3) := by decide +kernel
theorem d_S_isWorthTrying_24 : decode c_S_isWorthTrying 24 = .ok (.if_icmp .lt 25, 3) := by decide +kernel
theorem d_S_isWorthTrying_27 : decode c_S_isWorthTrying 27 = .ok (.aload_n 1, 1) := by decide +kernel
theorem d_S_isWorthTrying_28 : decode c_S_isWorthTrying 28 = .ok (.getfield 73, 3) := by decide +kernel
theorem d_S_isWorthTrying_31 : decode c_S_isWorthTrying 31 = .ok (.aload_n 0, 1) := by decide +kernel
theorem d_S_isWorthTrying_32 : decode c_S_isWorthTrying 32 = .ok (.getfield 76, 3) := by decide +kernel
theorem d_S_isWorthTrying_35 : decode c_S_isWorthTrying 35 = .ok (.if_icmp .ne 18, 3) := by decide +kernel
theorem d_S_isWorthTrying_38 : decode c_S_isWorthTrying 38 = .ok (.aload_n 1, 1) := by decide +kernel
theorem d_S_isWorthTrying_39 : decode c_S_isWorthTrying 39 = .ok (.getfield 79, 3) := by decide +kernel
theorem d_S_isWorthTrying_42 : decode c_S_isWorthTrying 42 = .ok (.aload_n 0, 1) := by decide +kernel
theorem d_S_isWorthTrying_43 : decode c_S_isWorthTrying 43 = .ok (.getfield 82, 3) := by decide +kernel
theorem d_S_isWorthTrying_46 : decode c_S_isWorthTrying 46 = .ok (.if_icmp .ge 7, 3) := by decide +kernel
theorem d_S_isWorthTrying_49 : decode c_S_isWorthTrying 49 = .ok (.iconst 1, 1) := by decide +kernel
theorem d_S_isWorthTrying_50 : decode c_S_isWorthTrying 50 = .ok (.goto 4, 3) := by decide +kernel
theorem d_S_isWorthTrying_53 : decode c_S_isWorthTrying 53 = .ok (.iconst 0, 1) := by decide +kernel
theorem d_S_isWorthTrying_54 : decode c_S_isWorthTrying 54 = .ok (.ireturn, 1) := by decide +kernel
theorem d_S_judge_0 : decode c_S_judge 0 = .ok (.aload_n 1, 1) := by decide +kernel
theorem d_S_judge_1 : decode c_S_judge 1 = .ok (.invokevirtual 85, 3) := by decide +kernel
theorem d_S_judge_4 : decode c_S_judge 4 = .ok (.istore_n 2, 1) := by decide +kernel
theorem d_S_judge_5 : decode c_S_judge 5 = .ok (.aload_n 0, 1) := by decide +kernel
theorem d_S_judge_6 : decode c_S_judge 6 = .ok (.aload_n 0, 1) := by decide +kernel
theorem d_S_judge_7 : decode c_S_judge 7 = .ok (.getfield 29, 3) := by decide +kernel
theorem d_S_judge_10 : decode c_S_judge 10 = .ok (.iload_n 2, 1) := by decide +kernel
theorem d_S_judge_11 : decode c_S_judge 11 = .ok (.invokestatic 89, 3) := by decide +kernel
theorem d_S_judge_14 : decode c_S_judge 14 = .ok (.putfield 29, 3) := by decide +kernel
theorem d_S_judge_17 : decode c_S_judge 17 = .ok (.iload_n 2, 1) := by decide +kernel
theorem d_S_judge_18 : decode c_S_judge 18 = .ok (.iconst 4, 1) := by decide +kernel
theorem d_S_judge_19 : decode c_S_judge 19 = .ok (.if_icmp .ge 4, 3) := by decide +kernel
theorem d_S_judge_22 : decode c_S_judge 22 = .ok (.return_, 1) := by decide +kernel
theorem d_S_judge_23 : decode c_S_judge 23 = .ok (.aload_n 0, 1) := by decide +kernel
theorem d_S_judge_24 : decode c_S_judge 24 = .ok (.iconst 1, 1) := by decide +kernel
theorem d_S_judge_25 : decode c_S_judge 25 = .ok (.putfield 25, 3) := by decide +kernel
theorem d_S_judge_28 : decode c_S_judge 28 = .ok (.aload_n 0, 1) := by decide +kernel
theorem d_S_judge_29 : decode c_S_judge 29 = .ok (.aload_n 1, 1) := by decide +kernel
theorem d_S_judge_30 : decode c_S_judge 30 = .ok (.getfield 73, 3) := by decide +kernel
theorem d_S_judge_33 : decode c_S_judge 33 = .ok (.putfield 76, 3) := by decide +kernel
theorem d_S_judge_36 : decode c_S_judge 36 = .ok (.aload_n 0, 1) := by decide +kernel
theorem d_S_judge_37 : decode c_S_judge 37 = .ok (.aload_n 1, 1) := by decide +kernel
theorem d_S_judge_38 : decode c_S_judge 38 = .ok (.getfield 79, 3) := by decide +kernel
theorem d_S_judge_41 : decode c_S_judge 41 = .ok (.putfield 82, 3) := by decide +kernel
theorem d_S_judge_44 : decode c_S_judge 44 = .ok (.aload_n 0, 1) := by decide +kernel
theorem d_S_judge_45 : decode c_S_judge 45 = .ok (.getfield 15, 3) := by decide +kernel
theorem d_S_judge_48 : decode c_S_judge 48 = .ok (.iconst 0, 1) := by decide +kernel
theorem d_S_judge_49 : decode c_S_judge 49 = .ok (.aload_n 0, 1) := by decide +kernel
theorem d_S_judge_50 : decode c_S_judge 50 = .ok (.getfield 9, 3) := by decide +kernel
theorem d_S_judge_53 : decode c_S_judge 53 = .ok (.iconst 0, 1) := by decide +kernel
theorem d_S_judge_54 : decode c_S_judge 54 = .ok (.aload_n 0, 1) := by decide +kernel
theorem d_S_judge_55 : decode c_S_judge 55 = .ok (.getfield 9, 3) := by decide +kernel
theorem d_S_judge_58 : decode c_S_judge 58 = .ok (.arraylength, 1) := by decide +kernel
theorem d_S_judge_59 : decode c_S_judge 59 = .ok (.invokestatic 95, 3) := by decide +kernel
theorem d_S_judge_62 : decode c_S_judge 62 = .ok (.return_, 1) := by decide +kernel
end
section
theorem d_M_init_0 : decode c_M_init 0 = .ok (.aload_n 0, 1) := by decide +kernel
theorem d_M_init_1 : decode c_M_init 1 = .ok (.invokespecial 1, 3) := by decide +kernel
theorem d_M_init_4 : decode c_M_init 4 = .ok (.aload_n 0, 1) := by decide +kernel
theorem d_M_init_5 : decode c_M_init 5 = .ok (.iconst 1, 1) := by decide +kernel
theorem d_M_init_6 : decode c_M_init 6 = .ok (.putfield 7, 3) := by decide +kernel
theorem d_M_init_9 : decode c_M_init 9 = .ok (.aload_n 0, 1) := by decide +kernel
theorem d_M_init_10 : decode c_M_init 10 = .ok (.iconst 4, 1) := by decide +kernel
theorem d_M_init_11 : decode c_M_init 11 = .ok (.newarray .int, 2) := by decide +kernel
theorem d_M_init_13 : decode c_M_init 13 = .ok (.putfield 13, 3) := by decide +kernel
theorem d_M_init_16 : decode c_M_init 16 = .ok (.aload_n 0, 1) := by decide +kernel
theorem d_M_init_17 : decode c_M_init 17 = .ok (.iconst 4, 1) := by decide +kernel
theorem d_M_init_18 : decode c_M_init 18 = .ok (.newarray .int, 2) := by decide +kernel
theorem d_M_init_20 : decode c_M_init 20 = .ok (.putfield 17, 3) := by decide +kernel
theorem d_M_init_23 : decode c_M_init 23 = .ok (.aload_n 0, 1) := by decide +kernel
theorem d_M_init_24 : decode c_M_init 24 = .ok (.iconst 4, 1) := by decide +kernel
theorem d_M_init_25 : decode c_M_init 25 = .ok (.newarray .int, 2) := by decide +kernel
theorem d_M_init_27 : decode c_M_init 27 = .ok (.putfield 20, 3) := by decide +kernel
theorem d_M_init_30 : decode c_M_init 30 = .ok (.aload_n 0, 1) := by decide +kernel
theorem d_M_init_31 : decode c_M_init 31 = .ok (.iconst 4, 1) := by decide +kernel
theorem d_M_init_32 : decode c_M_init 32 = .ok (.newarray .int, 2) := by decide +kernel
theorem d_M_init_34 : decode c_M_init 34 = .ok (.putfield 23, 3) := by decide +kernel
theorem d_M_init_37 : decode c_M_init 37 = .ok (.aload_n 0, 1) := by decide +kernel
theorem d_M_init_38 : decode c_M_init 38 = .ok (.iconst 4, 1) := by decide +kernel
theorem d_M_init_39 : decode c_M_init 39 = .ok (.newarray .int, 2) := by decide +kernel
theorem d_M_init_41 : decode c_M_init 41 = .ok (.putfield 26, 3) := by decide +kernel
theorem d_M_init_44 : decode c_M_init 44 = .ok (.aload_n 0, 1) := by decide +kernel
theorem d_M_init_45 : decode c_M_init 45 = .ok (.iconst 4, 1) := by decide +kernel
theorem d_M_init_46 : decode c_M_init 46 = .ok (.newarray .int, 2) := by decide +kernel
theorem d_M_init_48 : decode c_M_init 48 = .ok (.putfield 29, 3) := by decide +kernel
theorem d_M_init_51 : decode c_M_init 51 = .ok (.aload_n 0, 1) := by decide +kernel
theorem d_M_init_52 : decode c_M_init 52 = .ok (.iconst 4, 1) := by decide +kernel
theorem d_M_init_53 : decode c_M_init 53 = .ok (.newarray .int, 2) := by decide +kernel
theorem d_M_init_55 : decode c_M_init 55 = .ok (.putfield 32, 3) := by decide +kernel
theorem d_M_init_58 : decode c_M_init 58 = .ok (.aload_n 0, 1) := by decide +kernel
theorem d_M_init_59 : decode c_M_init 59 = .ok (.bipush 16, 2) := by decide +kernel
theorem d_M_init_61 : decode c_M_init 61 = .ok (.newarray .int, 2) := by decide +kernel
theorem d_M_init_63 : decode c_M_init 63 = .ok (.putfield 35, 3) := by decide +kernel
theorem d_M_init_66 : decode c_M_init 66 = .ok (.aload_n 0, 1) := by decide +kernel
theorem d_M_init_67 : decode c_M_init 67 = .ok (.bipush 16, 2) := by decide +kernel
theorem d_M_init_69 : decode c_M_init 69 = .ok (.newarray .int, 2) := by decide +kernel
theorem d_M_init_71 : decode c_M_init 71 = .ok (.putfield 38, 3) := by decide +kernel
theorem d_M_init_74 : decode c_M_init 74 = .ok (.aload_n 0, 1) := by decide +kernel
theorem d_M_init_75 : decode c_M_init 75 = .ok (.iconst 4, 1) := by decide +kernel
theorem d_M_init_76 : decode c_M_init 76 = .ok (.newarray .int, 2) := by decide +kernel
theorem d_M_init_78 : decode c_M_init 78 = .ok (.putfield 41, 3) := by decide +kernel
theorem d_M_init_81 : decode c_M_init 81 = .ok (.aload_n 0, 1) := by decide +kernel
theorem d_M_init_82 : decode c_M_init 82 = .ok (.iconst 4, 1) := by decide +kernel
theorem d_M_init_83 : decode c_M_init 83 = .ok (.newarray .int, 2) := by decide +kernel
theorem d_M_init_85 : decode c_M_init 85 = .ok (.putfield 44, 3) := by decide +kernel
theorem d_M_init_88 : decode c_M_init 88 = .ok (.aload_n 0, 1) := by decide +kernel
theorem d_M_init_89 : decode c_M_init 89 = .ok (.iconst 4, 1) := by decide +kernel
theorem d_M_init_90 : decode c_M_init 90 = .ok (.newarray .int, 2) := by decide +kernel
theorem d_M_init_92 : decode c_M_init 92 = .ok (.putfield 47, 3) := by decide +kernel
theorem d_M_init_95 : decode c_M_init 95 = .ok (.aload_n 0, 1) := by decide +kernel
theorem d_M_init_96 : decode c_M_init 96 = .ok (.iconst 4, 1) := by decide +kernel
theorem d_M_init_97 : decode c_M_init 97 = .ok (.newarray .int, 2) := by decide +kernel
theorem d_M_init_99 : decode c_M_init 99 = .ok (.putfield 50, 3) := by decide +kernel
theorem d_M_init_102 : decode c_M_init 102 = .ok (.iconst 0, 1) := by decide +kernel
theorem d_M_init_103 : decode c_M_init 103 = .ok (.istore_n 1, 1) := by decide +kernel
theorem d_M_init_104 : decode c_M_init 104 = .ok (.iload_n 1, 1) := by decide +kernel
theorem d_M_init_105 : decode c_M_init 105 = .ok (.iconst 4, 1) := by decide +kernel
theorem d_M_init_106 : decode c_M_init 106 = .ok (.if_icmp .ge 17, 3) := by decide +kernel
theorem d_M_init_109 : decode c_M_init 109 = .ok (.aload_n 0, 1) := by decide +kernel
theorem d_M_init_110 : decode c_M_init 110 = .ok (.getfield 23, 3) := by decide +kernel
theorem d_M_init_113 : decode c_M_init 113 = .ok (.iload_n 1, 1) := by decide +kernel
theorem d_M_init_114 : decode c_M_init 114 = .ok (.ldc 53, 2) := by decide +kernel
theorem d_M_init_116 : decode c_M_init 116 = .ok (.iastore, 1) := by decide +kernel
theorem d_M_init_117 : decode c_M_init 117 = .ok (.iinc 1 1, 3) := by decide +kernel
theorem d_M_init_120 : decode c_M_init 120 = .ok (.goto (-16), 3) := by decide +kernel
theorem d_M_init_123 : decode c_M_init 123 = .ok (.return_, 1) := by decide +kernel
theorem d_M_thrown_0 : decode c_M_thrown 0 = .ok (.aload_n 0, 1) := by decide +kernel
theorem d_M_thrown_1 : decode c_M_thrown 1 = .ok (.getfield 54, 3) := by decide +kernel
theorem d_M_thrown_4 : decode c_M_thrown 4 = .ok (.ireturn, 1) := by decide +kernel
theorem d_M_in_0 : decode c_M_in 0 = .ok (.iload_n 0, 1) := by decide +kernel
theorem d_M_in_1 : decode c_M_in 1 = .ok (.iload_n 1, 1) := by decide +kernel
theorem d_M_in_2 : decode c_M_in 2 = .ok (.if_icmp .lt 12, 3) := by decide +kernel
theorem d_M_in_5 : decode c_M_in 5 = .ok (.iload_n 0, 1) := by decide +kernel
theorem d_M_in_6 : decode c_M_in 6 = .ok (.iload_n 2, 1) := by decide +kernel
theorem d_M_in_7 : decode c_M_in 7 = .ok (.if_icmp .gt 7, 3) := by decide +kernel
theorem d_M_in_10 : decode c_M_in 10 = .ok (.iconst 1, 1) := by decide +kernel
theorem d_M_in_11 : decode c_M_in 11 = .ok (.goto 4, 3) := by decide +kernel
theorem d_M_in_14 : decode c_M_in 14 = .ok (.iconst 0, 1) := by decide +kernel
theorem d_M_in_15 : decode c_M_in 15 = .ok (.ireturn, 1) := by decide +kernel
theorem d_M_goes_0 : decode c_M_goes 0 = .ok (.aload_n 0, 1) := by decide +kernel
theorem d_M_goes_1 : decode c_M_goes 1 = .ok (.iload_n 1, 1) := by decide +kernel
theorem d_M_goes_2 : decode c_M_goes 2 = .ok (.ifCond .ne 7, 3) := by decide +kernel
theorem d_M_goes_5 : decode c_M_goes 5 = .ok (.iconst 1, 1) := by decide +kernel
theorem d_M_goes_6 : decode c_M_goes 6 = .ok (.goto 12, 3) := by decide +kernel
theorem d_M_goes_9 : decode c_M_goes 9 = .ok (.iload_n 2, 1) := by decide +kernel
theorem d_M_goes_10 : decode c_M_goes 10 = .ok (.ifCond .ne 7, 3) := by decide +kernel
theorem d_M_goes_13 : decode c_M_goes 13 = .ok (.iconst 2, 1) := by decide +kernel
theorem d_M_goes_14 : decode c_M_goes 14 = .ok (.goto 4, 3) := by decide +kernel
theorem d_M_goes_17 : decode c_M_goes 17 = .ok (.iconst 0, 1) := by decide +kernel
theorem d_M_goes_18 : decode c_M_goes 18 = .ok (.putfield 54, 3) := by decide +kernel
theorem d_M_goes_21 : decode c_M_goes 21 = .ok (.aload_n 0, 1) := by decide +kernel
theorem d_M_goes_22 : decode c_M_goes 22 = .ok (.getfield 54, 3) := by decide +kernel
theorem d_M_goes_25 : decode c_M_goes 25 = .ok (.ifCond .ne 7, 3) := by decide +kernel
theorem d_M_goes_28 : decode c_M_goes 28 = .ok (.iconst 1, 1) := by decide +kernel
theorem d_M_goes_29 : decode c_M_goes 29 = .ok (.goto 4, 3) := by decide +kernel
theorem d_M_goes_32 : decode c_M_goes 32 = .ok (.iconst 0, 1) := by decide +kernel
theorem d_M_goes_33 : decode c_M_goes 33 = .ok (.ireturn, 1) := by decide +kernel
theorem d_M_isElement_0 : decode c_M_isElement 0 = .ok (.iload_n 0, 1) := by decide +kernel
theorem d_M_isElement_1 : decode c_M_isElement 1 = .ok (.iconst 0, 1) := by decide +kernel
theorem d_M_isElement_2 : decode c_M_isElement 2 = .ok (.iconst 3, 1) := by decide +kernel
theorem d_M_isElement_3 : decode c_M_isElement 3 = .ok (.invokestatic 57, 3) := by decide +kernel
theorem d_M_isElement_6 : decode c_M_isElement 6 = .ok (.ireturn, 1) := by decide +kernel
theorem d_M_isKind_0 : decode c_M_isKind 0 = .ok (.iload_n 1, 1) := by decide +kernel
theorem d_M_isKind_1 : decode c_M_isKind 1 = .ok (.iconst 0, 1) := by decide +kernel
theorem d_M_isKind_2 : decode c_M_isKind 2 = .ok (.aload_n 0, 1) := by decide +kernel
theorem d_M_isKind_3 : decode c_M_isKind 3 = .ok (.getfield 61, 3) := by decide +kernel
theorem d_M_isKind_6 : decode c_M_isKind 6 = .ok (.iconst 1, 1) := by decide +kernel
theorem d_M_isKind_7 : decode c_M_isKind 7 = .ok (.isub, 1) := by decide +kernel
theorem d_M_isKind_8 : decode c_M_isKind 8 = .ok (.invokestatic 57, 3) := by decide +kernel
theorem d_M_isKind_11 : decode c_M_isKind 11 = .ok (.ireturn, 1) := by decide +kernel
theorem d_M_areShares_0 : decode c_M_areShares 0 = .ok (.iload_n 0, 1) := by decide +kernel
theorem d_M_areShares_1 : decode c_M_areShares 1 = .ok (.iconst 0, 1) := by decide +kernel
theorem d_M_areShares_2 : decode c_M_areShares 2 = .ok (.ldc 53, 2) := by decide +kernel
theorem d_M_areShares_4 : decode c_M_areShares 4 = .ok (.invokestatic 57, 3) := by decide +kernel
theorem d_M_areShares_7 : decode c_M_areShares 7 = .ok (.ifCond .eq 17, 3) := by decide +kernel
theorem d_M_areShares_10 : decode c_M_areShares 10 = .ok (.iload_n 1, 1) := by decide +kernel
theorem d_M_areShares_11 : decode c_M_areShares 11 = .ok (.iload_n 0, 1) := by decide +kernel
theorem d_M_areShares_12 : decode c_M_areShares 12 = .ok (.ldc 53, 2) := by decide +kernel
theorem d_M_areShares_14 : decode c_M_areShares 14 = .ok (.invokestatic 57, 3) := by decide +kernel
theorem d_M_areShares_17 : decode c_M_areShares 17 = .ok (.ifCond .eq 7, 3) := by decide +kernel
theorem d_M_areShares_20 : decode c_M_areShares 20 = .ok (.iconst 1, 1) := by decide +kernel
theorem d_M_areShares_21 : decode c_M_areShares 21 = .ok (.goto 4, 3) := by decide +kernel
theorem d_M_areShares_24 : decode c_M_areShares 24 = .ok (.iconst 0, 1) := by decide +kernel
theorem d_M_areShares_25 : decode c_M_areShares 25 = .ok (.ireturn, 1) := by decide +kernel
theorem d_M_heat_0 : decode c_M_heat 0 = .ok (.aload_n 0, 1) := by decide +kernel
theorem d_M_heat_1 : decode c_M_heat 1 = .ok (.aload_n 0, 1) := by decide +kernel
theorem d_M_heat_2 : decode c_M_heat 2 = .ok (.getfield 64, 3) := by decide +kernel
theorem d_M_heat_5 : decode c_M_heat 5 = .ok (.ifCond .ne 7, 3) := by decide +kernel
theorem d_M_heat_8 : decode c_M_heat 8 = .ok (.iconst 1, 1) := by decide +kernel
theorem d_M_heat_9 : decode c_M_heat 9 = .ok (.goto 4, 3) := by decide +kernel
theorem d_M_heat_12 : decode c_M_heat 12 = .ok (.iconst 0, 1) := by decide +kernel
theorem d_M_heat_13 : decode c_M_heat 13 = .ok (.iload_n 1, 1) := by decide +kernel
theorem d_M_heat_14 : decode c_M_heat 14 = .ok (.iconst 1, 1) := by decide +kernel
theorem d_M_heat_15 : decode c_M_heat 15 = .ok (.ldc 67, 2) := by decide +kernel
theorem d_M_heat_17 : decode c_M_heat 17 = .ok (.invokestatic 57, 3) := by decide +kernel
theorem d_M_heat_20 : decode c_M_heat 20 = .ok (.invokevirtual 68, 3) := by decide +kernel
theorem d_M_heat_23 : decode c_M_heat 23 = .ok (.ifCond .ne 4, 3) := by decide +kernel
theorem d_M_heat_26 : decode c_M_heat 26 = .ok (.return_, 1) := by decide +kernel
theorem d_M_heat_27 : decode c_M_heat 27 = .ok (.aload_n 0, 1) := by decide +kernel
theorem d_M_heat_28 : decode c_M_heat 28 = .ok (.iload_n 1, 1) := by decide +kernel
theorem d_M_heat_29 : decode c_M_heat 29 = .ok (.putfield 7, 3) := by decide +kernel
theorem d_M_heat_32 : decode c_M_heat 32 = .ok (.aload_n 0, 1) := by decide +kernel
theorem d_M_heat_33 : decode c_M_heat 33 = .ok (.iconst 0, 1) := by decide +kernel
theorem d_M_heat_34 : decode c_M_heat 34 = .ok (.putfield 72, 3) := by decide +kernel
theorem d_M_heat_37 : decode c_M_heat 37 = .ok (.return_, 1) := by decide +kernel
theorem d_M_present_0 : decode c_M_present 0 = .ok (.aload_n 0, 1) := by decide +kernel
theorem d_M_present_1 : decode c_M_present 1 = .ok (.iload_n 1, 1) := by decide +kernel
theorem d_M_present_2 : decode c_M_present 2 = .ok (.invokestatic 76, 3) := by decide +kernel
theorem d_M_present_5 : decode c_M_present 5 = .ok (.iload_n 2, 1) := by decide +kernel
theorem d_M_present_6 : decode c_M_present 6 = .ok (.iload_n 3, 1) := by decide +kernel
theorem d_M_present_7 : decode c_M_present 7 = .ok (.invokestatic 80, 3) := by decide +kernel
theorem d_M_present_10 : decode c_M_present 10 = .ok (.invokevirtual 68, 3) := by decide +kernel
theorem d_M_present_13 : decode c_M_present 13 = .ok (.ifCond .ne 4, 3) := by decide +kernel
theorem d_M_present_16 : decode c_M_present 16 = .ok (.return_, 1) := by decide +kernel
theorem d_M_present_17 : decode c_M_present 17 = .ok (.aload_n 0, 1) := by decide +kernel
theorem d_M_present_18 : decode c_M_present 18 = .ok (.getfield 13, 3) := by decide +kernel
theorem d_M_present_21 : decode c_M_present 21 = .ok (.iload_n 1, 1) := by decide +kernel
theorem d_M_present_22 : decode c_M_present 22 = .ok (.iload_n 2, 1) := by decide +kernel
theorem d_M_present_23 : decode c_M_present 23 = .ok (.iastore, 1) := by decide +kernel
theorem d_M_present_24 : decode c_M_present 24 = .ok (.aload_n 0, 1) := by decide +kernel
theorem d_M_present_25 : decode c_M_present 25 = .ok (.getfield 17, 3) := by decide +kernel
theorem d_M_present_28 : decode c_M_present 28 = .ok (.iload_n 1, 1) := by decide +kernel
theorem d_M_present_29 : decode c_M_present 29 = .ok (.iload_n 3, 1) := by decide +kernel
theorem d_M_present_30 : decode c_M_present 30 = .ok (.iastore, 1) := by decide +kernel
theorem d_M_present_31 : decode c_M_present 31 = .ok (.aload_n 0, 1) := by decide +kernel
theorem d_M_present_32 : decode c_M_present 32 = .ok (.iconst 0, 1) := by decide +kernel
theorem d_M_present_33 : decode c_M_present 33 = .ok (.putfield 72, 3) := by decide +kernel
theorem d_M_present_36 : decode c_M_present 36 = .ok (.return_, 1) := by decide +kernel
theorem d_M_aim_0 : decode c_M_aim 0 = .ok (.aload_n 0, 1) := by decide +kernel
theorem d_M_aim_1 : decode c_M_aim 1 = .ok (.iload_n 1, 1) := by decide +kernel
theorem d_M_aim_2 : decode c_M_aim 2 = .ok (.invokestatic 76, 3) := by decide +kernel
theorem d_M_aim_5 : decode c_M_aim 5 = .ok (.iload_n 2, 1) := by decide +kernel
theorem d_M_aim_6 : decode c_M_aim 6 = .ok (.iload_n 3, 1) := by decide +kernel
theorem d_M_aim_7 : decode c_M_aim 7 = .ok (.invokestatic 80, 3) := by decide +kernel
theorem d_M_aim_10 : decode c_M_aim 10 = .ok (.invokevirtual 68, 3) := by decide +kernel
theorem d_M_aim_13 : decode c_M_aim 13 = .ok (.ifCond .ne 4, 3) := by decide +kernel
theorem d_M_aim_16 : decode c_M_aim 16 = .ok (.return_, 1) := by decide +kernel
theorem d_M_aim_17 : decode c_M_aim 17 = .ok (.aload_n 0, 1) := by decide +kernel
theorem d_M_aim_18 : decode c_M_aim 18 = .ok (.getfield 20, 3) := by decide +kernel
theorem d_M_aim_21 : decode c_M_aim 21 = .ok (.iload_n 1, 1) := by decide +kernel
theorem d_M_aim_22 : decode c_M_aim 22 = .ok (.iload_n 2, 1) := by decide +kernel
theorem d_M_aim_23 : decode c_M_aim 23 = .ok (.iastore, 1) := by decide +kernel
theorem d_M_aim_24 : decode c_M_aim 24 = .ok (.aload_n 0, 1) := by decide +kernel
theorem d_M_aim_25 : decode c_M_aim 25 = .ok (.getfield 23, 3) := by decide +kernel
theorem d_M_aim_28 : decode c_M_aim 28 = .ok (.iload_n 1, 1) := by decide +kernel
theorem d_M_aim_29 : decode c_M_aim 29 = .ok (.iload_n 3, 1) := by decide +kernel
theorem d_M_aim_30 : decode c_M_aim 30 = .ok (.iastore, 1) := by decide +kernel
theorem d_M_aim_31 : decode c_M_aim 31 = .ok (.aload_n 0, 1) := by decide +kernel
theorem d_M_aim_32 : decode c_M_aim 32 = .ok (.iconst 0, 1) := by decide +kernel
theorem d_M_aim_33 : decode c_M_aim 33 = .ok (.putfield 72, 3) := by decide +kernel
theorem d_M_aim_36 : decode c_M_aim 36 = .ok (.return_, 1) := by decide +kernel
theorem d_M_kind_0 : decode c_M_kind 0 = .ok (.aload_n 0, 1) := by decide +kernel
theorem d_M_kind_1 : decode c_M_kind 1 = .ok (.iload_n 1, 1) := by decide +kernel
theorem d_M_kind_2 : decode c_M_kind 2 = .ok (.iconst 0, 1) := by decide +kernel
theorem d_M_kind_3 : decode c_M_kind 3 = .ok (.ldc 53, 2) := by decide +kernel
theorem d_M_kind_5 : decode c_M_kind 5 = .ok (.invokestatic 57, 3) := by decide +kernel
theorem d_M_kind_8 : decode c_M_kind 8 = .ok (.ifCond .eq 28, 3) := by decide +kernel
theorem d_M_kind_11 : decode c_M_kind 11 = .ok (.iload_n 2, 1) := by decide +kernel
theorem d_M_kind_12 : decode c_M_kind 12 = .ok (.iconst 1, 1) := by decide +kernel
theorem d_M_kind_13 : decode c_M_kind 13 = .ok (.sipush 1000, 3) := by decide +kernel
theorem d_M_kind_16 : decode c_M_kind 16 = .ok (.invokestatic 57, 3) := by decide +kernel
theorem d_M_kind_19 : decode c_M_kind 19 = .ok (.ifCond .eq 17, 3) := by decide +kernel
theorem d_M_kind_22 : decode c_M_kind 22 = .ok (.iload_n 3, 1) := by decide +kernel
theorem d_M_kind_23 : decode c_M_kind 23 = .ok (.iconst 0, 1) := by decide +kernel
theorem d_M_kind_24 : decode c_M_kind 24 = .ok (.bipush 12, 2) := by decide +kernel
theorem d_M_kind_26 : decode c_M_kind 26 = .ok (.invokestatic 57, 3) := by decide +kernel
theorem d_M_kind_29 : decode c_M_kind 29 = .ok (.ifCond .eq 7, 3) := by decide +kernel
theorem d_M_kind_32 : decode c_M_kind 32 = .ok (.iconst 1, 1) := by decide +kernel
theorem d_M_kind_33 : decode c_M_kind 33 = .ok (.goto 4, 3) := by decide +kernel
theorem d_M_kind_36 : decode c_M_kind 36 = .ok (.iconst 0, 1) := by decide +kernel
theorem d_M_kind_37 : decode c_M_kind 37 = .ok (.aload_n 0, 1) := by decide +kernel
theorem d_M_kind_38 : decode c_M_kind 38 = .ok (.getfield 61, 3) := by decide +kernel
theorem d_M_kind_41 : decode c_M_kind 41 = .ok (.iconst 4, 1) := by decide +kernel
theorem d_M_kind_42 : decode c_M_kind 42 = .ok (.if_icmp .ge 7, 3) := by decide +kernel
theorem d_M_kind_45 : decode c_M_kind 45 = .ok (.iconst 1, 1) := by decide +kernel
theorem d_M_kind_46 : decode c_M_kind 46 = .ok (.goto 4, 3) := by decide +kernel
theorem d_M_kind_49 : decode c_M_kind 49 = .ok (.iconst 0, 1) := by decide +kernel
theorem d_M_kind_50 : decode c_M_kind 50 = .ok (.invokevirtual 68, 3) := by decide +kernel
theorem d_M_kind_53 : decode c_M_kind 53 = .ok (.ifCond .ne 5, 3) := by decide +kernel
theorem d_M_kind_56 : decode c_M_kind 56 = .ok (.iconst 0, 1) := by decide +kernel
theorem d_M_kind_57 : decode c_M_kind 57 = .ok (.ireturn, 1) := by decide +kernel
theorem d_M_kind_58 : decode c_M_kind 58 = .ok (.aload_n 0, 1) := by decide +kernel
theorem d_M_kind_59 : decode c_M_kind 59 = .ok (.getfield 26, 3) := by decide +kernel
theorem d_M_kind_62 : decode c_M_kind 62 = .ok (.aload_n 0, 1) := by decide +kernel
theorem d_M_kind_63 : decode c_M_kind 63 = .ok (.getfield 61, 3) := by decide +kernel
theorem d_M_kind_66 : decode c_M_kind 66 = .ok (.iload_n 1, 1) := by decide +kernel
theorem d_M_kind_67 : decode c_M_kind 67 = .ok (.iastore, 1) := by decide +kernel
theorem d_M_kind_68 : decode c_M_kind 68 = .ok (.aload_n 0, 1) := by decide +kernel
theorem d_M_kind_69 : decode c_M_kind 69 = .ok (.getfield 29, 3) := by decide +kernel
theorem d_M_kind_72 : decode c_M_kind 72 = .ok (.aload_n 0, 1) := by decide +kernel
theorem d_M_kind_73 : decode c_M_kind 73 = .ok (.getfield 61, 3) := by decide +kernel
theorem d_M_kind_76 : decode c_M_kind 76 = .ok (.iload_n 2, 1) := by decide +kernel
theorem d_M_kind_77 : decode c_M_kind 77 = .ok (.iastore, 1) := by decide +kernel
theorem d_M_kind_78 : decode c_M_kind 78 = .ok (.aload_n 0, 1) := by decide +kernel
theorem d_M_kind_79 : decode c_M_kind 79 = .ok (.getfield 32, 3) := by decide +kernel
theorem d_M_kind_82 : decode c_M_kind 82 = .ok (.aload_n 0, 1) := by decide +kernel
theorem d_M_kind_83 : decode c_M_kind 83 = .ok (.getfield 61, 3) := by decide +kernel
theorem d_M_kind_86 : decode c_M_kind 86 = .ok (.iload_n 3, 1) := by decide +kernel
theorem d_M_kind_87 : decode c_M_kind 87 = .ok (.iastore, 1) := by decide +kernel
theorem d_M_kind_88 : decode c_M_kind 88 = .ok (.aload_n 0, 1) := by decide +kernel
theorem d_M_kind_89 : decode c_M_kind 89 = .ok (.getfield 41, 3) := by decide +kernel
theorem d_M_kind_92 : decode c_M_kind 92 = .ok (.aload_n 0, 1) := by decide +kernel
theorem d_M_kind_93 : decode c_M_kind 93 = .ok (.getfield 61, 3) := by decide +kernel
theorem d_M_kind_96 : decode c_M_kind 96 = .ok (.sipush 1000, 3) := by decide +kernel
theorem d_M_kind_99 : decode c_M_kind 99 = .ok (.iastore, 1) := by decide +kernel
theorem d_M_kind_100 : decode c_M_kind 100 = .ok (.aload_n 0, 1) := by decide +kernel
theorem d_M_kind_101 : decode c_M_kind 101 = .ok (.iconst 0, 1) := by decide +kernel
theorem d_M_kind_102 : decode c_M_kind 102 = .ok (.putfield 72, 3) := by decide +kernel
theorem d_M_kind_105 : decode c_M_kind 105 = .ok (.aload_n 0, 1) := by decide +kernel
theorem d_M_kind_106 : decode c_M_kind 106 = .ok (.dup, 1) := by decide +kernel
theorem d_M_kind_107 : decode c_M_kind 107 = .ok (.getfield 61, 3) := by decide +kernel
theorem d_M_kind_110 : decode c_M_kind 110 = .ok (.iconst 1, 1) := by decide +kernel
theorem d_M_kind_111 : decode c_M_kind 111 = .ok (.iadd, 1) := by decide +kernel
theorem d_M_kind_112 : decode c_M_kind 112 = .ok (.putfield 61, 3) := by decide +kernel
theorem d_M_kind_115 : decode c_M_kind 115 = .ok (.aload_n 0, 1) := by decide +kernel
theorem d_M_kind_116 : decode c_M_kind 116 = .ok (.getfield 61, 3) := by decide +kernel
theorem d_M_kind_119 : decode c_M_kind 119 = .ok (.iconst 1, 1) := by decide +kernel
theorem d_M_kind_120 : decode c_M_kind 120 = .ok (.isub, 1) := by decide +kernel
theorem d_M_kind_121 : decode c_M_kind 121 = .ok (.ireturn, 1) := by decide +kernel
theorem d_M_holds_0 : decode c_M_holds 0 = .ok (.aload_n 0, 1) := by decide +kernel
theorem d_M_holds_1 : decode c_M_holds 1 = .ok (.aload_n 0, 1) := by decide +kernel
theorem d_M_holds_2 : decode c_M_holds 2 = .ok (.iload_n 1, 1) := by decide +kernel
theorem d_M_holds_3 : decode c_M_holds 3 = .ok (.invokevirtual 84, 3) := by decide +kernel
theorem d_M_holds_6 : decode c_M_holds 6 = .ok (.ifCond .eq 14, 3) := by decide +kernel
theorem d_M_holds_9 : decode c_M_holds 9 = .ok (.iload_n 2, 1) := by decide +kernel
theorem d_M_holds_10 : decode c_M_holds 10 = .ok (.invokestatic 76, 3) := by decide +kernel
theorem d_M_holds_13 : decode c_M_holds 13 = .ok (.ifCond .eq 7, 3) := by decide +kernel
theorem d_M_holds_16 : decode c_M_holds 16 = .ok (.iconst 1, 1) := by decide +kernel
theorem d_M_holds_17 : decode c_M_holds 17 = .ok (.goto 4, 3) := by decide +kernel
theorem d_M_holds_20 : decode c_M_holds 20 = .ok (.iconst 0, 1) := by decide +kernel
theorem d_M_holds_21 : decode c_M_holds 21 = .ok (.iload_n 3, 1) := by decide +kernel
theorem d_M_holds_22 : decode c_M_holds 22 = .ok (.iload 4, 2) := by decide +kernel
theorem d_M_holds_24 : decode c_M_holds 24 = .ok (.invokestatic 80, 3) := by decide +kernel
theorem d_M_holds_27 : decode c_M_holds 27 = .ok (.invokevirtual 68, 3) := by decide +kernel
theorem d_M_holds_30 : decode c_M_holds 30 = .ok (.ifCond .ne 4, 3) := by decide +kernel
theorem d_M_holds_33 : decode c_M_holds 33 = .ok (.return_, 1) := by decide +kernel
theorem d_M_holds_34 : decode c_M_holds 34 = .ok (.aload_n 0, 1) := by decide +kernel
theorem d_M_holds_35 : decode c_M_holds 35 = .ok (.getfield 35, 3) := by decide +kernel
theorem d_M_holds_38 : decode c_M_holds 38 = .ok (.iconst 4, 1) := by decide +kernel
theorem d_M_holds_39 : decode c_M_holds 39 = .ok (.iload_n 1, 1) := by decide +kernel
theorem d_M_holds_40 : decode c_M_holds 40 = .ok (.imul, 1) := by decide +kernel
theorem d_M_holds_41 : decode c_M_holds 41 = .ok (.iload_n 2, 1) := by decide +kernel
theorem d_M_holds_42 : decode c_M_holds 42 = .ok (.iadd, 1) := by decide +kernel
theorem d_M_holds_43 : decode c_M_holds 43 = .ok (.iload_n 3, 1) := by decide +kernel
theorem d_M_holds_44 : decode c_M_holds 44 = .ok (.iastore, 1) := by decide +kernel
theorem d_M_holds_45 : decode c_M_holds 45 = .ok (.aload_n 0, 1) := by decide +kernel
theorem d_M_holds_46 : decode c_M_holds 46 = .ok (.getfield 38, 3) := by decide +kernel
theorem d_M_holds_49 : decode c_M_holds 49 = .ok (.iconst 4, 1) := by decide +kernel
theorem d_M_holds_50 : decode c_M_holds 50 = .ok (.iload_n 1, 1) := by decide +kernel
theorem d_M_holds_51 : decode c_M_holds 51 = .ok (.imul, 1) := by decide +kernel
theorem d_M_holds_52 : decode c_M_holds 52 = .ok (.iload_n 2, 1) := by decide +kernel
theorem d_M_holds_53 : decode c_M_holds 53 = .ok (.iadd, 1) := by decide +kernel
theorem d_M_holds_54 : decode c_M_holds 54 = .ok (.iload 4, 2) := by decide +kernel
theorem d_M_holds_56 : decode c_M_holds 56 = .ok (.iastore, 1) := by decide +kernel
theorem d_M_holds_57 : decode c_M_holds 57 = .ok (.aload_n 0, 1) := by decide +kernel
theorem d_M_holds_58 : decode c_M_holds 58 = .ok (.iconst 0, 1) := by decide +kernel
theorem d_M_holds_59 : decode c_M_holds 59 = .ok (.putfield 72, 3) := by decide +kernel
theorem d_M_holds_62 : decode c_M_holds 62 = .ok (.return_, 1) := by decide +kernel
theorem d_M_yields_0 : decode c_M_yields 0 = .ok (.aload_n 0, 1) := by decide +kernel
theorem d_M_yields_1 : decode c_M_yields 1 = .ok (.aload_n 0, 1) := by decide +kernel
theorem d_M_yields_2 : decode c_M_yields 2 = .ok (.iload_n 1, 1) := by decide +kernel
theorem d_M_yields_3 : decode c_M_yields 3 = .ok (.invokevirtual 84, 3) := by decide +kernel
theorem d_M_yields_6 : decode c_M_yields 6 = .ok (.iload_n 2, 1) := by decide +kernel
theorem d_M_yields_7 : decode c_M_yields 7 = .ok (.iconst 0, 1) := by decide +kernel
theorem d_M_yields_8 : decode c_M_yields 8 = .ok (.sipush 1000, 3) := by decide +kernel
theorem d_M_yields_11 : decode c_M_yields 11 = .ok (.invokestatic 57, 3) := by decide +kernel
theorem d_M_yields_14 : decode c_M_yields 14 = .ok (.ifCond .eq 18, 3) := by decide +kernel
theorem d_M_yields_17 : decode c_M_yields 17 = .ok (.iload_n 3, 1) := by decide +kernel
theorem d_M_yields_18 : decode c_M_yields 18 = .ok (.iconst 0, 1) := by decide +kernel
theorem d_M_yields_19 : decode c_M_yields 19 = .ok (.sipush 1000, 3) := by decide +kernel
theorem d_M_yields_22 : decode c_M_yields 22 = .ok (.invokestatic 57, 3) := by decide +kernel
theorem d_M_yields_25 : decode c_M_yields 25 = .ok (.ifCond .eq 7, 3) := by decide +kernel
theorem d_M_yields_28 : decode c_M_yields 28 = .ok (.iconst 1, 1) := by decide +kernel
theorem d_M_yields_29 : decode c_M_yields 29 = .ok (.goto 4, 3) := by decide +kernel
theorem d_M_yields_32 : decode c_M_yields 32 = .ok (.iconst 0, 1) := by decide +kernel
theorem d_M_yields_33 : decode c_M_yields 33 = .ok (.invokevirtual 68, 3) := by decide +kernel
theorem d_M_yields_36 : decode c_M_yields 36 = .ok (.ifCond .ne 4, 3) := by decide +kernel
theorem d_M_yields_39 : decode c_M_yields 39 = .ok (.return_, 1) := by decide +kernel
theorem d_M_yields_40 : decode c_M_yields 40 = .ok (.aload_n 0, 1) := by decide +kernel
theorem d_M_yields_41 : decode c_M_yields 41 = .ok (.getfield 41, 3) := by decide +kernel
theorem d_M_yields_44 : decode c_M_yields 44 = .ok (.iload_n 1, 1) := by decide +kernel
theorem d_M_yields_45 : decode c_M_yields 45 = .ok (.iload_n 2, 1) := by decide +kernel
theorem d_M_yields_46 : decode c_M_yields 46 = .ok (.iastore, 1) := by decide +kernel
theorem d_M_yields_47 : decode c_M_yields 47 = .ok (.aload_n 0, 1) := by decide +kernel
theorem d_M_yields_48 : decode c_M_yields 48 = .ok (.getfield 44, 3) := by decide +kernel
theorem d_M_yields_51 : decode c_M_yields 51 = .ok (.iload_n 1, 1) := by decide +kernel
theorem d_M_yields_52 : decode c_M_yields 52 = .ok (.iload_n 3, 1) := by decide +kernel
theorem d_M_yields_53 : decode c_M_yields 53 = .ok (.iastore, 1) := by decide +kernel
theorem d_M_yields_54 : decode c_M_yields 54 = .ok (.aload_n 0, 1) := by decide +kernel
theorem d_M_yields_55 : decode c_M_yields 55 = .ok (.iconst 0, 1) := by decide +kernel
theorem d_M_yields_56 : decode c_M_yields 56 = .ok (.putfield 72, 3) := by decide +kernel
theorem d_M_yields_59 : decode c_M_yields 59 = .ok (.return_, 1) := by decide +kernel
theorem d_M_weight_0 : decode c_M_weight 0 = .ok (.iconst 0, 1) := by decide +kernel
theorem d_M_weight_1 : decode c_M_weight 1 = .ok (.istore_n 1, 1) := by decide +kernel
theorem d_M_weight_2 : decode c_M_weight 2 = .ok (.iconst 0, 1) := by decide +kernel
theorem d_M_weight_3 : decode c_M_weight 3 = .ok (.istore_n 2, 1) := by decide +kernel
theorem d_M_weight_4 : decode c_M_weight 4 = .ok (.iload_n 2, 1) := by decide +kernel
theorem d_M_weight_5 : decode c_M_weight 5 = .ok (.aload_n 0, 1) := by decide +kernel
theorem d_M_weight_6 : decode c_M_weight 6 = .ok (.getfield 61, 3) := by decide +kernel
theorem d_M_weight_9 : decode c_M_weight 9 = .ok (.if_icmp .ge 25, 3) := by decide +kernel
theorem d_M_weight_12 : decode c_M_weight 12 = .ok (.iload_n 1, 1) := by decide +kernel
theorem d_M_weight_13 : decode c_M_weight 13 = .ok (.aload_n 0, 1) := by decide +kernel
theorem d_M_weight_14 : decode c_M_weight 14 = .ok (.getfield 50, 3) := by decide +kernel
theorem d_M_weight_17 : decode c_M_weight 17 = .ok (.iload_n 2, 1) := by decide +kernel
theorem d_M_weight_18 : decode c_M_weight 18 = .ok (.iaload, 1) := by decide +kernel
theorem d_M_weight_19 : decode c_M_weight 19 = .ok (.aload_n 0, 1) := by decide +kernel
theorem d_M_weight_20 : decode c_M_weight 20 = .ok (.getfield 29, 3) := by decide +kernel
theorem d_M_weight_23 : decode c_M_weight 23 = .ok (.iload_n 2, 1) := by decide +kernel
theorem d_M_weight_24 : decode c_M_weight 24 = .ok (.iaload, 1) := by decide +kernel
theorem d_M_weight_25 : decode c_M_weight 25 = .ok (.imul, 1) := by decide +kernel
theorem d_M_weight_26 : decode c_M_weight 26 = .ok (.iadd, 1) := by decide +kernel
theorem d_M_weight_27 : decode c_M_weight 27 = .ok (.istore_n 1, 1) := by decide +kernel
theorem d_M_weight_28 : decode c_M_weight 28 = .ok (.iinc 2 1, 3) := by decide +kernel
theorem d_M_weight_31 : decode c_M_weight 31 = .ok (.goto (-27), 3) := by decide +kernel
theorem d_M_weight_34 : decode c_M_weight 34 = .ok (.iload_n 1, 1) := by decide +kernel
theorem d_M_weight_35 : decode c_M_weight 35 = .ok (.ireturn, 1) := by decide +kernel
theorem d_M_cost_0 : decode c_M_cost 0 = .ok (.iconst 0, 1) := by decide +kernel
theorem d_M_cost_1 : decode c_M_cost 1 = .ok (.istore_n 1, 1) := by decide +kernel
theorem d_M_cost_2 : decode c_M_cost 2 = .ok (.iconst 0, 1) := by decide +kernel
theorem d_M_cost_3 : decode c_M_cost 3 = .ok (.istore_n 2, 1) := by decide +kernel
theorem d_M_cost_4 : decode c_M_cost 4 = .ok (.iload_n 2, 1) := by decide +kernel
theorem d_M_cost_5 : decode c_M_cost 5 = .ok (.aload_n 0, 1) := by decide +kernel
theorem d_M_cost_6 : decode c_M_cost 6 = .ok (.getfield 61, 3) := by decide +kernel
theorem d_M_cost_9 : decode c_M_cost 9 = .ok (.if_icmp .ge 25, 3) := by decide +kernel
theorem d_M_cost_12 : decode c_M_cost 12 = .ok (.iload_n 1, 1) := by decide +kernel
theorem d_M_cost_13 : decode c_M_cost 13 = .ok (.aload_n 0, 1) := by decide +kernel
theorem d_M_cost_14 : decode c_M_cost 14 = .ok (.getfield 50, 3) := by decide +kernel
theorem d_M_cost_17 : decode c_M_cost 17 = .ok (.iload_n 2, 1) := by decide +kernel
theorem d_M_cost_18 : decode c_M_cost 18 = .ok (.iaload, 1) := by decide +kernel
theorem d_M_cost_19 : decode c_M_cost 19 = .ok (.aload_n 0, 1) := by decide +kernel
theorem d_M_cost_20 : decode c_M_cost 20 = .ok (.getfield 26, 3) := by decide +kernel
theorem d_M_cost_23 : decode c_M_cost 23 = .ok (.iload_n 2, 1) := by decide +kernel
theorem d_M_cost_24 : decode c_M_cost 24 = .ok (.iaload, 1) := by decide +kernel
theorem d_M_cost_25 : decode c_M_cost 25 = .ok (.imul, 1) := by decide +kernel
theorem d_M_cost_26 : decode c_M_cost 26 = .ok (.iadd, 1) := by decide +kernel
theorem d_M_cost_27 : decode c_M_cost 27 = .ok (.istore_n 1, 1) := by decide +kernel
theorem d_M_cost_28 : decode c_M_cost 28 = .ok (.iinc 2 1, 3) := by decide +kernel
theorem d_M_cost_31 : decode c_M_cost 31 = .ok (.goto (-27), 3) := by decide +kernel
theorem d_M_cost_34 : decode c_M_cost 34 = .ok (.iload_n 1, 1) := by decide +kernel
theorem d_M_cost_35 : decode c_M_cost 35 = .ok (.ireturn, 1) := by decide +kernel
theorem d_M_used_0 : decode c_M_used 0 = .ok (.iconst 0, 1) := by decide +kernel
theorem d_M_used_1 : decode c_M_used 1 = .ok (.istore_n 1, 1) := by decide +kernel
theorem d_M_used_2 : decode c_M_used 2 = .ok (.iconst 0, 1) := by decide +kernel
theorem d_M_used_3 : decode c_M_used 3 = .ok (.istore_n 2, 1) := by decide +kernel
theorem d_M_used_4 : decode c_M_used 4 = .ok (.iload_n 2, 1) := by decide +kernel
theorem d_M_used_5 : decode c_M_used 5 = .ok (.aload_n 0, 1) := by decide +kernel
theorem d_M_used_6 : decode c_M_used 6 = .ok (.getfield 61, 3) := by decide +kernel
theorem d_M_used_9 : decode c_M_used 9 = .ok (.if_icmp .ge 21, 3) := by decide +kernel
theorem d_M_used_12 : decode c_M_used 12 = .ok (.aload_n 0, 1) := by decide +kernel
theorem d_M_used_13 : decode c_M_used 13 = .ok (.getfield 50, 3) := by decide +kernel
theorem d_M_used_16 : decode c_M_used 16 = .ok (.iload_n 2, 1) := by decide +kernel
theorem d_M_used_17 : decode c_M_used 17 = .ok (.iaload, 1) := by decide +kernel
theorem d_M_used_18 : decode c_M_used 18 = .ok (.ifCond .le 6, 3) := by decide +kernel
theorem d_M_used_21 : decode c_M_used 21 = .ok (.iinc 1 1, 3) := by decide +kernel
theorem d_M_used_24 : decode c_M_used 24 = .ok (.iinc 2 1, 3) := by decide +kernel
theorem d_M_used_27 : decode c_M_used 27 = .ok (.goto (-23), 3) := by decide +kernel
theorem d_M_used_30 : decode c_M_used 30 = .ok (.iload_n 1, 1) := by decide +kernel
theorem d_M_used_31 : decode c_M_used 31 = .ok (.ireturn, 1) := by decide +kernel
theorem d_M_cooling_0 : decode c_M_cooling 0 = .ok (.iconst 0, 1) := by decide +kernel
theorem d_M_cooling_1 : decode c_M_cooling 1 = .ok (.istore_n 1, 1) := by decide +kernel
theorem d_M_cooling_2 : decode c_M_cooling 2 = .ok (.iconst 0, 1) := by decide +kernel
theorem d_M_cooling_3 : decode c_M_cooling 3 = .ok (.istore_n 2, 1) := by decide +kernel
theorem d_M_cooling_4 : decode c_M_cooling 4 = .ok (.iload_n 2, 1) := by decide +kernel
theorem d_M_cooling_5 : decode c_M_cooling 5 = .ok (.aload_n 0, 1) := by decide +kernel
theorem d_M_cooling_6 : decode c_M_cooling 6 = .ok (.getfield 61, 3) := by decide +kernel
theorem d_M_cooling_9 : decode c_M_cooling 9 = .ok (.if_icmp .ge 32, 3) := by decide +kernel
theorem d_M_cooling_12 : decode c_M_cooling 12 = .ok (.iload_n 1, 1) := by decide +kernel
theorem d_M_cooling_13 : decode c_M_cooling 13 = .ok (.aload_n 0, 1) := by decide +kernel
theorem d_M_cooling_14 : decode c_M_cooling 14 = .ok (.getfield 50, 3) := by decide +kernel
theorem d_M_cooling_17 : decode c_M_cooling 17 = .ok (.iload_n 2, 1) := by decide +kernel
theorem d_M_cooling_18 : decode c_M_cooling 18 = .ok (.iaload, 1) := by decide +kernel
theorem d_M_cooling_19 : decode c_M_cooling 19 = .ok (.aload_n 0, 1) := by decide +kernel
theorem d_M_cooling_20 : decode c_M_cooling 20 = .ok (.getfield 29, 3) := by decide +kernel
theorem d_M_cooling_23 : decode c_M_cooling 23 = .ok (.iload_n 2, 1) := by decide +kernel
theorem d_M_cooling_24 : decode c_M_cooling 24 = .ok (.iaload, 1) := by decide +kernel
theorem d_M_cooling_25 : decode c_M_cooling 25 = .ok (.imul, 1) := by decide +kernel
theorem d_M_cooling_26 : decode c_M_cooling 26 = .ok (.aload_n 0, 1) := by decide +kernel
theorem d_M_cooling_27 : decode c_M_cooling 27 = .ok (.getfield 44, 3) := by decide +kernel
theorem d_M_cooling_30 : decode c_M_cooling 30 = .ok (.iload_n 2, 1) := by decide +kernel
theorem d_M_cooling_31 : decode c_M_cooling 31 = .ok (.iaload, 1) := by decide +kernel
theorem d_M_cooling_32 : decode c_M_cooling 32 = .ok (.imul, 1) := by decide +kernel
theorem d_M_cooling_33 : decode c_M_cooling 33 = .ok (.iadd, 1) := by decide +kernel
theorem d_M_cooling_34 : decode c_M_cooling 34 = .ok (.istore_n 1, 1) := by decide +kernel
theorem d_M_cooling_35 : decode c_M_cooling 35 = .ok (.iinc 2 1, 3) := by decide +kernel
theorem d_M_cooling_38 : decode c_M_cooling 38 = .ok (.goto (-34), 3) := by decide +kernel
theorem d_M_cooling_41 : decode c_M_cooling 41 = .ok (.iload_n 1, 1) := by decide +kernel
theorem d_M_cooling_42 : decode c_M_cooling 42 = .ok (.ireturn, 1) := by decide +kernel
theorem d_M_amount_0 : decode c_M_amount 0 = .ok (.ldc2_w 87, 3) := by decide +kernel
theorem d_M_amount_3 : decode c_M_amount 3 = .ok (.aload_n 0, 1) := by decide +kernel
theorem d_M_amount_4 : decode c_M_amount 4 = .ok (.getfield 7, 3) := by decide +kernel
theorem d_M_amount_7 : decode c_M_amount 7 = .ok (.i2l, 1) := by decide +kernel
theorem d_M_amount_8 : decode c_M_amount 8 = .ok (.lmul, 1) := by decide +kernel
theorem d_M_amount_9 : decode c_M_amount 9 = .ok (.iload_n 2, 1) := by decide +kernel
theorem d_M_amount_10 : decode c_M_amount 10 = .ok (.ifCond .ne 12, 3) := by decide +kernel
theorem d_M_amount_13 : decode c_M_amount 13 = .ok (.aload_n 0, 1) := by decide +kernel
theorem d_M_amount_14 : decode c_M_amount 14 = .ok (.getfield 13, 3) := by decide +kernel
theorem d_M_amount_17 : decode c_M_amount 17 = .ok (.iload_n 1, 1) := by decide +kernel
theorem d_M_amount_18 : decode c_M_amount 18 = .ok (.iaload, 1) := by decide +kernel
theorem d_M_amount_19 : decode c_M_amount 19 = .ok (.goto 9, 3) := by decide +kernel
theorem d_M_amount_22 : decode c_M_amount 22 = .ok (.aload_n 0, 1) := by decide +kernel
theorem d_M_amount_23 : decode c_M_amount 23 = .ok (.getfield 17, 3) := by decide +kernel
theorem d_M_amount_26 : decode c_M_amount 26 = .ok (.iload_n 1, 1) := by decide +kernel
theorem d_M_amount_27 : decode c_M_amount 27 = .ok (.iaload, 1) := by decide +kernel
theorem d_M_amount_28 : decode c_M_amount 28 = .ok (.i2l, 1) := by decide +kernel
theorem d_M_amount_29 : decode c_M_amount 29 = .ok (.lmul, 1) := by decide +kernel
theorem d_M_amount_30 : decode c_M_amount 30 = .ok (.lstore_n 3, 1) := by decide +kernel
theorem d_M_amount_31 : decode c_M_amount 31 = .ok (.iconst 0, 1) := by decide +kernel
theorem d_M_amount_32 : decode c_M_amount 32 = .ok (.istore 5, 2) := by decide +kernel
theorem d_M_amount_34 : decode c_M_amount 34 = .ok (.iload 5, 2) := by decide +kernel
theorem d_M_amount_36 : decode c_M_amount 36 = .ok (.aload_n 0, 1) := by decide +kernel
theorem d_M_amount_37 : decode c_M_amount 37 = .ok (.getfield 61, 3) := by decide +kernel
theorem d_M_amount_40 : decode c_M_amount 40 = .ok (.if_icmp .ge 69, 3) := by decide +kernel
theorem d_M_amount_43 : decode c_M_amount 43 = .ok (.lload_n 3, 1) := by decide +kernel
theorem d_M_amount_44 : decode c_M_amount 44 = .ok (.aload_n 0, 1) := by decide +kernel
theorem d_M_amount_45 : decode c_M_amount 45 = .ok (.getfield 50, 3) := by decide +kernel
theorem d_M_amount_48 : decode c_M_amount 48 = .ok (.iload 5, 2) := by decide +kernel
theorem d_M_amount_50 : decode c_M_amount 50 = .ok (.iaload, 1) := by decide +kernel
theorem d_M_amount_51 : decode c_M_amount 51 = .ok (.i2l, 1) := by decide +kernel
theorem d_M_amount_52 : decode c_M_amount 52 = .ok (.aload_n 0, 1) := by decide +kernel
theorem d_M_amount_53 : decode c_M_amount 53 = .ok (.getfield 29, 3) := by decide +kernel
theorem d_M_amount_56 : decode c_M_amount 56 = .ok (.iload 5, 2) := by decide +kernel
theorem d_M_amount_58 : decode c_M_amount 58 = .ok (.iaload, 1) := by decide +kernel
theorem d_M_amount_59 : decode c_M_amount 59 = .ok (.i2l, 1) := by decide +kernel
theorem d_M_amount_60 : decode c_M_amount 60 = .ok (.lmul, 1) := by decide +kernel
theorem d_M_amount_61 : decode c_M_amount 61 = .ok (.aload_n 0, 1) := by decide +kernel
theorem d_M_amount_62 : decode c_M_amount 62 = .ok (.getfield 41, 3) := by decide +kernel
theorem d_M_amount_65 : decode c_M_amount 65 = .ok (.iload 5, 2) := by decide +kernel
theorem d_M_amount_67 : decode c_M_amount 67 = .ok (.iaload, 1) := by decide +kernel
theorem d_M_amount_68 : decode c_M_amount 68 = .ok (.i2l, 1) := by decide +kernel
theorem d_M_amount_69 : decode c_M_amount 69 = .ok (.lmul, 1) := by decide +kernel
theorem d_M_amount_70 : decode c_M_amount 70 = .ok (.iload_n 2, 1) := by decide +kernel
theorem d_M_amount_71 : decode c_M_amount 71 = .ok (.ifCond .ne 17, 3) := by decide +kernel
theorem d_M_amount_74 : decode c_M_amount 74 = .ok (.aload_n 0, 1) := by decide +kernel
theorem d_M_amount_75 : decode c_M_amount 75 = .ok (.getfield 35, 3) := by decide +kernel
theorem d_M_amount_78 : decode c_M_amount 78 = .ok (.iconst 4, 1) := by decide +kernel
theorem d_M_amount_79 : decode c_M_amount 79 = .ok (.iload 5, 2) := by decide +kernel
theorem d_M_amount_81 : decode c_M_amount 81 = .ok (.imul, 1) := by decide +kernel
theorem d_M_amount_82 : decode c_M_amount 82 = .ok (.iload_n 1, 1) := by decide +kernel
theorem d_M_amount_83 : decode c_M_amount 83 = .ok (.iadd, 1) := by decide +kernel
theorem d_M_amount_84 : decode c_M_amount 84 = .ok (.iaload, 1) := by decide +kernel
theorem d_M_amount_85 : decode c_M_amount 85 = .ok (.goto 14, 3) := by decide +kernel
theorem d_M_amount_88 : decode c_M_amount 88 = .ok (.aload_n 0, 1) := by decide +kernel
theorem d_M_amount_89 : decode c_M_amount 89 = .ok (.getfield 38, 3) := by decide +kernel
theorem d_M_amount_92 : decode c_M_amount 92 = .ok (.iconst 4, 1) := by decide +kernel
theorem d_M_amount_93 : decode c_M_amount 93 = .ok (.iload 5, 2) := by decide +kernel
theorem d_M_amount_95 : decode c_M_amount 95 = .ok (.imul, 1) := by decide +kernel
theorem d_M_amount_96 : decode c_M_amount 96 = .ok (.iload_n 1, 1) := by decide +kernel
theorem d_M_amount_97 : decode c_M_amount 97 = .ok (.iadd, 1) := by decide +kernel
theorem d_M_amount_98 : decode c_M_amount 98 = .ok (.iaload, 1) := by decide +kernel
theorem d_M_amount_99 : decode c_M_amount 99 = .ok (.i2l, 1) := by decide +kernel
theorem d_M_amount_100 : decode c_M_amount 100 = .ok (.lmul, 1) := by decide +kernel
theorem d_M_amount_101 : decode c_M_amount 101 = .ok (.ladd, 1) := by decide +kernel
theorem d_M_amount_102 : decode c_M_amount 102 = .ok (.lstore_n 3, 1) := by decide +kernel
theorem d_M_amount_103 : decode c_M_amount 103 = .ok (.iinc 5 1, 3) := by decide +kernel
theorem d_M_amount_106 : decode c_M_amount 106 = .ok (.goto (-72), 3) := by decide +kernel
theorem d_M_amount_109 : decode c_M_amount 109 = .ok (.lload_n 3, 1) := by decide +kernel
theorem d_M_amount_110 : decode c_M_amount 110 = .ok (.lreturn, 1) := by decide +kernel
theorem d_M_isMet_0 : decode c_M_isMet 0 = .ok (.ldc2_w 87, 3) := by decide +kernel
theorem d_M_isMet_3 : decode c_M_isMet 3 = .ok (.aload_n 0, 1) := by decide +kernel
theorem d_M_isMet_4 : decode c_M_isMet 4 = .ok (.getfield 7, 3) := by decide +kernel
theorem d_M_isMet_7 : decode c_M_isMet 7 = .ok (.aload_n 0, 1) := by decide +kernel
theorem d_M_isMet_8 : decode c_M_isMet 8 = .ok (.invokevirtual 89, 3) := by decide +kernel
theorem d_M_isMet_11 : decode c_M_isMet 11 = .ok (.iadd, 1) := by decide +kernel
theorem d_M_isMet_12 : decode c_M_isMet 12 = .ok (.i2l, 1) := by decide +kernel
theorem d_M_isMet_13 : decode c_M_isMet 13 = .ok (.lmul, 1) := by decide +kernel
theorem d_M_isMet_14 : decode c_M_isMet 14 = .ok (.lstore_n 2, 1) := by decide +kernel
theorem d_M_isMet_15 : decode c_M_isMet 15 = .ok (.aload_n 0, 1) := by decide +kernel
theorem d_M_isMet_16 : decode c_M_isMet 16 = .ok (.iload_n 1, 1) := by decide +kernel
theorem d_M_isMet_17 : decode c_M_isMet 17 = .ok (.iconst 0, 1) := by decide +kernel
theorem d_M_isMet_18 : decode c_M_isMet 18 = .ok (.invokevirtual 93, 3) := by decide +kernel
theorem d_M_isMet_21 : decode c_M_isMet 21 = .ok (.aload_n 0, 1) := by decide +kernel
theorem d_M_isMet_22 : decode c_M_isMet 22 = .ok (.getfield 20, 3) := by decide +kernel
theorem d_M_isMet_25 : decode c_M_isMet 25 = .ok (.iload_n 1, 1) := by decide +kernel
theorem d_M_isMet_26 : decode c_M_isMet 26 = .ok (.iaload, 1) := by decide +kernel
theorem d_M_isMet_27 : decode c_M_isMet 27 = .ok (.i2l, 1) := by decide +kernel
theorem d_M_isMet_28 : decode c_M_isMet 28 = .ok (.lload_n 2, 1) := by decide +kernel
theorem d_M_isMet_29 : decode c_M_isMet 29 = .ok (.lmul, 1) := by decide +kernel
theorem d_M_isMet_30 : decode c_M_isMet 30 = .ok (.lcmp, 1) := by decide +kernel
theorem d_M_isMet_31 : decode c_M_isMet 31 = .ok (.ifCond .lt 26, 3) := by decide +kernel
theorem d_M_isMet_34 : decode c_M_isMet 34 = .ok (.aload_n 0, 1) := by decide +kernel
theorem d_M_isMet_35 : decode c_M_isMet 35 = .ok (.iload_n 1, 1) := by decide +kernel
theorem d_M_isMet_36 : decode c_M_isMet 36 = .ok (.iconst 1, 1) := by decide +kernel
theorem d_M_isMet_37 : decode c_M_isMet 37 = .ok (.invokevirtual 93, 3) := by decide +kernel
theorem d_M_isMet_40 : decode c_M_isMet 40 = .ok (.aload_n 0, 1) := by decide +kernel
theorem d_M_isMet_41 : decode c_M_isMet 41 = .ok (.getfield 23, 3) := by decide +kernel
theorem d_M_isMet_44 : decode c_M_isMet 44 = .ok (.iload_n 1, 1) := by decide +kernel
theorem d_M_isMet_45 : decode c_M_isMet 45 = .ok (.iaload, 1) := by decide +kernel
theorem d_M_isMet_46 : decode c_M_isMet 46 = .ok (.i2l, 1) := by decide +kernel
theorem d_M_isMet_47 : decode c_M_isMet 47 = .ok (.lload_n 2, 1) := by decide +kernel
theorem d_M_isMet_48 : decode c_M_isMet 48 = .ok (.lmul, 1) := by decide +kernel
theorem d_M_isMet_49 : decode c_M_isMet 49 = .ok (.lcmp, 1) := by decide +kernel
theorem d_M_isMet_50 : decode c_M_isMet 50 = .ok (.ifCond .gt 7, 3) := by decide +kernel
theorem d_M_isMet_53 : decode c_M_isMet 53 = .ok (.iconst 1, 1) := by decide +kernel
theorem d_M_isMet_54 : decode c_M_isMet 54 = .ok (.goto 4, 3) := by decide +kernel
theorem d_M_isMet_57 : decode c_M_isMet 57 = .ok (.iconst 0, 1) := by decide +kernel
theorem d_M_isMet_58 : decode c_M_isMet 58 = .ok (.ireturn, 1) := by decide +kernel
theorem d_M_sets_0 : decode c_M_sets 0 = .ok (.iload_n 1, 1) := by decide +kernel
theorem d_M_sets_1 : decode c_M_sets 1 = .ok (.istore_n 2, 1) := by decide +kernel
theorem d_M_sets_2 : decode c_M_sets 2 = .ok (.iconst 3, 1) := by decide +kernel
theorem d_M_sets_3 : decode c_M_sets 3 = .ok (.istore_n 3, 1) := by decide +kernel
theorem d_M_sets_4 : decode c_M_sets 4 = .ok (.iload_n 3, 1) := by decide +kernel
theorem d_M_sets_5 : decode c_M_sets 5 = .ok (.ifCond .lt 24, 3) := by decide +kernel
theorem d_M_sets_8 : decode c_M_sets 8 = .ok (.aload_n 0, 1) := by decide +kernel
theorem d_M_sets_9 : decode c_M_sets 9 = .ok (.getfield 50, 3) := by decide +kernel
theorem d_M_sets_12 : decode c_M_sets 12 = .ok (.iload_n 3, 1) := by decide +kernel
theorem d_M_sets_13 : decode c_M_sets 13 = .ok (.iload_n 2, 1) := by decide +kernel
theorem d_M_sets_14 : decode c_M_sets 14 = .ok (.bipush 13, 2) := by decide +kernel
theorem d_M_sets_16 : decode c_M_sets 16 = .ok (.irem, 1) := by decide +kernel
theorem d_M_sets_17 : decode c_M_sets 17 = .ok (.iastore, 1) := by decide +kernel
theorem d_M_sets_18 : decode c_M_sets 18 = .ok (.iload_n 2, 1) := by decide +kernel
theorem d_M_sets_19 : decode c_M_sets 19 = .ok (.bipush 13, 2) := by decide +kernel
theorem d_M_sets_21 : decode c_M_sets 21 = .ok (.idiv, 1) := by decide +kernel
theorem d_M_sets_22 : decode c_M_sets 22 = .ok (.istore_n 2, 1) := by decide +kernel
theorem d_M_sets_23 : decode c_M_sets 23 = .ok (.iinc 3 (-1), 3) := by decide +kernel
theorem d_M_sets_26 : decode c_M_sets 26 = .ok (.goto (-22), 3) := by decide +kernel
theorem d_M_sets_29 : decode c_M_sets 29 = .ok (.iconst 0, 1) := by decide +kernel
theorem d_M_sets_30 : decode c_M_sets 30 = .ok (.istore_n 3, 1) := by decide +kernel
theorem d_M_sets_31 : decode c_M_sets 31 = .ok (.iload_n 3, 1) := by decide +kernel
theorem d_M_sets_32 : decode c_M_sets 32 = .ok (.iconst 4, 1) := by decide +kernel
theorem d_M_sets_33 : decode c_M_sets 33 = .ok (.if_icmp .ge 38, 3) := by decide +kernel
theorem d_M_sets_36 : decode c_M_sets 36 = .ok (.aload_n 0, 1) := by decide +kernel
theorem d_M_sets_37 : decode c_M_sets 37 = .ok (.getfield 50, 3) := by decide +kernel
theorem d_M_sets_40 : decode c_M_sets 40 = .ok (.iload_n 3, 1) := by decide +kernel
theorem d_M_sets_41 : decode c_M_sets 41 = .ok (.iaload, 1) := by decide +kernel
theorem d_M_sets_42 : decode c_M_sets 42 = .ok (.iload_n 3, 1) := by decide +kernel
theorem d_M_sets_43 : decode c_M_sets 43 = .ok (.aload_n 0, 1) := by decide +kernel
theorem d_M_sets_44 : decode c_M_sets 44 = .ok (.getfield 61, 3) := by decide +kernel
theorem d_M_sets_47 : decode c_M_sets 47 = .ok (.if_icmp .ge 12, 3) := by decide +kernel
theorem d_M_sets_50 : decode c_M_sets 50 = .ok (.aload_n 0, 1) := by decide +kernel
theorem d_M_sets_51 : decode c_M_sets 51 = .ok (.getfield 32, 3) := by decide +kernel
theorem d_M_sets_54 : decode c_M_sets 54 = .ok (.iload_n 3, 1) := by decide +kernel
theorem d_M_sets_55 : decode c_M_sets 55 = .ok (.iaload, 1) := by decide +kernel
theorem d_M_sets_56 : decode c_M_sets 56 = .ok (.goto 4, 3) := by decide +kernel
theorem d_M_sets_59 : decode c_M_sets 59 = .ok (.iconst 0, 1) := by decide +kernel
theorem d_M_sets_60 : decode c_M_sets 60 = .ok (.if_icmp .le 5, 3) := by decide +kernel
theorem d_M_sets_63 : decode c_M_sets 63 = .ok (.iconst 0, 1) := by decide +kernel
theorem d_M_sets_64 : decode c_M_sets 64 = .ok (.ireturn, 1) := by decide +kernel
theorem d_M_sets_65 : decode c_M_sets 65 = .ok (.iinc 3 1, 3) := by decide +kernel
theorem d_M_sets_68 : decode c_M_sets 68 = .ok (.goto (-37), 3) := by decide +kernel
theorem d_M_sets_71 : decode c_M_sets 71 = .ok (.iconst 1, 1) := by decide +kernel
theorem d_M_sets_72 : decode c_M_sets 72 = .ok (.ireturn, 1) := by decide +kernel
theorem d_M_run_0 : decode c_M_run 0 = .ok (.aload_n 0, 1) := by decide +kernel
theorem d_M_run_1 : decode c_M_run 1 = .ok (.iload_n 1, 1) := by decide +kernel
theorem d_M_run_2 : decode c_M_run 2 = .ok (.iconst 0, 1) := by decide +kernel
theorem d_M_run_3 : decode c_M_run 3 = .ok (.ldc 97, 2) := by decide +kernel
theorem d_M_run_5 : decode c_M_run 5 = .ok (.invokestatic 57, 3) := by decide +kernel
theorem d_M_run_8 : decode c_M_run 8 = .ok (.iconst 1, 1) := by decide +kernel
theorem d_M_run_9 : decode c_M_run 9 = .ok (.invokevirtual 68, 3) := by decide +kernel
theorem d_M_run_12 : decode c_M_run 12 = .ok (.ifCond .ne 5, 3) := by decide +kernel
theorem d_M_run_15 : decode c_M_run 15 = .ok (.iconst 0, 1) := by decide +kernel
theorem d_M_run_16 : decode c_M_run 16 = .ok (.ireturn, 1) := by decide +kernel
theorem d_M_run_17 : decode c_M_run 17 = .ok (.sipush 28561, 3) := by decide +kernel
theorem d_M_run_20 : decode c_M_run 20 = .ok (.istore_n 2, 1) := by decide +kernel
theorem d_M_run_21 : decode c_M_run 21 = .ok (.iconst (-1), 1) := by decide +kernel
theorem d_M_run_22 : decode c_M_run 22 = .ok (.istore_n 3, 1) := by decide +kernel
theorem d_M_run_23 : decode c_M_run 23 = .ok (.iconst 0, 1) := by decide +kernel
theorem d_M_run_24 : decode c_M_run 24 = .ok (.istore 4, 2) := by decide +kernel
theorem d_M_run_26 : decode c_M_run 26 = .ok (.iconst 0, 1) := by decide +kernel
theorem d_M_run_27 : decode c_M_run 27 = .ok (.istore 5, 2) := by decide +kernel
theorem d_M_run_29 : decode c_M_run 29 = .ok (.iconst 0, 1) := by decide +kernel
theorem d_M_run_30 : decode c_M_run 30 = .ok (.istore 6, 2) := by decide +kernel
theorem d_M_run_32 : decode c_M_run 32 = .ok (.iconst 0, 1) := by decide +kernel
theorem d_M_run_33 : decode c_M_run 33 = .ok (.istore 7, 2) := by decide +kernel
theorem d_M_run_35 : decode c_M_run 35 = .ok (.iload 7, 2) := by decide +kernel
theorem d_M_run_37 : decode c_M_run 37 = .ok (.iload_n 2, 1) := by decide +kernel
theorem d_M_run_38 : decode c_M_run 38 = .ok (.if_icmp .ge 122, 3) := by decide +kernel
theorem d_M_run_41 : decode c_M_run 41 = .ok (.aload_n 0, 1) := by decide +kernel
theorem d_M_run_42 : decode c_M_run 42 = .ok (.iload 7, 2) := by decide +kernel
theorem d_M_run_44 : decode c_M_run 44 = .ok (.invokevirtual 98, 3) := by decide +kernel
theorem d_M_run_47 : decode c_M_run 47 = .ok (.ifCond .eq 107, 3) := by decide +kernel
theorem d_M_run_50 : decode c_M_run 50 = .ok (.aload_n 0, 1) := by decide +kernel
theorem d_M_run_51 : decode c_M_run 51 = .ok (.invokevirtual 101, 3) := by decide +kernel
theorem d_M_run_54 : decode c_M_run 54 = .ok (.iload_n 1, 1) := by decide +kernel
theorem d_M_run_55 : decode c_M_run 55 = .ok (.if_icmp .le 6, 3) := by decide +kernel
theorem d_M_run_58 : decode c_M_run 58 = .ok (.goto 96, 3) := by decide +kernel
theorem d_M_run_61 : decode c_M_run 61 = .ok (.iconst 0, 1) := by decide +kernel
theorem d_M_run_62 : decode c_M_run 62 = .ok (.istore 8, 2) := by decide +kernel
theorem d_M_run_64 : decode c_M_run 64 = .ok (.iload 8, 2) := by decide +kernel
theorem d_M_run_66 : decode c_M_run 66 = .ok (.iconst 4, 1) := by decide +kernel
theorem d_M_run_67 : decode c_M_run 67 = .ok (.if_icmp .ge 18, 3) := by decide +kernel
theorem d_M_run_70 : decode c_M_run 70 = .ok (.aload_n 0, 1) := by decide +kernel
theorem d_M_run_71 : decode c_M_run 71 = .ok (.iload 8, 2) := by decide +kernel
theorem d_M_run_73 : decode c_M_run 73 = .ok (.invokevirtual 104, 3) := by decide +kernel
theorem d_M_run_76 : decode c_M_run 76 = .ok (.ifCond .eq 9, 3) := by decide +kernel
theorem d_M_run_79 : decode c_M_run 79 = .ok (.iinc 8 1, 3) := by decide +kernel
theorem d_M_run_82 : decode c_M_run 82 = .ok (.goto (-18), 3) := by decide +kernel
theorem d_M_run_85 : decode c_M_run 85 = .ok (.iload 8, 2) := by decide +kernel
theorem d_M_run_87 : decode c_M_run 87 = .ok (.iload 6, 2) := by decide +kernel
theorem d_M_run_89 : decode c_M_run 89 = .ok (.if_icmp .le 7, 3) := by decide +kernel
theorem d_M_run_92 : decode c_M_run 92 = .ok (.iload 8, 2) := by decide +kernel
theorem d_M_run_94 : decode c_M_run 94 = .ok (.istore 6, 2) := by decide +kernel
theorem d_M_run_96 : decode c_M_run 96 = .ok (.iload 8, 2) := by decide +kernel
theorem d_M_run_98 : decode c_M_run 98 = .ok (.iconst 4, 1) := by decide +kernel
theorem d_M_run_99 : decode c_M_run 99 = .ok (.if_icmp .ge 6, 3) := by decide +kernel
theorem d_M_run_102 : decode c_M_run 102 = .ok (.goto 52, 3) := by decide +kernel
theorem d_M_run_105 : decode c_M_run 105 = .ok (.iload_n 3, 1) := by decide +kernel
theorem d_M_run_106 : decode c_M_run 106 = .ok (.ifCond .lt 33, 3) := by decide +kernel
theorem d_M_run_109 : decode c_M_run 109 = .ok (.aload_n 0, 1) := by decide +kernel
theorem d_M_run_110 : decode c_M_run 110 = .ok (.invokevirtual 107, 3) := by decide +kernel
theorem d_M_run_113 : decode c_M_run 113 = .ok (.iload 4, 2) := by decide +kernel
theorem d_M_run_115 : decode c_M_run 115 = .ok (.if_icmp .gt 39, 3) := by decide +kernel
theorem d_M_run_118 : decode c_M_run 118 = .ok (.aload_n 0, 1) := by decide +kernel
theorem d_M_run_119 : decode c_M_run 119 = .ok (.invokevirtual 107, 3) := by decide +kernel
theorem d_M_run_122 : decode c_M_run 122 = .ok (.iload 4, 2) := by decide +kernel
theorem d_M_run_124 : decode c_M_run 124 = .ok (.if_icmp .ne 15, 3) := by decide +kernel
theorem d_M_run_127 : decode c_M_run 127 = .ok (.aload_n 0, 1) := by decide +kernel
theorem d_M_run_128 : decode c_M_run 128 = .ok (.invokevirtual 110, 3) := by decide +kernel
theorem d_M_run_131 : decode c_M_run 131 = .ok (.iload 5, 2) := by decide +kernel
theorem d_M_run_133 : decode c_M_run 133 = .ok (.if_icmp .lt 6, 3) := by decide +kernel
theorem d_M_run_136 : decode c_M_run 136 = .ok (.goto 18, 3) := by decide +kernel
theorem d_M_run_139 : decode c_M_run 139 = .ok (.iload 7, 2) := by decide +kernel
theorem d_M_run_141 : decode c_M_run 141 = .ok (.istore_n 3, 1) := by decide +kernel
theorem d_M_run_142 : decode c_M_run 142 = .ok (.aload_n 0, 1) := by decide +kernel
theorem d_M_run_143 : decode c_M_run 143 = .ok (.invokevirtual 107, 3) := by decide +kernel
theorem d_M_run_146 : decode c_M_run 146 = .ok (.istore 4, 2) := by decide +kernel
theorem d_M_run_148 : decode c_M_run 148 = .ok (.aload_n 0, 1) := by decide +kernel
theorem d_M_run_149 : decode c_M_run 149 = .ok (.invokevirtual 110, 3) := by decide +kernel
theorem d_M_run_152 : decode c_M_run 152 = .ok (.istore 5, 2) := by decide +kernel
theorem d_M_run_154 : decode c_M_run 154 = .ok (.iinc 7 1, 3) := by decide +kernel
theorem d_M_run_157 : decode c_M_run 157 = .ok (.goto (-122), 3) := by decide +kernel
theorem d_M_run_160 : decode c_M_run 160 = .ok (.aload_n 0, 1) := by decide +kernel
theorem d_M_run_161 : decode c_M_run 161 = .ok (.iload_n 3, 1) := by decide +kernel
theorem d_M_run_162 : decode c_M_run 162 = .ok (.ifCond .lt 7, 3) := by decide +kernel
theorem d_M_run_165 : decode c_M_run 165 = .ok (.iconst 1, 1) := by decide +kernel
theorem d_M_run_166 : decode c_M_run 166 = .ok (.goto 4, 3) := by decide +kernel
theorem d_M_run_169 : decode c_M_run 169 = .ok (.iconst 0, 1) := by decide +kernel
theorem d_M_run_170 : decode c_M_run 170 = .ok (.putfield 72, 3) := by decide +kernel
theorem d_M_run_173 : decode c_M_run 173 = .ok (.aload_n 0, 1) := by decide +kernel
theorem d_M_run_174 : decode c_M_run 174 = .ok (.getfield 72, 3) := by decide +kernel
theorem d_M_run_177 : decode c_M_run 177 = .ok (.ifCond .ne 8, 3) := by decide +kernel
theorem d_M_run_180 : decode c_M_run 180 = .ok (.iconst 1, 1) := by decide +kernel
theorem d_M_run_181 : decode c_M_run 181 = .ok (.iload 6, 2) := by decide +kernel
theorem d_M_run_183 : decode c_M_run 183 = .ok (.iadd, 1) := by decide +kernel
theorem d_M_run_184 : decode c_M_run 184 = .ok (.ireturn, 1) := by decide +kernel
theorem d_M_run_185 : decode c_M_run 185 = .ok (.aload_n 0, 1) := by decide +kernel
theorem d_M_run_186 : decode c_M_run 186 = .ok (.iload_n 3, 1) := by decide +kernel
theorem d_M_run_187 : decode c_M_run 187 = .ok (.invokevirtual 98, 3) := by decide +kernel
theorem d_M_run_190 : decode c_M_run 190 = .ok (.istore 7, 2) := by decide +kernel
theorem d_M_run_192 : decode c_M_run 192 = .ok (.iconst 0, 1) := by decide +kernel
theorem d_M_run_193 : decode c_M_run 193 = .ok (.istore 8, 2) := by decide +kernel
theorem d_M_run_195 : decode c_M_run 195 = .ok (.iload 8, 2) := by decide +kernel
theorem d_M_run_197 : decode c_M_run 197 = .ok (.iconst 4, 1) := by decide +kernel
theorem d_M_run_198 : decode c_M_run 198 = .ok (.if_icmp .ge 28, 3) := by decide +kernel
theorem d_M_run_201 : decode c_M_run 201 = .ok (.iload 7, 2) := by decide +kernel
theorem d_M_run_203 : decode c_M_run 203 = .ok (.ifCond .eq 23, 3) := by decide +kernel
theorem d_M_run_206 : decode c_M_run 206 = .ok (.aload_n 0, 1) := by decide +kernel
theorem d_M_run_207 : decode c_M_run 207 = .ok (.getfield 47, 3) := by decide +kernel
theorem d_M_run_210 : decode c_M_run 210 = .ok (.iload 8, 2) := by decide +kernel
theorem d_M_run_212 : decode c_M_run 212 = .ok (.aload_n 0, 1) := by decide +kernel
theorem d_M_run_213 : decode c_M_run 213 = .ok (.getfield 50, 3) := by decide +kernel
theorem d_M_run_216 : decode c_M_run 216 = .ok (.iload 8, 2) := by decide +kernel
theorem d_M_run_218 : decode c_M_run 218 = .ok (.iaload, 1) := by decide +kernel
theorem d_M_run_219 : decode c_M_run 219 = .ok (.iastore, 1) := by decide +kernel
theorem d_M_run_220 : decode c_M_run 220 = .ok (.iinc 8 1, 3) := by decide +kernel
theorem d_M_run_223 : decode c_M_run 223 = .ok (.goto (-28), 3) := by decide +kernel
theorem d_M_run_226 : decode c_M_run 226 = .ok (.iconst 0, 1) := by decide +kernel
theorem d_M_run_227 : decode c_M_run 227 = .ok (.ireturn, 1) := by decide +kernel
theorem d_M_load_0 : decode c_M_load 0 = .ok (.iconst 0, 1) := by decide +kernel
theorem d_M_load_1 : decode c_M_load 1 = .ok (.istore_n 1, 1) := by decide +kernel
theorem d_M_load_2 : decode c_M_load 2 = .ok (.iload_n 1, 1) := by decide +kernel
theorem d_M_load_3 : decode c_M_load 3 = .ok (.iconst 4, 1) := by decide +kernel
theorem d_M_load_4 : decode c_M_load 4 = .ok (.if_icmp .ge 21, 3) := by decide +kernel
theorem d_M_load_7 : decode c_M_load 7 = .ok (.aload_n 0, 1) := by decide +kernel
theorem d_M_load_8 : decode c_M_load 8 = .ok (.getfield 50, 3) := by decide +kernel
theorem d_M_load_11 : decode c_M_load 11 = .ok (.iload_n 1, 1) := by decide +kernel
theorem d_M_load_12 : decode c_M_load 12 = .ok (.aload_n 0, 1) := by decide +kernel
theorem d_M_load_13 : decode c_M_load 13 = .ok (.getfield 47, 3) := by decide +kernel
theorem d_M_load_16 : decode c_M_load 16 = .ok (.iload_n 1, 1) := by decide +kernel
theorem d_M_load_17 : decode c_M_load 17 = .ok (.iaload, 1) := by decide +kernel
theorem d_M_load_18 : decode c_M_load 18 = .ok (.iastore, 1) := by decide +kernel
theorem d_M_load_19 : decode c_M_load 19 = .ok (.iinc 1 1, 3) := by decide +kernel
theorem d_M_load_22 : decode c_M_load 22 = .ok (.goto (-20), 3) := by decide +kernel
theorem d_M_load_25 : decode c_M_load 25 = .ok (.return_, 1) := by decide +kernel
theorem d_M_steps_0 : decode c_M_steps 0 = .ok (.aload_n 0, 1) := by decide +kernel
theorem d_M_steps_1 : decode c_M_steps 1 = .ok (.aload_n 0, 1) := by decide +kernel
theorem d_M_steps_2 : decode c_M_steps 2 = .ok (.iload_n 1, 1) := by decide +kernel
theorem d_M_steps_3 : decode c_M_steps 3 = .ok (.invokevirtual 84, 3) := by decide +kernel
theorem d_M_steps_6 : decode c_M_steps 6 = .ok (.aload_n 0, 1) := by decide +kernel
theorem d_M_steps_7 : decode c_M_steps 7 = .ok (.getfield 72, 3) := by decide +kernel
theorem d_M_steps_10 : decode c_M_steps 10 = .ok (.invokevirtual 68, 3) := by decide +kernel
theorem d_M_steps_13 : decode c_M_steps 13 = .ok (.ifCond .ne 5, 3) := by decide +kernel
theorem d_M_steps_16 : decode c_M_steps 16 = .ok (.iconst 0, 1) := by decide +kernel
theorem d_M_steps_17 : decode c_M_steps 17 = .ok (.ireturn, 1) := by decide +kernel
theorem d_M_steps_18 : decode c_M_steps 18 = .ok (.aload_n 0, 1) := by decide +kernel
theorem d_M_steps_19 : decode c_M_steps 19 = .ok (.getfield 47, 3) := by decide +kernel
theorem d_M_steps_22 : decode c_M_steps 22 = .ok (.iload_n 1, 1) := by decide +kernel
theorem d_M_steps_23 : decode c_M_steps 23 = .ok (.iaload, 1) := by decide +kernel
theorem d_M_steps_24 : decode c_M_steps 24 = .ok (.ireturn, 1) := by decide +kernel
theorem d_M_planned_0 : decode c_M_planned 0 = .ok (.aload_n 0, 1) := by decide +kernel
theorem d_M_planned_1 : decode c_M_planned 1 = .ok (.iload_n 1, 1) := by decide +kernel
theorem d_M_planned_2 : decode c_M_planned 2 = .ok (.iconst 0, 1) := by decide +kernel
theorem d_M_planned_3 : decode c_M_planned 3 = .ok (.iconst 3, 1) := by decide +kernel
theorem d_M_planned_4 : decode c_M_planned 4 = .ok (.invokestatic 57, 3) := by decide +kernel
theorem d_M_planned_7 : decode c_M_planned 7 = .ok (.aload_n 0, 1) := by decide +kernel
theorem d_M_planned_8 : decode c_M_planned 8 = .ok (.getfield 72, 3) := by decide +kernel
theorem d_M_planned_11 : decode c_M_planned 11 = .ok (.invokevirtual 68, 3) := by decide +kernel
theorem d_M_planned_14 : decode c_M_planned 14 = .ok (.ifCond .ne 5, 3) := by decide +kernel
theorem d_M_planned_17 : decode c_M_planned 17 = .ok (.iconst 0, 1) := by decide +kernel
theorem d_M_planned_18 : decode c_M_planned 18 = .ok (.ireturn, 1) := by decide +kernel
theorem d_M_planned_19 : decode c_M_planned 19 = .ok (.aload_n 0, 1) := by decide +kernel
theorem d_M_planned_20 : decode c_M_planned 20 = .ok (.invokevirtual 113, 3) := by decide +kernel
theorem d_M_planned_23 : decode c_M_planned 23 = .ok (.iload_n 1, 1) := by decide +kernel
theorem d_M_planned_24 : decode c_M_planned 24 = .ok (.ifCond .ne 10, 3) := by decide +kernel
theorem d_M_planned_27 : decode c_M_planned 27 = .ok (.aload_n 0, 1) := by decide +kernel
theorem d_M_planned_28 : decode c_M_planned 28 = .ok (.invokevirtual 107, 3) := by decide +kernel
theorem d_M_planned_31 : decode c_M_planned 31 = .ok (.goto 31, 3) := by decide +kernel
theorem d_M_planned_34 : decode c_M_planned 34 = .ok (.iload_n 1, 1) := by decide +kernel
theorem d_M_planned_35 : decode c_M_planned 35 = .ok (.iconst 1, 1) := by decide +kernel
theorem d_M_planned_36 : decode c_M_planned 36 = .ok (.if_icmp .ne 10, 3) := by decide +kernel
theorem d_M_planned_39 : decode c_M_planned 39 = .ok (.aload_n 0, 1) := by decide +kernel
theorem d_M_planned_40 : decode c_M_planned 40 = .ok (.invokevirtual 89, 3) := by decide +kernel
theorem d_M_planned_43 : decode c_M_planned 43 = .ok (.goto 19, 3) := by decide +kernel
theorem d_M_planned_46 : decode c_M_planned 46 = .ok (.iload_n 1, 1) := by decide +kernel
theorem d_M_planned_47 : decode c_M_planned 47 = .ok (.iconst 2, 1) := by decide +kernel
theorem d_M_planned_48 : decode c_M_planned 48 = .ok (.if_icmp .ne 10, 3) := by decide +kernel
theorem d_M_planned_51 : decode c_M_planned 51 = .ok (.aload_n 0, 1) := by decide +kernel
theorem d_M_planned_52 : decode c_M_planned 52 = .ok (.invokevirtual 110, 3) := by decide +kernel
theorem d_M_planned_55 : decode c_M_planned 55 = .ok (.goto 7, 3) := by decide +kernel
theorem d_M_planned_58 : decode c_M_planned 58 = .ok (.aload_n 0, 1) := by decide +kernel
theorem d_M_planned_59 : decode c_M_planned 59 = .ok (.invokevirtual 101, 3) := by decide +kernel
theorem d_M_planned_62 : decode c_M_planned 62 = .ok (.ireturn, 1) := by decide +kernel
theorem d_M_order_0 : decode c_M_order 0 = .ok (.aload_n 0, 1) := by decide +kernel
theorem d_M_order_1 : decode c_M_order 1 = .ok (.iload_n 1, 1) := by decide +kernel
theorem d_M_order_2 : decode c_M_order 2 = .ok (.ifCond .lt 7, 3) := by decide +kernel
theorem d_M_order_5 : decode c_M_order 5 = .ok (.iconst 1, 1) := by decide +kernel
theorem d_M_order_6 : decode c_M_order 6 = .ok (.goto 4, 3) := by decide +kernel
theorem d_M_order_9 : decode c_M_order 9 = .ok (.iconst 0, 1) := by decide +kernel
theorem d_M_order_10 : decode c_M_order 10 = .ok (.aload_n 0, 1) := by decide +kernel
theorem d_M_order_11 : decode c_M_order 11 = .ok (.getfield 72, 3) := by decide +kernel
theorem d_M_order_14 : decode c_M_order 14 = .ok (.invokevirtual 68, 3) := by decide +kernel
theorem d_M_order_17 : decode c_M_order 17 = .ok (.ifCond .ne 5, 3) := by decide +kernel
theorem d_M_order_20 : decode c_M_order 20 = .ok (.iconst 0, 1) := by decide +kernel
theorem d_M_order_21 : decode c_M_order 21 = .ok (.ireturn, 1) := by decide +kernel
theorem d_M_order_22 : decode c_M_order 22 = .ok (.iload_n 1, 1) := by decide +kernel
theorem d_M_order_23 : decode c_M_order 23 = .ok (.istore_n 2, 1) := by decide +kernel
theorem d_M_order_24 : decode c_M_order 24 = .ok (.sipush 1000, 3) := by decide +kernel
theorem d_M_order_27 : decode c_M_order 27 = .ok (.istore_n 3, 1) := by decide +kernel
theorem d_M_order_28 : decode c_M_order 28 = .ok (.iload_n 3, 1) := by decide +kernel
theorem d_M_order_29 : decode c_M_order 29 = .ok (.ifCond .lt 61, 3) := by decide +kernel
theorem d_M_order_32 : decode c_M_order 32 = .ok (.iconst 0, 1) := by decide +kernel
theorem d_M_order_33 : decode c_M_order 33 = .ok (.istore 4, 2) := by decide +kernel
theorem d_M_order_35 : decode c_M_order 35 = .ok (.iload 4, 2) := by decide +kernel
theorem d_M_order_37 : decode c_M_order 37 = .ok (.aload_n 0, 1) := by decide +kernel
theorem d_M_order_38 : decode c_M_order 38 = .ok (.getfield 61, 3) := by decide +kernel
theorem d_M_order_41 : decode c_M_order 41 = .ok (.if_icmp .ge 43, 3) := by decide +kernel
theorem d_M_order_44 : decode c_M_order 44 = .ok (.aload_n 0, 1) := by decide +kernel
theorem d_M_order_45 : decode c_M_order 45 = .ok (.getfield 44, 3) := by decide +kernel
theorem d_M_order_48 : decode c_M_order 48 = .ok (.iload 4, 2) := by decide +kernel
theorem d_M_order_50 : decode c_M_order 50 = .ok (.iaload, 1) := by decide +kernel
theorem d_M_order_51 : decode c_M_order 51 = .ok (.iload_n 3, 1) := by decide +kernel
theorem d_M_order_52 : decode c_M_order 52 = .ok (.if_icmp .ne 26, 3) := by decide +kernel
theorem d_M_order_55 : decode c_M_order 55 = .ok (.aload_n 0, 1) := by decide +kernel
theorem d_M_order_56 : decode c_M_order 56 = .ok (.getfield 47, 3) := by decide +kernel
theorem d_M_order_59 : decode c_M_order 59 = .ok (.iload 4, 2) := by decide +kernel
theorem d_M_order_61 : decode c_M_order 61 = .ok (.iaload, 1) := by decide +kernel
theorem d_M_order_62 : decode c_M_order 62 = .ok (.ifCond .ne 6, 3) := by decide +kernel
theorem d_M_order_65 : decode c_M_order 65 = .ok (.goto 13, 3) := by decide +kernel
theorem d_M_order_68 : decode c_M_order 68 = .ok (.iload_n 2, 1) := by decide +kernel
theorem d_M_order_69 : decode c_M_order 69 = .ok (.ifCond .ne 6, 3) := by decide +kernel
theorem d_M_order_72 : decode c_M_order 72 = .ok (.iload 4, 2) := by decide +kernel
theorem d_M_order_74 : decode c_M_order 74 = .ok (.ireturn, 1) := by decide +kernel
theorem d_M_order_75 : decode c_M_order 75 = .ok (.iinc 2 (-1), 3) := by decide +kernel
theorem d_M_order_78 : decode c_M_order 78 = .ok (.iinc 4 1, 3) := by decide +kernel
theorem d_M_order_81 : decode c_M_order 81 = .ok (.goto (-46), 3) := by decide +kernel
theorem d_M_order_84 : decode c_M_order 84 = .ok (.iinc 3 (-1), 3) := by decide +kernel
theorem d_M_order_87 : decode c_M_order 87 = .ok (.goto (-59), 3) := by decide +kernel
theorem d_M_order_90 : decode c_M_order 90 = .ok (.iconst (-1), 1) := by decide +kernel
theorem d_M_order_91 : decode c_M_order 91 = .ok (.ireturn, 1) := by decide +kernel
theorem d_M_after_0 : decode c_M_after 0 = .ok (.aload_n 0, 1) := by decide +kernel
theorem d_M_after_1 : decode c_M_after 1 = .ok (.iload_n 1, 1) := by decide +kernel
theorem d_M_after_2 : decode c_M_after 2 = .ok (.invokestatic 76, 3) := by decide +kernel
theorem d_M_after_5 : decode c_M_after 5 = .ok (.ifCond .eq 25, 3) := by decide +kernel
theorem d_M_after_8 : decode c_M_after 8 = .ok (.iload_n 2, 1) := by decide +kernel
theorem d_M_after_9 : decode c_M_after 9 = .ok (.iconst 0, 1) := by decide +kernel
theorem d_M_after_10 : decode c_M_after 10 = .ok (.iconst 1, 1) := by decide +kernel
theorem d_M_after_11 : decode c_M_after 11 = .ok (.invokestatic 57, 3) := by decide +kernel
theorem d_M_after_14 : decode c_M_after 14 = .ok (.ifCond .eq 16, 3) := by decide +kernel
theorem d_M_after_17 : decode c_M_after 17 = .ok (.iload_n 3, 1) := by decide +kernel
theorem d_M_after_18 : decode c_M_after 18 = .ok (.iconst 0, 1) := by decide +kernel
theorem d_M_after_19 : decode c_M_after 19 = .ok (.iconst 1, 1) := by decide +kernel
theorem d_M_after_20 : decode c_M_after 20 = .ok (.invokestatic 57, 3) := by decide +kernel
theorem d_M_after_23 : decode c_M_after 23 = .ok (.ifCond .eq 7, 3) := by decide +kernel
theorem d_M_after_26 : decode c_M_after 26 = .ok (.iconst 1, 1) := by decide +kernel
theorem d_M_after_27 : decode c_M_after 27 = .ok (.goto 4, 3) := by decide +kernel
theorem d_M_after_30 : decode c_M_after 30 = .ok (.iconst 0, 1) := by decide +kernel
theorem d_M_after_31 : decode c_M_after 31 = .ok (.aload_n 0, 1) := by decide +kernel
theorem d_M_after_32 : decode c_M_after 32 = .ok (.getfield 72, 3) := by decide +kernel
theorem d_M_after_35 : decode c_M_after 35 = .ok (.invokevirtual 68, 3) := by decide +kernel
theorem d_M_after_38 : decode c_M_after 38 = .ok (.ifCond .ne 5, 3) := by decide +kernel
theorem d_M_after_41 : decode c_M_after 41 = .ok (.lconst 0, 1) := by decide +kernel
theorem d_M_after_42 : decode c_M_after 42 = .ok (.lreturn, 1) := by decide +kernel
theorem d_M_after_43 : decode c_M_after 43 = .ok (.aload_n 0, 1) := by decide +kernel
theorem d_M_after_44 : decode c_M_after 44 = .ok (.invokevirtual 113, 3) := by decide +kernel
theorem d_M_after_47 : decode c_M_after 47 = .ok (.aload_n 0, 1) := by decide +kernel
theorem d_M_after_48 : decode c_M_after 48 = .ok (.iload_n 1, 1) := by decide +kernel
theorem d_M_after_49 : decode c_M_after 49 = .ok (.iload_n 2, 1) := by decide +kernel
theorem d_M_after_50 : decode c_M_after 50 = .ok (.invokevirtual 93, 3) := by decide +kernel
theorem d_M_after_53 : decode c_M_after 53 = .ok (.lstore 4, 2) := by decide +kernel
theorem d_M_after_55 : decode c_M_after 55 = .ok (.ldc2_w 87, 3) := by decide +kernel
theorem d_M_after_58 : decode c_M_after 58 = .ok (.aload_n 0, 1) := by decide +kernel
theorem d_M_after_59 : decode c_M_after 59 = .ok (.getfield 7, 3) := by decide +kernel
theorem d_M_after_62 : decode c_M_after 62 = .ok (.aload_n 0, 1) := by decide +kernel
theorem d_M_after_63 : decode c_M_after 63 = .ok (.invokevirtual 89, 3) := by decide +kernel
theorem d_M_after_66 : decode c_M_after 66 = .ok (.iadd, 1) := by decide +kernel
theorem d_M_after_67 : decode c_M_after 67 = .ok (.i2l, 1) := by decide +kernel
theorem d_M_after_68 : decode c_M_after 68 = .ok (.lmul, 1) := by decide +kernel
theorem d_M_after_69 : decode c_M_after 69 = .ok (.lstore 6, 2) := by decide +kernel
theorem d_M_after_71 : decode c_M_after 71 = .ok (.lload 6, 2) := by decide +kernel
theorem d_M_after_73 : decode c_M_after 73 = .ok (.lstore 8, 2) := by decide +kernel
theorem d_M_after_75 : decode c_M_after 75 = .ok (.lload 4, 2) := by decide +kernel
theorem d_M_after_77 : decode c_M_after 77 = .ok (.lstore 10, 2) := by decide +kernel
theorem d_M_after_79 : decode c_M_after 79 = .ok (.lload 10, 2) := by decide +kernel
theorem d_M_after_81 : decode c_M_after 81 = .ok (.lconst 0, 1) := by decide +kernel
theorem d_M_after_82 : decode c_M_after 82 = .ok (.lcmp, 1) := by decide +kernel
theorem d_M_after_83 : decode c_M_after 83 = .ok (.ifCond .le 21, 3) := by decide +kernel
theorem d_M_after_86 : decode c_M_after 86 = .ok (.lload 8, 2) := by decide +kernel
theorem d_M_after_88 : decode c_M_after 88 = .ok (.lload 10, 2) := by decide +kernel
theorem d_M_after_90 : decode c_M_after 90 = .ok (.lrem, 1) := by decide +kernel
theorem d_M_after_91 : decode c_M_after 91 = .ok (.lstore 12, 2) := by decide +kernel
theorem d_M_after_93 : decode c_M_after 93 = .ok (.lload 10, 2) := by decide +kernel
theorem d_M_after_95 : decode c_M_after 95 = .ok (.lstore 8, 2) := by decide +kernel
theorem d_M_after_97 : decode c_M_after 97 = .ok (.lload 12, 2) := by decide +kernel
theorem d_M_after_99 : decode c_M_after 99 = .ok (.lstore 10, 2) := by decide +kernel
theorem d_M_after_101 : decode c_M_after 101 = .ok (.goto (-22), 3) := by decide +kernel
theorem d_M_after_104 : decode c_M_after 104 = .ok (.iload_n 3, 1) := by decide +kernel
theorem d_M_after_105 : decode c_M_after 105 = .ok (.ifCond .ne 8, 3) := by decide +kernel
theorem d_M_after_108 : decode c_M_after 108 = .ok (.lload 4, 2) := by decide +kernel
theorem d_M_after_110 : decode c_M_after 110 = .ok (.goto 5, 3) := by decide +kernel
theorem d_M_after_113 : decode c_M_after 113 = .ok (.lload 6, 2) := by decide +kernel
theorem d_M_after_115 : decode c_M_after 115 = .ok (.lload 8, 2) := by decide +kernel
theorem d_M_after_117 : decode c_M_after 117 = .ok (.ldiv, 1) := by decide +kernel
theorem d_M_after_118 : decode c_M_after 118 = .ok (.lreturn, 1) := by decide +kernel
theorem d_M_add_0 : decode c_M_add 0 = .ok (.aload_n 0, 1) := by decide +kernel
theorem d_M_add_1 : decode c_M_add 1 = .ok (.invokevirtual 113, 3) := by decide +kernel
theorem d_M_add_4 : decode c_M_add 4 = .ok (.aload_n 0, 1) := by decide +kernel
theorem d_M_add_5 : decode c_M_add 5 = .ok (.aload_n 0, 1) := by decide +kernel
theorem d_M_add_6 : decode c_M_add 6 = .ok (.getfield 72, 3) := by decide +kernel
theorem d_M_add_9 : decode c_M_add 9 = .ok (.aload_n 0, 1) := by decide +kernel
theorem d_M_add_10 : decode c_M_add 10 = .ok (.getfield 7, 3) := by decide +kernel
theorem d_M_add_13 : decode c_M_add 13 = .ok (.aload_n 0, 1) := by decide +kernel
theorem d_M_add_14 : decode c_M_add 14 = .ok (.invokevirtual 89, 3) := by decide +kernel
theorem d_M_add_17 : decode c_M_add 17 = .ok (.iadd, 1) := by decide +kernel
theorem d_M_add_18 : decode c_M_add 18 = .ok (.ldc 67, 2) := by decide +kernel
theorem d_M_add_20 : decode c_M_add 20 = .ok (.if_icmp .gt 7, 3) := by decide +kernel
theorem d_M_add_23 : decode c_M_add 23 = .ok (.iconst 1, 1) := by decide +kernel
theorem d_M_add_24 : decode c_M_add 24 = .ok (.goto 4, 3) := by decide +kernel
theorem d_M_add_27 : decode c_M_add 27 = .ok (.iconst 0, 1) := by decide +kernel
theorem d_M_add_28 : decode c_M_add 28 = .ok (.invokevirtual 68, 3) := by decide +kernel
theorem d_M_add_31 : decode c_M_add 31 = .ok (.ifCond .ne 5, 3) := by decide +kernel
theorem d_M_add_34 : decode c_M_add 34 = .ok (.iconst 0, 1) := by decide +kernel
theorem d_M_add_35 : decode c_M_add 35 = .ok (.ireturn, 1) := by decide +kernel
theorem d_M_add_36 : decode c_M_add 36 = .ok (.ldc2_w 87, 3) := by decide +kernel
theorem d_M_add_39 : decode c_M_add 39 = .ok (.aload_n 0, 1) := by decide +kernel
theorem d_M_add_40 : decode c_M_add 40 = .ok (.getfield 7, 3) := by decide +kernel
theorem d_M_add_43 : decode c_M_add 43 = .ok (.aload_n 0, 1) := by decide +kernel
theorem d_M_add_44 : decode c_M_add 44 = .ok (.invokevirtual 89, 3) := by decide +kernel
theorem d_M_add_47 : decode c_M_add 47 = .ok (.iadd, 1) := by decide +kernel
theorem d_M_add_48 : decode c_M_add 48 = .ok (.i2l, 1) := by decide +kernel
theorem d_M_add_49 : decode c_M_add 49 = .ok (.lmul, 1) := by decide +kernel
theorem d_M_add_50 : decode c_M_add 50 = .ok (.lstore_n 1, 1) := by decide +kernel
theorem d_M_add_51 : decode c_M_add 51 = .ok (.iconst 0, 1) := by decide +kernel
theorem d_M_add_52 : decode c_M_add 52 = .ok (.istore_n 3, 1) := by decide +kernel
theorem d_M_add_53 : decode c_M_add 53 = .ok (.iload_n 3, 1) := by decide +kernel
theorem d_M_add_54 : decode c_M_add 54 = .ok (.iconst 4, 1) := by decide +kernel
theorem d_M_add_55 : decode c_M_add 55 = .ok (.if_icmp .ge 51, 3) := by decide +kernel
theorem d_M_add_58 : decode c_M_add 58 = .ok (.aload_n 0, 1) := by decide +kernel
theorem d_M_add_59 : decode c_M_add 59 = .ok (.iload_n 3, 1) := by decide +kernel
theorem d_M_add_60 : decode c_M_add 60 = .ok (.iconst 0, 1) := by decide +kernel
theorem d_M_add_61 : decode c_M_add 61 = .ok (.invokevirtual 93, 3) := by decide +kernel
theorem d_M_add_64 : decode c_M_add 64 = .ok (.lstore 4, 2) := by decide +kernel
theorem d_M_add_66 : decode c_M_add 66 = .ok (.aload_n 0, 1) := by decide +kernel
theorem d_M_add_67 : decode c_M_add 67 = .ok (.iload_n 3, 1) := by decide +kernel
theorem d_M_add_68 : decode c_M_add 68 = .ok (.iconst 1, 1) := by decide +kernel
theorem d_M_add_69 : decode c_M_add 69 = .ok (.invokevirtual 93, 3) := by decide +kernel
theorem d_M_add_72 : decode c_M_add 72 = .ok (.lstore 6, 2) := by decide +kernel
theorem d_M_add_74 : decode c_M_add 74 = .ok (.aload_n 0, 1) := by decide +kernel
theorem d_M_add_75 : decode c_M_add 75 = .ok (.getfield 13, 3) := by decide +kernel
theorem d_M_add_78 : decode c_M_add 78 = .ok (.iload_n 3, 1) := by decide +kernel
theorem d_M_add_79 : decode c_M_add 79 = .ok (.lload 4, 2) := by decide +kernel
theorem d_M_add_81 : decode c_M_add 81 = .ok (.lload_n 1, 1) := by decide +kernel
theorem d_M_add_82 : decode c_M_add 82 = .ok (.ldiv, 1) := by decide +kernel
theorem d_M_add_83 : decode c_M_add 83 = .ok (.l2i, 1) := by decide +kernel
theorem d_M_add_84 : decode c_M_add 84 = .ok (.iastore, 1) := by decide +kernel
theorem d_M_add_85 : decode c_M_add 85 = .ok (.aload_n 0, 1) := by decide +kernel
theorem d_M_add_86 : decode c_M_add 86 = .ok (.getfield 17, 3) := by decide +kernel
theorem d_M_add_89 : decode c_M_add 89 = .ok (.iload_n 3, 1) := by decide +kernel
theorem d_M_add_90 : decode c_M_add 90 = .ok (.lload 6, 2) := by decide +kernel
theorem d_M_add_92 : decode c_M_add 92 = .ok (.lload_n 1, 1) := by decide +kernel
theorem d_M_add_93 : decode c_M_add 93 = .ok (.ladd, 1) := by decide +kernel
theorem d_M_add_94 : decode c_M_add 94 = .ok (.lconst 1, 1) := by decide +kernel
theorem d_M_add_95 : decode c_M_add 95 = .ok (.lsub, 1) := by decide +kernel
theorem d_M_add_96 : decode c_M_add 96 = .ok (.lload_n 1, 1) := by decide +kernel
theorem d_M_add_97 : decode c_M_add 97 = .ok (.ldiv, 1) := by decide +kernel
theorem d_M_add_98 : decode c_M_add 98 = .ok (.l2i, 1) := by decide +kernel
theorem d_M_add_99 : decode c_M_add 99 = .ok (.iastore, 1) := by decide +kernel
theorem d_M_add_100 : decode c_M_add 100 = .ok (.iinc 3 1, 3) := by decide +kernel
theorem d_M_add_103 : decode c_M_add 103 = .ok (.goto (-50), 3) := by decide +kernel
theorem d_M_add_106 : decode c_M_add 106 = .ok (.aload_n 0, 1) := by decide +kernel
theorem d_M_add_107 : decode c_M_add 107 = .ok (.aload_n 0, 1) := by decide +kernel
theorem d_M_add_108 : decode c_M_add 108 = .ok (.getfield 116, 3) := by decide +kernel
theorem d_M_add_111 : decode c_M_add 111 = .ok (.aload_n 0, 1) := by decide +kernel
theorem d_M_add_112 : decode c_M_add 112 = .ok (.invokevirtual 107, 3) := by decide +kernel
theorem d_M_add_115 : decode c_M_add 115 = .ok (.i2l, 1) := by decide +kernel
theorem d_M_add_116 : decode c_M_add 116 = .ok (.ladd, 1) := by decide +kernel
theorem d_M_add_117 : decode c_M_add 117 = .ok (.putfield 116, 3) := by decide +kernel
theorem d_M_add_120 : decode c_M_add 120 = .ok (.aload_n 0, 1) := by decide +kernel
theorem d_M_add_121 : decode c_M_add 121 = .ok (.aload_n 0, 1) := by decide +kernel
theorem d_M_add_122 : decode c_M_add 122 = .ok (.getfield 7, 3) := by decide +kernel
theorem d_M_add_125 : decode c_M_add 125 = .ok (.aload_n 0, 1) := by decide +kernel
theorem d_M_add_126 : decode c_M_add 126 = .ok (.invokevirtual 89, 3) := by decide +kernel
theorem d_M_add_129 : decode c_M_add 129 = .ok (.iadd, 1) := by decide +kernel
theorem d_M_add_130 : decode c_M_add 130 = .ok (.putfield 7, 3) := by decide +kernel
theorem d_M_add_133 : decode c_M_add 133 = .ok (.aload_n 0, 1) := by decide +kernel
theorem d_M_add_134 : decode c_M_add 134 = .ok (.iconst 0, 1) := by decide +kernel
theorem d_M_add_135 : decode c_M_add 135 = .ok (.putfield 72, 3) := by decide +kernel
theorem d_M_add_138 : decode c_M_add 138 = .ok (.aload_n 0, 1) := by decide +kernel
theorem d_M_add_139 : decode c_M_add 139 = .ok (.dup, 1) := by decide +kernel
theorem d_M_add_140 : decode c_M_add 140 = .ok (.getfield 64, 3) := by decide +kernel
theorem d_M_add_143 : decode c_M_add 143 = .ok (.iconst 1, 1) := by decide +kernel
theorem d_M_add_144 : decode c_M_add 144 = .ok (.iadd, 1) := by decide +kernel
theorem d_M_add_145 : decode c_M_add 145 = .ok (.putfield 64, 3) := by decide +kernel
theorem d_M_add_148 : decode c_M_add 148 = .ok (.aload_n 0, 1) := by decide +kernel
theorem d_M_add_149 : decode c_M_add 149 = .ok (.getfield 64, 3) := by decide +kernel
theorem d_M_add_152 : decode c_M_add 152 = .ok (.iconst 1, 1) := by decide +kernel
theorem d_M_add_153 : decode c_M_add 153 = .ok (.isub, 1) := by decide +kernel
theorem d_M_add_154 : decode c_M_add 154 = .ok (.ireturn, 1) := by decide +kernel
theorem d_M_heatAt_0 : decode c_M_heatAt 0 = .ok (.aload_n 0, 1) := by decide +kernel
theorem d_M_heatAt_1 : decode c_M_heatAt 1 = .ok (.iload_n 1, 1) := by decide +kernel
theorem d_M_heatAt_2 : decode c_M_heatAt 2 = .ok (.iconst 0, 1) := by decide +kernel
theorem d_M_heatAt_3 : decode c_M_heatAt 3 = .ok (.bipush 9, 2) := by decide +kernel
theorem d_M_heatAt_5 : decode c_M_heatAt 5 = .ok (.invokestatic 57, 3) := by decide +kernel
theorem d_M_heatAt_8 : decode c_M_heatAt 8 = .ok (.iconst 1, 1) := by decide +kernel
theorem d_M_heatAt_9 : decode c_M_heatAt 9 = .ok (.invokevirtual 68, 3) := by decide +kernel
theorem d_M_heatAt_12 : decode c_M_heatAt 12 = .ok (.ifCond .ne 5, 3) := by decide +kernel
theorem d_M_heatAt_15 : decode c_M_heatAt 15 = .ok (.lconst 0, 1) := by decide +kernel
theorem d_M_heatAt_16 : decode c_M_heatAt 16 = .ok (.lreturn, 1) := by decide +kernel
theorem d_M_heatAt_17 : decode c_M_heatAt 17 = .ok (.iload_n 1, 1) := by decide +kernel
theorem d_M_heatAt_18 : decode c_M_heatAt 18 = .ok (.ifCond .ne 9, 3) := by decide +kernel
theorem d_M_heatAt_21 : decode c_M_heatAt 21 = .ok (.aload_n 0, 1) := by decide +kernel
theorem d_M_heatAt_22 : decode c_M_heatAt 22 = .ok (.getfield 7, 3) := by decide +kernel
theorem d_M_heatAt_25 : decode c_M_heatAt 25 = .ok (.i2l, 1) := by decide +kernel
theorem d_M_heatAt_26 : decode c_M_heatAt 26 = .ok (.lreturn, 1) := by decide +kernel
theorem d_M_heatAt_27 : decode c_M_heatAt 27 = .ok (.iload_n 1, 1) := by decide +kernel
theorem d_M_heatAt_28 : decode c_M_heatAt 28 = .ok (.bipush 9, 2) := by decide +kernel
theorem d_M_heatAt_30 : decode c_M_heatAt 30 = .ok (.if_icmp .ne 8, 3) := by decide +kernel
theorem d_M_heatAt_33 : decode c_M_heatAt 33 = .ok (.aload_n 0, 1) := by decide +kernel
theorem d_M_heatAt_34 : decode c_M_heatAt 34 = .ok (.getfield 116, 3) := by decide +kernel
theorem d_M_heatAt_37 : decode c_M_heatAt 37 = .ok (.lreturn, 1) := by decide +kernel
theorem d_M_heatAt_38 : decode c_M_heatAt 38 = .ok (.iload_n 1, 1) := by decide +kernel
theorem d_M_heatAt_39 : decode c_M_heatAt 39 = .ok (.iconst 2, 1) := by decide +kernel
theorem d_M_heatAt_40 : decode c_M_heatAt 40 = .ok (.irem, 1) := by decide +kernel
theorem d_M_heatAt_41 : decode c_M_heatAt 41 = .ok (.iconst 1, 1) := by decide +kernel
theorem d_M_heatAt_42 : decode c_M_heatAt 42 = .ok (.if_icmp .ne 17, 3) := by decide +kernel
theorem d_M_heatAt_45 : decode c_M_heatAt 45 = .ok (.aload_n 0, 1) := by decide +kernel
theorem d_M_heatAt_46 : decode c_M_heatAt 46 = .ok (.getfield 13, 3) := by decide +kernel
theorem d_M_heatAt_49 : decode c_M_heatAt 49 = .ok (.iload_n 1, 1) := by decide +kernel
theorem d_M_heatAt_50 : decode c_M_heatAt 50 = .ok (.iconst 1, 1) := by decide +kernel
theorem d_M_heatAt_51 : decode c_M_heatAt 51 = .ok (.isub, 1) := by decide +kernel
theorem d_M_heatAt_52 : decode c_M_heatAt 52 = .ok (.iconst 2, 1) := by decide +kernel
theorem d_M_heatAt_53 : decode c_M_heatAt 53 = .ok (.idiv, 1) := by decide +kernel
theorem d_M_heatAt_54 : decode c_M_heatAt 54 = .ok (.iaload, 1) := by decide +kernel
theorem d_M_heatAt_55 : decode c_M_heatAt 55 = .ok (.i2l, 1) := by decide +kernel
theorem d_M_heatAt_56 : decode c_M_heatAt 56 = .ok (.goto 14, 3) := by decide +kernel
theorem d_M_heatAt_59 : decode c_M_heatAt 59 = .ok (.aload_n 0, 1) := by decide +kernel
theorem d_M_heatAt_60 : decode c_M_heatAt 60 = .ok (.getfield 17, 3) := by decide +kernel
theorem d_M_heatAt_63 : decode c_M_heatAt 63 = .ok (.iload_n 1, 1) := by decide +kernel
theorem d_M_heatAt_64 : decode c_M_heatAt 64 = .ok (.iconst 1, 1) := by decide +kernel
theorem d_M_heatAt_65 : decode c_M_heatAt 65 = .ok (.isub, 1) := by decide +kernel
theorem d_M_heatAt_66 : decode c_M_heatAt 66 = .ok (.iconst 2, 1) := by decide +kernel
theorem d_M_heatAt_67 : decode c_M_heatAt 67 = .ok (.idiv, 1) := by decide +kernel
theorem d_M_heatAt_68 : decode c_M_heatAt 68 = .ok (.iaload, 1) := by decide +kernel
theorem d_M_heatAt_69 : decode c_M_heatAt 69 = .ok (.i2l, 1) := by decide +kernel
theorem d_M_heatAt_70 : decode c_M_heatAt 70 = .ok (.lreturn, 1) := by decide +kernel
end
section
theorem d_L_heat_0 : decode c_L_heat 0 = .ok (.aload_n 0, 1) := by decide +kernel
theorem d_L_heat_1 : decode c_L_heat 1 = .ok (.iload_n 1, 1) := by decide +kernel
theorem d_L_heat_2 : decode c_L_heat 2 = .ok (.invokevirtual 7, 3) := by decide +kernel
theorem d_L_heat_5 : decode c_L_heat 5 = .ok (.goto 9, 3) := by decide +kernel
theorem d_L_heat_8 : decode c_L_heat 8 = .ok (.astore_n 2, 1) := by decide +kernel
theorem d_L_heat_9 : decode c_L_heat 9 = .ok (.iconst 1, 1) := by decide +kernel
theorem d_L_heat_10 : decode c_L_heat 10 = .ok (.ireturn, 1) := by decide +kernel
theorem d_L_heat_11 : decode c_L_heat 11 = .ok (.astore_n 2, 1) := by decide +kernel
theorem d_L_heat_12 : decode c_L_heat 12 = .ok (.iconst 2, 1) := by decide +kernel
theorem d_L_heat_13 : decode c_L_heat 13 = .ok (.ireturn, 1) := by decide +kernel
theorem d_L_heat_14 : decode c_L_heat 14 = .ok (.iconst 0, 1) := by decide +kernel
theorem d_L_heat_15 : decode c_L_heat 15 = .ok (.ireturn, 1) := by decide +kernel
theorem d_L_present_0 : decode c_L_present 0 = .ok (.aload_n 0, 1) := by decide +kernel
theorem d_L_present_1 : decode c_L_present 1 = .ok (.iload_n 1, 1) := by decide +kernel
theorem d_L_present_2 : decode c_L_present 2 = .ok (.iload_n 2, 1) := by decide +kernel
theorem d_L_present_3 : decode c_L_present 3 = .ok (.iload_n 3, 1) := by decide +kernel
theorem d_L_present_4 : decode c_L_present 4 = .ok (.invokevirtual 17, 3) := by decide +kernel
theorem d_L_present_7 : decode c_L_present 7 = .ok (.goto 11, 3) := by decide +kernel
theorem d_L_present_10 : decode c_L_present 10 = .ok (.astore 4, 2) := by decide +kernel
theorem d_L_present_12 : decode c_L_present 12 = .ok (.iconst 1, 1) := by decide +kernel
theorem d_L_present_13 : decode c_L_present 13 = .ok (.ireturn, 1) := by decide +kernel
theorem d_L_present_14 : decode c_L_present 14 = .ok (.astore 4, 2) := by decide +kernel
theorem d_L_present_16 : decode c_L_present 16 = .ok (.iconst 2, 1) := by decide +kernel
theorem d_L_present_17 : decode c_L_present 17 = .ok (.ireturn, 1) := by decide +kernel
theorem d_L_present_18 : decode c_L_present 18 = .ok (.iconst 0, 1) := by decide +kernel
theorem d_L_present_19 : decode c_L_present 19 = .ok (.ireturn, 1) := by decide +kernel
theorem d_L_aim_0 : decode c_L_aim 0 = .ok (.aload_n 0, 1) := by decide +kernel
theorem d_L_aim_1 : decode c_L_aim 1 = .ok (.iload_n 1, 1) := by decide +kernel
theorem d_L_aim_2 : decode c_L_aim 2 = .ok (.iload_n 2, 1) := by decide +kernel
theorem d_L_aim_3 : decode c_L_aim 3 = .ok (.iload_n 3, 1) := by decide +kernel
theorem d_L_aim_4 : decode c_L_aim 4 = .ok (.invokevirtual 23, 3) := by decide +kernel
theorem d_L_aim_7 : decode c_L_aim 7 = .ok (.goto 11, 3) := by decide +kernel
theorem d_L_aim_10 : decode c_L_aim 10 = .ok (.astore 4, 2) := by decide +kernel
theorem d_L_aim_12 : decode c_L_aim 12 = .ok (.iconst 1, 1) := by decide +kernel
theorem d_L_aim_13 : decode c_L_aim 13 = .ok (.ireturn, 1) := by decide +kernel
theorem d_L_aim_14 : decode c_L_aim 14 = .ok (.astore 4, 2) := by decide +kernel
theorem d_L_aim_16 : decode c_L_aim 16 = .ok (.iconst 2, 1) := by decide +kernel
theorem d_L_aim_17 : decode c_L_aim 17 = .ok (.ireturn, 1) := by decide +kernel
theorem d_L_aim_18 : decode c_L_aim 18 = .ok (.iconst 0, 1) := by decide +kernel
theorem d_L_aim_19 : decode c_L_aim 19 = .ok (.ireturn, 1) := by decide +kernel
theorem d_L_kind_0 : decode c_L_kind 0 = .ok (.aload 4, 2) := by decide +kernel
theorem d_L_kind_2 : decode c_L_kind 2 = .ok (.iconst 0, 1) := by decide +kernel
theorem d_L_kind_3 : decode c_L_kind 3 = .ok (.aload_n 0, 1) := by decide +kernel
theorem d_L_kind_4 : decode c_L_kind 4 = .ok (.iload_n 1, 1) := by decide +kernel
theorem d_L_kind_5 : decode c_L_kind 5 = .ok (.iload_n 2, 1) := by decide +kernel
theorem d_L_kind_6 : decode c_L_kind 6 = .ok (.iload_n 3, 1) := by decide +kernel
theorem d_L_kind_7 : decode c_L_kind 7 = .ok (.invokevirtual 26, 3) := by decide +kernel
theorem d_L_kind_10 : decode c_L_kind 10 = .ok (.i2l, 1) := by decide +kernel
theorem d_L_kind_11 : decode c_L_kind 11 = .ok (.lastore, 1) := by decide +kernel
theorem d_L_kind_12 : decode c_L_kind 12 = .ok (.goto 11, 3) := by decide +kernel
theorem d_L_kind_15 : decode c_L_kind 15 = .ok (.astore 5, 2) := by decide +kernel
theorem d_L_kind_17 : decode c_L_kind 17 = .ok (.iconst 1, 1) := by decide +kernel
theorem d_L_kind_18 : decode c_L_kind 18 = .ok (.ireturn, 1) := by decide +kernel
theorem d_L_kind_19 : decode c_L_kind 19 = .ok (.astore 5, 2) := by decide +kernel
theorem d_L_kind_21 : decode c_L_kind 21 = .ok (.iconst 2, 1) := by decide +kernel
theorem d_L_kind_22 : decode c_L_kind 22 = .ok (.ireturn, 1) := by decide +kernel
theorem d_L_kind_23 : decode c_L_kind 23 = .ok (.iconst 0, 1) := by decide +kernel
theorem d_L_kind_24 : decode c_L_kind 24 = .ok (.ireturn, 1) := by decide +kernel
theorem d_L_holds_0 : decode c_L_holds 0 = .ok (.aload_n 0, 1) := by decide +kernel
theorem d_L_holds_1 : decode c_L_holds 1 = .ok (.iload_n 1, 1) := by decide +kernel
theorem d_L_holds_2 : decode c_L_holds 2 = .ok (.iload_n 2, 1) := by decide +kernel
theorem d_L_holds_3 : decode c_L_holds 3 = .ok (.iload_n 3, 1) := by decide +kernel
theorem d_L_holds_4 : decode c_L_holds 4 = .ok (.iload 4, 2) := by decide +kernel
theorem d_L_holds_6 : decode c_L_holds 6 = .ok (.invokevirtual 32, 3) := by decide +kernel
theorem d_L_holds_9 : decode c_L_holds 9 = .ok (.goto 11, 3) := by decide +kernel
theorem d_L_holds_12 : decode c_L_holds 12 = .ok (.astore 5, 2) := by decide +kernel
theorem d_L_holds_14 : decode c_L_holds 14 = .ok (.iconst 1, 1) := by decide +kernel
theorem d_L_holds_15 : decode c_L_holds 15 = .ok (.ireturn, 1) := by decide +kernel
theorem d_L_holds_16 : decode c_L_holds 16 = .ok (.astore 5, 2) := by decide +kernel
theorem d_L_holds_18 : decode c_L_holds 18 = .ok (.iconst 2, 1) := by decide +kernel
theorem d_L_holds_19 : decode c_L_holds 19 = .ok (.ireturn, 1) := by decide +kernel
theorem d_L_holds_20 : decode c_L_holds 20 = .ok (.iconst 0, 1) := by decide +kernel
theorem d_L_holds_21 : decode c_L_holds 21 = .ok (.ireturn, 1) := by decide +kernel
theorem d_L_yields_0 : decode c_L_yields 0 = .ok (.aload_n 0, 1) := by decide +kernel
theorem d_L_yields_1 : decode c_L_yields 1 = .ok (.iload_n 1, 1) := by decide +kernel
theorem d_L_yields_2 : decode c_L_yields 2 = .ok (.iload_n 2, 1) := by decide +kernel
theorem d_L_yields_3 : decode c_L_yields 3 = .ok (.iload_n 3, 1) := by decide +kernel
theorem d_L_yields_4 : decode c_L_yields 4 = .ok (.invokevirtual 36, 3) := by decide +kernel
theorem d_L_yields_7 : decode c_L_yields 7 = .ok (.goto 11, 3) := by decide +kernel
theorem d_L_yields_10 : decode c_L_yields 10 = .ok (.astore 4, 2) := by decide +kernel
theorem d_L_yields_12 : decode c_L_yields 12 = .ok (.iconst 1, 1) := by decide +kernel
theorem d_L_yields_13 : decode c_L_yields 13 = .ok (.ireturn, 1) := by decide +kernel
theorem d_L_yields_14 : decode c_L_yields 14 = .ok (.astore 4, 2) := by decide +kernel
theorem d_L_yields_16 : decode c_L_yields 16 = .ok (.iconst 2, 1) := by decide +kernel
theorem d_L_yields_17 : decode c_L_yields 17 = .ok (.ireturn, 1) := by decide +kernel
theorem d_L_yields_18 : decode c_L_yields 18 = .ok (.iconst 0, 1) := by decide +kernel
theorem d_L_yields_19 : decode c_L_yields 19 = .ok (.ireturn, 1) := by decide +kernel
theorem d_L_run_0 : decode c_L_run 0 = .ok (.aload_n 2, 1) := by decide +kernel
theorem d_L_run_1 : decode c_L_run 1 = .ok (.iconst 0, 1) := by decide +kernel
theorem d_L_run_2 : decode c_L_run 2 = .ok (.aload_n 0, 1) := by decide +kernel
theorem d_L_run_3 : decode c_L_run 3 = .ok (.iload_n 1, 1) := by decide +kernel
theorem d_L_run_4 : decode c_L_run 4 = .ok (.invokevirtual 39, 3) := by decide +kernel
theorem d_L_run_7 : decode c_L_run 7 = .ok (.i2l, 1) := by decide +kernel
theorem d_L_run_8 : decode c_L_run 8 = .ok (.lastore, 1) := by decide +kernel
theorem d_L_run_9 : decode c_L_run 9 = .ok (.goto 6, 3) := by decide +kernel
theorem d_L_run_12 : decode c_L_run 12 = .ok (.astore_n 3, 1) := by decide +kernel
theorem d_L_run_13 : decode c_L_run 13 = .ok (.iconst 1, 1) := by decide +kernel
theorem d_L_run_14 : decode c_L_run 14 = .ok (.ireturn, 1) := by decide +kernel
theorem d_L_run_15 : decode c_L_run 15 = .ok (.iconst 0, 1) := by decide +kernel
theorem d_L_run_16 : decode c_L_run 16 = .ok (.ireturn, 1) := by decide +kernel
theorem d_L_steps_0 : decode c_L_steps 0 = .ok (.aload_n 2, 1) := by decide +kernel
theorem d_L_steps_1 : decode c_L_steps 1 = .ok (.iconst 0, 1) := by decide +kernel
theorem d_L_steps_2 : decode c_L_steps 2 = .ok (.aload_n 0, 1) := by decide +kernel
theorem d_L_steps_3 : decode c_L_steps 3 = .ok (.iload_n 1, 1) := by decide +kernel
theorem d_L_steps_4 : decode c_L_steps 4 = .ok (.invokevirtual 43, 3) := by decide +kernel
theorem d_L_steps_7 : decode c_L_steps 7 = .ok (.i2l, 1) := by decide +kernel
theorem d_L_steps_8 : decode c_L_steps 8 = .ok (.lastore, 1) := by decide +kernel
theorem d_L_steps_9 : decode c_L_steps 9 = .ok (.goto 9, 3) := by decide +kernel
theorem d_L_steps_12 : decode c_L_steps 12 = .ok (.astore_n 3, 1) := by decide +kernel
theorem d_L_steps_13 : decode c_L_steps 13 = .ok (.iconst 1, 1) := by decide +kernel
theorem d_L_steps_14 : decode c_L_steps 14 = .ok (.ireturn, 1) := by decide +kernel
theorem d_L_steps_15 : decode c_L_steps 15 = .ok (.astore_n 3, 1) := by decide +kernel
theorem d_L_steps_16 : decode c_L_steps 16 = .ok (.iconst 2, 1) := by decide +kernel
theorem d_L_steps_17 : decode c_L_steps 17 = .ok (.ireturn, 1) := by decide +kernel
theorem d_L_steps_18 : decode c_L_steps 18 = .ok (.iconst 0, 1) := by decide +kernel
theorem d_L_steps_19 : decode c_L_steps 19 = .ok (.ireturn, 1) := by decide +kernel
theorem d_L_planned_0 : decode c_L_planned 0 = .ok (.aload_n 2, 1) := by decide +kernel
theorem d_L_planned_1 : decode c_L_planned 1 = .ok (.iconst 0, 1) := by decide +kernel
theorem d_L_planned_2 : decode c_L_planned 2 = .ok (.aload_n 0, 1) := by decide +kernel
theorem d_L_planned_3 : decode c_L_planned 3 = .ok (.iload_n 1, 1) := by decide +kernel
theorem d_L_planned_4 : decode c_L_planned 4 = .ok (.invokevirtual 46, 3) := by decide +kernel
theorem d_L_planned_7 : decode c_L_planned 7 = .ok (.i2l, 1) := by decide +kernel
theorem d_L_planned_8 : decode c_L_planned 8 = .ok (.lastore, 1) := by decide +kernel
theorem d_L_planned_9 : decode c_L_planned 9 = .ok (.goto 9, 3) := by decide +kernel
theorem d_L_planned_12 : decode c_L_planned 12 = .ok (.astore_n 3, 1) := by decide +kernel
theorem d_L_planned_13 : decode c_L_planned 13 = .ok (.iconst 1, 1) := by decide +kernel
theorem d_L_planned_14 : decode c_L_planned 14 = .ok (.ireturn, 1) := by decide +kernel
theorem d_L_planned_15 : decode c_L_planned 15 = .ok (.astore_n 3, 1) := by decide +kernel
theorem d_L_planned_16 : decode c_L_planned 16 = .ok (.iconst 2, 1) := by decide +kernel
theorem d_L_planned_17 : decode c_L_planned 17 = .ok (.ireturn, 1) := by decide +kernel
theorem d_L_planned_18 : decode c_L_planned 18 = .ok (.iconst 0, 1) := by decide +kernel
theorem d_L_planned_19 : decode c_L_planned 19 = .ok (.ireturn, 1) := by decide +kernel
theorem d_L_order_0 : decode c_L_order 0 = .ok (.aload_n 2, 1) := by decide +kernel
theorem d_L_order_1 : decode c_L_order 1 = .ok (.iconst 0, 1) := by decide +kernel
theorem d_L_order_2 : decode c_L_order 2 = .ok (.aload_n 0, 1) := by decide +kernel
theorem d_L_order_3 : decode c_L_order 3 = .ok (.iload_n 1, 1) := by decide +kernel
theorem d_L_order_4 : decode c_L_order 4 = .ok (.invokevirtual 49, 3) := by decide +kernel
theorem d_L_order_7 : decode c_L_order 7 = .ok (.i2l, 1) := by decide +kernel
theorem d_L_order_8 : decode c_L_order 8 = .ok (.lastore, 1) := by decide +kernel
theorem d_L_order_9 : decode c_L_order 9 = .ok (.goto 9, 3) := by decide +kernel
theorem d_L_order_12 : decode c_L_order 12 = .ok (.astore_n 3, 1) := by decide +kernel
theorem d_L_order_13 : decode c_L_order 13 = .ok (.iconst 1, 1) := by decide +kernel
theorem d_L_order_14 : decode c_L_order 14 = .ok (.ireturn, 1) := by decide +kernel
theorem d_L_order_15 : decode c_L_order 15 = .ok (.astore_n 3, 1) := by decide +kernel
theorem d_L_order_16 : decode c_L_order 16 = .ok (.iconst 2, 1) := by decide +kernel
theorem d_L_order_17 : decode c_L_order 17 = .ok (.ireturn, 1) := by decide +kernel
theorem d_L_order_18 : decode c_L_order 18 = .ok (.iconst 0, 1) := by decide +kernel
theorem d_L_order_19 : decode c_L_order 19 = .ok (.ireturn, 1) := by decide +kernel
theorem d_L_after_0 : decode c_L_after 0 = .ok (.aload 4, 2) := by decide +kernel
theorem d_L_after_2 : decode c_L_after 2 = .ok (.iconst 0, 1) := by decide +kernel
theorem d_L_after_3 : decode c_L_after 3 = .ok (.aload_n 0, 1) := by decide +kernel
theorem d_L_after_4 : decode c_L_after 4 = .ok (.iload_n 1, 1) := by decide +kernel
theorem d_L_after_5 : decode c_L_after 5 = .ok (.iload_n 2, 1) := by decide +kernel
theorem d_L_after_6 : decode c_L_after 6 = .ok (.iload_n 3, 1) := by decide +kernel
theorem d_L_after_7 : decode c_L_after 7 = .ok (.invokevirtual 52, 3) := by decide +kernel
theorem d_L_after_10 : decode c_L_after 10 = .ok (.lastore, 1) := by decide +kernel
theorem d_L_after_11 : decode c_L_after 11 = .ok (.goto 11, 3) := by decide +kernel
theorem d_L_after_14 : decode c_L_after 14 = .ok (.astore 5, 2) := by decide +kernel
theorem d_L_after_16 : decode c_L_after 16 = .ok (.iconst 1, 1) := by decide +kernel
theorem d_L_after_17 : decode c_L_after 17 = .ok (.ireturn, 1) := by decide +kernel
theorem d_L_after_18 : decode c_L_after 18 = .ok (.astore 5, 2) := by decide +kernel
theorem d_L_after_20 : decode c_L_after 20 = .ok (.iconst 2, 1) := by decide +kernel
theorem d_L_after_21 : decode c_L_after 21 = .ok (.ireturn, 1) := by decide +kernel
theorem d_L_after_22 : decode c_L_after 22 = .ok (.iconst 0, 1) := by decide +kernel
theorem d_L_after_23 : decode c_L_after 23 = .ok (.ireturn, 1) := by decide +kernel
theorem d_L_add_0 : decode c_L_add 0 = .ok (.aload_n 1, 1) := by decide +kernel
theorem d_L_add_1 : decode c_L_add 1 = .ok (.iconst 0, 1) := by decide +kernel
theorem d_L_add_2 : decode c_L_add 2 = .ok (.aload_n 0, 1) := by decide +kernel
theorem d_L_add_3 : decode c_L_add 3 = .ok (.invokevirtual 56, 3) := by decide +kernel
theorem d_L_add_6 : decode c_L_add 6 = .ok (.i2l, 1) := by decide +kernel
theorem d_L_add_7 : decode c_L_add 7 = .ok (.lastore, 1) := by decide +kernel
theorem d_L_add_8 : decode c_L_add 8 = .ok (.goto 9, 3) := by decide +kernel
theorem d_L_add_11 : decode c_L_add 11 = .ok (.astore_n 2, 1) := by decide +kernel
theorem d_L_add_12 : decode c_L_add 12 = .ok (.iconst 1, 1) := by decide +kernel
theorem d_L_add_13 : decode c_L_add 13 = .ok (.ireturn, 1) := by decide +kernel
theorem d_L_add_14 : decode c_L_add 14 = .ok (.astore_n 2, 1) := by decide +kernel
theorem d_L_add_15 : decode c_L_add 15 = .ok (.iconst 2, 1) := by decide +kernel
theorem d_L_add_16 : decode c_L_add 16 = .ok (.ireturn, 1) := by decide +kernel
theorem d_L_add_17 : decode c_L_add 17 = .ok (.iconst 0, 1) := by decide +kernel
theorem d_L_add_18 : decode c_L_add 18 = .ok (.ireturn, 1) := by decide +kernel
theorem d_L_heatAt_0 : decode c_L_heatAt 0 = .ok (.aload_n 2, 1) := by decide +kernel
theorem d_L_heatAt_1 : decode c_L_heatAt 1 = .ok (.iconst 0, 1) := by decide +kernel
theorem d_L_heatAt_2 : decode c_L_heatAt 2 = .ok (.aload_n 0, 1) := by decide +kernel
theorem d_L_heatAt_3 : decode c_L_heatAt 3 = .ok (.iload_n 1, 1) := by decide +kernel
theorem d_L_heatAt_4 : decode c_L_heatAt 4 = .ok (.invokevirtual 60, 3) := by decide +kernel
theorem d_L_heatAt_7 : decode c_L_heatAt 7 = .ok (.lastore, 1) := by decide +kernel
theorem d_L_heatAt_8 : decode c_L_heatAt 8 = .ok (.goto 6, 3) := by decide +kernel
theorem d_L_heatAt_11 : decode c_L_heatAt 11 = .ok (.astore_n 3, 1) := by decide +kernel
theorem d_L_heatAt_12 : decode c_L_heatAt 12 = .ok (.iconst 1, 1) := by decide +kernel
theorem d_L_heatAt_13 : decode c_L_heatAt 13 = .ok (.ireturn, 1) := by decide +kernel
theorem d_L_heatAt_14 : decode c_L_heatAt 14 = .ok (.iconst 0, 1) := by decide +kernel
theorem d_L_heatAt_15 : decode c_L_heatAt 15 = .ok (.ireturn, 1) := by decide +kernel
end
section
theorem d_L_law_0 : decode c_L_law 0 = .ok (.new 8, 3) := by decide +kernel
theorem d_L_law_3 : decode c_L_law 3 = .ok (.dup, 1) := by decide +kernel
theorem d_L_law_4 : decode c_L_law 4 = .ok (.invokespecial 64, 3) := by decide +kernel
theorem d_L_law_7 : decode c_L_law 7 = .ok (.astore_n 1, 1) := by decide +kernel
theorem d_L_law_8 : decode c_L_law 8 = .ok (.new 65, 3) := by decide +kernel
theorem d_L_law_11 : decode c_L_law 11 = .ok (.dup, 1) := by decide +kernel
theorem d_L_law_12 : decode c_L_law 12 = .ok (.invokespecial 67, 3) := by decide +kernel
theorem d_L_law_15 : decode c_L_law 15 = .ok (.astore_n 2, 1) := by decide +kernel
theorem d_L_law_16 : decode c_L_law 16 = .ok (.iconst 1, 1) := by decide +kernel
theorem d_L_law_17 : decode c_L_law 17 = .ok (.newarray .long, 2) := by decide +kernel
theorem d_L_law_19 : decode c_L_law 19 = .ok (.astore_n 3, 1) := by decide +kernel
theorem d_L_law_20 : decode c_L_law 20 = .ok (.iconst 0, 1) := by decide +kernel
theorem d_L_law_21 : decode c_L_law 21 = .ok (.istore 4, 2) := by decide +kernel
theorem d_L_law_23 : decode c_L_law 23 = .ok (.iload 4, 2) := by decide +kernel
theorem d_L_law_25 : decode c_L_law 25 = .ok (.aload_n 0, 1) := by decide +kernel
theorem d_L_law_26 : decode c_L_law 26 = .ok (.arraylength, 1) := by decide +kernel
theorem d_L_law_27 : decode c_L_law 27 = .ok (.iconst 5, 1) := by decide +kernel
theorem d_L_law_28 : decode c_L_law 28 = .ok (.isub, 1) := by decide +kernel
theorem d_L_law_29 : decode c_L_law 29 = .ok (.if_icmp .gt 851, 3) := by decide +kernel
theorem d_L_law_32 : decode c_L_law 32 = .ok (.aload_n 0, 1) := by decide +kernel
theorem d_L_law_33 : decode c_L_law 33 = .ok (.iload 4, 2) := by decide +kernel
theorem d_L_law_35 : decode c_L_law 35 = .ok (.iaload, 1) := by decide +kernel
theorem d_L_law_36 : decode c_L_law 36 = .ok (.bipush 15, 2) := by decide +kernel
theorem d_L_law_38 : decode c_L_law 38 = .ok (.iand, 1) := by decide +kernel
theorem d_L_law_39 : decode c_L_law 39 = .ok (.tableswitch 835 0 12 #[65, 101, 161, 221, 301, 373, 433, 489, 545, 601, 657, 736, 780], 65) := by decide +kernel
theorem d_L_law_104 : decode c_L_law 104 = .ok (.aload_n 1, 1) := by decide +kernel
theorem d_L_law_105 : decode c_L_law 105 = .ok (.aload_n 0, 1) := by decide +kernel
theorem d_L_law_106 : decode c_L_law 106 = .ok (.iload 4, 2) := by decide +kernel
theorem d_L_law_108 : decode c_L_law 108 = .ok (.iconst 1, 1) := by decide +kernel
theorem d_L_law_109 : decode c_L_law 109 = .ok (.iadd, 1) := by decide +kernel
theorem d_L_law_110 : decode c_L_law 110 = .ok (.iaload, 1) := by decide +kernel
theorem d_L_law_111 : decode c_L_law 111 = .ok (.invokestatic 68, 3) := by decide +kernel
theorem d_L_law_114 : decode c_L_law 114 = .ok (.istore 5, 2) := by decide +kernel
theorem d_L_law_116 : decode c_L_law 116 = .ok (.aload_n 2, 1) := by decide +kernel
theorem d_L_law_117 : decode c_L_law 117 = .ok (.aload_n 0, 1) := by decide +kernel
theorem d_L_law_118 : decode c_L_law 118 = .ok (.iload 4, 2) := by decide +kernel
theorem d_L_law_120 : decode c_L_law 120 = .ok (.iconst 1, 1) := by decide +kernel
theorem d_L_law_121 : decode c_L_law 121 = .ok (.iadd, 1) := by decide +kernel
theorem d_L_law_122 : decode c_L_law 122 = .ok (.iaload, 1) := by decide +kernel
theorem d_L_law_123 : decode c_L_law 123 = .ok (.invokevirtual 73, 3) := by decide +kernel
theorem d_L_law_126 : decode c_L_law 126 = .ok (.aload_n 2, 1) := by decide +kernel
theorem d_L_law_127 : decode c_L_law 127 = .ok (.invokevirtual 74, 3) := by decide +kernel
theorem d_L_law_130 : decode c_L_law 130 = .ok (.iload 5, 2) := by decide +kernel
theorem d_L_law_132 : decode c_L_law 132 = .ok (.if_icmp .eq 5, 3) := by decide +kernel
theorem d_L_law_135 : decode c_L_law 135 = .ok (.iconst 0, 1) := by decide +kernel
theorem d_L_law_136 : decode c_L_law 136 = .ok (.ireturn, 1) := by decide +kernel
theorem d_L_law_137 : decode c_L_law 137 = .ok (.goto 737, 3) := by decide +kernel
theorem d_L_law_140 : decode c_L_law 140 = .ok (.aload_n 1, 1) := by decide +kernel
theorem d_L_law_141 : decode c_L_law 141 = .ok (.aload_n 0, 1) := by decide +kernel
theorem d_L_law_142 : decode c_L_law 142 = .ok (.iload 4, 2) := by decide +kernel
theorem d_L_law_144 : decode c_L_law 144 = .ok (.iconst 1, 1) := by decide +kernel
theorem d_L_law_145 : decode c_L_law 145 = .ok (.iadd, 1) := by decide +kernel
theorem d_L_law_146 : decode c_L_law 146 = .ok (.iaload, 1) := by decide +kernel
theorem d_L_law_147 : decode c_L_law 147 = .ok (.aload_n 0, 1) := by decide +kernel
theorem d_L_law_148 : decode c_L_law 148 = .ok (.iload 4, 2) := by decide +kernel
theorem d_L_law_150 : decode c_L_law 150 = .ok (.iconst 2, 1) := by decide +kernel
theorem d_L_law_151 : decode c_L_law 151 = .ok (.iadd, 1) := by decide +kernel
theorem d_L_law_152 : decode c_L_law 152 = .ok (.iaload, 1) := by decide +kernel
theorem d_L_law_153 : decode c_L_law 153 = .ok (.aload_n 0, 1) := by decide +kernel
theorem d_L_law_154 : decode c_L_law 154 = .ok (.iload 4, 2) := by decide +kernel
theorem d_L_law_156 : decode c_L_law 156 = .ok (.iconst 3, 1) := by decide +kernel
theorem d_L_law_157 : decode c_L_law 157 = .ok (.iadd, 1) := by decide +kernel
theorem d_L_law_158 : decode c_L_law 158 = .ok (.iaload, 1) := by decide +kernel
theorem d_L_law_159 : decode c_L_law 159 = .ok (.invokestatic 77, 3) := by decide +kernel
theorem d_L_law_162 : decode c_L_law 162 = .ok (.istore 5, 2) := by decide +kernel
theorem d_L_law_164 : decode c_L_law 164 = .ok (.aload_n 2, 1) := by decide +kernel
theorem d_L_law_165 : decode c_L_law 165 = .ok (.aload_n 0, 1) := by decide +kernel
theorem d_L_law_166 : decode c_L_law 166 = .ok (.iload 4, 2) := by decide +kernel
theorem d_L_law_168 : decode c_L_law 168 = .ok (.iconst 1, 1) := by decide +kernel
theorem d_L_law_169 : decode c_L_law 169 = .ok (.iadd, 1) := by decide +kernel
theorem d_L_law_170 : decode c_L_law 170 = .ok (.iaload, 1) := by decide +kernel
theorem d_L_law_171 : decode c_L_law 171 = .ok (.aload_n 0, 1) := by decide +kernel
theorem d_L_law_172 : decode c_L_law 172 = .ok (.iload 4, 2) := by decide +kernel
theorem d_L_law_174 : decode c_L_law 174 = .ok (.iconst 2, 1) := by decide +kernel
theorem d_L_law_175 : decode c_L_law 175 = .ok (.iadd, 1) := by decide +kernel
theorem d_L_law_176 : decode c_L_law 176 = .ok (.iaload, 1) := by decide +kernel
theorem d_L_law_177 : decode c_L_law 177 = .ok (.aload_n 0, 1) := by decide +kernel
theorem d_L_law_178 : decode c_L_law 178 = .ok (.iload 4, 2) := by decide +kernel
theorem d_L_law_180 : decode c_L_law 180 = .ok (.iconst 3, 1) := by decide +kernel
theorem d_L_law_181 : decode c_L_law 181 = .ok (.iadd, 1) := by decide +kernel
theorem d_L_law_182 : decode c_L_law 182 = .ok (.iaload, 1) := by decide +kernel
theorem d_L_law_183 : decode c_L_law 183 = .ok (.invokevirtual 80, 3) := by decide +kernel
theorem d_L_law_186 : decode c_L_law 186 = .ok (.aload_n 2, 1) := by decide +kernel
theorem d_L_law_187 : decode c_L_law 187 = .ok (.invokevirtual 74, 3) := by decide +kernel
theorem d_L_law_190 : decode c_L_law 190 = .ok (.iload 5, 2) := by decide +kernel
theorem d_L_law_192 : decode c_L_law 192 = .ok (.if_icmp .eq 5, 3) := by decide +kernel
theorem d_L_law_195 : decode c_L_law 195 = .ok (.iconst 0, 1) := by decide +kernel
theorem d_L_law_196 : decode c_L_law 196 = .ok (.ireturn, 1) := by decide +kernel
theorem d_L_law_197 : decode c_L_law 197 = .ok (.goto 677, 3) := by decide +kernel
theorem d_L_law_200 : decode c_L_law 200 = .ok (.aload_n 1, 1) := by decide +kernel
theorem d_L_law_201 : decode c_L_law 201 = .ok (.aload_n 0, 1) := by decide +kernel
theorem d_L_law_202 : decode c_L_law 202 = .ok (.iload 4, 2) := by decide +kernel
theorem d_L_law_204 : decode c_L_law 204 = .ok (.iconst 1, 1) := by decide +kernel
theorem d_L_law_205 : decode c_L_law 205 = .ok (.iadd, 1) := by decide +kernel
theorem d_L_law_206 : decode c_L_law 206 = .ok (.iaload, 1) := by decide +kernel
theorem d_L_law_207 : decode c_L_law 207 = .ok (.aload_n 0, 1) := by decide +kernel
theorem d_L_law_208 : decode c_L_law 208 = .ok (.iload 4, 2) := by decide +kernel
theorem d_L_law_210 : decode c_L_law 210 = .ok (.iconst 2, 1) := by decide +kernel
theorem d_L_law_211 : decode c_L_law 211 = .ok (.iadd, 1) := by decide +kernel
theorem d_L_law_212 : decode c_L_law 212 = .ok (.iaload, 1) := by decide +kernel
theorem d_L_law_213 : decode c_L_law 213 = .ok (.aload_n 0, 1) := by decide +kernel
theorem d_L_law_214 : decode c_L_law 214 = .ok (.iload 4, 2) := by decide +kernel
theorem d_L_law_216 : decode c_L_law 216 = .ok (.iconst 3, 1) := by decide +kernel
theorem d_L_law_217 : decode c_L_law 217 = .ok (.iadd, 1) := by decide +kernel
theorem d_L_law_218 : decode c_L_law 218 = .ok (.iaload, 1) := by decide +kernel
theorem d_L_law_219 : decode c_L_law 219 = .ok (.invokestatic 81, 3) := by decide +kernel
theorem d_L_law_222 : decode c_L_law 222 = .ok (.istore 5, 2) := by decide +kernel
theorem d_L_law_224 : decode c_L_law 224 = .ok (.aload_n 2, 1) := by decide +kernel
theorem d_L_law_225 : decode c_L_law 225 = .ok (.aload_n 0, 1) := by decide +kernel
theorem d_L_law_226 : decode c_L_law 226 = .ok (.iload 4, 2) := by decide +kernel
theorem d_L_law_228 : decode c_L_law 228 = .ok (.iconst 1, 1) := by decide +kernel
theorem d_L_law_229 : decode c_L_law 229 = .ok (.iadd, 1) := by decide +kernel
theorem d_L_law_230 : decode c_L_law 230 = .ok (.iaload, 1) := by decide +kernel
theorem d_L_law_231 : decode c_L_law 231 = .ok (.aload_n 0, 1) := by decide +kernel
theorem d_L_law_232 : decode c_L_law 232 = .ok (.iload 4, 2) := by decide +kernel
theorem d_L_law_234 : decode c_L_law 234 = .ok (.iconst 2, 1) := by decide +kernel
theorem d_L_law_235 : decode c_L_law 235 = .ok (.iadd, 1) := by decide +kernel
theorem d_L_law_236 : decode c_L_law 236 = .ok (.iaload, 1) := by decide +kernel
theorem d_L_law_237 : decode c_L_law 237 = .ok (.aload_n 0, 1) := by decide +kernel
theorem d_L_law_238 : decode c_L_law 238 = .ok (.iload 4, 2) := by decide +kernel
theorem d_L_law_240 : decode c_L_law 240 = .ok (.iconst 3, 1) := by decide +kernel
theorem d_L_law_241 : decode c_L_law 241 = .ok (.iadd, 1) := by decide +kernel
theorem d_L_law_242 : decode c_L_law 242 = .ok (.iaload, 1) := by decide +kernel
theorem d_L_law_243 : decode c_L_law 243 = .ok (.invokevirtual 83, 3) := by decide +kernel
theorem d_L_law_246 : decode c_L_law 246 = .ok (.aload_n 2, 1) := by decide +kernel
theorem d_L_law_247 : decode c_L_law 247 = .ok (.invokevirtual 74, 3) := by decide +kernel
theorem d_L_law_250 : decode c_L_law 250 = .ok (.iload 5, 2) := by decide +kernel
theorem d_L_law_252 : decode c_L_law 252 = .ok (.if_icmp .eq 5, 3) := by decide +kernel
theorem d_L_law_255 : decode c_L_law 255 = .ok (.iconst 0, 1) := by decide +kernel
theorem d_L_law_256 : decode c_L_law 256 = .ok (.ireturn, 1) := by decide +kernel
theorem d_L_law_257 : decode c_L_law 257 = .ok (.goto 617, 3) := by decide +kernel
theorem d_L_law_260 : decode c_L_law 260 = .ok (.aload_n 1, 1) := by decide +kernel
theorem d_L_law_261 : decode c_L_law 261 = .ok (.aload_n 0, 1) := by decide +kernel
theorem d_L_law_262 : decode c_L_law 262 = .ok (.iload 4, 2) := by decide +kernel
theorem d_L_law_264 : decode c_L_law 264 = .ok (.iconst 1, 1) := by decide +kernel
theorem d_L_law_265 : decode c_L_law 265 = .ok (.iadd, 1) := by decide +kernel
theorem d_L_law_266 : decode c_L_law 266 = .ok (.iaload, 1) := by decide +kernel
theorem d_L_law_267 : decode c_L_law 267 = .ok (.aload_n 0, 1) := by decide +kernel
theorem d_L_law_268 : decode c_L_law 268 = .ok (.iload 4, 2) := by decide +kernel
theorem d_L_law_270 : decode c_L_law 270 = .ok (.iconst 2, 1) := by decide +kernel
theorem d_L_law_271 : decode c_L_law 271 = .ok (.iadd, 1) := by decide +kernel
theorem d_L_law_272 : decode c_L_law 272 = .ok (.iaload, 1) := by decide +kernel
theorem d_L_law_273 : decode c_L_law 273 = .ok (.aload_n 0, 1) := by decide +kernel
theorem d_L_law_274 : decode c_L_law 274 = .ok (.iload 4, 2) := by decide +kernel
theorem d_L_law_276 : decode c_L_law 276 = .ok (.iconst 3, 1) := by decide +kernel
theorem d_L_law_277 : decode c_L_law 277 = .ok (.iadd, 1) := by decide +kernel
theorem d_L_law_278 : decode c_L_law 278 = .ok (.iaload, 1) := by decide +kernel
theorem d_L_law_279 : decode c_L_law 279 = .ok (.aload_n 3, 1) := by decide +kernel
theorem d_L_law_280 : decode c_L_law 280 = .ok (.invokestatic 84, 3) := by decide +kernel
theorem d_L_law_283 : decode c_L_law 283 = .ok (.istore 5, 2) := by decide +kernel
theorem d_L_law_285 : decode c_L_law 285 = .ok (.aload_n 2, 1) := by decide +kernel
theorem d_L_law_286 : decode c_L_law 286 = .ok (.aload_n 0, 1) := by decide +kernel
theorem d_L_law_287 : decode c_L_law 287 = .ok (.iload 4, 2) := by decide +kernel
theorem d_L_law_289 : decode c_L_law 289 = .ok (.iconst 1, 1) := by decide +kernel
theorem d_L_law_290 : decode c_L_law 290 = .ok (.iadd, 1) := by decide +kernel
theorem d_L_law_291 : decode c_L_law 291 = .ok (.iaload, 1) := by decide +kernel
theorem d_L_law_292 : decode c_L_law 292 = .ok (.aload_n 0, 1) := by decide +kernel
theorem d_L_law_293 : decode c_L_law 293 = .ok (.iload 4, 2) := by decide +kernel
theorem d_L_law_295 : decode c_L_law 295 = .ok (.iconst 2, 1) := by decide +kernel
theorem d_L_law_296 : decode c_L_law 296 = .ok (.iadd, 1) := by decide +kernel
theorem d_L_law_297 : decode c_L_law 297 = .ok (.iaload, 1) := by decide +kernel
theorem d_L_law_298 : decode c_L_law 298 = .ok (.aload_n 0, 1) := by decide +kernel
theorem d_L_law_299 : decode c_L_law 299 = .ok (.iload 4, 2) := by decide +kernel
theorem d_L_law_301 : decode c_L_law 301 = .ok (.iconst 3, 1) := by decide +kernel
theorem d_L_law_302 : decode c_L_law 302 = .ok (.iadd, 1) := by decide +kernel
theorem d_L_law_303 : decode c_L_law 303 = .ok (.iaload, 1) := by decide +kernel
theorem d_L_law_304 : decode c_L_law 304 = .ok (.invokevirtual 87, 3) := by decide +kernel
theorem d_L_law_307 : decode c_L_law 307 = .ok (.istore 6, 2) := by decide +kernel
theorem d_L_law_309 : decode c_L_law 309 = .ok (.aload_n 2, 1) := by decide +kernel
theorem d_L_law_310 : decode c_L_law 310 = .ok (.invokevirtual 74, 3) := by decide +kernel
theorem d_L_law_313 : decode c_L_law 313 = .ok (.iload 5, 2) := by decide +kernel
theorem d_L_law_315 : decode c_L_law 315 = .ok (.if_icmp .eq 5, 3) := by decide +kernel
theorem d_L_law_318 : decode c_L_law 318 = .ok (.iconst 0, 1) := by decide +kernel
theorem d_L_law_319 : decode c_L_law 319 = .ok (.ireturn, 1) := by decide +kernel
theorem d_L_law_320 : decode c_L_law 320 = .ok (.iload 5, 2) := by decide +kernel
theorem d_L_law_322 : decode c_L_law 322 = .ok (.ifCond .ne 15, 3) := by decide +kernel
theorem d_L_law_325 : decode c_L_law 325 = .ok (.aload_n 3, 1) := by decide +kernel
theorem d_L_law_326 : decode c_L_law 326 = .ok (.iconst 0, 1) := by decide +kernel
theorem d_L_law_327 : decode c_L_law 327 = .ok (.laload, 1) := by decide +kernel
theorem d_L_law_328 : decode c_L_law 328 = .ok (.iload 6, 2) := by decide +kernel
theorem d_L_law_330 : decode c_L_law 330 = .ok (.i2l, 1) := by decide +kernel
theorem d_L_law_331 : decode c_L_law 331 = .ok (.lcmp, 1) := by decide +kernel
theorem d_L_law_332 : decode c_L_law 332 = .ok (.ifCond .eq 5, 3) := by decide +kernel
theorem d_L_law_335 : decode c_L_law 335 = .ok (.iconst 0, 1) := by decide +kernel
theorem d_L_law_336 : decode c_L_law 336 = .ok (.ireturn, 1) := by decide +kernel
theorem d_L_law_337 : decode c_L_law 337 = .ok (.goto 537, 3) := by decide +kernel
theorem d_L_law_340 : decode c_L_law 340 = .ok (.aload_n 1, 1) := by decide +kernel
theorem d_L_law_341 : decode c_L_law 341 = .ok (.aload_n 0, 1) := by decide +kernel
theorem d_L_law_342 : decode c_L_law 342 = .ok (.iload 4, 2) := by decide +kernel
theorem d_L_law_344 : decode c_L_law 344 = .ok (.iconst 1, 1) := by decide +kernel
theorem d_L_law_345 : decode c_L_law 345 = .ok (.iadd, 1) := by decide +kernel
theorem d_L_law_346 : decode c_L_law 346 = .ok (.iaload, 1) := by decide +kernel
theorem d_L_law_347 : decode c_L_law 347 = .ok (.aload_n 0, 1) := by decide +kernel
theorem d_L_law_348 : decode c_L_law 348 = .ok (.iload 4, 2) := by decide +kernel
theorem d_L_law_350 : decode c_L_law 350 = .ok (.iconst 2, 1) := by decide +kernel
theorem d_L_law_351 : decode c_L_law 351 = .ok (.iadd, 1) := by decide +kernel
theorem d_L_law_352 : decode c_L_law 352 = .ok (.iaload, 1) := by decide +kernel
theorem d_L_law_353 : decode c_L_law 353 = .ok (.aload_n 0, 1) := by decide +kernel
theorem d_L_law_354 : decode c_L_law 354 = .ok (.iload 4, 2) := by decide +kernel
theorem d_L_law_356 : decode c_L_law 356 = .ok (.iconst 3, 1) := by decide +kernel
theorem d_L_law_357 : decode c_L_law 357 = .ok (.iadd, 1) := by decide +kernel
theorem d_L_law_358 : decode c_L_law 358 = .ok (.iaload, 1) := by decide +kernel
theorem d_L_law_359 : decode c_L_law 359 = .ok (.aload_n 0, 1) := by decide +kernel
theorem d_L_law_360 : decode c_L_law 360 = .ok (.iload 4, 2) := by decide +kernel
theorem d_L_law_362 : decode c_L_law 362 = .ok (.iconst 4, 1) := by decide +kernel
theorem d_L_law_363 : decode c_L_law 363 = .ok (.iadd, 1) := by decide +kernel
theorem d_L_law_364 : decode c_L_law 364 = .ok (.iaload, 1) := by decide +kernel
theorem d_L_law_365 : decode c_L_law 365 = .ok (.invokestatic 88, 3) := by decide +kernel
theorem d_L_law_368 : decode c_L_law 368 = .ok (.istore 5, 2) := by decide +kernel
theorem d_L_law_370 : decode c_L_law 370 = .ok (.aload_n 2, 1) := by decide +kernel
theorem d_L_law_371 : decode c_L_law 371 = .ok (.aload_n 0, 1) := by decide +kernel
theorem d_L_law_372 : decode c_L_law 372 = .ok (.iload 4, 2) := by decide +kernel
theorem d_L_law_374 : decode c_L_law 374 = .ok (.iconst 1, 1) := by decide +kernel
theorem d_L_law_375 : decode c_L_law 375 = .ok (.iadd, 1) := by decide +kernel
theorem d_L_law_376 : decode c_L_law 376 = .ok (.iaload, 1) := by decide +kernel
theorem d_L_law_377 : decode c_L_law 377 = .ok (.aload_n 0, 1) := by decide +kernel
theorem d_L_law_378 : decode c_L_law 378 = .ok (.iload 4, 2) := by decide +kernel
theorem d_L_law_380 : decode c_L_law 380 = .ok (.iconst 2, 1) := by decide +kernel
theorem d_L_law_381 : decode c_L_law 381 = .ok (.iadd, 1) := by decide +kernel
theorem d_L_law_382 : decode c_L_law 382 = .ok (.iaload, 1) := by decide +kernel
theorem d_L_law_383 : decode c_L_law 383 = .ok (.aload_n 0, 1) := by decide +kernel
theorem d_L_law_384 : decode c_L_law 384 = .ok (.iload 4, 2) := by decide +kernel
theorem d_L_law_386 : decode c_L_law 386 = .ok (.iconst 3, 1) := by decide +kernel
theorem d_L_law_387 : decode c_L_law 387 = .ok (.iadd, 1) := by decide +kernel
theorem d_L_law_388 : decode c_L_law 388 = .ok (.iaload, 1) := by decide +kernel
theorem d_L_law_389 : decode c_L_law 389 = .ok (.aload_n 0, 1) := by decide +kernel
theorem d_L_law_390 : decode c_L_law 390 = .ok (.iload 4, 2) := by decide +kernel
theorem d_L_law_392 : decode c_L_law 392 = .ok (.iconst 4, 1) := by decide +kernel
theorem d_L_law_393 : decode c_L_law 393 = .ok (.iadd, 1) := by decide +kernel
theorem d_L_law_394 : decode c_L_law 394 = .ok (.iaload, 1) := by decide +kernel
theorem d_L_law_395 : decode c_L_law 395 = .ok (.invokevirtual 91, 3) := by decide +kernel
theorem d_L_law_398 : decode c_L_law 398 = .ok (.aload_n 2, 1) := by decide +kernel
theorem d_L_law_399 : decode c_L_law 399 = .ok (.invokevirtual 74, 3) := by decide +kernel
theorem d_L_law_402 : decode c_L_law 402 = .ok (.iload 5, 2) := by decide +kernel
theorem d_L_law_404 : decode c_L_law 404 = .ok (.if_icmp .eq 5, 3) := by decide +kernel
theorem d_L_law_407 : decode c_L_law 407 = .ok (.iconst 0, 1) := by decide +kernel
theorem d_L_law_408 : decode c_L_law 408 = .ok (.ireturn, 1) := by decide +kernel
theorem d_L_law_409 : decode c_L_law 409 = .ok (.goto 465, 3) := by decide +kernel
theorem d_L_law_412 : decode c_L_law 412 = .ok (.aload_n 1, 1) := by decide +kernel
theorem d_L_law_413 : decode c_L_law 413 = .ok (.aload_n 0, 1) := by decide +kernel
theorem d_L_law_414 : decode c_L_law 414 = .ok (.iload 4, 2) := by decide +kernel
theorem d_L_law_416 : decode c_L_law 416 = .ok (.iconst 1, 1) := by decide +kernel
theorem d_L_law_417 : decode c_L_law 417 = .ok (.iadd, 1) := by decide +kernel
theorem d_L_law_418 : decode c_L_law 418 = .ok (.iaload, 1) := by decide +kernel
theorem d_L_law_419 : decode c_L_law 419 = .ok (.aload_n 0, 1) := by decide +kernel
theorem d_L_law_420 : decode c_L_law 420 = .ok (.iload 4, 2) := by decide +kernel
theorem d_L_law_422 : decode c_L_law 422 = .ok (.iconst 2, 1) := by decide +kernel
theorem d_L_law_423 : decode c_L_law 423 = .ok (.iadd, 1) := by decide +kernel
theorem d_L_law_424 : decode c_L_law 424 = .ok (.iaload, 1) := by decide +kernel
theorem d_L_law_425 : decode c_L_law 425 = .ok (.aload_n 0, 1) := by decide +kernel
theorem d_L_law_426 : decode c_L_law 426 = .ok (.iload 4, 2) := by decide +kernel
theorem d_L_law_428 : decode c_L_law 428 = .ok (.iconst 3, 1) := by decide +kernel
theorem d_L_law_429 : decode c_L_law 429 = .ok (.iadd, 1) := by decide +kernel
theorem d_L_law_430 : decode c_L_law 430 = .ok (.iaload, 1) := by decide +kernel
theorem d_L_law_431 : decode c_L_law 431 = .ok (.invokestatic 92, 3) := by decide +kernel
theorem d_L_law_434 : decode c_L_law 434 = .ok (.istore 5, 2) := by decide +kernel
theorem d_L_law_436 : decode c_L_law 436 = .ok (.aload_n 2, 1) := by decide +kernel
theorem d_L_law_437 : decode c_L_law 437 = .ok (.aload_n 0, 1) := by decide +kernel
theorem d_L_law_438 : decode c_L_law 438 = .ok (.iload 4, 2) := by decide +kernel
theorem d_L_law_440 : decode c_L_law 440 = .ok (.iconst 1, 1) := by decide +kernel
theorem d_L_law_441 : decode c_L_law 441 = .ok (.iadd, 1) := by decide +kernel
theorem d_L_law_442 : decode c_L_law 442 = .ok (.iaload, 1) := by decide +kernel
theorem d_L_law_443 : decode c_L_law 443 = .ok (.aload_n 0, 1) := by decide +kernel
theorem d_L_law_444 : decode c_L_law 444 = .ok (.iload 4, 2) := by decide +kernel
theorem d_L_law_446 : decode c_L_law 446 = .ok (.iconst 2, 1) := by decide +kernel
theorem d_L_law_447 : decode c_L_law 447 = .ok (.iadd, 1) := by decide +kernel
theorem d_L_law_448 : decode c_L_law 448 = .ok (.iaload, 1) := by decide +kernel
theorem d_L_law_449 : decode c_L_law 449 = .ok (.aload_n 0, 1) := by decide +kernel
theorem d_L_law_450 : decode c_L_law 450 = .ok (.iload 4, 2) := by decide +kernel
theorem d_L_law_452 : decode c_L_law 452 = .ok (.iconst 3, 1) := by decide +kernel
theorem d_L_law_453 : decode c_L_law 453 = .ok (.iadd, 1) := by decide +kernel
theorem d_L_law_454 : decode c_L_law 454 = .ok (.iaload, 1) := by decide +kernel
theorem d_L_law_455 : decode c_L_law 455 = .ok (.invokevirtual 94, 3) := by decide +kernel
theorem d_L_law_458 : decode c_L_law 458 = .ok (.aload_n 2, 1) := by decide +kernel
theorem d_L_law_459 : decode c_L_law 459 = .ok (.invokevirtual 74, 3) := by decide +kernel
theorem d_L_law_462 : decode c_L_law 462 = .ok (.iload 5, 2) := by decide +kernel
theorem d_L_law_464 : decode c_L_law 464 = .ok (.if_icmp .eq 5, 3) := by decide +kernel
theorem d_L_law_467 : decode c_L_law 467 = .ok (.iconst 0, 1) := by decide +kernel
theorem d_L_law_468 : decode c_L_law 468 = .ok (.ireturn, 1) := by decide +kernel
theorem d_L_law_469 : decode c_L_law 469 = .ok (.goto 405, 3) := by decide +kernel
theorem d_L_law_472 : decode c_L_law 472 = .ok (.aload_n 1, 1) := by decide +kernel
theorem d_L_law_473 : decode c_L_law 473 = .ok (.aload_n 0, 1) := by decide +kernel
theorem d_L_law_474 : decode c_L_law 474 = .ok (.iload 4, 2) := by decide +kernel
theorem d_L_law_476 : decode c_L_law 476 = .ok (.iconst 1, 1) := by decide +kernel
theorem d_L_law_477 : decode c_L_law 477 = .ok (.iadd, 1) := by decide +kernel
theorem d_L_law_478 : decode c_L_law 478 = .ok (.iaload, 1) := by decide +kernel
theorem d_L_law_479 : decode c_L_law 479 = .ok (.aload_n 3, 1) := by decide +kernel
theorem d_L_law_480 : decode c_L_law 480 = .ok (.invokestatic 95, 3) := by decide +kernel
theorem d_L_law_483 : decode c_L_law 483 = .ok (.istore 5, 2) := by decide +kernel
theorem d_L_law_485 : decode c_L_law 485 = .ok (.aload_n 2, 1) := by decide +kernel
theorem d_L_law_486 : decode c_L_law 486 = .ok (.aload_n 0, 1) := by decide +kernel
theorem d_L_law_487 : decode c_L_law 487 = .ok (.iload 4, 2) := by decide +kernel
theorem d_L_law_489 : decode c_L_law 489 = .ok (.iconst 1, 1) := by decide +kernel
theorem d_L_law_490 : decode c_L_law 490 = .ok (.iadd, 1) := by decide +kernel
theorem d_L_law_491 : decode c_L_law 491 = .ok (.iaload, 1) := by decide +kernel
theorem d_L_law_492 : decode c_L_law 492 = .ok (.invokevirtual 98, 3) := by decide +kernel
theorem d_L_law_495 : decode c_L_law 495 = .ok (.istore 6, 2) := by decide +kernel
theorem d_L_law_497 : decode c_L_law 497 = .ok (.aload_n 2, 1) := by decide +kernel
theorem d_L_law_498 : decode c_L_law 498 = .ok (.invokevirtual 74, 3) := by decide +kernel
theorem d_L_law_501 : decode c_L_law 501 = .ok (.iload 5, 2) := by decide +kernel
theorem d_L_law_503 : decode c_L_law 503 = .ok (.if_icmp .eq 5, 3) := by decide +kernel
theorem d_L_law_506 : decode c_L_law 506 = .ok (.iconst 0, 1) := by decide +kernel
theorem d_L_law_507 : decode c_L_law 507 = .ok (.ireturn, 1) := by decide +kernel
theorem d_L_law_508 : decode c_L_law 508 = .ok (.iload 5, 2) := by decide +kernel
theorem d_L_law_510 : decode c_L_law 510 = .ok (.ifCond .ne 15, 3) := by decide +kernel
theorem d_L_law_513 : decode c_L_law 513 = .ok (.aload_n 3, 1) := by decide +kernel
theorem d_L_law_514 : decode c_L_law 514 = .ok (.iconst 0, 1) := by decide +kernel
theorem d_L_law_515 : decode c_L_law 515 = .ok (.laload, 1) := by decide +kernel
theorem d_L_law_516 : decode c_L_law 516 = .ok (.iload 6, 2) := by decide +kernel
theorem d_L_law_518 : decode c_L_law 518 = .ok (.i2l, 1) := by decide +kernel
theorem d_L_law_519 : decode c_L_law 519 = .ok (.lcmp, 1) := by decide +kernel
theorem d_L_law_520 : decode c_L_law 520 = .ok (.ifCond .eq 5, 3) := by decide +kernel
theorem d_L_law_523 : decode c_L_law 523 = .ok (.iconst 0, 1) := by decide +kernel
theorem d_L_law_524 : decode c_L_law 524 = .ok (.ireturn, 1) := by decide +kernel
theorem d_L_law_525 : decode c_L_law 525 = .ok (.goto 349, 3) := by decide +kernel
theorem d_L_law_528 : decode c_L_law 528 = .ok (.aload_n 1, 1) := by decide +kernel
theorem d_L_law_529 : decode c_L_law 529 = .ok (.aload_n 0, 1) := by decide +kernel
theorem d_L_law_530 : decode c_L_law 530 = .ok (.iload 4, 2) := by decide +kernel
theorem d_L_law_532 : decode c_L_law 532 = .ok (.iconst 1, 1) := by decide +kernel
theorem d_L_law_533 : decode c_L_law 533 = .ok (.iadd, 1) := by decide +kernel
theorem d_L_law_534 : decode c_L_law 534 = .ok (.iaload, 1) := by decide +kernel
theorem d_L_law_535 : decode c_L_law 535 = .ok (.aload_n 3, 1) := by decide +kernel
theorem d_L_law_536 : decode c_L_law 536 = .ok (.invokestatic 99, 3) := by decide +kernel
theorem d_L_law_539 : decode c_L_law 539 = .ok (.istore 5, 2) := by decide +kernel
theorem d_L_law_541 : decode c_L_law 541 = .ok (.aload_n 2, 1) := by decide +kernel
theorem d_L_law_542 : decode c_L_law 542 = .ok (.aload_n 0, 1) := by decide +kernel
theorem d_L_law_543 : decode c_L_law 543 = .ok (.iload 4, 2) := by decide +kernel
theorem d_L_law_545 : decode c_L_law 545 = .ok (.iconst 1, 1) := by decide +kernel
theorem d_L_law_546 : decode c_L_law 546 = .ok (.iadd, 1) := by decide +kernel
theorem d_L_law_547 : decode c_L_law 547 = .ok (.iaload, 1) := by decide +kernel
theorem d_L_law_548 : decode c_L_law 548 = .ok (.invokevirtual 101, 3) := by decide +kernel
theorem d_L_law_551 : decode c_L_law 551 = .ok (.istore 6, 2) := by decide +kernel
theorem d_L_law_553 : decode c_L_law 553 = .ok (.aload_n 2, 1) := by decide +kernel
theorem d_L_law_554 : decode c_L_law 554 = .ok (.invokevirtual 74, 3) := by decide +kernel
theorem d_L_law_557 : decode c_L_law 557 = .ok (.iload 5, 2) := by decide +kernel
theorem d_L_law_559 : decode c_L_law 559 = .ok (.if_icmp .eq 5, 3) := by decide +kernel
theorem d_L_law_562 : decode c_L_law 562 = .ok (.iconst 0, 1) := by decide +kernel
theorem d_L_law_563 : decode c_L_law 563 = .ok (.ireturn, 1) := by decide +kernel
theorem d_L_law_564 : decode c_L_law 564 = .ok (.iload 5, 2) := by decide +kernel
theorem d_L_law_566 : decode c_L_law 566 = .ok (.ifCond .ne 15, 3) := by decide +kernel
theorem d_L_law_569 : decode c_L_law 569 = .ok (.aload_n 3, 1) := by decide +kernel
theorem d_L_law_570 : decode c_L_law 570 = .ok (.iconst 0, 1) := by decide +kernel
theorem d_L_law_571 : decode c_L_law 571 = .ok (.laload, 1) := by decide +kernel
theorem d_L_law_572 : decode c_L_law 572 = .ok (.iload 6, 2) := by decide +kernel
theorem d_L_law_574 : decode c_L_law 574 = .ok (.i2l, 1) := by decide +kernel
theorem d_L_law_575 : decode c_L_law 575 = .ok (.lcmp, 1) := by decide +kernel
theorem d_L_law_576 : decode c_L_law 576 = .ok (.ifCond .eq 5, 3) := by decide +kernel
theorem d_L_law_579 : decode c_L_law 579 = .ok (.iconst 0, 1) := by decide +kernel
theorem d_L_law_580 : decode c_L_law 580 = .ok (.ireturn, 1) := by decide +kernel
theorem d_L_law_581 : decode c_L_law 581 = .ok (.goto 293, 3) := by decide +kernel
theorem d_L_law_584 : decode c_L_law 584 = .ok (.aload_n 1, 1) := by decide +kernel
theorem d_L_law_585 : decode c_L_law 585 = .ok (.aload_n 0, 1) := by decide +kernel
theorem d_L_law_586 : decode c_L_law 586 = .ok (.iload 4, 2) := by decide +kernel
theorem d_L_law_588 : decode c_L_law 588 = .ok (.iconst 1, 1) := by decide +kernel
theorem d_L_law_589 : decode c_L_law 589 = .ok (.iadd, 1) := by decide +kernel
theorem d_L_law_590 : decode c_L_law 590 = .ok (.iaload, 1) := by decide +kernel
theorem d_L_law_591 : decode c_L_law 591 = .ok (.aload_n 3, 1) := by decide +kernel
theorem d_L_law_592 : decode c_L_law 592 = .ok (.invokestatic 102, 3) := by decide +kernel
theorem d_L_law_595 : decode c_L_law 595 = .ok (.istore 5, 2) := by decide +kernel
theorem d_L_law_597 : decode c_L_law 597 = .ok (.aload_n 2, 1) := by decide +kernel
theorem d_L_law_598 : decode c_L_law 598 = .ok (.aload_n 0, 1) := by decide +kernel
theorem d_L_law_599 : decode c_L_law 599 = .ok (.iload 4, 2) := by decide +kernel
theorem d_L_law_601 : decode c_L_law 601 = .ok (.iconst 1, 1) := by decide +kernel
theorem d_L_law_602 : decode c_L_law 602 = .ok (.iadd, 1) := by decide +kernel
theorem d_L_law_603 : decode c_L_law 603 = .ok (.iaload, 1) := by decide +kernel
theorem d_L_law_604 : decode c_L_law 604 = .ok (.invokevirtual 104, 3) := by decide +kernel
theorem d_L_law_607 : decode c_L_law 607 = .ok (.istore 6, 2) := by decide +kernel
theorem d_L_law_609 : decode c_L_law 609 = .ok (.aload_n 2, 1) := by decide +kernel
theorem d_L_law_610 : decode c_L_law 610 = .ok (.invokevirtual 74, 3) := by decide +kernel
theorem d_L_law_613 : decode c_L_law 613 = .ok (.iload 5, 2) := by decide +kernel
theorem d_L_law_615 : decode c_L_law 615 = .ok (.if_icmp .eq 5, 3) := by decide +kernel
theorem d_L_law_618 : decode c_L_law 618 = .ok (.iconst 0, 1) := by decide +kernel
theorem d_L_law_619 : decode c_L_law 619 = .ok (.ireturn, 1) := by decide +kernel
theorem d_L_law_620 : decode c_L_law 620 = .ok (.iload 5, 2) := by decide +kernel
theorem d_L_law_622 : decode c_L_law 622 = .ok (.ifCond .ne 15, 3) := by decide +kernel
theorem d_L_law_625 : decode c_L_law 625 = .ok (.aload_n 3, 1) := by decide +kernel
theorem d_L_law_626 : decode c_L_law 626 = .ok (.iconst 0, 1) := by decide +kernel
theorem d_L_law_627 : decode c_L_law 627 = .ok (.laload, 1) := by decide +kernel
theorem d_L_law_628 : decode c_L_law 628 = .ok (.iload 6, 2) := by decide +kernel
theorem d_L_law_630 : decode c_L_law 630 = .ok (.i2l, 1) := by decide +kernel
theorem d_L_law_631 : decode c_L_law 631 = .ok (.lcmp, 1) := by decide +kernel
theorem d_L_law_632 : decode c_L_law 632 = .ok (.ifCond .eq 5, 3) := by decide +kernel
theorem d_L_law_635 : decode c_L_law 635 = .ok (.iconst 0, 1) := by decide +kernel
theorem d_L_law_636 : decode c_L_law 636 = .ok (.ireturn, 1) := by decide +kernel
theorem d_L_law_637 : decode c_L_law 637 = .ok (.goto 237, 3) := by decide +kernel
theorem d_L_law_640 : decode c_L_law 640 = .ok (.aload_n 1, 1) := by decide +kernel
theorem d_L_law_641 : decode c_L_law 641 = .ok (.aload_n 0, 1) := by decide +kernel
theorem d_L_law_642 : decode c_L_law 642 = .ok (.iload 4, 2) := by decide +kernel
theorem d_L_law_644 : decode c_L_law 644 = .ok (.iconst 1, 1) := by decide +kernel
theorem d_L_law_645 : decode c_L_law 645 = .ok (.iadd, 1) := by decide +kernel
theorem d_L_law_646 : decode c_L_law 646 = .ok (.iaload, 1) := by decide +kernel
theorem d_L_law_647 : decode c_L_law 647 = .ok (.aload_n 3, 1) := by decide +kernel
theorem d_L_law_648 : decode c_L_law 648 = .ok (.invokestatic 105, 3) := by decide +kernel
theorem d_L_law_651 : decode c_L_law 651 = .ok (.istore 5, 2) := by decide +kernel
theorem d_L_law_653 : decode c_L_law 653 = .ok (.aload_n 2, 1) := by decide +kernel
theorem d_L_law_654 : decode c_L_law 654 = .ok (.aload_n 0, 1) := by decide +kernel
theorem d_L_law_655 : decode c_L_law 655 = .ok (.iload 4, 2) := by decide +kernel
theorem d_L_law_657 : decode c_L_law 657 = .ok (.iconst 1, 1) := by decide +kernel
theorem d_L_law_658 : decode c_L_law 658 = .ok (.iadd, 1) := by decide +kernel
theorem d_L_law_659 : decode c_L_law 659 = .ok (.iaload, 1) := by decide +kernel
theorem d_L_law_660 : decode c_L_law 660 = .ok (.invokevirtual 107, 3) := by decide +kernel
theorem d_L_law_663 : decode c_L_law 663 = .ok (.istore 6, 2) := by decide +kernel
theorem d_L_law_665 : decode c_L_law 665 = .ok (.aload_n 2, 1) := by decide +kernel
theorem d_L_law_666 : decode c_L_law 666 = .ok (.invokevirtual 74, 3) := by decide +kernel
theorem d_L_law_669 : decode c_L_law 669 = .ok (.iload 5, 2) := by decide +kernel
theorem d_L_law_671 : decode c_L_law 671 = .ok (.if_icmp .eq 5, 3) := by decide +kernel
theorem d_L_law_674 : decode c_L_law 674 = .ok (.iconst 0, 1) := by decide +kernel
theorem d_L_law_675 : decode c_L_law 675 = .ok (.ireturn, 1) := by decide +kernel
theorem d_L_law_676 : decode c_L_law 676 = .ok (.iload 5, 2) := by decide +kernel
theorem d_L_law_678 : decode c_L_law 678 = .ok (.ifCond .ne 15, 3) := by decide +kernel
theorem d_L_law_681 : decode c_L_law 681 = .ok (.aload_n 3, 1) := by decide +kernel
theorem d_L_law_682 : decode c_L_law 682 = .ok (.iconst 0, 1) := by decide +kernel
theorem d_L_law_683 : decode c_L_law 683 = .ok (.laload, 1) := by decide +kernel
theorem d_L_law_684 : decode c_L_law 684 = .ok (.iload 6, 2) := by decide +kernel
theorem d_L_law_686 : decode c_L_law 686 = .ok (.i2l, 1) := by decide +kernel
theorem d_L_law_687 : decode c_L_law 687 = .ok (.lcmp, 1) := by decide +kernel
theorem d_L_law_688 : decode c_L_law 688 = .ok (.ifCond .eq 5, 3) := by decide +kernel
theorem d_L_law_691 : decode c_L_law 691 = .ok (.iconst 0, 1) := by decide +kernel
theorem d_L_law_692 : decode c_L_law 692 = .ok (.ireturn, 1) := by decide +kernel
theorem d_L_law_693 : decode c_L_law 693 = .ok (.goto 181, 3) := by decide +kernel
theorem d_L_law_696 : decode c_L_law 696 = .ok (.aload_n 1, 1) := by decide +kernel
theorem d_L_law_697 : decode c_L_law 697 = .ok (.aload_n 0, 1) := by decide +kernel
theorem d_L_law_698 : decode c_L_law 698 = .ok (.iload 4, 2) := by decide +kernel
theorem d_L_law_700 : decode c_L_law 700 = .ok (.iconst 1, 1) := by decide +kernel
theorem d_L_law_701 : decode c_L_law 701 = .ok (.iadd, 1) := by decide +kernel
theorem d_L_law_702 : decode c_L_law 702 = .ok (.iaload, 1) := by decide +kernel
theorem d_L_law_703 : decode c_L_law 703 = .ok (.aload_n 0, 1) := by decide +kernel
theorem d_L_law_704 : decode c_L_law 704 = .ok (.iload 4, 2) := by decide +kernel
theorem d_L_law_706 : decode c_L_law 706 = .ok (.iconst 2, 1) := by decide +kernel
theorem d_L_law_707 : decode c_L_law 707 = .ok (.iadd, 1) := by decide +kernel
theorem d_L_law_708 : decode c_L_law 708 = .ok (.iaload, 1) := by decide +kernel
theorem d_L_law_709 : decode c_L_law 709 = .ok (.aload_n 0, 1) := by decide +kernel
theorem d_L_law_710 : decode c_L_law 710 = .ok (.iload 4, 2) := by decide +kernel
theorem d_L_law_712 : decode c_L_law 712 = .ok (.iconst 3, 1) := by decide +kernel
theorem d_L_law_713 : decode c_L_law 713 = .ok (.iadd, 1) := by decide +kernel
theorem d_L_law_714 : decode c_L_law 714 = .ok (.iaload, 1) := by decide +kernel
theorem d_L_law_715 : decode c_L_law 715 = .ok (.aload_n 3, 1) := by decide +kernel
theorem d_L_law_716 : decode c_L_law 716 = .ok (.invokestatic 108, 3) := by decide +kernel
theorem d_L_law_719 : decode c_L_law 719 = .ok (.istore 5, 2) := by decide +kernel
theorem d_L_law_721 : decode c_L_law 721 = .ok (.aload_n 2, 1) := by decide +kernel
theorem d_L_law_722 : decode c_L_law 722 = .ok (.aload_n 0, 1) := by decide +kernel
theorem d_L_law_723 : decode c_L_law 723 = .ok (.iload 4, 2) := by decide +kernel
theorem d_L_law_725 : decode c_L_law 725 = .ok (.iconst 1, 1) := by decide +kernel
theorem d_L_law_726 : decode c_L_law 726 = .ok (.iadd, 1) := by decide +kernel
theorem d_L_law_727 : decode c_L_law 727 = .ok (.iaload, 1) := by decide +kernel
theorem d_L_law_728 : decode c_L_law 728 = .ok (.aload_n 0, 1) := by decide +kernel
theorem d_L_law_729 : decode c_L_law 729 = .ok (.iload 4, 2) := by decide +kernel
theorem d_L_law_731 : decode c_L_law 731 = .ok (.iconst 2, 1) := by decide +kernel
theorem d_L_law_732 : decode c_L_law 732 = .ok (.iadd, 1) := by decide +kernel
theorem d_L_law_733 : decode c_L_law 733 = .ok (.iaload, 1) := by decide +kernel
theorem d_L_law_734 : decode c_L_law 734 = .ok (.aload_n 0, 1) := by decide +kernel
theorem d_L_law_735 : decode c_L_law 735 = .ok (.iload 4, 2) := by decide +kernel
theorem d_L_law_737 : decode c_L_law 737 = .ok (.iconst 3, 1) := by decide +kernel
theorem d_L_law_738 : decode c_L_law 738 = .ok (.iadd, 1) := by decide +kernel
theorem d_L_law_739 : decode c_L_law 739 = .ok (.iaload, 1) := by decide +kernel
theorem d_L_law_740 : decode c_L_law 740 = .ok (.invokevirtual 110, 3) := by decide +kernel
theorem d_L_law_743 : decode c_L_law 743 = .ok (.lstore 6, 2) := by decide +kernel
theorem d_L_law_745 : decode c_L_law 745 = .ok (.aload_n 2, 1) := by decide +kernel
theorem d_L_law_746 : decode c_L_law 746 = .ok (.invokevirtual 74, 3) := by decide +kernel
theorem d_L_law_749 : decode c_L_law 749 = .ok (.iload 5, 2) := by decide +kernel
theorem d_L_law_751 : decode c_L_law 751 = .ok (.if_icmp .eq 5, 3) := by decide +kernel
theorem d_L_law_754 : decode c_L_law 754 = .ok (.iconst 0, 1) := by decide +kernel
theorem d_L_law_755 : decode c_L_law 755 = .ok (.ireturn, 1) := by decide +kernel
theorem d_L_law_756 : decode c_L_law 756 = .ok (.iload 5, 2) := by decide +kernel
theorem d_L_law_758 : decode c_L_law 758 = .ok (.ifCond .ne 14, 3) := by decide +kernel
theorem d_L_law_761 : decode c_L_law 761 = .ok (.aload_n 3, 1) := by decide +kernel
theorem d_L_law_762 : decode c_L_law 762 = .ok (.iconst 0, 1) := by decide +kernel
theorem d_L_law_763 : decode c_L_law 763 = .ok (.laload, 1) := by decide +kernel
theorem d_L_law_764 : decode c_L_law 764 = .ok (.lload 6, 2) := by decide +kernel
theorem d_L_law_766 : decode c_L_law 766 = .ok (.lcmp, 1) := by decide +kernel
theorem d_L_law_767 : decode c_L_law 767 = .ok (.ifCond .eq 5, 3) := by decide +kernel
theorem d_L_law_770 : decode c_L_law 770 = .ok (.iconst 0, 1) := by decide +kernel
theorem d_L_law_771 : decode c_L_law 771 = .ok (.ireturn, 1) := by decide +kernel
theorem d_L_law_772 : decode c_L_law 772 = .ok (.goto 102, 3) := by decide +kernel
theorem d_L_law_775 : decode c_L_law 775 = .ok (.aload_n 1, 1) := by decide +kernel
theorem d_L_law_776 : decode c_L_law 776 = .ok (.aload_n 3, 1) := by decide +kernel
theorem d_L_law_777 : decode c_L_law 777 = .ok (.invokestatic 111, 3) := by decide +kernel
theorem d_L_law_780 : decode c_L_law 780 = .ok (.istore 5, 2) := by decide +kernel
theorem d_L_law_782 : decode c_L_law 782 = .ok (.aload_n 2, 1) := by decide +kernel
theorem d_L_law_783 : decode c_L_law 783 = .ok (.invokevirtual 114, 3) := by decide +kernel
theorem d_L_law_786 : decode c_L_law 786 = .ok (.istore 6, 2) := by decide +kernel
theorem d_L_law_788 : decode c_L_law 788 = .ok (.aload_n 2, 1) := by decide +kernel
theorem d_L_law_789 : decode c_L_law 789 = .ok (.invokevirtual 74, 3) := by decide +kernel
theorem d_L_law_792 : decode c_L_law 792 = .ok (.iload 5, 2) := by decide +kernel
theorem d_L_law_794 : decode c_L_law 794 = .ok (.if_icmp .eq 5, 3) := by decide +kernel
theorem d_L_law_797 : decode c_L_law 797 = .ok (.iconst 0, 1) := by decide +kernel
theorem d_L_law_798 : decode c_L_law 798 = .ok (.ireturn, 1) := by decide +kernel
theorem d_L_law_799 : decode c_L_law 799 = .ok (.iload 5, 2) := by decide +kernel
theorem d_L_law_801 : decode c_L_law 801 = .ok (.ifCond .ne 15, 3) := by decide +kernel
theorem d_L_law_804 : decode c_L_law 804 = .ok (.aload_n 3, 1) := by decide +kernel
theorem d_L_law_805 : decode c_L_law 805 = .ok (.iconst 0, 1) := by decide +kernel
theorem d_L_law_806 : decode c_L_law 806 = .ok (.laload, 1) := by decide +kernel
theorem d_L_law_807 : decode c_L_law 807 = .ok (.iload 6, 2) := by decide +kernel
theorem d_L_law_809 : decode c_L_law 809 = .ok (.i2l, 1) := by decide +kernel
theorem d_L_law_810 : decode c_L_law 810 = .ok (.lcmp, 1) := by decide +kernel
theorem d_L_law_811 : decode c_L_law 811 = .ok (.ifCond .eq 5, 3) := by decide +kernel
theorem d_L_law_814 : decode c_L_law 814 = .ok (.iconst 0, 1) := by decide +kernel
theorem d_L_law_815 : decode c_L_law 815 = .ok (.ireturn, 1) := by decide +kernel
theorem d_L_law_816 : decode c_L_law 816 = .ok (.goto 58, 3) := by decide +kernel
theorem d_L_law_819 : decode c_L_law 819 = .ok (.aload_n 1, 1) := by decide +kernel
theorem d_L_law_820 : decode c_L_law 820 = .ok (.aload_n 0, 1) := by decide +kernel
theorem d_L_law_821 : decode c_L_law 821 = .ok (.iload 4, 2) := by decide +kernel
theorem d_L_law_823 : decode c_L_law 823 = .ok (.iconst 1, 1) := by decide +kernel
theorem d_L_law_824 : decode c_L_law 824 = .ok (.iadd, 1) := by decide +kernel
theorem d_L_law_825 : decode c_L_law 825 = .ok (.iaload, 1) := by decide +kernel
theorem d_L_law_826 : decode c_L_law 826 = .ok (.aload_n 3, 1) := by decide +kernel
theorem d_L_law_827 : decode c_L_law 827 = .ok (.invokestatic 115, 3) := by decide +kernel
theorem d_L_law_830 : decode c_L_law 830 = .ok (.istore 5, 2) := by decide +kernel
theorem d_L_law_832 : decode c_L_law 832 = .ok (.aload_n 2, 1) := by decide +kernel
theorem d_L_law_833 : decode c_L_law 833 = .ok (.aload_n 0, 1) := by decide +kernel
theorem d_L_law_834 : decode c_L_law 834 = .ok (.iload 4, 2) := by decide +kernel
theorem d_L_law_836 : decode c_L_law 836 = .ok (.iconst 1, 1) := by decide +kernel
theorem d_L_law_837 : decode c_L_law 837 = .ok (.iadd, 1) := by decide +kernel
theorem d_L_law_838 : decode c_L_law 838 = .ok (.iaload, 1) := by decide +kernel
theorem d_L_law_839 : decode c_L_law 839 = .ok (.invokevirtual 117, 3) := by decide +kernel
theorem d_L_law_842 : decode c_L_law 842 = .ok (.lstore 6, 2) := by decide +kernel
theorem d_L_law_844 : decode c_L_law 844 = .ok (.aload_n 2, 1) := by decide +kernel
theorem d_L_law_845 : decode c_L_law 845 = .ok (.invokevirtual 74, 3) := by decide +kernel
theorem d_L_law_848 : decode c_L_law 848 = .ok (.iload 5, 2) := by decide +kernel
theorem d_L_law_850 : decode c_L_law 850 = .ok (.if_icmp .eq 5, 3) := by decide +kernel
theorem d_L_law_853 : decode c_L_law 853 = .ok (.iconst 0, 1) := by decide +kernel
theorem d_L_law_854 : decode c_L_law 854 = .ok (.ireturn, 1) := by decide +kernel
theorem d_L_law_855 : decode c_L_law 855 = .ok (.iload 5, 2) := by decide +kernel
theorem d_L_law_857 : decode c_L_law 857 = .ok (.ifCond .ne 14, 3) := by decide +kernel
theorem d_L_law_860 : decode c_L_law 860 = .ok (.aload_n 3, 1) := by decide +kernel
theorem d_L_law_861 : decode c_L_law 861 = .ok (.iconst 0, 1) := by decide +kernel
theorem d_L_law_862 : decode c_L_law 862 = .ok (.laload, 1) := by decide +kernel
theorem d_L_law_863 : decode c_L_law 863 = .ok (.lload 6, 2) := by decide +kernel
theorem d_L_law_865 : decode c_L_law 865 = .ok (.lcmp, 1) := by decide +kernel
theorem d_L_law_866 : decode c_L_law 866 = .ok (.ifCond .eq 5, 3) := by decide +kernel
theorem d_L_law_869 : decode c_L_law 869 = .ok (.iconst 0, 1) := by decide +kernel
theorem d_L_law_870 : decode c_L_law 870 = .ok (.ireturn, 1) := by decide +kernel
theorem d_L_law_871 : decode c_L_law 871 = .ok (.goto 3, 3) := by decide +kernel
theorem d_L_law_874 : decode c_L_law 874 = .ok (.iinc 4 5, 3) := by decide +kernel
theorem d_L_law_877 : decode c_L_law 877 = .ok (.goto (-854), 3) := by decide +kernel
theorem d_L_law_880 : decode c_L_law 880 = .ok (.iconst 1, 1) := by decide +kernel
theorem d_L_law_881 : decode c_L_law 881 = .ok (.ireturn, 1) := by decide +kernel
end
section
abbrev xISE : String := "java/lang/IllegalStateException"
abbrev xIAE : String := "java/lang/IllegalArgumentException"
abbrev xIOB : String := "java/lang/IndexOutOfBoundsException"
abbrev xUOE : String := "java/lang/UnsupportedOperationException"
def n_E22 (U : State) : Prop := va_Nw (.methodLinkNest "AlloyPlans$Melt" 22 y_P_isLowEnd "AlloyPlans") U
theorem n_E22_w {s U : State} (hW : s.WarmedH U.vm) (h : n_E22 s) : n_E22 U := va_Nw.warmM hW h
theorem n_E22_s {s U : State} (hv : s.vm = U.vm) (h : n_E22 s) : n_E22 U := va_Nw.same rfl hv h
def n_A35 (U : State) : Prop := va_Nw (.methodLinkNest "AlloyPlans$Alloy" 35 y_P_surplusAt "AlloyPlans") U
theorem n_A35_w {s U : State} (hW : s.WarmedH U.vm) (h : n_A35 s) : n_A35 U := va_Nw.warmM hW h
theorem n_A35_s {s U : State} (hv : s.vm = U.vm) (h : n_A35 s) : n_A35 U := va_Nw.same rfl hv h
def n_E33 (U : State) : Prop := va_Nw (.methodLinkNest "AlloyPlans$Melt" 33 y_P_surplusAt "AlloyPlans") U
theorem n_E33_w {s U : State} (hW : s.WarmedH U.vm) (h : n_E33 s) : n_E33 U := va_Nw.warmM hW h
theorem n_E33_s {s U : State} (hv : s.vm = U.vm) (h : n_E33 s) : n_E33 U := va_Nw.same rfl hv h
def n_cISE (U : State) : Prop := va_Nw (.castable xISE xISE) U
theorem n_cISE_w {s U : State} (hW : s.WarmedH U.vm) (h : n_cISE s) : n_cISE U := va_Nw.warmC hW h
theorem n_cISE_s {s U : State} (hv : s.vm = U.vm) (h : n_cISE s) : n_cISE U := va_Nw.same rfl hv h
def n_cIAE (U : State) : Prop := va_Nw (.castable xIAE xIAE) U
theorem n_cIAE_w {s U : State} (hW : s.WarmedH U.vm) (h : n_cIAE s) : n_cIAE U := va_Nw.warmC hW h
theorem n_cIAE_s {s U : State} (hv : s.vm = U.vm) (h : n_cIAE s) : n_cIAE U := va_Nw.same rfl hv h
def n_cIOB (U : State) : Prop := va_Nw (.castable xIOB xIOB) U
theorem n_cIOB_w {s U : State} (hW : s.WarmedH U.vm) (h : n_cIOB s) : n_cIOB U := va_Nw.warmC hW h
theorem n_cIOB_s {s U : State} (hv : s.vm = U.vm) (h : n_cIOB s) : n_cIOB U := va_Nw.same rfl hv h
def n_cUOE (U : State) : Prop := va_Nw (.castable xUOE xUOE) U
theorem n_cUOE_w {s U : State} (hW : s.WarmedH U.vm) (h : n_cUOE s) : n_cUOE U := va_Nw.warmC hW h
theorem n_cUOE_s {s U : State} (hv : s.vm = U.vm) (h : n_cUOE s) : n_cUOE U := va_Nw.same rfl hv h
def n_dRuntimeException (U : State) : Prop := va_Nw (.declares ⟨"java/lang/RuntimeException", "<init>", "(Ljava/lang/String;)V"⟩) U
theorem n_dRuntimeException_w {s U : State} (hW : s.WarmedH U.vm) (h : n_dRuntimeException s) : n_dRuntimeException U := va_Nw.warmD hW h
theorem n_dRuntimeException_s {s U : State} (hv : s.vm = U.vm) (h : n_dRuntimeException s) : n_dRuntimeException U := va_Nw.same rfl hv h
def n_dException (U : State) : Prop := va_Nw (.declares ⟨"java/lang/Exception", "<init>", "(Ljava/lang/String;)V"⟩) U
theorem n_dException_w {s U : State} (hW : s.WarmedH U.vm) (h : n_dException s) : n_dException U := va_Nw.warmD hW h
theorem n_dException_s {s U : State} (hv : s.vm = U.vm) (h : n_dException s) : n_dException U := va_Nw.same rfl hv h
def n_dThrowable (U : State) : Prop := va_Nw (.declares ⟨"java/lang/Throwable", "<init>", "(Ljava/lang/String;)V"⟩) U
theorem n_dThrowable_w {s U : State} (hW : s.WarmedH U.vm) (h : n_dThrowable s) : n_dThrowable U := va_Nw.warmD hW h
theorem n_dThrowable_s {s U : State} (hv : s.vm = U.vm) (h : n_dThrowable s) : n_dThrowable U := va_Nw.same rfl hv h
def n_oAlloy (U : State) : Prop := va_AO "AlloyPlans$Alloy" U
theorem n_oAlloy_w {s U : State} (hW : s.WarmedH U.vm) (h : n_oAlloy s) : n_oAlloy U := va_AO.moved hW.alike h
theorem n_oAlloy_s {s U : State} (hv : s.vm = U.vm) (h : n_oAlloy s) : n_oAlloy U := va_AO.moved (by rw [hv]; exact Vm.Alike.refl _) h
def n_oMix (U : State) : Prop := va_AO "AlloyPlans$Mix" U
theorem n_oMix_w {s U : State} (hW : s.WarmedH U.vm) (h : n_oMix s) : n_oMix U := va_AO.moved hW.alike h
theorem n_oMix_s {s U : State} (hv : s.vm = U.vm) (h : n_oMix s) : n_oMix U := va_AO.moved (by rw [hv]; exact Vm.Alike.refl _) h
def n_s46 (U : State) : Prop := (∃ a : Nat, vk_R "AlloyPlans" 46 "something was added" a U)
theorem n_s46_w {s U : State} (hW : s.WarmedH U.vm) (h : n_s46 s) : n_s46 U := h.elim fun a h => ⟨a, vk_R.warm hW h⟩
theorem n_s46_s {s U : State} (hv : s.vm = U.vm) (h : n_s46 s) : n_s46 U := h.elim fun a h => ⟨a, vk_R.same hv.symm h⟩
def n_s182 (U : State) : Prop := (∃ a : Nat, vk_R "AlloyPlans" 182 "out of range" a U)
theorem n_s182_w {s U : State} (hW : s.WarmedH U.vm) (h : n_s182 s) : n_s182 U := h.elim fun a h => ⟨a, vk_R.warm hW h⟩
theorem n_s182_s {s U : State} (hv : s.vm = U.vm) (h : n_s182 s) : n_s182 U := h.elim fun a h => ⟨a, vk_R.same hv.symm h⟩
def n_s177 (U : State) : Prop := (∃ a : Nat, vk_R "AlloyPlans" 177 "no such number" a U)
theorem n_s177_w {s U : State} (hW : s.WarmedH U.vm) (h : n_s177 s) : n_s177 U := h.elim fun a h => ⟨a, vk_R.warm hW h⟩
theorem n_s177_s {s U : State} (hv : s.vm = U.vm) (h : n_s177 s) : n_s177 U := h.elim fun a h => ⟨a, vk_R.same hv.symm h⟩
def n_s87 (U : State) : Prop := (∃ a : Nat, vk_R "AlloyPlans" 87 "there are 4 kinds" a U)
theorem n_s87_w {s U : State} (hW : s.WarmedH U.vm) (h : n_s87 s) : n_s87 U := h.elim fun a h => ⟨a, vk_R.warm hW h⟩
theorem n_s87_s {s U : State} (hv : s.vm = U.vm) (h : n_s87 s) : n_s87 U := h.elim fun a h => ⟨a, vk_R.same hv.symm h⟩
def n_s188 (U : State) : Prop := (∃ a : Nat, vk_R "AlloyPlans" 188 "there is no plan" a U)
theorem n_s188_w {s U : State} (hW : s.WarmedH U.vm) (h : n_s188 s) : n_s188 U := h.elim fun a h => ⟨a, vk_R.warm hW h⟩
theorem n_s188_s {s U : State} (hv : s.vm = U.vm) (h : n_s188 s) : n_s188 U := h.elim fun a h => ⟨a, vk_R.same hv.symm h⟩
def n_s167 (U : State) : Prop := (∃ a : Nat, vk_R "AlloyPlans" 167 "the heat would have more than 65,536 kilos" a U)
theorem n_s167_w {s U : State} (hW : s.WarmedH U.vm) (h : n_s167 s) : n_s167 U := h.elim fun a h => ⟨a, vk_R.warm hW h⟩
theorem n_s167_s {s U : State} (hv : s.vm = U.vm) (h : n_s167 s) : n_s167 U := h.elim fun a h => ⟨a, vk_R.same hv.symm h⟩
def n_xISEIAE (U : State) : Prop := va_Nc xISE xIAE U
theorem n_xISEIAE_w {s U : State} (hW : s.WarmedH U.vm) (h : n_xISEIAE s) : n_xISEIAE U := va_Nc.moved hW.alike h
theorem n_xISEIAE_s {s U : State} (hv : s.vm = U.vm) (h : n_xISEIAE s) : n_xISEIAE U := va_Nc.moved (by rw [hv]; exact Vm.Alike.refl _) h
def n_xISEIOB (U : State) : Prop := va_Nc xISE xIOB U
theorem n_xISEIOB_w {s U : State} (hW : s.WarmedH U.vm) (h : n_xISEIOB s) : n_xISEIOB U := va_Nc.moved hW.alike h
theorem n_xISEIOB_s {s U : State} (hv : s.vm = U.vm) (h : n_xISEIOB s) : n_xISEIOB U := va_Nc.moved (by rw [hv]; exact Vm.Alike.refl _) h
def n_xISEUOE (U : State) : Prop := va_Nc xISE xUOE U
theorem n_xISEUOE_w {s U : State} (hW : s.WarmedH U.vm) (h : n_xISEUOE s) : n_xISEUOE U := va_Nc.moved hW.alike h
theorem n_xISEUOE_s {s U : State} (hv : s.vm = U.vm) (h : n_xISEUOE s) : n_xISEUOE U := va_Nc.moved (by rw [hv]; exact Vm.Alike.refl _) h
def n_xIAEISE (U : State) : Prop := va_Nc xIAE xISE U
theorem n_xIAEISE_w {s U : State} (hW : s.WarmedH U.vm) (h : n_xIAEISE s) : n_xIAEISE U := va_Nc.moved hW.alike h
theorem n_xIAEISE_s {s U : State} (hv : s.vm = U.vm) (h : n_xIAEISE s) : n_xIAEISE U := va_Nc.moved (by rw [hv]; exact Vm.Alike.refl _) h
def n_xIAEIOB (U : State) : Prop := va_Nc xIAE xIOB U
theorem n_xIAEIOB_w {s U : State} (hW : s.WarmedH U.vm) (h : n_xIAEIOB s) : n_xIAEIOB U := va_Nc.moved hW.alike h
theorem n_xIAEIOB_s {s U : State} (hv : s.vm = U.vm) (h : n_xIAEIOB s) : n_xIAEIOB U := va_Nc.moved (by rw [hv]; exact Vm.Alike.refl _) h
def n_xIAEUOE (U : State) : Prop := va_Nc xIAE xUOE U
theorem n_xIAEUOE_w {s U : State} (hW : s.WarmedH U.vm) (h : n_xIAEUOE s) : n_xIAEUOE U := va_Nc.moved hW.alike h
theorem n_xIAEUOE_s {s U : State} (hv : s.vm = U.vm) (h : n_xIAEUOE s) : n_xIAEUOE U := va_Nc.moved (by rw [hv]; exact Vm.Alike.refl _) h
def n_xIOBISE (U : State) : Prop := va_Nc xIOB xISE U
theorem n_xIOBISE_w {s U : State} (hW : s.WarmedH U.vm) (h : n_xIOBISE s) : n_xIOBISE U := va_Nc.moved hW.alike h
theorem n_xIOBISE_s {s U : State} (hv : s.vm = U.vm) (h : n_xIOBISE s) : n_xIOBISE U := va_Nc.moved (by rw [hv]; exact Vm.Alike.refl _) h
def n_xIOBIAE (U : State) : Prop := va_Nc xIOB xIAE U
theorem n_xIOBIAE_w {s U : State} (hW : s.WarmedH U.vm) (h : n_xIOBIAE s) : n_xIOBIAE U := va_Nc.moved hW.alike h
theorem n_xIOBIAE_s {s U : State} (hv : s.vm = U.vm) (h : n_xIOBIAE s) : n_xIOBIAE U := va_Nc.moved (by rw [hv]; exact Vm.Alike.refl _) h
def n_xIOBUOE (U : State) : Prop := va_Nc xIOB xUOE U
theorem n_xIOBUOE_w {s U : State} (hW : s.WarmedH U.vm) (h : n_xIOBUOE s) : n_xIOBUOE U := va_Nc.moved hW.alike h
theorem n_xIOBUOE_s {s U : State} (hv : s.vm = U.vm) (h : n_xIOBUOE s) : n_xIOBUOE U := va_Nc.moved (by rw [hv]; exact Vm.Alike.refl _) h
def n_xUOEISE (U : State) : Prop := va_Nc xUOE xISE U
theorem n_xUOEISE_w {s U : State} (hW : s.WarmedH U.vm) (h : n_xUOEISE s) : n_xUOEISE U := va_Nc.moved hW.alike h
theorem n_xUOEISE_s {s U : State} (hv : s.vm = U.vm) (h : n_xUOEISE s) : n_xUOEISE U := va_Nc.moved (by rw [hv]; exact Vm.Alike.refl _) h
def n_xUOEIAE (U : State) : Prop := va_Nc xUOE xIAE U
theorem n_xUOEIAE_w {s U : State} (hW : s.WarmedH U.vm) (h : n_xUOEIAE s) : n_xUOEIAE U := va_Nc.moved hW.alike h
theorem n_xUOEIAE_s {s U : State} (hv : s.vm = U.vm) (h : n_xUOEIAE s) : n_xUOEIAE U := va_Nc.moved (by rw [hv]; exact Vm.Alike.refl _) h
def n_xUOEIOB (U : State) : Prop := va_Nc xUOE xIOB U
theorem n_xUOEIOB_w {s U : State} (hW : s.WarmedH U.vm) (h : n_xUOEIOB s) : n_xUOEIOB U := va_Nc.moved hW.alike h
theorem n_xUOEIOB_s {s U : State} (hv : s.vm = U.vm) (h : n_xUOEIOB s) : n_xUOEIOB U := va_Nc.moved (by rw [hv]; exact Vm.Alike.refl _) h
def gN (U : State) : Prop := n_E22 U ∧ n_A35 U ∧ n_E33 U ∧ n_cISE U ∧ n_cIAE U ∧ n_cIOB U ∧ n_cUOE U ∧ n_dRuntimeException U ∧ n_dException U ∧ n_dThrowable U ∧ n_oAlloy U ∧ n_oMix U ∧ n_s46 U ∧ n_s182 U ∧ n_s177 U ∧ n_s87 U ∧ n_s188 U ∧ n_s167 U ∧ n_xISEIAE U ∧ n_xISEIOB U ∧ n_xISEUOE U ∧ n_xIAEISE U ∧ n_xIAEIOB U ∧ n_xIAEUOE U ∧ n_xIOBISE U ∧ n_xIOBIAE U ∧ n_xIOBUOE U ∧ n_xUOEISE U ∧ n_xUOEIAE U ∧ n_xUOEIOB U
theorem gN_w {s U : State} (hW : s.WarmedH U.vm) (h : gN s) : gN U := by
  obtain ⟨h0, h1, h2, h3, h4, h5, h6, h7, h8, h9, h10, h11, h12, h13, h14, h15, h16, h17, h18, h19, h20, h21, h22, h23, h24, h25, h26, h27, h28, h29⟩ := h
  exact ⟨n_E22_w hW h0, n_A35_w hW h1, n_E33_w hW h2, n_cISE_w hW h3, n_cIAE_w hW h4, n_cIOB_w hW h5, n_cUOE_w hW h6, n_dRuntimeException_w hW h7, n_dException_w hW h8, n_dThrowable_w hW h9, n_oAlloy_w hW h10, n_oMix_w hW h11, n_s46_w hW h12, n_s182_w hW h13, n_s177_w hW h14, n_s87_w hW h15, n_s188_w hW h16, n_s167_w hW h17, n_xISEIAE_w hW h18, n_xISEIOB_w hW h19, n_xISEUOE_w hW h20, n_xIAEISE_w hW h21, n_xIAEIOB_w hW h22, n_xIAEUOE_w hW h23, n_xIOBISE_w hW h24, n_xIOBIAE_w hW h25, n_xIOBUOE_w hW h26, n_xUOEISE_w hW h27, n_xUOEIAE_w hW h28, n_xUOEIOB_w hW h29⟩
theorem gN_s {s U : State} (hv : s.vm = U.vm) (h : gN s) : gN U := by
  obtain ⟨h0, h1, h2, h3, h4, h5, h6, h7, h8, h9, h10, h11, h12, h13, h14, h15, h16, h17, h18, h19, h20, h21, h22, h23, h24, h25, h26, h27, h28, h29⟩ := h
  exact ⟨n_E22_s hv h0, n_A35_s hv h1, n_E33_s hv h2, n_cISE_s hv h3, n_cIAE_s hv h4, n_cIOB_s hv h5, n_cUOE_s hv h6, n_dRuntimeException_s hv h7, n_dException_s hv h8, n_dThrowable_s hv h9, n_oAlloy_s hv h10, n_oMix_s hv h11, n_s46_s hv h12, n_s182_s hv h13, n_s177_s hv h14, n_s87_s hv h15, n_s188_s hv h16, n_s167_s hv h17, n_xISEIAE_s hv h18, n_xISEIOB_s hv h19, n_xISEUOE_s hv h20, n_xIAEISE_s hv h21, n_xIAEIOB_s hv h22, n_xIAEUOE_s hv h23, n_xIOBISE_s hv h24, n_xIOBIAE_s hv h25, n_xIOBUOE_s hv h26, n_xUOEISE_s hv h27, n_xUOEIAE_s hv h28, n_xUOEIOB_s hv h29⟩
theorem gN_n_E22 {U : State} (h : gN U) : n_E22 U := h.1
theorem gN_n_A35 {U : State} (h : gN U) : n_A35 U := h.2.1
theorem gN_n_E33 {U : State} (h : gN U) : n_E33 U := h.2.2.1
theorem gN_n_cISE {U : State} (h : gN U) : n_cISE U := h.2.2.2.1
theorem gN_n_cIAE {U : State} (h : gN U) : n_cIAE U := h.2.2.2.2.1
theorem gN_n_cIOB {U : State} (h : gN U) : n_cIOB U := h.2.2.2.2.2.1
theorem gN_n_cUOE {U : State} (h : gN U) : n_cUOE U := h.2.2.2.2.2.2.1
theorem gN_n_dRuntimeException {U : State} (h : gN U) : n_dRuntimeException U := h.2.2.2.2.2.2.2.1
theorem gN_n_dException {U : State} (h : gN U) : n_dException U := h.2.2.2.2.2.2.2.2.1
theorem gN_n_dThrowable {U : State} (h : gN U) : n_dThrowable U := h.2.2.2.2.2.2.2.2.2.1
theorem gN_n_oAlloy {U : State} (h : gN U) : n_oAlloy U := h.2.2.2.2.2.2.2.2.2.2.1
theorem gN_n_oMix {U : State} (h : gN U) : n_oMix U := h.2.2.2.2.2.2.2.2.2.2.2.1
theorem gN_n_s46 {U : State} (h : gN U) : n_s46 U := h.2.2.2.2.2.2.2.2.2.2.2.2.1
theorem gN_n_s182 {U : State} (h : gN U) : n_s182 U := h.2.2.2.2.2.2.2.2.2.2.2.2.2.1
theorem gN_n_s177 {U : State} (h : gN U) : n_s177 U := h.2.2.2.2.2.2.2.2.2.2.2.2.2.2.1
theorem gN_n_s87 {U : State} (h : gN U) : n_s87 U := h.2.2.2.2.2.2.2.2.2.2.2.2.2.2.2.1
theorem gN_n_s188 {U : State} (h : gN U) : n_s188 U := h.2.2.2.2.2.2.2.2.2.2.2.2.2.2.2.2.1
theorem gN_n_s167 {U : State} (h : gN U) : n_s167 U := h.2.2.2.2.2.2.2.2.2.2.2.2.2.2.2.2.2.1
theorem gN_n_xISEIAE {U : State} (h : gN U) : n_xISEIAE U := h.2.2.2.2.2.2.2.2.2.2.2.2.2.2.2.2.2.2.1
theorem gN_n_xISEIOB {U : State} (h : gN U) : n_xISEIOB U := h.2.2.2.2.2.2.2.2.2.2.2.2.2.2.2.2.2.2.2.1
theorem gN_n_xISEUOE {U : State} (h : gN U) : n_xISEUOE U := h.2.2.2.2.2.2.2.2.2.2.2.2.2.2.2.2.2.2.2.2.1
theorem gN_n_xIAEISE {U : State} (h : gN U) : n_xIAEISE U := h.2.2.2.2.2.2.2.2.2.2.2.2.2.2.2.2.2.2.2.2.2.1
theorem gN_n_xIAEIOB {U : State} (h : gN U) : n_xIAEIOB U := h.2.2.2.2.2.2.2.2.2.2.2.2.2.2.2.2.2.2.2.2.2.2.1
theorem gN_n_xIAEUOE {U : State} (h : gN U) : n_xIAEUOE U := h.2.2.2.2.2.2.2.2.2.2.2.2.2.2.2.2.2.2.2.2.2.2.2.1
theorem gN_n_xIOBISE {U : State} (h : gN U) : n_xIOBISE U := h.2.2.2.2.2.2.2.2.2.2.2.2.2.2.2.2.2.2.2.2.2.2.2.2.1
theorem gN_n_xIOBIAE {U : State} (h : gN U) : n_xIOBIAE U := h.2.2.2.2.2.2.2.2.2.2.2.2.2.2.2.2.2.2.2.2.2.2.2.2.2.1
theorem gN_n_xIOBUOE {U : State} (h : gN U) : n_xIOBUOE U := h.2.2.2.2.2.2.2.2.2.2.2.2.2.2.2.2.2.2.2.2.2.2.2.2.2.2.1
theorem gN_n_xUOEISE {U : State} (h : gN U) : n_xUOEISE U := h.2.2.2.2.2.2.2.2.2.2.2.2.2.2.2.2.2.2.2.2.2.2.2.2.2.2.2.1
theorem gN_n_xUOEIAE {U : State} (h : gN U) : n_xUOEIAE U := h.2.2.2.2.2.2.2.2.2.2.2.2.2.2.2.2.2.2.2.2.2.2.2.2.2.2.2.2.1
theorem gN_n_xUOEIOB {U : State} (h : gN U) : n_xUOEIOB U := h.2.2.2.2.2.2.2.2.2.2.2.2.2.2.2.2.2.2.2.2.2.2.2.2.2.2.2.2.2
/-- the environment of a call: the classes' tables, the other words, the two statics that a throw reads -/
def gE (D : va_G) (cl : List vw_C) (tys : List (ClassId × FieldType)) (A : Nat → Prop) (U : State) : Prop :=
  va_K D cl tys U ∧ gN U ∧ vx_Zq Bundle.tN "UNASSIGNED_STACK" Bundle.steD A U U.heap ∧ vx_Zq Bundle.tN "SUPPRESSED_SENTINEL" Bundle.listD A U U.heap
theorem gE_same {D : va_G} {cl : List vw_C} {tys : List (ClassId × FieldType)} {A : Nat → Prop} {U V : State} (hv : U.vm = V.vm) (hh : U.heap = V.heap) (h : gE D cl tys A U) : gE D cl tys A V := by
  obtain ⟨h1, h2, h3, h4⟩ := h
  have ha : U.vm.Alike V.vm := by rw [hv]; exact Vm.Alike.refl _
  rw [hh] at h3 h4
  exact ⟨va_K.moved ha h1, gN_s hv h2, vx_Zq.moved ha h3, vx_Zq.moved ha h4⟩
theorem gE_call {D : va_G} {cl : List vw_C} {tys : List (ClassId × FieldType)} {A B : Nat → Prop} {s U : State} {H : Heap} {locs : List Loc} (h : gE D cl tys A s) (hS : va_S A s.heap H locs) (hB : ∀ q, B q → A q) (hU : U.heap = H) (hW : s.WarmedH U.vm) : gE D cl tys B U := by
  obtain ⟨h1, h2, h3, h4⟩ := h
  refine ⟨va_K.moved hW.alike h1, gN_w hW h2, ?_, ?_⟩
  · rw [hU]; exact ((vx_Zq.moved hW.alike (h3.kept hS.2.1))).narrow hB
  · rw [hU]; exact ((vx_Zq.moved hW.alike (h4.kept hS.2.1))).narrow hB
end
section
/-! LAYER: ints and longs as Lean's Int; the world as one pool 'va_pl L f' (L: the addresses, f: what each holds); gW: the machine at pc with the listed locals, the stack, and the world f, comes to Q -/
abbrev iv (z : Int) : Value := .int (Int32.ofInt z)
abbrev jv (z : Int) : Value := .long (Int64.ofInt z)
def r32 (z : Int) : Prop := -2147483648 ≤ z ∧ z ≤ 2147483647
def r64 (z : Int) : Prop := -9223372036854775808 ≤ z ∧ z ≤ 9223372036854775807
theorem iv_T {a : Int} (h : r32 a) : (Int32.ofInt a).toInt = a := by
  obtain ⟨h1, h2⟩ := h
  exact Int32.toInt_ofInt_of_le (by omega) (by omega)
theorem jv_T {a : Int} (h : r64 a) : (Int64.ofInt a).toInt = a := by
  obtain ⟨h1, h2⟩ := h
  exact Int64.toInt_ofInt_of_le (by omega) (by omega)
theorem iv_of (x : Int32) : r32 x.toInt ∧ Int32.ofInt x.toInt = x := by
  refine ⟨⟨?_, ?_⟩, Int32.ofInt_toInt x⟩
  · have := Int32.le_toInt x; omega
  · have := Int32.toInt_lt x; omega
theorem iv_lt {a b : Int} (ha : r32 a) (hb : r32 b) : Int32.ofInt a < Int32.ofInt b ↔ a < b := by rw [Int32.lt_iff_toInt_lt, iv_T ha, iv_T hb]
theorem iv_le {a b : Int} (ha : r32 a) (hb : r32 b) : Int32.ofInt a ≤ Int32.ofInt b ↔ a ≤ b := by rw [Int32.le_iff_toInt_le, iv_T ha, iv_T hb]
theorem iv_eq {a b : Int} (ha : r32 a) (hb : r32 b) : Int32.ofInt a = Int32.ofInt b ↔ a = b := by rw [← Int32.toInt_inj, iv_T ha, iv_T hb]
theorem jv_lt {a b : Int} (ha : r64 a) (hb : r64 b) : Int64.ofInt a < Int64.ofInt b ↔ a < b := by rw [Int64.lt_iff_toInt_lt, jv_T ha, jv_T hb]
theorem jv_eq {a b : Int} (ha : r64 a) (hb : r64 b) : Int64.ofInt a = Int64.ofInt b ↔ a = b := by rw [← Int64.toInt_inj, jv_T ha, jv_T hb]
theorem iv_z : Int32.ofInt 0 = 0 := rfl
theorem iv_lt0 {a : Int} (ha : r32 a) : Int32.ofInt a < 0 ↔ a < 0 := iv_lt (b := 0) ha ⟨by omega, by omega⟩
theorem iv_le0 {a : Int} (ha : r32 a) : Int32.ofInt a ≤ 0 ↔ a ≤ 0 := iv_le (b := 0) ha ⟨by omega, by omega⟩
theorem iv_0le {a : Int} (ha : r32 a) : 0 ≤ Int32.ofInt a ↔ 0 ≤ a := iv_le (a := 0) ⟨by omega, by omega⟩ ha
theorem iv_0lt {a : Int} (ha : r32 a) : 0 < Int32.ofInt a ↔ 0 < a := iv_lt (a := 0) ⟨by omega, by omega⟩ ha
theorem iv_eq0 {a : Int} (ha : r32 a) : Int32.ofInt a = 0 ↔ a = 0 := iv_eq (b := 0) ha ⟨by omega, by omega⟩
theorem jv_eq0 {a : Int} (ha : r64 a) : Int64.ofInt a = 0 ↔ a = 0 := jv_eq (b := 0) ha ⟨by omega, by omega⟩
theorem iv_in {z : Int} {n : Nat} (h : r32 z) (h0 : 0 ≤ z) (hn : z < n) : vp_in (Int32.ofInt z) n := by
  rw [vp_in_iff, iv_T h]
  exact ⟨h0, hn⟩
theorem iv_cl {z : Int} (h : r32 z) : (Int32.ofInt z).toNatClampNeg = z.toNat := by
  show (Int32.ofInt z).toInt.toNat = z.toNat
  rw [iv_T h]
/-- arrays of ints and longs, held as functions to Int -/
def updI (g : Nat → Int) (k : Nat) (z : Int) : Nat → Int := fun j => if j = k then z else g j
abbrev ia (cA : ClassId) (n : Nat) (g : Nat → Int) : va_E := .inl (cA, n, .inl (fun j => Int32.ofInt (g j)))
abbrev ja (cA : ClassId) (n : Nat) (g : Nat → Int) : va_E := .inl (cA, n, .inr (.inl (fun j => Int64.ofInt (g j))))
abbrev qa (cA : ClassId) (n : Nat) (g : Nat → Option Nat) : va_E := .inl (cA, n, .inr (.inr (.inr (.inr g))))
theorem updI_i (g : Nat → Int) (k : Nat) (z : Int) : upd (fun j => Int32.ofInt (g j)) k (Int32.ofInt z) = fun j => Int32.ofInt (updI g k z j) := by
  funext j
  simp only [upd, updI]
  split <;> rfl
theorem updI_l (g : Nat → Int) (k : Nat) (z : Int) : vp_updL (fun j => Int64.ofInt (g j)) k (Int64.ofInt z) = fun j => Int64.ofInt (updI g k z j) := by
  funext j
  simp only [vp_updL, updI]
  split <;> rfl
def gA (L : List Nat) (sz : Nat) : Nat → Prop := fun q => q ∈ L ∨ sz ≤ q
theorem pl_get {L : List Nat} {f : Nat → va_E} {a : Nat} (h : a ∈ L) : ∃ k : Nat, (va_pl L f)[k]? = some (a, f a) := va_pl_get (X := []) h
theorem pl_set {A : Nat → Prop} {L : List Nat} {f : Nat → va_E} {a k : Nat} {e : va_E} (hD : va_D A (va_pl L f)) (h : a ∈ L) (hk : (va_pl L f)[k]? = some (a, f a)) : (va_pl L f).set k (a, e) = va_pl L (va_up f a e) := va_pl_set (X := []) hD h hk
theorem pl_one {D : va_G} {cl : List vw_C} {L : List Nat} {f : Nat → va_E} {H : Heap} (hP : va_P D cl (va_pl L f) H) {a : Nat} (h : a ∈ L) {e : va_E} (he : f a = e) : va_P D cl [(a, e)] H := by
  obtain ⟨k, hk⟩ := pl_get (f := f) h
  intro j q hj
  have hj0 : j = 0 := by
    have := (List.getElem?_eq_some_iff.mp hj).1
    simpa using this
  subst hj0
  cases hj
  rw [← he]
  exact hP k _ hk
theorem pl_D {A B : Nat → Prop} {L : List Nat} {f g : Nat → va_E} (h : va_D A (va_pl L f)) (hB : ∀ q, q ∈ L → B q) : va_D B (va_pl L g) := by
  refine ⟨fun i j x y hx hy hxy => ?_, fun k q hk => ?_⟩
  · simp only [va_pl, List.getElem?_map] at hx hy
    cases h1 : L[i]? with
    | none => rw [h1] at hx; cases hx
    | some a =>
      cases h2 : L[j]? with
      | none => rw [h2] at hy; cases hy
      | some b =>
        rw [h1] at hx; rw [h2] at hy
        cases hx; cases hy
        exact h.1 i j (a, f a) (b, f b) (by simp [va_pl, h1]) (by simp [va_pl, h2]) hxy
  · simp only [va_pl, List.getElem?_map] at hk
    cases h1 : L[k]? with
    | none => rw [h1] at hk; cases hk
    | some a =>
      rw [h1] at hk
      cases hk
      exact hB a (List.mem_of_getElem? h1)
theorem pl_DA {A : Nat → Prop} {L : List Nat} {f : Nat → va_E} (h : va_D A (va_pl L f)) {q : Nat} (hq : q ∈ L) : A q := by
  obtain ⟨k, hk⟩ := pl_get (f := f) hq
  exact h.2 k _ hk
end
section
section GW
variable {p : Program} {l : Launch} {e : Env} {R : Room} {s : State} {m : MethodId} {args : Array Value} {below : List Frame} {meth : Method} {c : Code} {D : va_G} {cl : List vw_C} {A : Nat → Prop} {nL : Nat} {Q : State → Prop} {cells slots : Nat} {L : List Nat} {f : Nat → va_E} {pc : Nat} {lv : List (Nat × Value)} {st : List Value} {cc : ByteArray} {own : String} {tys : List (ClassId × FieldType)}
def gW (p : Program) (l : Launch) (e : Env) (R : Room) (s : State) (m : MethodId) (args : Array Value) (below : List Frame) (meth : Method) (c : Code) (D : va_G) (cl : List vw_C) (A : Nat → Prop) (nL : Nat) (Q : State → Prop) (cells slots : Nat) (L : List Nat) (f : Nat → va_E) (pc : Nat) (lv : List (Nat × Value)) (st : List Value) : Prop :=
  ∀ (H : Heap) (locs : List Loc) (ls : Array Slot), va_P D cl (va_pl L f) H → va_D A (va_pl L f) → va_S A s.heap H locs → lv_has ls nL lv → W p l e R s m args below meth c H locs cells slots Q (F0 m pc ls st)
/-- what stays fixed while a method is walked -/
def gC (p : Program) (s : State) (m : MethodId) (args : Array Value) (c : Code) (D : va_G) (cl : List vw_C) (tys : List (ClassId × FieldType)) (A : Nat → Prop) (cc : ByteArray) (own : String) (nL : Nat) : Prop :=
  CallFix p m c cc nL s args TB own ∧ gE D cl tys A s ∧ ∀ q, s.heap.size ≤ q → A q
theorem g_iconst (C : gC p s m args c D cl tys A cc own nL) {n : Int} (hd : decode cc pc = .ok (.iconst n, 1)) (pc' : Nat) (hp : pc + 1 = pc')  (k : gW p l e R s m args below meth c D cl A nL Q cells slots L f pc' (lv) (iv n :: st)) : gW p l e R s m args below meth c D cl A nL Q cells slots L f (pc) (lv) (st) := by
  intro H locs ls h1 h2 h3 h4
  subst hp
  exact lv_iconst C.1.1 C.1.2.1 hd rfl (k H locs ls h1 h2 h3 h4)
theorem g_bipush (C : gC p s m args c D cl tys A cc own nL) {n : Int} (hd : decode cc pc = .ok (.bipush n, 2)) (pc' : Nat) (hp : pc + 2 = pc') (hn : (Int8.ofInt n).toInt32 = Int32.ofInt n) (k : gW p l e R s m args below meth c D cl A nL Q cells slots L f pc' (lv) (iv n :: st)) : gW p l e R s m args below meth c D cl A nL Q cells slots L f (pc) (lv) (st) := by
  intro H locs ls h1 h2 h3 h4
  subst hp
  exact lv_bipush C.1.1 C.1.2.1 hd hn (k H locs ls h1 h2 h3 h4)
theorem g_sipush (C : gC p s m args c D cl tys A cc own nL) {n : Int} (hd : decode cc pc = .ok (.sipush n, 3)) (pc' : Nat) (hp : pc + 3 = pc') (hn : (Int16.ofInt n).toInt32 = Int32.ofInt n) (k : gW p l e R s m args below meth c D cl A nL Q cells slots L f pc' (lv) (iv n :: st)) : gW p l e R s m args below meth c D cl A nL Q cells slots L f (pc) (lv) (st) := by
  intro H locs ls h1 h2 h3 h4
  subst hp
  exact lv_sipush C.1.1 C.1.2.1 hd hn (k H locs ls h1 h2 h3 h4)
theorem g_lconst (C : gC p s m args c D cl tys A cc own nL) {n : Fin 2} {z : Int} (hd : decode cc pc = .ok (.lconst n, 1)) (pc' : Nat) (hp : pc + 1 = pc') (hn : Int64.ofNat (n : Nat) = Int64.ofInt z) (k : gW p l e R s m args below meth c D cl A nL Q cells slots L f pc' (lv) (jv z :: st)) : gW p l e R s m args below meth c D cl A nL Q cells slots L f (pc) (lv) (st) := by
  intro H locs ls h1 h2 h3 h4
  subst hp
  exact lv_lconst C.1.1 C.1.2.1 hd hn (k H locs ls h1 h2 h3 h4)
theorem g_ldc (C : gC p s m args c D cl tys A cc own nL) {ix : Nat} {z : Int} {v : Int32} (hd : decode cc pc = .ok (.ldc ix, 2)) (pc' : Nat) (hp : pc + 2 = pc') (hv : v = Int32.ofInt z) (hw : Cond.constant own ix v ∈ TB) (k : gW p l e R s m args below meth c D cl A nL Q cells slots L f pc' (lv) (iv z :: st)) : gW p l e R s m args below meth c D cl A nL Q cells slots L f (pc) (lv) (st) := by
  intro H locs ls h1 h2 h3 h4
  subst hp
  subst hv
  exact lv_ldc C.1.1 C.1.2.1 C.1.2.2.2.1 (C.1.2.2.2.2 _ hw) hd (k H locs ls h1 h2 h3 h4)
theorem g_ldc2 (C : gC p s m args c D cl tys A cc own nL) {ix : Nat} {z : Int} {v : Int64} (hd : decode cc pc = .ok (.ldc2_w ix, 3)) (pc' : Nat) (hp : pc + 3 = pc') (hv : v = Int64.ofInt z) (hw : Cond.constantLong own ix v ∈ TB) (k : gW p l e R s m args below meth c D cl A nL Q cells slots L f pc' (lv) (jv z :: st)) : gW p l e R s m args below meth c D cl A nL Q cells slots L f (pc) (lv) (st) := by
  intro H locs ls h1 h2 h3 h4
  subst hp
  subst hv
  exact lv_ldc2 C.1.1 C.1.2.1 C.1.2.2.2.1 (C.1.2.2.2.2 _ hw) hd (k H locs ls h1 h2 h3 h4)
theorem g_iload_n (C : gC p s m args c D cl tys A cc own nL) {j : Fin 4} {i : Nat} {z : Int} (hd : decode cc pc = .ok (.iload_n j, 1)) (pc' : Nat) (hp : pc + 1 = pc') (hi : (j : Nat) = i) (q : Nat) (hq : lv[q]? = some (i, iv z)) (k : gW p l e R s m args below meth c D cl A nL Q cells slots L f pc' (lv) (iv z :: st)) : gW p l e R s m args below meth c D cl A nL Q cells slots L f (pc) (lv) (st) := by
  intro H locs ls h1 h2 h3 h4
  subst hp
  exact lv_iload_n C.1.1 C.1.2.1 hd hi (lv_at h4 q hq) (k H locs ls h1 h2 h3 h4)
theorem g_iload (C : gC p s m args c D cl tys A cc own nL) {i : Nat} {z : Int} (hd : decode cc pc = .ok (.iload i, 2)) (pc' : Nat) (hp : pc + 2 = pc') (q : Nat) (hq : lv[q]? = some (i, iv z)) (k : gW p l e R s m args below meth c D cl A nL Q cells slots L f pc' (lv) (iv z :: st)) : gW p l e R s m args below meth c D cl A nL Q cells slots L f (pc) (lv) (st) := by
  intro H locs ls h1 h2 h3 h4
  subst hp
  exact lv_iload C.1.1 C.1.2.1 hd (lv_at h4 q hq) (k H locs ls h1 h2 h3 h4)
theorem g_lload_n (C : gC p s m args c D cl tys A cc own nL) {j : Fin 4} {i : Nat} {z : Int} (hd : decode cc pc = .ok (.lload_n j, 1)) (pc' : Nat) (hp : pc + 1 = pc') (hi : (j : Nat) = i) (q : Nat) (hq : lv[q]? = some (i, jv z)) (k : gW p l e R s m args below meth c D cl A nL Q cells slots L f pc' (lv) (jv z :: st)) : gW p l e R s m args below meth c D cl A nL Q cells slots L f (pc) (lv) (st) := by
  intro H locs ls h1 h2 h3 h4
  subst hp
  exact lv_lload_n C.1.1 C.1.2.1 hd hi (lv_at h4 q hq) (k H locs ls h1 h2 h3 h4)
theorem g_lload (C : gC p s m args c D cl tys A cc own nL) {i : Nat} {z : Int} (hd : decode cc pc = .ok (.lload i, 2)) (pc' : Nat) (hp : pc + 2 = pc') (q : Nat) (hq : lv[q]? = some (i, jv z)) (k : gW p l e R s m args below meth c D cl A nL Q cells slots L f pc' (lv) (jv z :: st)) : gW p l e R s m args below meth c D cl A nL Q cells slots L f (pc) (lv) (st) := by
  intro H locs ls h1 h2 h3 h4
  subst hp
  exact lv_lload C.1.1 C.1.2.1 hd (lv_at h4 q hq) (k H locs ls h1 h2 h3 h4)
theorem g_aload_n (C : gC p s m args c D cl tys A cc own nL) {j : Fin 4} {i : Nat} {z : Nat} (hd : decode cc pc = .ok (.aload_n j, 1)) (pc' : Nat) (hp : pc + 1 = pc') (hi : (j : Nat) = i) (q : Nat) (hq : lv[q]? = some (i, .ref z)) (k : gW p l e R s m args below meth c D cl A nL Q cells slots L f pc' (lv) (.ref z :: st)) : gW p l e R s m args below meth c D cl A nL Q cells slots L f (pc) (lv) (st) := by
  intro H locs ls h1 h2 h3 h4
  subst hp
  exact lv_aload_n C.1.1 C.1.2.1 hd hi (lv_at h4 q hq) (k H locs ls h1 h2 h3 h4)
theorem g_aload (C : gC p s m args c D cl tys A cc own nL) {i : Nat} {z : Nat} (hd : decode cc pc = .ok (.aload i, 2)) (pc' : Nat) (hp : pc + 2 = pc') (q : Nat) (hq : lv[q]? = some (i, .ref z)) (k : gW p l e R s m args below meth c D cl A nL Q cells slots L f pc' (lv) (.ref z :: st)) : gW p l e R s m args below meth c D cl A nL Q cells slots L f (pc) (lv) (st) := by
  intro H locs ls h1 h2 h3 h4
  subst hp
  exact lv_aload C.1.1 C.1.2.1 hd (lv_at h4 q hq) (k H locs ls h1 h2 h3 h4)
theorem g_istore_n (C : gC p s m args c D cl tys A cc own nL) {j : Fin 4} {i : Nat} {z : Int} (hd : decode cc pc = .ok (.istore_n j, 1)) (pc' : Nat) (hp : pc + 1 = pc') (lv' : List (Nat × Value)) (hi : (j : Nat) = i) (hn : i < nL) (hl : (i, Value.int (Int32.ofInt z)) :: lv.filter (fun q => !(q.1 == i) && !(q.1 + 1 == i && q.2.category == 2)) = lv') (k : gW p l e R s m args below meth c D cl A nL Q cells slots L f pc' (lv') (st)) : gW p l e R s m args below meth c D cl A nL Q cells slots L f (pc) (lv) (iv z :: st) := by
  intro H locs ls h1 h2 h3 h4
  subst hp
  exact lv_istore_n C.1.1 C.1.2.1 hd hi h4 hn hl (fun ls' h4' => k H locs ls' h1 h2 h3 h4')
theorem g_istore (C : gC p s m args c D cl tys A cc own nL) {i : Nat} {z : Int} (hd : decode cc pc = .ok (.istore i, 2)) (pc' : Nat) (hp : pc + 2 = pc') (lv' : List (Nat × Value)) (hn : i < nL) (hl : (i, Value.int (Int32.ofInt z)) :: lv.filter (fun q => !(q.1 == i) && !(q.1 + 1 == i && q.2.category == 2)) = lv') (k : gW p l e R s m args below meth c D cl A nL Q cells slots L f pc' (lv') (st)) : gW p l e R s m args below meth c D cl A nL Q cells slots L f (pc) (lv) (iv z :: st) := by
  intro H locs ls h1 h2 h3 h4
  subst hp
  exact lv_istore C.1.1 C.1.2.1 hd h4 hn hl (fun ls' h4' => k H locs ls' h1 h2 h3 h4')
theorem g_astore_n (C : gC p s m args c D cl tys A cc own nL) {j : Fin 4} {i : Nat} {z : Nat} (hd : decode cc pc = .ok (.astore_n j, 1)) (pc' : Nat) (hp : pc + 1 = pc') (lv' : List (Nat × Value)) (hi : (j : Nat) = i) (hn : i < nL) (hl : (i, Value.ref z) :: lv.filter (fun q => !(q.1 == i) && !(q.1 + 1 == i && q.2.category == 2)) = lv') (k : gW p l e R s m args below meth c D cl A nL Q cells slots L f pc' (lv') (st)) : gW p l e R s m args below meth c D cl A nL Q cells slots L f (pc) (lv) (.ref z :: st) := by
  intro H locs ls h1 h2 h3 h4
  subst hp
  exact lv_astore_n C.1.1 C.1.2.1 hd hi h4 hn hl (fun ls' h4' => k H locs ls' h1 h2 h3 h4')
theorem g_astore (C : gC p s m args c D cl tys A cc own nL) {i : Nat} {z : Nat} (hd : decode cc pc = .ok (.astore i, 2)) (pc' : Nat) (hp : pc + 2 = pc') (lv' : List (Nat × Value)) (hn : i < nL) (hl : (i, Value.ref z) :: lv.filter (fun q => !(q.1 == i) && !(q.1 + 1 == i && q.2.category == 2)) = lv') (k : gW p l e R s m args below meth c D cl A nL Q cells slots L f pc' (lv') (st)) : gW p l e R s m args below meth c D cl A nL Q cells slots L f (pc) (lv) (.ref z :: st) := by
  intro H locs ls h1 h2 h3 h4
  subst hp
  exact lv_astore C.1.1 C.1.2.1 hd h4 hn hl (fun ls' h4' => k H locs ls' h1 h2 h3 h4')
theorem g_lstore_n (C : gC p s m args c D cl tys A cc own nL) {j : Fin 4} {i : Nat} {z : Int} (hd : decode cc pc = .ok (.lstore_n j, 1)) (pc' : Nat) (hp : pc + 1 = pc') (lv' : List (Nat × Value)) (hi : (j : Nat) = i) (hn : i + 1 < nL) (hl : (i, Value.long (Int64.ofInt z)) :: lv.filter (fun q => !(q.1 == i) && (!(q.1 == i + 1) && !(q.1 + 1 == i && q.2.category == 2))) = lv') (k : gW p l e R s m args below meth c D cl A nL Q cells slots L f pc' (lv') (st)) : gW p l e R s m args below meth c D cl A nL Q cells slots L f (pc) (lv) (jv z :: st) := by
  intro H locs ls h1 h2 h3 h4
  subst hp
  exact lv_lstore_n C.1.1 C.1.2.1 hd hi h4 hn hl (fun ls' h4' => k H locs ls' h1 h2 h3 h4')
theorem g_lstore (C : gC p s m args c D cl tys A cc own nL) {i : Nat} {z : Int} (hd : decode cc pc = .ok (.lstore i, 2)) (pc' : Nat) (hp : pc + 2 = pc') (lv' : List (Nat × Value)) (hn : i + 1 < nL) (hl : (i, Value.long (Int64.ofInt z)) :: lv.filter (fun q => !(q.1 == i) && (!(q.1 == i + 1) && !(q.1 + 1 == i && q.2.category == 2))) = lv') (k : gW p l e R s m args below meth c D cl A nL Q cells slots L f pc' (lv') (st)) : gW p l e R s m args below meth c D cl A nL Q cells slots L f (pc) (lv) (jv z :: st) := by
  intro H locs ls h1 h2 h3 h4
  subst hp
  exact lv_lstore C.1.1 C.1.2.1 hd h4 hn hl (fun ls' h4' => k H locs ls' h1 h2 h3 h4')
theorem g_iinc (C : gC p s m args c D cl tys A cc own nL) {i : Nat} {n z : Int} (hd : decode cc pc = .ok (.iinc i n, 3)) (pc' : Nat) (hp : pc + 3 = pc') (lv' : List (Nat × Value)) (q : Nat) (hq : lv[q]? = some (i, iv z)) (hn : i < nL) (hl : (i, Value.int (Int32.ofInt (z + n))) :: lv.filter (fun q => !(q.1 == i) && !(q.1 + 1 == i && q.2.category == 2)) = lv') (k : gW p l e R s m args below meth c D cl A nL Q cells slots L f pc' (lv') (st)) : gW p l e R s m args below meth c D cl A nL Q cells slots L f (pc) (lv) (st) := by
  intro H locs ls h1 h2 h3 h4
  subst hp
  exact lv_iinc C.1.1 C.1.2.1 hd h4 hq (Int32.ofInt_add z n).symm hn hl (fun ls' h4' => k H locs ls' h1 h2 h3 h4')
theorem g_iadd (C : gC p s m args c D cl tys A cc own nL) {x y : Int} (hd : decode cc pc = .ok (.iadd, 1)) (pc' : Nat) (hp : pc + 1 = pc')  (k : gW p l e R s m args below meth c D cl A nL Q cells slots L f pc' (lv) (iv (x + y) :: st)) : gW p l e R s m args below meth c D cl A nL Q cells slots L f (pc) (lv) (iv y :: iv x :: st) := by
  intro H locs ls h1 h2 h3 h4
  subst hp
  refine lv_iadd C.1.1 C.1.2.1 hd ?_
  rw [← Int32.ofInt_add]
  exact k H locs ls h1 h2 h3 h4
theorem g_isub (C : gC p s m args c D cl tys A cc own nL) {x y : Int} (hd : decode cc pc = .ok (.isub, 1)) (pc' : Nat) (hp : pc + 1 = pc')  (k : gW p l e R s m args below meth c D cl A nL Q cells slots L f pc' (lv) (iv (x - y) :: st)) : gW p l e R s m args below meth c D cl A nL Q cells slots L f (pc) (lv) (iv y :: iv x :: st) := by
  intro H locs ls h1 h2 h3 h4
  subst hp
  refine lv_isub C.1.1 C.1.2.1 hd ?_
  rw [← Int32.ofInt_sub]
  exact k H locs ls h1 h2 h3 h4
theorem g_imul (C : gC p s m args c D cl tys A cc own nL) {x y : Int} (hd : decode cc pc = .ok (.imul, 1)) (pc' : Nat) (hp : pc + 1 = pc')  (k : gW p l e R s m args below meth c D cl A nL Q cells slots L f pc' (lv) (iv (x * y) :: st)) : gW p l e R s m args below meth c D cl A nL Q cells slots L f (pc) (lv) (iv y :: iv x :: st) := by
  intro H locs ls h1 h2 h3 h4
  subst hp
  refine lv_imul C.1.1 C.1.2.1 hd ?_
  rw [← Int32.ofInt_mul]
  exact k H locs ls h1 h2 h3 h4
theorem g_ladd (C : gC p s m args c D cl tys A cc own nL) {x y : Int} (hd : decode cc pc = .ok (.ladd, 1)) (pc' : Nat) (hp : pc + 1 = pc')  (k : gW p l e R s m args below meth c D cl A nL Q cells slots L f pc' (lv) (jv (x + y) :: st)) : gW p l e R s m args below meth c D cl A nL Q cells slots L f (pc) (lv) (jv y :: jv x :: st) := by
  intro H locs ls h1 h2 h3 h4
  subst hp
  refine lv_ladd C.1.1 C.1.2.1 hd ?_
  rw [← Int64.ofInt_add]
  exact k H locs ls h1 h2 h3 h4
theorem g_lsub (C : gC p s m args c D cl tys A cc own nL) {x y : Int} (hd : decode cc pc = .ok (.lsub, 1)) (pc' : Nat) (hp : pc + 1 = pc')  (k : gW p l e R s m args below meth c D cl A nL Q cells slots L f pc' (lv) (jv (x - y) :: st)) : gW p l e R s m args below meth c D cl A nL Q cells slots L f (pc) (lv) (jv y :: jv x :: st) := by
  intro H locs ls h1 h2 h3 h4
  subst hp
  refine lv_lsub C.1.1 C.1.2.1 hd ?_
  rw [← Int64.ofInt_sub]
  exact k H locs ls h1 h2 h3 h4
theorem g_lmul (C : gC p s m args c D cl tys A cc own nL) {x y : Int} (hd : decode cc pc = .ok (.lmul, 1)) (pc' : Nat) (hp : pc + 1 = pc')  (k : gW p l e R s m args below meth c D cl A nL Q cells slots L f pc' (lv) (jv (x * y) :: st)) : gW p l e R s m args below meth c D cl A nL Q cells slots L f (pc) (lv) (jv y :: jv x :: st) := by
  intro H locs ls h1 h2 h3 h4
  subst hp
  refine lv_lmul C.1.1 C.1.2.1 hd ?_
  rw [← Int64.ofInt_mul]
  exact k H locs ls h1 h2 h3 h4
theorem g_ineg (C : gC p s m args c D cl tys A cc own nL) {x : Int} (hd : decode cc pc = .ok (.ineg, 1)) (pc' : Nat) (hp : pc + 1 = pc')  (k : gW p l e R s m args below meth c D cl A nL Q cells slots L f pc' (lv) (iv (-x) :: st)) : gW p l e R s m args below meth c D cl A nL Q cells slots L f (pc) (lv) (iv x :: st) := by
  intro H locs ls h1 h2 h3 h4
  subst hp
  refine lv_ineg C.1.1 C.1.2.1 hd ?_
  rw [← Int32.ofInt_neg]
  exact k H locs ls h1 h2 h3 h4
theorem g_idiv (C : gC p s m args c D cl tys A cc own nL) {x y : Int} (hd : decode cc pc = .ok (.idiv, 1)) (pc' : Nat) (hp : pc + 1 = pc') (hx : r32 x) (hy : r32 y) (hy0 : y ≠ 0) (k : gW p l e R s m args below meth c D cl A nL Q cells slots L f pc' (lv) (iv (x.tdiv y) :: st)) : gW p l e R s m args below meth c D cl A nL Q cells slots L f (pc) (lv) (iv y :: iv x :: st) := by
  intro H locs ls h1 h2 h3 h4
  subst hp
  refine lv_idiv C.1.1 C.1.2.1 hd (fun h => hy0 ((iv_eq0 hy).mp h)) ?_
  rw [← Int32.ofInt_tdiv hx.1 hx.2 hy.1 hy.2]
  exact k H locs ls h1 h2 h3 h4
theorem g_ldiv (C : gC p s m args c D cl tys A cc own nL) {x y : Int} (hd : decode cc pc = .ok (.ldiv, 1)) (pc' : Nat) (hp : pc + 1 = pc') (hx : r64 x) (hy : r64 y) (hy0 : y ≠ 0) (k : gW p l e R s m args below meth c D cl A nL Q cells slots L f pc' (lv) (jv (x.tdiv y) :: st)) : gW p l e R s m args below meth c D cl A nL Q cells slots L f (pc) (lv) (jv y :: jv x :: st) := by
  intro H locs ls h1 h2 h3 h4
  subst hp
  refine lv_ldiv C.1.1 C.1.2.1 hd (fun h => hy0 ((jv_eq0 hy).mp h)) ?_
  rw [← Int64.ofInt_tdiv hx.1 hx.2 hy.1 hy.2]
  exact k H locs ls h1 h2 h3 h4
theorem g_irem (C : gC p s m args c D cl tys A cc own nL) {x y : Int} (hd : decode cc pc = .ok (.irem, 1)) (pc' : Nat) (hp : pc + 1 = pc') (hx : r32 x) (hy : r32 y) (hy0 : y ≠ 0) (k : gW p l e R s m args below meth c D cl A nL Q cells slots L f pc' (lv) (iv (x.tmod y) :: st)) : gW p l e R s m args below meth c D cl A nL Q cells slots L f (pc) (lv) (iv y :: iv x :: st) := by
  intro H locs ls h1 h2 h3 h4
  subst hp
  refine lv_irem C.1.1 C.1.2.1 hd (fun h => hy0 ((iv_eq0 hy).mp h)) ?_
  rw [← Int32.ofInt_tdiv hx.1 hx.2 hy.1 hy.2, ← Int32.ofInt_mul, ← Int32.ofInt_sub, show x - x.tdiv y * y = x.tmod y by rw [Int.tmod_def, Int.mul_comm]]
  exact k H locs ls h1 h2 h3 h4
theorem g_lrem (C : gC p s m args c D cl tys A cc own nL) {x y : Int} (hd : decode cc pc = .ok (.lrem, 1)) (pc' : Nat) (hp : pc + 1 = pc') (hx : r64 x) (hy : r64 y) (hy0 : y ≠ 0) (k : gW p l e R s m args below meth c D cl A nL Q cells slots L f pc' (lv) (jv (x.tmod y) :: st)) : gW p l e R s m args below meth c D cl A nL Q cells slots L f (pc) (lv) (jv y :: jv x :: st) := by
  intro H locs ls h1 h2 h3 h4
  subst hp
  refine lv_lrem C.1.1 C.1.2.1 hd (fun h => hy0 ((jv_eq0 hy).mp h)) ?_
  rw [← Int64.ofInt_tdiv hx.1 hx.2 hy.1 hy.2, ← Int64.ofInt_mul, ← Int64.ofInt_sub, show x - x.tdiv y * y = x.tmod y by rw [Int.tmod_def, Int.mul_comm]]
  exact k H locs ls h1 h2 h3 h4
theorem g_i2l (C : gC p s m args c D cl tys A cc own nL) {x : Int} (hd : decode cc pc = .ok (.i2l, 1)) (pc' : Nat) (hp : pc + 1 = pc') (hx : r32 x) (k : gW p l e R s m args below meth c D cl A nL Q cells slots L f pc' (lv) (jv x :: st)) : gW p l e R s m args below meth c D cl A nL Q cells slots L f (pc) (lv) (iv x :: st) := by
  intro H locs ls h1 h2 h3 h4
  subst hp
  exact lv_i2l C.1.1 C.1.2.1 hd (Int32.toInt64_ofInt hx.1 hx.2) (k H locs ls h1 h2 h3 h4)
theorem g_l2i (C : gC p s m args c D cl tys A cc own nL) {x : Int} (hd : decode cc pc = .ok (.l2i, 1)) (pc' : Nat) (hp : pc + 1 = pc')  (k : gW p l e R s m args below meth c D cl A nL Q cells slots L f pc' (lv) (iv x :: st)) : gW p l e R s m args below meth c D cl A nL Q cells slots L f (pc) (lv) (jv x :: st) := by
  intro H locs ls h1 h2 h3 h4
  subst hp
  exact lv_l2i C.1.1 C.1.2.1 hd Int64.toInt32_ofInt (k H locs ls h1 h2 h3 h4)
theorem g_dup (C : gC p s m args c D cl tys A cc own nL) {va : Value} (hd : decode cc pc = .ok (.dup, 1)) (pc' : Nat) (hp : pc + 1 = pc') (ha : va.category = 1) (k : gW p l e R s m args below meth c D cl A nL Q cells slots L f pc' (lv) (va :: va :: st)) : gW p l e R s m args below meth c D cl A nL Q cells slots L f (pc) (lv) (va :: st) := by
  intro H locs ls h1 h2 h3 h4
  subst hp
  exact lv_dup C.1.1 C.1.2.1 hd ha (k H locs ls h1 h2 h3 h4)
theorem g_pop (C : gC p s m args c D cl tys A cc own nL) {va : Value} (hd : decode cc pc = .ok (.pop, 1)) (pc' : Nat) (hp : pc + 1 = pc') (ha : va.category = 1) (k : gW p l e R s m args below meth c D cl A nL Q cells slots L f pc' (lv) (st)) : gW p l e R s m args below meth c D cl A nL Q cells slots L f (pc) (lv) (va :: st) := by
  intro H locs ls h1 h2 h3 h4
  subst hp
  exact lv_pop C.1.1 C.1.2.1 hd ha (k H locs ls h1 h2 h3 h4)
theorem g_dup_x1 (C : gC p s m args c D cl tys A cc own nL) {va vb : Value} (hd : decode cc pc = .ok (.dup_x1, 1)) (pc' : Nat) (hp : pc + 1 = pc') (ha : va.category = 1) (hb : vb.category = 1) (k : gW p l e R s m args below meth c D cl A nL Q cells slots L f pc' (lv) (va :: vb :: va :: st)) : gW p l e R s m args below meth c D cl A nL Q cells slots L f (pc) (lv) (va :: vb :: st) := by
  intro H locs ls h1 h2 h3 h4
  subst hp
  exact lv_dup_x1 C.1.1 C.1.2.1 hd ha hb (k H locs ls h1 h2 h3 h4)
theorem g_dup_x2 (C : gC p s m args c D cl tys A cc own nL) {va vb vd : Value} (hd : decode cc pc = .ok (.dup_x2, 1)) (pc' : Nat) (hp : pc + 1 = pc') (ha : va.category = 1) (hb : vb.category = 1) (he : vd.category = 1) (k : gW p l e R s m args below meth c D cl A nL Q cells slots L f pc' (lv) (va :: vb :: vd :: va :: st)) : gW p l e R s m args below meth c D cl A nL Q cells slots L f (pc) (lv) (va :: vb :: vd :: st) := by
  intro H locs ls h1 h2 h3 h4
  subst hp
  exact lv_dup_x2 C.1.1 C.1.2.1 hd ha hb he (k H locs ls h1 h2 h3 h4)
theorem g_dup2_11 (C : gC p s m args c D cl tys A cc own nL) {va vb : Value} (hd : decode cc pc = .ok (.dup2, 1)) (pc' : Nat) (hp : pc + 1 = pc') (ha : va.category = 1) (hb : vb.category = 1) (k : gW p l e R s m args below meth c D cl A nL Q cells slots L f pc' (lv) (va :: vb :: va :: vb :: st)) : gW p l e R s m args below meth c D cl A nL Q cells slots L f (pc) (lv) (va :: vb :: st) := by
  intro H locs ls h1 h2 h3 h4
  subst hp
  exact lv_dup2_11 C.1.1 C.1.2.1 hd ha hb (k H locs ls h1 h2 h3 h4)
theorem g_dup2_2 (C : gC p s m args c D cl tys A cc own nL) {va : Value} (hd : decode cc pc = .ok (.dup2, 1)) (pc' : Nat) (hp : pc + 1 = pc') (ha : va.category = 2) (k : gW p l e R s m args below meth c D cl A nL Q cells slots L f pc' (lv) (va :: va :: st)) : gW p l e R s m args below meth c D cl A nL Q cells slots L f (pc) (lv) (va :: st) := by
  intro H locs ls h1 h2 h3 h4
  subst hp
  exact lv_dup2_2 C.1.1 C.1.2.1 hd ha (k H locs ls h1 h2 h3 h4)
theorem g_pop2_2 (C : gC p s m args c D cl tys A cc own nL) {va : Value} (hd : decode cc pc = .ok (.pop2, 1)) (pc' : Nat) (hp : pc + 1 = pc') (ha : va.category = 2) (k : gW p l e R s m args below meth c D cl A nL Q cells slots L f pc' (lv) (st)) : gW p l e R s m args below meth c D cl A nL Q cells slots L f (pc) (lv) (va :: st) := by
  intro H locs ls h1 h2 h3 h4
  subst hp
  exact lv_pop2_2 C.1.1 C.1.2.1 hd ha (k H locs ls h1 h2 h3 h4)
theorem g_dup2_x1_2 (C : gC p s m args c D cl tys A cc own nL) {va vb : Value} (hd : decode cc pc = .ok (.dup2_x1, 1)) (pc' : Nat) (hp : pc + 1 = pc') (ha : va.category = 2) (hb : vb.category = 1) (k : gW p l e R s m args below meth c D cl A nL Q cells slots L f pc' (lv) (va :: vb :: va :: st)) : gW p l e R s m args below meth c D cl A nL Q cells slots L f (pc) (lv) (va :: vb :: st) := by
  intro H locs ls h1 h2 h3 h4
  subst hp
  exact lv_dup2_x1_2 C.1.1 C.1.2.1 hd ha hb (k H locs ls h1 h2 h3 h4)
theorem g_dup2_x2_2 (C : gC p s m args c D cl tys A cc own nL) {va vb vd : Value} (hd : decode cc pc = .ok (.dup2_x2, 1)) (pc' : Nat) (hp : pc + 1 = pc') (ha : va.category = 2) (hb : vb.category = 1) (he : vd.category = 1) (k : gW p l e R s m args below meth c D cl A nL Q cells slots L f pc' (lv) (va :: vb :: vd :: va :: st)) : gW p l e R s m args below meth c D cl A nL Q cells slots L f (pc) (lv) (va :: vb :: vd :: st) := by
  intro H locs ls h1 h2 h3 h4
  subst hp
  exact lv_dup2_x2_2 C.1.1 C.1.2.1 hd ha hb he (k H locs ls h1 h2 h3 h4)
theorem g_goto (C : gC p s m args c D cl tys A cc own nL) {off : Int} (hd : decode cc pc = .ok (.goto off, 3)) (tgt : Nat) (ht : (pc : Int) + off = (tgt : Int)) (k : gW p l e R s m args below meth c D cl A nL Q cells slots L f (tgt) (lv) (st)) : gW p l e R s m args below meth c D cl A nL Q cells slots L f (pc) (lv) (st) := by
  intro H locs ls h1 h2 h3 h4
  exact lv_goto C.1.1 C.1.2.1 hd ht (k H locs ls h1 h2 h3 h4)
theorem g_icmp_eq (C : gC p s m args c D cl tys A cc own nL) {x y : Int} {off : Int} (hd : decode cc pc = .ok (.if_icmp .eq off, 3)) (pc' : Nat) (hp : pc + 3 = pc') (hx : r32 x) (hy : r32 y) (tgt : Nat) (ht : (pc : Int) + off = (tgt : Int)) (kt : x = y → gW p l e R s m args below meth c D cl A nL Q cells slots L f (tgt) (lv) (st)) (kf : ¬ x = y → gW p l e R s m args below meth c D cl A nL Q cells slots L f pc' (lv) (st)) : gW p l e R s m args below meth c D cl A nL Q cells slots L f (pc) (lv) (iv y :: iv x :: st) := by
  intro H locs ls h1 h2 h3 h4
  subst hp
  exact lv_icmp_eq C.1.1 C.1.2.1 hd ht (fun h => kt ((iv_eq hx hy).mp h) H locs ls h1 h2 h3 h4) (fun h => kf (fun q => h ((iv_eq hx hy).mpr q)) H locs ls h1 h2 h3 h4)
theorem g_if_eq (C : gC p s m args c D cl tys A cc own nL) {x : Int} {off : Int} (hd : decode cc pc = .ok (.ifCond .eq off, 3)) (pc' : Nat) (hp : pc + 3 = pc') (hx : r32 x) (tgt : Nat) (ht : (pc : Int) + off = (tgt : Int)) (kt : x = 0 → gW p l e R s m args below meth c D cl A nL Q cells slots L f (tgt) (lv) (st)) (kf : ¬ x = 0 → gW p l e R s m args below meth c D cl A nL Q cells slots L f pc' (lv) (st)) : gW p l e R s m args below meth c D cl A nL Q cells slots L f (pc) (lv) (iv x :: st) := by
  intro H locs ls h1 h2 h3 h4
  subst hp
  exact lv_if_eq C.1.1 C.1.2.1 hd ht (fun h => kt ((iv_eq0 hx).mp h) H locs ls h1 h2 h3 h4) (fun h => kf (fun q => h ((iv_eq0 hx).mpr q)) H locs ls h1 h2 h3 h4)
theorem g_icmp_ne (C : gC p s m args c D cl tys A cc own nL) {x y : Int} {off : Int} (hd : decode cc pc = .ok (.if_icmp .ne off, 3)) (pc' : Nat) (hp : pc + 3 = pc') (hx : r32 x) (hy : r32 y) (tgt : Nat) (ht : (pc : Int) + off = (tgt : Int)) (kt : ¬ x = y → gW p l e R s m args below meth c D cl A nL Q cells slots L f (tgt) (lv) (st)) (kf : x = y → gW p l e R s m args below meth c D cl A nL Q cells slots L f pc' (lv) (st)) : gW p l e R s m args below meth c D cl A nL Q cells slots L f (pc) (lv) (iv y :: iv x :: st) := by
  intro H locs ls h1 h2 h3 h4
  subst hp
  exact lv_icmp_ne C.1.1 C.1.2.1 hd ht (fun h => kt (fun q => h ((iv_eq hx hy).mpr q)) H locs ls h1 h2 h3 h4) (fun h => kf ((iv_eq hx hy).mp h) H locs ls h1 h2 h3 h4)
theorem g_if_ne (C : gC p s m args c D cl tys A cc own nL) {x : Int} {off : Int} (hd : decode cc pc = .ok (.ifCond .ne off, 3)) (pc' : Nat) (hp : pc + 3 = pc') (hx : r32 x) (tgt : Nat) (ht : (pc : Int) + off = (tgt : Int)) (kt : ¬ x = 0 → gW p l e R s m args below meth c D cl A nL Q cells slots L f (tgt) (lv) (st)) (kf : x = 0 → gW p l e R s m args below meth c D cl A nL Q cells slots L f pc' (lv) (st)) : gW p l e R s m args below meth c D cl A nL Q cells slots L f (pc) (lv) (iv x :: st) := by
  intro H locs ls h1 h2 h3 h4
  subst hp
  exact lv_if_ne C.1.1 C.1.2.1 hd ht (fun h => kt (fun q => h ((iv_eq0 hx).mpr q)) H locs ls h1 h2 h3 h4) (fun h => kf ((iv_eq0 hx).mp h) H locs ls h1 h2 h3 h4)
theorem g_icmp_lt (C : gC p s m args c D cl tys A cc own nL) {x y : Int} {off : Int} (hd : decode cc pc = .ok (.if_icmp .lt off, 3)) (pc' : Nat) (hp : pc + 3 = pc') (hx : r32 x) (hy : r32 y) (tgt : Nat) (ht : (pc : Int) + off = (tgt : Int)) (kt : x < y → gW p l e R s m args below meth c D cl A nL Q cells slots L f (tgt) (lv) (st)) (kf : ¬ x < y → gW p l e R s m args below meth c D cl A nL Q cells slots L f pc' (lv) (st)) : gW p l e R s m args below meth c D cl A nL Q cells slots L f (pc) (lv) (iv y :: iv x :: st) := by
  intro H locs ls h1 h2 h3 h4
  subst hp
  exact lv_icmp_lt C.1.1 C.1.2.1 hd ht (fun h => kt ((iv_lt hx hy).mp h) H locs ls h1 h2 h3 h4) (fun h => kf (fun q => h ((iv_lt hx hy).mpr q)) H locs ls h1 h2 h3 h4)
theorem g_if_lt (C : gC p s m args c D cl tys A cc own nL) {x : Int} {off : Int} (hd : decode cc pc = .ok (.ifCond .lt off, 3)) (pc' : Nat) (hp : pc + 3 = pc') (hx : r32 x) (tgt : Nat) (ht : (pc : Int) + off = (tgt : Int)) (kt : x < 0 → gW p l e R s m args below meth c D cl A nL Q cells slots L f (tgt) (lv) (st)) (kf : ¬ x < 0 → gW p l e R s m args below meth c D cl A nL Q cells slots L f pc' (lv) (st)) : gW p l e R s m args below meth c D cl A nL Q cells slots L f (pc) (lv) (iv x :: st) := by
  intro H locs ls h1 h2 h3 h4
  subst hp
  exact lv_if_lt C.1.1 C.1.2.1 hd ht (fun h => kt ((iv_lt0 hx).mp h) H locs ls h1 h2 h3 h4) (fun h => kf (fun q => h ((iv_lt0 hx).mpr q)) H locs ls h1 h2 h3 h4)
theorem g_icmp_ge (C : gC p s m args c D cl tys A cc own nL) {x y : Int} {off : Int} (hd : decode cc pc = .ok (.if_icmp .ge off, 3)) (pc' : Nat) (hp : pc + 3 = pc') (hx : r32 x) (hy : r32 y) (tgt : Nat) (ht : (pc : Int) + off = (tgt : Int)) (kt : y ≤ x → gW p l e R s m args below meth c D cl A nL Q cells slots L f (tgt) (lv) (st)) (kf : ¬ y ≤ x → gW p l e R s m args below meth c D cl A nL Q cells slots L f pc' (lv) (st)) : gW p l e R s m args below meth c D cl A nL Q cells slots L f (pc) (lv) (iv y :: iv x :: st) := by
  intro H locs ls h1 h2 h3 h4
  subst hp
  exact lv_icmp_ge C.1.1 C.1.2.1 hd ht (fun h => kt ((iv_le hy hx).mp h) H locs ls h1 h2 h3 h4) (fun h => kf (fun q => h ((iv_le hy hx).mpr q)) H locs ls h1 h2 h3 h4)
theorem g_if_ge (C : gC p s m args c D cl tys A cc own nL) {x : Int} {off : Int} (hd : decode cc pc = .ok (.ifCond .ge off, 3)) (pc' : Nat) (hp : pc + 3 = pc') (hx : r32 x) (tgt : Nat) (ht : (pc : Int) + off = (tgt : Int)) (kt : 0 ≤ x → gW p l e R s m args below meth c D cl A nL Q cells slots L f (tgt) (lv) (st)) (kf : ¬ 0 ≤ x → gW p l e R s m args below meth c D cl A nL Q cells slots L f pc' (lv) (st)) : gW p l e R s m args below meth c D cl A nL Q cells slots L f (pc) (lv) (iv x :: st) := by
  intro H locs ls h1 h2 h3 h4
  subst hp
  exact lv_if_ge C.1.1 C.1.2.1 hd ht (fun h => kt ((iv_0le hx).mp h) H locs ls h1 h2 h3 h4) (fun h => kf (fun q => h ((iv_0le hx).mpr q)) H locs ls h1 h2 h3 h4)
theorem g_icmp_gt (C : gC p s m args c D cl tys A cc own nL) {x y : Int} {off : Int} (hd : decode cc pc = .ok (.if_icmp .gt off, 3)) (pc' : Nat) (hp : pc + 3 = pc') (hx : r32 x) (hy : r32 y) (tgt : Nat) (ht : (pc : Int) + off = (tgt : Int)) (kt : y < x → gW p l e R s m args below meth c D cl A nL Q cells slots L f (tgt) (lv) (st)) (kf : ¬ y < x → gW p l e R s m args below meth c D cl A nL Q cells slots L f pc' (lv) (st)) : gW p l e R s m args below meth c D cl A nL Q cells slots L f (pc) (lv) (iv y :: iv x :: st) := by
  intro H locs ls h1 h2 h3 h4
  subst hp
  exact lv_icmp_gt C.1.1 C.1.2.1 hd ht (fun h => kt ((iv_lt hy hx).mp h) H locs ls h1 h2 h3 h4) (fun h => kf (fun q => h ((iv_lt hy hx).mpr q)) H locs ls h1 h2 h3 h4)
theorem g_if_gt (C : gC p s m args c D cl tys A cc own nL) {x : Int} {off : Int} (hd : decode cc pc = .ok (.ifCond .gt off, 3)) (pc' : Nat) (hp : pc + 3 = pc') (hx : r32 x) (tgt : Nat) (ht : (pc : Int) + off = (tgt : Int)) (kt : 0 < x → gW p l e R s m args below meth c D cl A nL Q cells slots L f (tgt) (lv) (st)) (kf : ¬ 0 < x → gW p l e R s m args below meth c D cl A nL Q cells slots L f pc' (lv) (st)) : gW p l e R s m args below meth c D cl A nL Q cells slots L f (pc) (lv) (iv x :: st) := by
  intro H locs ls h1 h2 h3 h4
  subst hp
  exact lv_if_gt C.1.1 C.1.2.1 hd ht (fun h => kt ((iv_0lt hx).mp h) H locs ls h1 h2 h3 h4) (fun h => kf (fun q => h ((iv_0lt hx).mpr q)) H locs ls h1 h2 h3 h4)
theorem g_icmp_le (C : gC p s m args c D cl tys A cc own nL) {x y : Int} {off : Int} (hd : decode cc pc = .ok (.if_icmp .le off, 3)) (pc' : Nat) (hp : pc + 3 = pc') (hx : r32 x) (hy : r32 y) (tgt : Nat) (ht : (pc : Int) + off = (tgt : Int)) (kt : x ≤ y → gW p l e R s m args below meth c D cl A nL Q cells slots L f (tgt) (lv) (st)) (kf : ¬ x ≤ y → gW p l e R s m args below meth c D cl A nL Q cells slots L f pc' (lv) (st)) : gW p l e R s m args below meth c D cl A nL Q cells slots L f (pc) (lv) (iv y :: iv x :: st) := by
  intro H locs ls h1 h2 h3 h4
  subst hp
  exact lv_icmp_le C.1.1 C.1.2.1 hd ht (fun h => kt ((iv_le hx hy).mp h) H locs ls h1 h2 h3 h4) (fun h => kf (fun q => h ((iv_le hx hy).mpr q)) H locs ls h1 h2 h3 h4)
theorem g_if_le (C : gC p s m args c D cl tys A cc own nL) {x : Int} {off : Int} (hd : decode cc pc = .ok (.ifCond .le off, 3)) (pc' : Nat) (hp : pc + 3 = pc') (hx : r32 x) (tgt : Nat) (ht : (pc : Int) + off = (tgt : Int)) (kt : x ≤ 0 → gW p l e R s m args below meth c D cl A nL Q cells slots L f (tgt) (lv) (st)) (kf : ¬ x ≤ 0 → gW p l e R s m args below meth c D cl A nL Q cells slots L f pc' (lv) (st)) : gW p l e R s m args below meth c D cl A nL Q cells slots L f (pc) (lv) (iv x :: st) := by
  intro H locs ls h1 h2 h3 h4
  subst hp
  exact lv_if_le C.1.1 C.1.2.1 hd ht (fun h => kt ((iv_le0 hx).mp h) H locs ls h1 h2 h3 h4) (fun h => kf (fun q => h ((iv_le0 hx).mpr q)) H locs ls h1 h2 h3 h4)
theorem jv_le {a b : Int} (ha : r64 a) (hb : r64 b) : Int64.ofInt a ≤ Int64.ofInt b ↔ a ≤ b := by rw [Int64.le_iff_toInt_le, jv_T ha, jv_T hb]
theorem g_lcmp_eq (C : gC p s m args c D cl tys A cc own nL) {x y : Int} {off : Int} (hd : decode cc pc = .ok (.lcmp, 1)) (pc1 : Nat) (hp1 : pc + 1 = pc1) (pc' : Nat) (hp : pc1 + 3 = pc') (hx : r64 x) (hy : r64 y) (tgt : Nat) (ht : (pc1 : Int) + off = (tgt : Int)) (hd2 : decode cc pc1 = .ok (.ifCond .eq off, 3)) (kt : x = y → gW p l e R s m args below meth c D cl A nL Q cells slots L f (tgt) (lv) (st)) (kf : ¬ x = y → gW p l e R s m args below meth c D cl A nL Q cells slots L f pc' (lv) (st)) : gW p l e R s m args below meth c D cl A nL Q cells slots L f (pc) (lv) (jv y :: jv x :: st) := by
  intro H locs ls h1 h2 h3 h4
  subst hp
  subst hp1
  refine W.lcmp C.1.1 C.1.2.1 hd ?_
  exact lv_if_eq C.1.1 C.1.2.1 hd2 ht (fun h => kt ((jv_eq hx hy).mp ((lg_cmp_eq _ _).mp h)) H locs ls h1 h2 h3 h4) (fun h => kf (fun q => h ((lg_cmp_eq _ _).mpr ((jv_eq hx hy).mpr q))) H locs ls h1 h2 h3 h4)
theorem g_lcmp_lt (C : gC p s m args c D cl tys A cc own nL) {x y : Int} {off : Int} (hd : decode cc pc = .ok (.lcmp, 1)) (pc1 : Nat) (hp1 : pc + 1 = pc1) (pc' : Nat) (hp : pc1 + 3 = pc') (hx : r64 x) (hy : r64 y) (tgt : Nat) (ht : (pc1 : Int) + off = (tgt : Int)) (hd2 : decode cc pc1 = .ok (.ifCond .lt off, 3)) (kt : x < y → gW p l e R s m args below meth c D cl A nL Q cells slots L f (tgt) (lv) (st)) (kf : ¬ x < y → gW p l e R s m args below meth c D cl A nL Q cells slots L f pc' (lv) (st)) : gW p l e R s m args below meth c D cl A nL Q cells slots L f (pc) (lv) (jv y :: jv x :: st) := by
  intro H locs ls h1 h2 h3 h4
  subst hp
  subst hp1
  refine W.lcmp C.1.1 C.1.2.1 hd ?_
  exact lv_if_lt C.1.1 C.1.2.1 hd2 ht (fun h => kt ((jv_lt hx hy).mp ((lg_cmp_lt _ _).mp h)) H locs ls h1 h2 h3 h4) (fun h => kf (fun q => h ((lg_cmp_lt _ _).mpr ((jv_lt hx hy).mpr q))) H locs ls h1 h2 h3 h4)
theorem g_lcmp_ge (C : gC p s m args c D cl tys A cc own nL) {x y : Int} {off : Int} (hd : decode cc pc = .ok (.lcmp, 1)) (pc1 : Nat) (hp1 : pc + 1 = pc1) (pc' : Nat) (hp : pc1 + 3 = pc') (hx : r64 x) (hy : r64 y) (tgt : Nat) (ht : (pc1 : Int) + off = (tgt : Int)) (hd2 : decode cc pc1 = .ok (.ifCond .ge off, 3)) (kt : y ≤ x → gW p l e R s m args below meth c D cl A nL Q cells slots L f (tgt) (lv) (st)) (kf : ¬ y ≤ x → gW p l e R s m args below meth c D cl A nL Q cells slots L f pc' (lv) (st)) : gW p l e R s m args below meth c D cl A nL Q cells slots L f (pc) (lv) (jv y :: jv x :: st) := by
  intro H locs ls h1 h2 h3 h4
  subst hp
  subst hp1
  refine W.lcmp C.1.1 C.1.2.1 hd ?_
  exact lv_if_ge C.1.1 C.1.2.1 hd2 ht (fun h => kt ((jv_le hy hx).mp ((lg_cmp_ge _ _).mp h)) H locs ls h1 h2 h3 h4) (fun h => kf (fun q => h ((lg_cmp_ge _ _).mpr ((jv_le hy hx).mpr q))) H locs ls h1 h2 h3 h4)
theorem g_lcmp_gt (C : gC p s m args c D cl tys A cc own nL) {x y : Int} {off : Int} (hd : decode cc pc = .ok (.lcmp, 1)) (pc1 : Nat) (hp1 : pc + 1 = pc1) (pc' : Nat) (hp : pc1 + 3 = pc') (hx : r64 x) (hy : r64 y) (tgt : Nat) (ht : (pc1 : Int) + off = (tgt : Int)) (hd2 : decode cc pc1 = .ok (.ifCond .gt off, 3)) (kt : y < x → gW p l e R s m args below meth c D cl A nL Q cells slots L f (tgt) (lv) (st)) (kf : ¬ y < x → gW p l e R s m args below meth c D cl A nL Q cells slots L f pc' (lv) (st)) : gW p l e R s m args below meth c D cl A nL Q cells slots L f (pc) (lv) (jv y :: jv x :: st) := by
  intro H locs ls h1 h2 h3 h4
  subst hp
  subst hp1
  refine W.lcmp C.1.1 C.1.2.1 hd ?_
  exact lv_if_gt C.1.1 C.1.2.1 hd2 ht (fun h => kt ((jv_lt hy hx).mp ((lg_cmp_gt _ _).mp h)) H locs ls h1 h2 h3 h4) (fun h => kf (fun q => h ((lg_cmp_gt _ _).mpr ((jv_lt hy hx).mpr q))) H locs ls h1 h2 h3 h4)
theorem g_lcmp_le (C : gC p s m args c D cl tys A cc own nL) {x y : Int} {off : Int} (hd : decode cc pc = .ok (.lcmp, 1)) (pc1 : Nat) (hp1 : pc + 1 = pc1) (pc' : Nat) (hp : pc1 + 3 = pc') (hx : r64 x) (hy : r64 y) (tgt : Nat) (ht : (pc1 : Int) + off = (tgt : Int)) (hd2 : decode cc pc1 = .ok (.ifCond .le off, 3)) (kt : x ≤ y → gW p l e R s m args below meth c D cl A nL Q cells slots L f (tgt) (lv) (st)) (kf : ¬ x ≤ y → gW p l e R s m args below meth c D cl A nL Q cells slots L f pc' (lv) (st)) : gW p l e R s m args below meth c D cl A nL Q cells slots L f (pc) (lv) (jv y :: jv x :: st) := by
  intro H locs ls h1 h2 h3 h4
  subst hp
  subst hp1
  refine W.lcmp C.1.1 C.1.2.1 hd ?_
  exact lv_if_le C.1.1 C.1.2.1 hd2 ht (fun h => kt ((jv_le hx hy).mp ((lg_cmp_le _ _).mp h)) H locs ls h1 h2 h3 h4) (fun h => kf (fun q => h ((lg_cmp_le _ _).mpr ((jv_le hx hy).mpr q))) H locs ls h1 h2 h3 h4)
theorem g_lcmp_ne (C : gC p s m args c D cl tys A cc own nL) {x y : Int} {off : Int} (hd : decode cc pc = .ok (.lcmp, 1)) (pc1 : Nat) (hp1 : pc + 1 = pc1) (pc' : Nat) (hp : pc1 + 3 = pc') (hx : r64 x) (hy : r64 y) (tgt : Nat) (ht : (pc1 : Int) + off = (tgt : Int)) (hd2 : decode cc pc1 = .ok (.ifCond .ne off, 3)) (kt : ¬ x = y → gW p l e R s m args below meth c D cl A nL Q cells slots L f (tgt) (lv) (st)) (kf : x = y → gW p l e R s m args below meth c D cl A nL Q cells slots L f pc' (lv) (st)) : gW p l e R s m args below meth c D cl A nL Q cells slots L f (pc) (lv) (jv y :: jv x :: st) := by
  intro H locs ls h1 h2 h3 h4
  subst hp
  subst hp1
  refine W.lcmp C.1.1 C.1.2.1 hd ?_
  exact lv_if_ne C.1.1 C.1.2.1 hd2 ht (fun h => kt (fun q => h ((lg_cmp_eq _ _).mpr ((jv_eq hx hy).mpr q))) H locs ls h1 h2 h3 h4) (fun h => kf ((jv_eq hx hy).mp ((lg_cmp_eq _ _).mp h)) H locs ls h1 h2 h3 h4)
theorem g_get (C : gC p s m args c D cl tys A cc own nL) {cn : String} {T : u_T} {N ci ix : Nat} {a : Nat} {fs : List Value} {v : Value} (hd : decode cc pc = .ok (.getfield ix, 3)) (pc' : Nat) (hp : pc + 3 = pc') (hin : ∀ w ∈ u_ws cn T N, w ∈ TB) (hc : cl[ci]? = some (cn, T, N)) (ha : a ∈ L) (he : f a = .inr (ci, fs)) (j : Nat) (hj : j < N) (hlink : Cond.fieldLink own ix (T j).1 (T j).2.1 (T j).2.2.1 ∈ TB) (hv : fs[j]? = some v) (k : gW p l e R s m args below meth c D cl A nL Q cells slots L f pc' (lv) (v :: st)) : gW p l e R s m args below meth c D cl A nL Q cells slots L f (pc) (lv) (.ref a :: st) := by
  intro H locs ls h1 h2 h3 h4
  subst hp
  exact va_get (D := D) C.1.1 C.1.2.1 C.1.2.2.2.2 hin C.1.2.2.2.1 C.2.1.1 (pl_one h1 ha he) 0 rfl hc j hj (C.1.2.2.2.2 _ hlink) (fun _ h9 => h9) hv hd (k H locs ls h1 h2 h3 h4)
theorem g_put (C : gC p s m args c D cl tys A cc own nL) {cn : String} {T : u_T} {N ci ix : Nat} {a : Nat} {fs : List Value} {v : Value} {ty : FieldType} (hd : decode cc pc = .ok (.putfield ix, 3)) (pc' : Nat) (hp : pc + 3 = pc') (hin : ∀ w ∈ u_ws cn T N, w ∈ TB) (hc : cl[ci]? = some (cn, T, N)) (ha : a ∈ L) (he : f a = .inr (ci, fs)) (j : Nat) (hj : j < N) (hlink : Cond.fieldLink own ix (T j).1 (T j).2.1 (T j).2.2.1 ∈ TB) (ty0 : Nat → FieldType) (hty : ∀ k, k < N → parseFieldDescriptor (T k).2.2.1 = some (ty0 k)) (hnm : ∀ a, a < N → ∀ b, b < N → a ≠ b → (T a).2.1 ≠ (T b).2.1) (hfin : (T j).2.2.2 = false) (hdt : parseFieldDescriptor (T j).2.2.1 = some ty) (hn : narrow ty v = v) (hfit : fits ty v = true) (hl : j < fs.length) (k : gW p l e R s m args below meth c D cl A nL Q cells slots L (va_up f a (.inr (ci, fs.set j v))) pc' (lv) (st)) : gW p l e R s m args below meth c D cl A nL Q cells slots L f (pc) (lv) (v :: .ref a :: st) := by
  intro H locs ls h1 h2 h3 h4
  subst hp
  obtain ⟨q0, hq0⟩ := pl_get (f := f) ha
  rw [he] at hq0
  refine va_put (D := D) C.1.1 C.1.2.1 C.1.2.2.2.2 hin ty0 hty hnm C.1.2.2.2.1 C.2.1.1 h1 h2 h3 q0 hq0 hc j hj (C.1.2.2.2.2 _ hlink) (fun _ h9 => h9) hfin hdt hn hfit hl hd (fun H1 locs1 g1 g2 g3 => ?_)
  rw [← he] at hq0
  rw [pl_set h2 ha hq0] at g1 g2
  exact k H1 locs1 ls g1 g2 g3 h4
theorem g_putF (C : gC p s m args c D cl tys A cc own nL) {cn : String} {T : u_T} {N ci ix : Nat} {a : Nat} {fs : List Value} {v : Value} {ty : FieldType} (hd : decode cc pc = .ok (.putfield ix, 3)) (pc' : Nat) (hp : pc + 3 = pc') (hin : ∀ w ∈ u_ws cn T N, w ∈ TB) (hc : cl[ci]? = some (cn, T, N)) (ha : a ∈ L) (he : f a = .inr (ci, fs)) (j : Nat) (hj : j < N) (hlink : Cond.fieldLink own ix (T j).1 (T j).2.1 (T j).2.2.1 ∈ TB) (ty0 : Nat → FieldType) (hty : ∀ k, k < N → parseFieldDescriptor (T k).2.2.1 = some (ty0 k)) (hnm : ∀ a, a < N → ∀ b, b < N → a ≠ b → (T a).2.1 ≠ (T b).2.1) (hfin : (T j).2.2.2 = true) (hini : meth.name = "<init>") (hdecl : (T j).1 = own) (hdt : parseFieldDescriptor (T j).2.2.1 = some ty) (hn : narrow ty v = v) (hfit : fits ty v = true) (hl : j < fs.length) (k : gW p l e R s m args below meth c D cl A nL Q cells slots L (va_up f a (.inr (ci, fs.set j v))) pc' (lv) (st)) : gW p l e R s m args below meth c D cl A nL Q cells slots L f (pc) (lv) (v :: .ref a :: st) := by
  intro H locs ls h1 h2 h3 h4
  subst hp
  obtain ⟨q0, hq0⟩ := pl_get (f := f) ha
  rw [he] at hq0
  refine va_putF (D := D) C.1.1 C.1.2.1 C.1.2.2.2.2 hin ty0 hty hnm C.1.2.2.2.1 C.2.1.1 h1 h2 h3 q0 hq0 hc j hj (C.1.2.2.2.2 _ hlink) (fun _ h9 => h9) hfin hini hdecl hdt hn hfit hl hd (fun H1 locs1 g1 g2 g3 => ?_)
  rw [← he] at hq0
  rw [pl_set h2 ha hq0] at g1 g2
  exact k H1 locs1 ls g1 g2 g3 h4
theorem g_alen (C : gC p s m args c D cl tys A cc own nL) {cA : ClassId} {x : vp_A} {a t0 : Nat} {ty : FieldType} (hd : decode cc pc = .ok (.arraylength, 1)) (pc' : Nat) (hp : pc + 1 = pc') (ha : a ∈ L) (he : f a = .inl (cA, x)) (ht : tys[t0]? = some (cA, ty)) (k : gW p l e R s m args below meth c D cl A nL Q cells slots L f pc' (lv) (iv (x.1 : Int) :: st)) : gW p l e R s m args below meth c D cl A nL Q cells slots L f (pc) (lv) (.ref a :: st) := by
  intro H locs ls h1 h2 h3 h4
  subst hp
  exact va_alen (D := D) C.1.1 C.1.2.1 C.2.1.1 (pl_one h1 ha he) 0 t0 rfl ht (Int32.ofInt_eq_ofNat (n := x.1)).symm hd (k H locs ls h1 h2 h3 h4)
theorem g_iald (C : gC p s m args c D cl tys A cc own nL) {cA : ClassId} {n a t0 : Nat} {g : Nat → Int} {i : Int} (hd : decode cc pc = .ok (.iaload, 1)) (pc' : Nat) (hp : pc + 1 = pc') (ha : a ∈ L) (he : f a = ia cA n g) (ht : tys[t0]? = some (cA, .int)) (hi : 0 ≤ i) (hi2 : i < n) (hir : r32 i) (k : gW p l e R s m args below meth c D cl A nL Q cells slots L f pc' (lv) (iv (g i.toNat) :: st)) : gW p l e R s m args below meth c D cl A nL Q cells slots L f (pc) (lv) (iv i :: .ref a :: st) := by
  intro H locs ls h1 h2 h3 h4
  subst hp
  refine va_iald (D := D) C.1.1 C.1.2.1 C.2.1.1 (pl_one h1 ha he) 0 t0 rfl ht (iv_in hir hi hi2) hd ?_
  rw [iv_cl hir]
  exact k H locs ls h1 h2 h3 h4
theorem g_lald (C : gC p s m args c D cl tys A cc own nL) {cA : ClassId} {n a t0 : Nat} {g : Nat → Int} {i : Int} (hd : decode cc pc = .ok (.laload, 1)) (pc' : Nat) (hp : pc + 1 = pc') (ha : a ∈ L) (he : f a = ja cA n g) (ht : tys[t0]? = some (cA, .long)) (hi : 0 ≤ i) (hi2 : i < n) (hir : r32 i) (k : gW p l e R s m args below meth c D cl A nL Q cells slots L f pc' (lv) (jv (g i.toNat) :: st)) : gW p l e R s m args below meth c D cl A nL Q cells slots L f (pc) (lv) (iv i :: .ref a :: st) := by
  intro H locs ls h1 h2 h3 h4
  subst hp
  refine va_lald (D := D) C.1.1 C.1.2.1 C.2.1.1 (pl_one h1 ha he) 0 t0 rfl ht (iv_in hir hi hi2) hd ?_
  rw [iv_cl hir]
  exact k H locs ls h1 h2 h3 h4
theorem g_aald (C : gC p s m args c D cl tys A cc own nL) {cA : ClassId} {cn : String} {n a t0 b : Nat} {g : Nat → Option Nat} {i : Int} (hd : decode cc pc = .ok (.aaload, 1)) (pc' : Nat) (hp : pc + 1 = pc') (ha : a ∈ L) (he : f a = qa cA n g) (ht : tys[t0]? = some (cA, .object cn)) (hi : 0 ≤ i) (hi2 : i < n) (hir : r32 i) (hg : g i.toNat = some b) (k : gW p l e R s m args below meth c D cl A nL Q cells slots L f pc' (lv) (.ref b :: st)) : gW p l e R s m args below meth c D cl A nL Q cells slots L f (pc) (lv) (iv i :: .ref a :: st) := by
  intro H locs ls h1 h2 h3 h4
  subst hp
  refine va_aldq (D := D) C.1.1 C.1.2.1 C.2.1.1 (pl_one h1 ha he) 0 t0 rfl ht (iv_in hir hi hi2) hd ?_
  rw [iv_cl hir, hg]
  exact k H locs ls h1 h2 h3 h4
theorem g_iast (C : gC p s m args c D cl tys A cc own nL) {cA : ClassId} {n a t0 : Nat} {g : Nat → Int} {i z : Int} (hd : decode cc pc = .ok (.iastore, 1)) (pc' : Nat) (hp : pc + 1 = pc') (ha : a ∈ L) (he : f a = ia cA n g) (ht : tys[t0]? = some (cA, .int)) (hi : 0 ≤ i) (hi2 : i < n) (hir : r32 i) (k : gW p l e R s m args below meth c D cl A nL Q cells slots L (va_up f a (ia cA n (updI g i.toNat z))) pc' (lv) (st)) : gW p l e R s m args below meth c D cl A nL Q cells slots L f (pc) (lv) (iv z :: iv i :: .ref a :: st) := by
  intro H locs ls h1 h2 h3 h4
  subst hp
  obtain ⟨q0, hq0⟩ := pl_get (f := f) ha
  rw [he] at hq0
  refine va_iast (D := D) C.1.1 C.1.2.1 C.2.1.1 h1 h2 h3 q0 t0 hq0 ht (iv_in hir hi hi2) hd (fun H1 locs1 g1 g2 g3 => ?_)
  rw [← he] at hq0
  rw [iv_cl hir, updI_i, pl_set h2 ha hq0] at g1 g2
  exact k H1 locs1 ls g1 g2 g3 h4
theorem g_last (C : gC p s m args c D cl tys A cc own nL) {cA : ClassId} {n a t0 : Nat} {g : Nat → Int} {i z : Int} (hd : decode cc pc = .ok (.lastore, 1)) (pc' : Nat) (hp : pc + 1 = pc') (ha : a ∈ L) (he : f a = ja cA n g) (ht : tys[t0]? = some (cA, .long)) (hi : 0 ≤ i) (hi2 : i < n) (hir : r32 i) (k : gW p l e R s m args below meth c D cl A nL Q cells slots L (va_up f a (ja cA n (updI g i.toNat z))) pc' (lv) (st)) : gW p l e R s m args below meth c D cl A nL Q cells slots L f (pc) (lv) (jv z :: iv i :: .ref a :: st) := by
  intro H locs ls h1 h2 h3 h4
  subst hp
  obtain ⟨q0, hq0⟩ := pl_get (f := f) ha
  rw [he] at hq0
  refine va_last (D := D) C.1.1 C.1.2.1 C.2.1.1 h1 h2 h3 q0 t0 hq0 ht (iv_in hir hi hi2) hd (fun H1 locs1 g1 g2 g3 => ?_)
  rw [← he] at hq0
  rw [iv_cl hir, updI_l, pl_set h2 ha hq0] at g1 g2
  exact k H1 locs1 ls g1 g2 g3 h4
theorem g_aast (C : gC p s m args c D cl tys A cc own nL) {cA : ClassId} {r : vw_C} {n a t0 b ci : Nat} {g : Nat → Option Nat} {i : Int} {vs : List Value} (hd : decode cc pc = .ok (.aastore, 1)) (pc' : Nat) (hp : pc + 1 = pc') (ha : a ∈ L) (he : f a = qa cA n g) (ht : tys[t0]? = some (cA, .object r.1)) (hb : b ∈ L) (heb : f b = .inr (ci, vs)) (hc : cl[ci]? = some r) (hi : 0 ≤ i) (hi2 : i < n) (hir : r32 i) (k : gW p l e R s m args below meth c D cl A nL Q cells slots L (va_up f a (qa cA n (va_up g i.toNat (some b)))) pc' (lv) (st)) : gW p l e R s m args below meth c D cl A nL Q cells slots L f (pc) (lv) (.ref b :: iv i :: .ref a :: st) := by
  intro H locs ls h1 h2 h3 h4
  subst hp
  obtain ⟨q0, hq0⟩ := pl_get (f := f) ha
  obtain ⟨q1, hq1⟩ := pl_get (f := f) hb
  rw [he] at hq0
  rw [heb] at hq1
  refine va_astq (D := D) C.1.1 C.1.2.1 C.2.1.1 h1 h2 h3 q0 t0 q1 ci hq0 ht hq1 hc (iv_in hir hi hi2) hd (fun H1 locs1 g1 g2 g3 => ?_)
  rw [← he] at hq0
  rw [iv_cl hir, pl_set h2 ha hq0] at g1 g2
  exact k H1 locs1 ls g1 g2 g3 h4
end GW
end
section
section GK
variable {p : Program} {l : Launch} {e : Env} {R : Room} {s : State} {m : MethodId} {args : Array Value} {below : List Frame} {meth : Method} {c : Code} {D : va_G} {cl : List vw_C} {A : Nat → Prop} {nL : Nat} {Q : State → Prop} {cells slots : Nat} {L : List Nat} {f : Nat → va_E} {pc : Nat} {lv : List (Nat × Value)} {st : List Value} {cc : ByteArray} {own : String} {tys : List (ClassId × FieldType)}
variable {H : Heap} {locs : List Loc} {ls : Array Slot} {mc ms : Nat} {a9 : Array Value} {st0 rest As : List Value}
/-- what a method answers and leaves -/
def gQ (D : va_G) (cl : List vw_C) (L : List Nat) (sz : Nat) (post : Option Value → List Nat → (Nat → va_E) → Prop) : Array Value → State → Outcome → State → Prop := fun _ st oc t =>
  (∃ (r : Option Value) (L' : List Nat) (f' : Nat → va_E), oc = .returned r ∧ post r L' f' ∧ va_P D cl (va_pl L' f') t.heap ∧ va_D (gA L sz) (va_pl L' f')) ∧ va_F (gA L sz) st t
def gPre (D : va_G) (cl : List vw_C) (tys : List (ClassId × FieldType)) (L : List Nat) (f : Nat → va_E) (sz : Nat) (U : State) : Prop :=
  U.heap.size = sz ∧ va_P D cl (va_pl L f) U.heap ∧ va_D (fun _ => True) (va_pl L f) ∧ gE D cl tys (gA L sz) U
def gMet (l : Launch) (y : MethodName) (b : ByteArray) (maxL : Nat) (ret : Option FieldType) (rm : Room) (D : va_G) (cl : List vw_C) (tys : List (ClassId × FieldType)) (L : List Nat) (f : Nat → va_E) (av : List Value) (post : Option Value → List Nat → (Nat → va_E) → Prop) : Prop :=
  ∀ sz : Nat, Met l y (Cond.code y b maxL ret :: TB) rm (va_Pc av (gPre D cl tys L f sz)) (gQ D cl L sz post) rm.cells rm.slots (gA L sz)
theorem gPre_blind {av : List Value} {sz : Nat} : FrameBlind (va_Pc av (gPre D cl tys L f sz)) := fun a U g mk q => by
  obtain ⟨q0, q1, q2, q3, q4⟩ := q
  exact ⟨q0, q1, q2, q3, gE_same (U := U) (V := U.calling g mk a) rfl rfl q4⟩
theorem gA_sub (hA : ∀ q, s.heap.size ≤ q → A q) (h2 : va_D A (va_pl L f)) (h3 : va_S A s.heap H locs) : ∀ q, gA L H.size q → A q := fun q h => by
  rcases h with h | h
  · exact pl_DA h2 h
  · exact hA q (Nat.le_trans h3.1 h)
theorem gPre_of (C : gC p s m args c D cl tys A cc own nL) (h1 : va_P D cl (va_pl L f) H) (h2 : va_D A (va_pl L f)) (h3 : va_S A s.heap H locs) {U : State} (hU : U.heap = H) (hW : s.WarmedH U.vm) : gPre D cl tys L f H.size U :=
  ⟨by rw [hU], by rw [hU]; exact h1, pl_D h2 (fun _ _ => trivial), gE_call C.2.1 h3 (gA_sub C.2.2 h2 h3) hU hW⟩
theorem w_call (C : gC p s m args c D cl tys A cc own nL) {post : Option Value → List Nat → (Nat → va_E) → Prop} (hr : va_Run p l e R s m args below meth c H locs cells slots mc ms (F0 m pc ls st0) rest (gQ D cl L H.size post a9) (gA L H.size)) (h2 : va_D A (va_pl L f)) (h3 : va_S A s.heap H locs)
    (kk : ∀ (r : Option Value) (L' : List Nat) (f' : Nat → va_E) (H1 : Heap) (locs1 : List Loc), post r L' f' → va_P D cl (va_pl L' f') H1 → va_D A (va_pl L' f') → va_S A s.heap H1 locs1 → W p l e R s m args below meth c H1 locs1 (cells + mc) (slots + ms) Q (F0 m (pc + 3) ls (r.toList ++ rest))) : W p l e R s m args below meth c H locs cells slots Q (F0 m pc ls st0) := by
  intro T hT X
  obtain ⟨v, st₀, t, T', L9, h0, X', hL, e1, e2, ⟨⟨r, L', f', hv, hp, hb, hd⟩, hz, hk⟩, st⟩ := hr T hT X
  cases hv
  rw [h0] at hz hk
  have hs := gA_sub C.2.2 h2 h3
  obtain ⟨t2, a1, b1⟩ := kk v L' f' T'.heap (locs ++ L9) hp (by rw [e1]; exact hb) (hd.weaken (fun _ q _ h => hs q.1 h))
    ⟨Nat.le_trans h3.1 (by rw [e1]; exact hz), fun q q1 q2 => by rw [e1, hk q (Nat.lt_of_lt_of_le q1 h3.1) (fun z => q2 (hs q z))]; exact h3.2.1 q q1 q2, fun q hq => by
      rcases List.mem_append.mp hq with h | h
      · exact h3.2.2 q h
      · exact hs _ (hL q h)⟩ T' rfl X'
  exact ⟨t2, st t2 a1, b1⟩
def gR (rm R : Room) (maxL cells slots : Nat) : Bool := decide (rm.frames + 1 ≤ R.frames) && decide (8 + (maxL + 11) + rm.locals ≤ R.locals) && decide (cells + rm.cells ≤ R.cells) && decide (slots + rm.slots ≤ R.slots)
theorem gR_ok {rm R : Room} {maxL cells slots : Nat} (h : gR rm R maxL cells slots = true) : (rm.frames + 1 ≤ R.frames ∧ 8 + (maxL + 11) + rm.locals ≤ R.locals) ∧ cells + rm.cells ≤ R.cells ∧ slots + rm.slots ≤ R.slots := by
  simp only [gR, Bool.and_eq_true, decide_eq_true_eq] at h
  exact ⟨⟨h.1.1.1, h.1.1.2⟩, h.1.2, h.2⟩
def gY (y : MethodName) (n : Nat) : Bool := decide (y.cls ≠ "java/lang/invoke/MethodHandle") && decide (y.cls ≠ "java/lang/invoke/VarHandle") && decide ((parseMethodDescriptor y.desc).map (fun d => d.parameters.length) = some n)
theorem gY_ok {y : MethodName} {n : Nat} (h : gY y n = true) : y.cls ≠ "java/lang/invoke/MethodHandle" ∧ y.cls ≠ "java/lang/invoke/VarHandle" ∧ (parseMethodDescriptor y.desc).map (fun d => d.parameters.length) = some n := by
  simp only [gY, Bool.and_eq_true, decide_eq_true_eq] at h
  exact ⟨h.1.1, h.1.2, h.2⟩
/-- words of a call -/
def gwS (own : String) (ix : Nat) (y : MethodName) : Prop := Cond.methodLink own ix y ∈ TB ∧ Cond.static y ∈ TB ∧ Cond.initialized own ∈ TB
def gwV (own : String) (ix : Nat) (C : String) (y : MethodName) : Prop := Cond.methodLink own ix y ∈ TB ∧ Cond.instanceMethod y ∈ TB ∧ Cond.selects C y y ∈ TB ∧ Cond.initialized C ∈ TB
def gwI (own : String) (ix : Nat) (y : MethodName) : Prop := Cond.methodLink own ix y ∈ TB ∧ Cond.instanceMethod y ∈ TB ∧ Cond.initialized y.cls ∈ TB
variable {y : MethodName} {b : ByteArray} {maxL : Nat} {ret : Option FieldType} {rm : Room} {post : Option Value → List Nat → (Nat → va_E) → Prop}
theorem g_callS (C : gC p s m args c D cl tys A cc own nL) (M : gMet l y b maxL ret rm D cl tys L f As post) {ix : Nat} (hd : decode cc pc = .ok (.invokestatic ix, 3)) (pc' : Nat) (hp : pc + 3 = pc') (hw : gwS own ix y) (hcode : Cond.code y b maxL ret ∈ TB) (hown : y.cls = own) (n : Nat) (hy : gY y n = true) (hlen : As.length = n) (hR : gR rm R maxL cells slots = true)
    (hst : st0 = As.reverse ++ rest) (hrest : (rest.map fun v => v.category).sum ≤ 8)
    (k : ∀ r L' f', post r L' f' → gW p l e R s m args below meth c D cl A nL Q (cells + rm.cells) (slots + rm.slots) L' f' pc' lv (r.toList ++ rest)) : gW p l e R s m args below meth c D cl A nL Q cells slots L f pc lv st0 := by
  subst hp
  intro H locs ls h1 h2 h3 h4
  have hG : GoodIn TB (wsS own ix y (Cond.code y b maxL ret :: TB)) := tb_in (fun w h => by
    simp only [wsS, List.mem_append, List.mem_cons, List.not_mem_nil, or_false] at h
    rcases h with (rfl | rfl | rfl) | rfl | h
    · exact hw.1
    · exact hw.2.1
    · exact hw.2.2
    · exact hcode
    · exact h)
  have hr := gR_ok hR
  refine w_call C (a9 := As.toArray) (post := post) (va_runS (As := As) (rest := rest) C.1 (M H.size) (cwS n C.1.2.2.2.2 hG rfl rfl rfl ⟨hown, gY_ok hy⟩ hr.1) ⟨gPre_blind, fun U hU hW => ⟨rfl, gPre_of C h1 h2 h3 hU hW⟩⟩ rfl hlen h4.1 hst (lv_room hrest) hd hr.2) h2 h3 (fun r L' f' H1 locs1 hp g1 g2 g3 => k r L' f' hp H1 locs1 ls g1 g2 g3 h4)
theorem g_callV (C : gC p s m args c D cl tys A cc own nL) {cn : String} {T : u_T} {N ci a : Nat} {fs : List Value} (M : gMet l y b maxL ret rm D cl tys L f (.ref a :: As) post) (hc : cl[ci]? = some (cn, T, N)) (ha : a ∈ L) (he : f a = .inr (ci, fs)) {ix : Nat} (hd : decode cc pc = .ok (.invokevirtual ix, 3)) (pc' : Nat) (hp : pc + 3 = pc') (hw : gwV own ix cn y) (hcode : Cond.code y b maxL ret ∈ TB) (hown : y.cls = cn) (n : Nat) (hy : gY y n = true) (hlen : As.length = n) (hR : gR rm R maxL cells slots = true)
    (hst : st0 = As.reverse ++ .ref a :: rest) (hrest : (rest.map fun v => v.category).sum ≤ 8)
    (k : ∀ r L' f', post r L' f' → gW p l e R s m args below meth c D cl A nL Q (cells + rm.cells) (slots + rm.slots) L' f' pc' lv (r.toList ++ rest)) : gW p l e R s m args below meth c D cl A nL Q cells slots L f pc lv st0 := by
  subst hp
  intro H locs ls h1 h2 h3 h4
  have hG : GoodIn TB (wsV own ix cn y (Cond.code y b maxL ret :: TB)) := tb_in (fun w h => by
    simp only [wsV, List.mem_append, List.mem_cons, List.not_mem_nil, or_false] at h
    rcases h with (rfl | rfl | rfl | rfl) | rfl | h
    · exact hw.1
    · exact hw.2.1
    · exact hw.2.2.1
    · exact hw.2.2.2
    · exact hcode
    · exact h)
  have hr := gR_ok hR
  refine w_call C (a9 := (Value.ref a :: As).toArray) (post := post) (va_runV (As := As) (rest := rest) C.1 (M H.size) (cwV n C.1.2.2.2.2 hG rfl rfl rfl ⟨hown, gY_ok hy⟩ hr.1) ⟨gPre_blind, va_recv C.2.1.1 (pl_one h1 ha he) hc (q0 := 0) rfl, fun U hU hW => ⟨rfl, gPre_of C h1 h2 h3 hU hW⟩⟩ rfl hlen h4.1 hst (lv_room hrest) hd hr.2) h2 h3 (fun r L' f' H1 locs1 hp g1 g2 g3 => k r L' f' hp H1 locs1 ls g1 g2 g3 h4)
theorem g_callI (C : gC p s m args c D cl tys A cc own nL) {a : Nat} (M : gMet l y b maxL none rm D cl tys L f (.ref a :: As) post) {ix : Nat} (hd : decode cc pc = .ok (.invokespecial ix, 3)) (pc' : Nat) (hp : pc + 3 = pc') (hw : gwI own ix y) (hcode : Cond.code y b maxL none ∈ TB) (hin : y.name = "<init>") (n : Nat) (hy : gY y n = true) (hlen : As.length = n) (hR : gR rm R maxL cells slots = true)
    (hst : st0 = As.reverse ++ .ref a :: rest) (hrest : (rest.map fun v => v.category).sum ≤ 8)
    (k : ∀ r L' f', post r L' f' → gW p l e R s m args below meth c D cl A nL Q (cells + rm.cells) (slots + rm.slots) L' f' pc' lv (r.toList ++ rest)) : gW p l e R s m args below meth c D cl A nL Q cells slots L f pc lv st0 := by
  subst hp
  intro H locs ls h1 h2 h3 h4
  have hG : GoodIn TB (Cond.code y b maxL none :: TB) := tb_in (fun w h => by
    rcases List.mem_cons.mp h with rfl | h
    · exact hcode
    · exact h)
  have hr := gR_ok hR
  refine w_call C (a9 := (Value.ref a :: As).toArray) (post := post) (va_runI (As := As) (rest := rest) C.1 (M H.size) (cwI n C.1.2.2.2.2 hG rfl rfl rfl (C.1.2.2.2.2 _ hw.2.2) (C.1.2.2.2.2 _ hw.1) (C.1.2.2.2.2 _ hw.2.1) hin (gY_ok hy) hr.1) ⟨gPre_blind, fun U hU hW => ⟨rfl, gPre_of C h1 h2 h3 hU hW⟩⟩ rfl hlen h4.1 hst (lv_room hrest) hd hr.2) h2 h3 (fun r L' f' H1 locs1 hp g1 g2 g3 => k r L' f' hp H1 locs1 ls g1 g2 g3 h4)
/-- the end of a body -/
theorem g_iret (C : gC p s m args c D cl tys A cc own nL) {L0 : List Nat} {sz : Nat} (hA : A = gA L0 sz) (hsz : s.heap.size = sz) (hr : meth.sig.returnType = some .int) (hl : meth.locks = false) {z : Int} (hd : decode cc pc = .ok (.ireturn, 1)) (hc : cells ≤ mc) (hs : slots ≤ ms) (hp : post (some (iv z)) L f) : gW p l e R s m args below meth c D cl A nL (MQ below (gQ D cl L0 sz post) args s mc ms (gA L0 sz)) cells slots L f pc lv [iv z] := by
  subst hA
  intro H locs ls h1 h2 h3 h4
  refine W.widen hc hs ?_
  exact W.iret C.1.1 C.1.2.1 hr (fun t ht hW => ⟨⟨_, L, f, rfl, hp, by rw [ht]; exact h1, h2⟩, h3.F ht⟩) h3.2.2 hd hl
theorem g_zret (C : gC p s m args c D cl tys A cc own nL) {L0 : List Nat} {sz : Nat} (hA : A = gA L0 sz) (hsz : s.heap.size = sz) (hr : meth.sig.returnType = some .boolean) (hl : meth.locks = false) {z : Int} (hz : z = 0 ∨ z = 1) (hd : decode cc pc = .ok (.ireturn, 1)) (hc : cells ≤ mc) (hs : slots ≤ ms) (hp : post (some (iv z)) L f) : gW p l e R s m args below meth c D cl A nL (MQ below (gQ D cl L0 sz post) args s mc ms (gA L0 sz)) cells slots L f pc lv [iv z] := by
  subst hA
  intro H locs ls h1 h2 h3 h4
  refine W.widen hc hs ?_
  exact W.zret C.1.1 C.1.2.1 hr (by rcases hz with rfl | rfl <;> rfl) (fun t ht hW => ⟨⟨_, L, f, rfl, hp, by rw [ht]; exact h1, h2⟩, h3.F ht⟩) h3.2.2 hd hl
theorem g_lret (C : gC p s m args c D cl tys A cc own nL) {L0 : List Nat} {sz : Nat} (hA : A = gA L0 sz) (hsz : s.heap.size = sz) (hr : meth.sig.returnType = some .long) (hl : meth.locks = false) {z : Int} (hd : decode cc pc = .ok (.lreturn, 1)) (hc : cells ≤ mc) (hs : slots ≤ ms) (hp : post (some (jv z)) L f) : gW p l e R s m args below meth c D cl A nL (MQ below (gQ D cl L0 sz post) args s mc ms (gA L0 sz)) cells slots L f pc lv [jv z] := by
  subst hA
  intro H locs ls h1 h2 h3 h4
  refine W.widen hc hs ?_
  exact W.lret C.1.1 C.1.2.1 hr (fun t ht hW => ⟨⟨_, L, f, rfl, hp, by rw [ht]; exact h1, h2⟩, h3.F ht⟩) h3.2.2 hd hl
theorem g_vret (C : gC p s m args c D cl tys A cc own nL) {L0 : List Nat} {sz : Nat} (hA : A = gA L0 sz) (hsz : s.heap.size = sz) (hr : meth.sig.returnType = none) (hl : meth.locks = false) (hd : decode cc pc = .ok (.return_, 1)) (hc : cells ≤ mc) (hs : slots ≤ ms) (hp : post none L f) : gW p l e R s m args below meth c D cl A nL (MQ below (gQ D cl L0 sz post) args s mc ms (gA L0 sz)) cells slots L f pc lv [] := by
  subst hA
  intro H locs ls h1 h2 h3 h4
  refine W.widen hc hs ?_
  exact W.vret C.1.1 C.1.2.1 hr (fun t ht hW => ⟨⟨_, L, f, rfl, hp, by rw [ht]; exact h1, h2⟩, h3.F ht⟩) h3.2.2 hd hl
end GK
end
section
section GM
variable {l : Launch} {y : MethodName} {b : ByteArray} {maxL : Nat} {ret : Option FieldType} {rm : Room} {D : va_G} {cl : List vw_C} {tys : List (ClassId × FieldType)} {L : List Nat} {f : Nat → va_E} {av : List Value}
/-- what a body's walk has to show -/
def gB (l : Launch) (y : MethodName) (b : ByteArray) (maxL : Nat) (ret : Option FieldType) (rm : Room) (D : va_G) (cl : List vw_C) (tys : List (ClassId × FieldType)) (L : List Nat) (f : Nat → va_E) (av : List Value) (post : Option Value → List Nat → (Nat → va_E) → Prop) : Prop :=
  ∀ (p : Program) (e : Env) (s : State) (m : MethodId) (args : Array Value) (below : List Frame) (meth : Method) (c : Code) (A : Nat → Prop) (sz : Nat), A = gA L sz → s.heap.size = sz → gC p s m args c D cl tys A b y.cls maxL → meth.sig.returnType = ret → meth.locks = false → meth.name = y.name →
    gW p l e rm s m args below meth c D cl A maxL (MQ below (gQ D cl L sz post) args s rm.cells rm.slots (gA L sz)) 0 0 L f 0 (lv_args 0 av) []
theorem g_of {post : Option Value → List Nat → (Nat → va_E) → Prop} (hy : plainName y.cls = true) (hn : (lg_sl av).length ≤ maxL) (body : gB l y b maxL ret rm D cl tys L f av post) : gMet l y b maxL ret rm D cl tys L f av post := by
  intro sz
  refine Met.ofW (cc := b) (maxL := maxL) (ret := ret) hy rfl ?_
  intro p e s m args below meth c s₁ B hml hv
  obtain ⟨rfl, hsz, hP, hD0, hE⟩ := hv
  have hts := atoms_spec (ws := Cond.code y b maxL ret :: TB) B.pre
  have hown : s.vm.findClass y.cls = some m.cls := findClass_of_methodNamed B.named
  have hl := lv_entry av (n := maxL) hn
  have C : gC p s m av.toArray c D cl tys (gA L sz) b y.cls maxL := ⟨⟨B.exec, B.bytes, hml, hown, fun w h => hts w (List.mem_cons_of_mem _ h)⟩, hE, fun q h => Or.inr (by rw [← hsz]; exact h)⟩
  have K := body p e s m av.toArray below meth c (gA L sz) sz rfl hsz C B.returns B.notSynchronized (name_of_methodNamed B.named B.method).1
  rw [lg_entry_eq]
  exact K s.heap [] _ hP (pl_D hD0 (fun q hq => Or.inl hq)) va_S.rf hl
end GM
end
section
section GN
variable {p : Program} {l : Launch} {e : Env} {R : Room} {s : State} {m : MethodId} {args : Array Value} {below : List Frame} {meth : Method} {c : Code} {D : va_G} {cl : List vw_C} {A : Nat → Prop} {nL : Nat} {Q : State → Prop} {cells slots : Nat} {L : List Nat} {f : Nat → va_E} {pc : Nat} {lv : List (Nat × Value)} {st : List Value} {cc : ByteArray} {own : String} {tys : List (ClassId × FieldType)}
theorem pl_new {A : Nat → Prop} {L : List Nat} {f : Nat → va_E} {q : Nat} {x : va_E} (h : va_D A (va_pl L f ++ [(q, x)])) : q ∉ L := fun hq => by
  obtain ⟨k, hk⟩ := pl_get (f := f) hq
  have hlt := (List.getElem?_eq_some_iff.mp hk).1
  have h1 : (va_pl L f ++ [(q, x)])[k]? = some (q, f q) := by rw [List.getElem?_append_left hlt]; exact hk
  have h2 : (va_pl L f ++ [(q, x)])[(va_pl L f).length]? = some (q, x) := by rw [List.getElem?_append_right (Nat.le_refl _), Nat.sub_self]; rfl
  have := h.1 _ _ _ _ h1 h2 rfl
  omega
theorem g_new (C : gC p s m args c D cl tys A cc own nL) {cn : String} {T : u_T} {N ci ix : Nat} (hin : ∀ w ∈ u_ws cn T N, w ∈ TB) (hc : cl[ci]? = some (cn, T, N)) (ty0 : Nat → FieldType) (hty : ∀ k, k < N → parseFieldDescriptor (T k).2.2.1 = some (ty0 k)) {fs : List Value} (hfs : ∀ j, j < N → defaultValue (ty0 j) = vp_V fs j)
    (hw : Cond.classLink own ix cn ∈ TB ∧ Cond.instantiable cn N ∈ TB ∧ Cond.initialized cn ∈ TB) (hcells : cells + 1 ≤ R.cells) (hslots : slots + N ≤ R.slots) (hd : decode cc pc = .ok (.new ix, 3)) (pc' : Nat) (hp : pc + 3 = pc')
    (k : ∀ q : Nat, q ∉ L → gW p l e R s m args below meth c D cl A nL Q (cells + 1) (slots + N) (L ++ [q]) (va_up f q (.inr (ci, fs))) pc' lv (.ref q :: st)) : gW p l e R s m args below meth c D cl A nL Q cells slots L f pc lv st := by
  subst hp
  intro H locs ls h1 h2 h3 h4
  refine va_new (D := D) C.1.1 C.1.2.1 C.1.2.2.2.2 hin ty0 hty C.1.2.2.2.1 (C.1.2.2.2.2 _ hw.1) (C.1.2.2.2.2 _ hw.2.1) (C.1.2.2.2.2 _ hw.2.2) C.2.1.1 h1 h2 h3 C.2.2 hc hfs hcells hslots hd (fun q H1 g1 g2 g3 => ?_)
  have hq := pl_new g2
  rw [va_pl_push hq] at g1 g2
  exact k q hq H1 locs ls g1 g2 g3 h4
theorem ra_eq {U : State} {c1 c2 : ClassId} {ty : FieldType} (h1 : va_RA U c1 ty) (h2 : va_RA U c2 ty) : c1 = c2 := by
  cases ty with
  | object C =>
    obtain ⟨_, _, -, -, -, e1⟩ := h1
    obtain ⟨_, _, -, -, -, e2⟩ := h2
    exact Option.some.inj (e1.symm.trans e2)
  | _ => exact Option.some.inj (Eq.trans (Eq.symm h1) h2)
theorem g_newa (C : gC p s m args c D cl tys A cc own nL) {atype : ArrayType} {ty : FieldType} (hty : newarray.typeOf atype = ty) {cA : ClassId} {t0 : Nat} (ht : tys[t0]? = some (cA, ty)) (harr : Cond.arrayClass ty ∈ TB) {n : Int} {N' : Nat} {a0 : vp_A} (ha : ∀ cA : ClassId, vp_cell cA a0 = arrV cA N' (fun _ => defaultValue ty)) (hn : n = (N' : Int)) (hN : N' < 2147483648) (hbytes : N' * componentBytes ty ≤ 536870912) (hcells : cells + 1 ≤ R.cells) (hslots : slots + N' ≤ R.slots) (hd : decode cc pc = .ok (.newarray atype, 2)) (pc' : Nat) (hp : pc + 2 = pc')
    (k : ∀ q : Nat, q ∉ L → gW p l e R s m args below meth c D cl A nL Q (cells + 1) (slots + N') (L ++ [q]) (va_up f q (.inl (cA, a0))) pc' lv (.ref q :: st)) : gW p l e R s m args below meth c D cl A nL Q cells slots L f pc lv (iv n :: st) := by
  subst hp
  intro H locs ls h1 h2 h3 h4
  have hr : r32 n := ⟨by omega, by omega⟩
  refine va_newa (D := D) C.1.1 C.1.2.1 (by rw [hty]; exact C.1.2.2.2.2 _ harr) hty C.2.1.1 h1 h2 h3 C.2.2 ha (fun h => by have := (iv_lt0 hr).mp h; omega) (by rw [iv_cl hr]; omega) hbytes hcells hslots hd (fun q cB H1 gK g1 g2 g3 => ?_)
  have hcB : cB = cA := ra_eq (gK.2 tys.length (cB, ty) (by rw [List.getElem?_append_right (Nat.le_refl _), Nat.sub_self]; rfl)).2 (C.2.1.1.2 t0 _ ht).2
  subst hcB
  have hq := pl_new g2
  rw [va_pl_push hq] at g1 g2
  exact k q hq H1 locs ls g1 g2 g3 h4
theorem g_newq (C : gC p s m args c D cl tys A cc own nL) {cn : String} {ix : Nat} {cA : ClassId} {t0 : Nat} (ht : tys[t0]? = some (cA, .object cn)) (hw : Cond.classLink own ix cn ∈ TB) (hover : va_AO cn s) {n : Int} {N' : Nat} (hn : n = (N' : Int)) (hN : N' < 2147483648) (hbytes : N' * 4 ≤ 536870912) (hcells : cells + 1 ≤ R.cells) (hslots : slots + N' ≤ R.slots) (hd : decode cc pc = .ok (.anewarray ix, 3)) (pc' : Nat) (hp : pc + 3 = pc')
    (k : ∀ q : Nat, q ∉ L → gW p l e R s m args below meth c D cl A nL Q (cells + 1) (slots + N') (L ++ [q]) (va_up f q (qa cA N' (fun _ => none))) pc' lv (.ref q :: st)) : gW p l e R s m args below meth c D cl A nL Q cells slots L f pc lv (iv n :: st) := by
  subst hp
  intro H locs ls h1 h2 h3 h4
  have hr : r32 n := ⟨by omega, by omega⟩
  refine va_newq (D := D) C.1.1 C.1.2.1 C.1.2.2.2.1 (C.1.2.2.2.2 _ hw) hover C.2.1.1 h1 h2 h3 C.2.2 (fun h => by have := (iv_lt0 hr).mp h; omega) (by rw [iv_cl hr]; omega) hbytes hcells hslots hd (fun q cB H1 gK g1 g2 g3 => ?_)
  have hcB : cB = cA := ra_eq (gK.2 tys.length (cB, .object cn) (by rw [List.getElem?_append_right (Nat.le_refl _), Nat.sub_self]; rfl)).2 (C.2.1.1.2 t0 _ ht).2
  subst hcB
  have hq := pl_new g2
  rw [va_pl_push hq] at g1 g2
  exact k q hq H1 locs ls g1 g2 g3 h4
theorem cpy_i (g h : Nat → Int) (sp dp n : Nat) : va_cpy (fun j => Int32.ofInt (g j)) (fun j => Int32.ofInt (h j)) sp dp n = fun j => Int32.ofInt (va_cpy g h sp dp n j) := by
  funext j
  simp only [va_cpy]
  split <;> rfl
theorem cpy_l (g h : Nat → Int) (sp dp n : Nat) : va_cpy (fun j => Int64.ofInt (g j)) (fun j => Int64.ofInt (h j)) sp dp n = fun j => Int64.ofInt (va_cpy g h sp dp n j) := by
  funext j
  simp only [va_cpy]
  split <;> rfl
def gwC (own : String) (ix : Nat) : Prop := Cond.methodLink own ix arraycopyName ∈ TB ∧ Cond.native arraycopyName ∈ TB ∧ Cond.static arraycopyName ∈ TB ∧ Cond.initialized "java/lang/System" ∈ TB
theorem g_copyi (C : gC p s m args c D cl tys A cc own nL) {ix : Nat} (hw : gwC own ix) {a0 a1 t0 n0 n1 : Nat} {c0 : ClassId} {g h : Nat → Int} (ha0 : a0 ∈ L) (he0 : f a0 = ia c0 n0 g) (ha1 : a1 ∈ L) (he1 : f a1 = ia c0 n1 h) (ht : tys[t0]? = some (c0, .int)) {sp dp n : Int} (h1 : 0 ≤ sp) (h2 : 0 ≤ dp) (h3 : 0 ≤ n) (h4 : sp + n ≤ n0) (h5 : dp + n ≤ n1) (hn0 : n0 < 2147483648) (hn1 : n1 < 2147483648)
    (hframes : 1 ≤ R.frames) (hlocals : (st.map fun v => v.category).sum + (nativeFrameWords "java/lang/System" "arraycopy" 5 + 11) ≤ R.locals) (hd : decode cc pc = .ok (.invokestatic ix, 3)) (pc' : Nat) (hp : pc + 3 = pc')
    (k : gW p l e R s m args below meth c D cl A nL Q cells slots L (va_up f a1 (ia c0 n1 (va_cpy g h sp.toNat dp.toNat n.toNat))) pc' lv st) : gW p l e R s m args below meth c D cl A nL Q cells slots L f pc lv (iv n :: iv dp :: .ref a1 :: iv sp :: .ref a0 :: st) := by
  subst hp
  intro H locs ls g1 g2 g3 g4
  have rs : r32 sp := ⟨by omega, by omega⟩
  have rd : r32 dp := ⟨by omega, by omega⟩
  have rn : r32 n := ⟨by omega, by omega⟩
  obtain ⟨q0, hq0⟩ := pl_get (f := f) ha0
  obtain ⟨q1, hq1⟩ := pl_get (f := f) ha1
  rw [he0] at hq0
  rw [he1] at hq1
  refine va_copyi (D := D) C.1.1 C.1.2.1 (by rw [C.1.2.2.1]; exact g4.1.symm) C.1.2.2.2.1 (C.1.2.2.2.2 _ hw.1) (C.1.2.2.2.2 _ hw.2.1) (C.1.2.2.2.2 _ hw.2.2.1) (C.1.2.2.2.2 _ hw.2.2.2) C.2.1.1 g1 g2 g3 q0 q1 t0 t0 hq0 hq1 ht ht rfl
    (fun z => by have := (iv_lt0 rs).mp z; omega) (fun z => by have := (iv_lt0 rd).mp z; omega) (fun z => by have := (iv_lt0 rn).mp z; omega) (by rw [iv_cl rs, iv_cl rn]; omega) (by rw [iv_cl rd, iv_cl rn]; omega) (fun i _ => rfl) hframes hlocals hd (fun H1 locs1 k1 k2 k3 => ?_)
  rw [← he1] at hq1
  rw [iv_cl rs, iv_cl rd, iv_cl rn, cpy_i, pl_set g2 ha1 hq1] at k1 k2
  exact k H1 locs1 ls k1 k2 k3 g4
theorem g_copyl (C : gC p s m args c D cl tys A cc own nL) {ix : Nat} (hw : gwC own ix) {a0 a1 t0 n0 n1 : Nat} {c0 : ClassId} {g h : Nat → Int} (ha0 : a0 ∈ L) (he0 : f a0 = ja c0 n0 g) (ha1 : a1 ∈ L) (he1 : f a1 = ja c0 n1 h) (ht : tys[t0]? = some (c0, .long)) {sp dp n : Int} (h1 : 0 ≤ sp) (h2 : 0 ≤ dp) (h3 : 0 ≤ n) (h4 : sp + n ≤ n0) (h5 : dp + n ≤ n1) (hn0 : n0 < 2147483648) (hn1 : n1 < 2147483648)
    (hframes : 1 ≤ R.frames) (hlocals : (st.map fun v => v.category).sum + (nativeFrameWords "java/lang/System" "arraycopy" 5 + 11) ≤ R.locals) (hd : decode cc pc = .ok (.invokestatic ix, 3)) (pc' : Nat) (hp : pc + 3 = pc')
    (k : gW p l e R s m args below meth c D cl A nL Q cells slots L (va_up f a1 (ja c0 n1 (va_cpy g h sp.toNat dp.toNat n.toNat))) pc' lv st) : gW p l e R s m args below meth c D cl A nL Q cells slots L f pc lv (iv n :: iv dp :: .ref a1 :: iv sp :: .ref a0 :: st) := by
  subst hp
  intro H locs ls g1 g2 g3 g4
  have rs : r32 sp := ⟨by omega, by omega⟩
  have rd : r32 dp := ⟨by omega, by omega⟩
  have rn : r32 n := ⟨by omega, by omega⟩
  obtain ⟨q0, hq0⟩ := pl_get (f := f) ha0
  obtain ⟨q1, hq1⟩ := pl_get (f := f) ha1
  rw [he0] at hq0
  rw [he1] at hq1
  refine va_copyl (D := D) C.1.1 C.1.2.1 (by rw [C.1.2.2.1]; exact g4.1.symm) C.1.2.2.2.1 (C.1.2.2.2.2 _ hw.1) (C.1.2.2.2.2 _ hw.2.1) (C.1.2.2.2.2 _ hw.2.2.1) (C.1.2.2.2.2 _ hw.2.2.2) C.2.1.1 g1 g2 g3 q0 q1 t0 t0 hq0 hq1 ht ht rfl
    (fun z => by have := (iv_lt0 rs).mp z; omega) (fun z => by have := (iv_lt0 rd).mp z; omega) (fun z => by have := (iv_lt0 rn).mp z; omega) (by rw [iv_cl rs, iv_cl rn]; omega) (by rw [iv_cl rd, iv_cl rn]; omega) (fun i _ => rfl) hframes hlocals hd (fun H1 locs1 k1 k2 k3 => ?_)
  rw [← he1] at hq1
  rw [iv_cl rs, iv_cl rd, iv_cl rn, cpy_l, pl_set g2 ha1 hq1] at k1 k2
  exact k H1 locs1 ls k1 k2 k3 g4
theorem g_max (C : gC p s m args c D cl tys A cc own nL) {ix : Nat} (hw : Cond.methodLink own ix Lib.Math.max.name ∈ TB ∧ Cond.static Lib.Math.max.name ∈ TB ∧ Cond.initialized "java/lang/Math" ∈ TB ∧ Cond.code Lib.Math.max.name Lib.Math.max.code 2 (some .int) ∈ TB) (hframes : 1 ≤ R.frames) (hlocals : (st.map fun v => v.category).sum + 13 ≤ R.locals) (hc : cells ≤ R.cells) (hs : slots ≤ R.slots) {x y : Int} (hx : r32 x) (hy : r32 y) (hd : decode cc pc = .ok (.invokestatic ix, 3)) (pc' : Nat) (hp : pc + 3 = pc')
    (k : gW p l e R s m args below meth c D cl A nL Q cells slots L f pc' lv (iv (if x < y then y else x) :: st)) : gW p l e R s m args below meth c D cl A nL Q cells slots L f pc lv (iv y :: iv x :: st) := by
  subst hp
  intro H locs ls g1 g2 g3 g4
  refine va_mmax C.1.1 C.1.2.1 (by rw [C.1.2.2.1]; exact g4.1.symm) C.1.2.2.2.1 (C.1.2.2.2.2 _ hw.1) (C.1.2.2.2.2 _ hw.2.1) (C.1.2.2.2.2 _ hw.2.2.1) (C.1.2.2.2.2 _ hw.2.2.2) hframes hlocals hc hs hd ?_
  have e1 : (if Int32.ofInt x < Int32.ofInt y then Int32.ofInt y else Int32.ofInt x) = Int32.ofInt (if x < y then y else x) := by
    by_cases h : x < y
    · rw [if_pos h, if_pos ((iv_lt hx hy).mpr h)]
    · rw [if_neg h, if_neg (fun z => h ((iv_lt hx hy).mp z))]
  rw [e1]
  exact k H locs ls g1 g2 g3 g4
end GN
end
section
section GX
variable {p : Program} {l : Launch} {e : Env} {R : Room} {s : State} {m : MethodId} {args : Array Value} {below : List Frame} {meth : Method} {c : Code} {D : va_G} {cl : List vw_C} {A : Nat → Prop} {nL : Nat} {Q : State → Prop} {cells slots : Nat} {L : List Nat} {f : Nat → va_E} {pc : Nat} {lv : List (Nat × Value)} {st : List Value} {cc : ByteArray} {own : String} {tys : List (ClassId × FieldType)}
variable {H : Heap} {locs : List Loc} {ls : Array Slot} {mc ms sz : Nat} {a9 : Array Value} {st0 rest As : List Value}
variable {y : MethodName} {b : ByteArray} {maxL : Nat} {ret : Option FieldType} {rm : Room} {post : Option Value → List Nat → (Nat → va_E) → Prop} {px px0 : String → Prop}
/-- thrown: the world is as it was -/
def gQx (D : va_G) (cl : List vw_C) (L : List Nat) (f : Nat → va_E) (sz : Nat) (px : String → Prop) : String → State → State → Prop := fun E st t => px E ∧ va_P D cl (va_pl L f) t.heap ∧ va_F (gA L sz) st t
def gXM (l : Launch) (y : MethodName) (b : ByteArray) (maxL : Nat) (ret : Option FieldType) (rm : Room) (D : va_G) (cl : List vw_C) (tys : List (ClassId × FieldType)) (L : List Nat) (f : Nat → va_E) (av : List Value) (post : Option Value → List Nat → (Nat → va_E) → Prop) (px : String → Prop) : Prop :=
  ∀ sz : Nat, vx_Met l y (Cond.code y b maxL ret :: TB) rm (va_Pc av (gPre D cl tys L f sz)) (gQ D cl L sz post) (gQx D cl L f sz px) rm.cells rm.slots (gA L sz)
theorem w_callx (C : gC p s m args c D cl tys A cc own nL) (hr : vx_Run p l e R s m args below meth c H locs cells slots mc ms (F0 m pc ls st0) rest (gQ D cl L H.size post a9) (gQx D cl L f H.size px) (gA L H.size)) (h2 : va_D A (va_pl L f)) (h3 : va_S A s.heap H locs)
    (kk : ∀ (r : Option Value) (L' : List Nat) (f' : Nat → va_E) (H1 : Heap) (locs1 : List Loc), post r L' f' → va_P D cl (va_pl L' f') H1 → va_D A (va_pl L' f') → va_S A s.heap H1 locs1 → W p l e R s m args below meth c H1 locs1 (cells + mc) (slots + ms) Q (F0 m (pc + 3) ls (r.toList ++ rest)))
    (kx : ∀ (E : String) (ce : Cell) (q9 : Addr) (H1 : Heap) (locs1 : List Loc), px E → va_P D cl (va_pl L f) H1 → va_D A (va_pl L f) → va_S A s.heap H1 locs1 → H1[q9]? = some ce → ce.vm = .none → s.vm.findClass E = some ce.cls → vx_W p l e R s m args below meth c H1 locs1 (cells + mc) (slots + ms) Q (F0 m pc ls rest) q9) : W p l e R s m args below meth c H locs cells slots Q (F0 m pc ls st0) := by
  intro T hT X
  have hs := gA_sub C.2.2 h2 h3
  rcases hr T hT X with ⟨v, st₀, t, T', L9, h0, X', hL, e1, e2, ⟨⟨r, L', f', hv, hp, hb, hd⟩, hz, hk⟩, st⟩ | ⟨q, st₀, t, T', L9, E, ce, h0, X', hL, e1, e2, ⟨hp, hb, hz, hk⟩, hce, hcv, hcl, st⟩
  · cases hv
    rw [h0] at hz hk
    obtain ⟨t2, a1, b1⟩ := kk v L' f' T'.heap (locs ++ L9) hp (by rw [e1]; exact hb) (hd.weaken (fun _ q _ h => hs q.1 h))
      ⟨Nat.le_trans h3.1 (by rw [e1]; exact hz), fun q q1 q2 => by rw [e1, hk q (Nat.lt_of_lt_of_le q1 h3.1) (fun z => q2 (hs q z))]; exact h3.2.1 q q1 q2, fun q hq => by
        rcases List.mem_append.mp hq with h | h
        · exact h3.2.2 q h
        · exact hs _ (hL q h)⟩ T' rfl X'
    exact ⟨t2, st t2 a1, b1⟩
  · rw [h0] at hz hk
    obtain ⟨t2, a1, b1⟩ := kx E ce q T'.heap (locs ++ L9) hp (by rw [e1]; exact hb) h2
      ⟨Nat.le_trans h3.1 (by rw [e1]; exact hz), fun q q1 q2 => by rw [e1, hk q (Nat.lt_of_lt_of_le q1 h3.1) (fun z => q2 (hs q z))]; exact h3.2.1 q q1 q2, fun q hq => by
        rcases List.mem_append.mp hq with h | h
        · exact h3.2.2 q h
        · exact hs _ (hL q h)⟩ (by rw [e1]; exact hce) hcv hcl T' rfl X'
    exact ⟨t2, st.trans a1, b1⟩
theorem gx_ret {Qc : Array Value → State → Outcome → State → Prop} {XC : String → State → State → Prop} {free : Addr → Prop} (k : gW p l e R s m args below meth c D cl A nL (MQ below Qc args s mc ms free) cells slots L f pc lv st) : gW p l e R s m args below meth c D cl A nL (vx_MQ below Qc XC args s mc ms free) cells slots L f pc lv st :=
  fun H locs ls h1 h2 h3 h4 => vx_ret (k H locs ls h1 h2 h3 h4)
/-- a call in a body that lets through what is thrown; the world is still the one of the entry -/
theorem gx_callS (C : gC p s m args c D cl tys A cc own nL) (hA : A = gA L sz) (hsz : s.heap.size = sz) (hnt : ∀ x ∈ c.exceptionTable.toList, False) (hlk : meth.locks = false) (M : gXM l y b maxL ret rm D cl tys L f As post px) {ix : Nat} (hd : decode cc pc = .ok (.invokestatic ix, 3)) (pc' : Nat) (hp : pc + 3 = pc') (hw : gwS own ix y) (hcode : Cond.code y b maxL ret ∈ TB) (hown : y.cls = own) (n : Nat) (hy : gY y n = true) (hlen : As.length = n) (hR : gR rm R maxL cells slots = true)
    (hst : st0 = As.reverse ++ rest) (hrest : (rest.map fun v => v.category).sum ≤ 8) (hpx : ∀ E, px E → px0 E) (hc : cells + rm.cells ≤ mc) (hs : slots + rm.slots ≤ ms) {Qc : Array Value → State → Outcome → State → Prop}
    (k : ∀ r L' f', post r L' f' → gW p l e R s m args below meth c D cl A nL (vx_MQ below Qc (gQx D cl L f sz px0) args s mc ms (gA L sz)) (cells + rm.cells) (slots + rm.slots) L' f' pc' lv (r.toList ++ rest)) : gW p l e R s m args below meth c D cl A nL (vx_MQ below Qc (gQx D cl L f sz px0) args s mc ms (gA L sz)) cells slots L f pc lv st0 := by
  subst hp
  intro H locs ls h1 h2 h3 h4
  have hG : GoodIn TB (wsS own ix y (Cond.code y b maxL ret :: TB)) := tb_in (fun w h => by
    simp only [wsS, List.mem_append, List.mem_cons, List.not_mem_nil, or_false] at h
    rcases h with (rfl | rfl | rfl) | rfl | h
    · exact hw.1
    · exact hw.2.1
    · exact hw.2.2
    · exact hcode
    · exact h)
  have hr := gR_ok hR
  refine w_callx C (a9 := As.toArray) (post := post) (px := px) (f := f) (vx_runS (As := As) (rest := rest) C.1 (M H.size) (cwS n C.1.2.2.2.2 hG rfl rfl rfl ⟨hown, gY_ok hy⟩ hr.1) ⟨gPre_blind, fun U hU hW => ⟨rfl, gPre_of C h1 h2 h3 hU hW⟩⟩ rfl hlen h4.1 hst (lv_room hrest) hd hr.2) h2 h3 (fun r L' f' H1 locs1 hp g1 g2 g3 => k r L' f' hp H1 locs1 ls g1 g2 g3 h4) (fun E ce q9 H1 locs1 hp g1 g2 g3 q1 q2 q3 => ?_)
  subst hA
  exact vx_out (fun x hx => (hnt x hx).elim) hlk q1 q2 q3 (fun t ht hal => ⟨hpx E hp, by rw [ht]; exact g1, g3.F ht⟩) g3.2.2 hc hs
theorem gx_callV (C : gC p s m args c D cl tys A cc own nL) (hA : A = gA L sz) (hsz : s.heap.size = sz) (hnt : ∀ x ∈ c.exceptionTable.toList, False) (hlk : meth.locks = false) {cn : String} {T : u_T} {N ci a : Nat} {fs : List Value} (M : gXM l y b maxL ret rm D cl tys L f (.ref a :: As) post px) (hc0 : cl[ci]? = some (cn, T, N)) (ha : a ∈ L) (he : f a = .inr (ci, fs)) {ix : Nat} (hd : decode cc pc = .ok (.invokevirtual ix, 3)) (pc' : Nat) (hp : pc + 3 = pc') (hw : gwV own ix cn y) (hcode : Cond.code y b maxL ret ∈ TB) (hown : y.cls = cn) (n : Nat) (hy : gY y n = true) (hlen : As.length = n) (hR : gR rm R maxL cells slots = true)
    (hst : st0 = As.reverse ++ .ref a :: rest) (hrest : (rest.map fun v => v.category).sum ≤ 8) (hpx : ∀ E, px E → px0 E) (hc : cells + rm.cells ≤ mc) (hs : slots + rm.slots ≤ ms) {Qc : Array Value → State → Outcome → State → Prop}
    (k : ∀ r L' f', post r L' f' → gW p l e R s m args below meth c D cl A nL (vx_MQ below Qc (gQx D cl L f sz px0) args s mc ms (gA L sz)) (cells + rm.cells) (slots + rm.slots) L' f' pc' lv (r.toList ++ rest)) : gW p l e R s m args below meth c D cl A nL (vx_MQ below Qc (gQx D cl L f sz px0) args s mc ms (gA L sz)) cells slots L f pc lv st0 := by
  subst hp
  intro H locs ls h1 h2 h3 h4
  have hG : GoodIn TB (wsV own ix cn y (Cond.code y b maxL ret :: TB)) := tb_in (fun w h => by
    simp only [wsV, List.mem_append, List.mem_cons, List.not_mem_nil, or_false] at h
    rcases h with (rfl | rfl | rfl | rfl) | rfl | h
    · exact hw.1
    · exact hw.2.1
    · exact hw.2.2.1
    · exact hw.2.2.2
    · exact hcode
    · exact h)
  have hr := gR_ok hR
  refine w_callx C (a9 := (Value.ref a :: As).toArray) (post := post) (px := px) (f := f) (vx_runV (As := As) (rest := rest) C.1 (M H.size) (cwV n C.1.2.2.2.2 hG rfl rfl rfl ⟨hown, gY_ok hy⟩ hr.1) ⟨gPre_blind, va_recv C.2.1.1 (pl_one h1 ha he) hc0 (q0 := 0) rfl, fun U hU hW => ⟨rfl, gPre_of C h1 h2 h3 hU hW⟩⟩ rfl hlen h4.1 hst (lv_room hrest) hd hr.2) h2 h3 (fun r L' f' H1 locs1 hp g1 g2 g3 => k r L' f' hp H1 locs1 ls g1 g2 g3 h4) (fun E ce q9 H1 locs1 hp g1 g2 g3 q1 q2 q3 => ?_)
  subst hA
  exact vx_out (fun x hx => (hnt x hx).elim) hlk q1 q2 q3 (fun t ht hal => ⟨hpx E hp, by rw [ht]; exact g1, g3.F ht⟩) g3.2.2 hc hs
/-- throw new E("text"), as the last thing of a body whose world is still the one of the entry -/
theorem gx_throw (C : gC p s m args c D cl tys A cc own nL) (hA : A = gA L sz) (hsz : s.heap.size = sz) (hnt : ∀ x ∈ c.exceptionTable.toList, False) (hlk : meth.locks = false) (hl : l.stackTraces = false) {cls text : String} {names : List String} {ik is ic : Nat} (hcls : Bundle.fit cls = true) (hnames : ∀ n ∈ names, Bundle.fit n = true)
    (hk : Cond.classLink own ik cls ∈ TB) (hini : Cond.initialized cls ∈ TB) (hstr : ∃ sa : Nat, vk_R own is text sa s) (hat : ∀ w ∈ vx_atS own ic cls names, w.before args s = true) (hgood : ∀ w ∈ Cond.classLink own ik cls :: Cond.initialized cls :: vx_atS own ic cls names, vx_ot w = true)
    (d0 : decode cc pc = .ok (.new ik, 3)) (d3 : decode cc (pc + 3) = .ok (.dup, 1)) (d4 : decode cc (pc + 4) = .ok (.ldc is, 2)) (d6 : decode cc (pc + 6) = .ok (.invokespecial ic, 3)) (d9 : decode cc (pc + 9) = .ok (.athrow, 1))
    (hRf : names.length + 3 < R.frames) (hRl : (st.map fun v => v.category).sum + (13 * (names.length + 1) + 43) ≤ R.locals) (hRc : cells + 1 ≤ R.cells) (hRs : slots + 6 ≤ R.slots) (hc : cells + 1 ≤ mc) (hs : slots + 6 ≤ ms) (hpx : px cls) {Qc : Array Value → State → Outcome → State → Prop} :
    gW p l e R s m args below meth c D cl A nL (vx_MQ below Qc (gQx D cl L f sz px) args s mc ms (gA L sz)) cells slots L f pc lv st := by
  intro H locs ls h1 h2 h3 h4
  obtain ⟨sa, hsa⟩ := hstr
  subst hA
  refine vx_throwS (names := names) C.1.1 C.1.2.1 hl C.1.2.2.2.1 hcls hnames (C.1.2.2.2.2 _ hk) (C.1.2.2.2.2 _ hini) hsa hat hgood C.2.1.2.2.1 C.2.1.2.2.2 h3 (h4.1.trans C.1.2.2.1.symm) d0 d3 d4 d6 d9 (fun x hx => (hnt x hx).elim) hRf hRl hRc hRs hlk (fun t hal hz hq => ⟨hpx, h1.kept (fun k q hk => hq q.1 ((h1 k q hk).lt)), Nat.le_trans h3.1 hz, fun q q1 q2 => ?_⟩) h3.2.2 hc hs
  rw [hq q (Nat.lt_of_lt_of_le q1 h3.1)]
  exact h3.2.1 q q1 q2
def gXB (l : Launch) (y : MethodName) (b : ByteArray) (maxL : Nat) (ret : Option FieldType) (rm : Room) (D : va_G) (cl : List vw_C) (tys : List (ClassId × FieldType)) (L : List Nat) (f : Nat → va_E) (av : List Value) (post : Option Value → List Nat → (Nat → va_E) → Prop) (px : String → Prop) : Prop :=
  ∀ (p : Program) (e : Env) (s : State) (m : MethodId) (args : Array Value) (below : List Frame) (meth : Method) (c : Code) (A : Nat → Prop) (sz : Nat), A = gA L sz → s.heap.size = sz → gC p s m args c D cl tys A b y.cls maxL → meth.sig.returnType = ret → meth.locks = false → (∀ x ∈ c.exceptionTable.toList, False) →
    gW p l e rm s m args below meth c D cl A maxL (vx_MQ below (gQ D cl L sz post) (gQx D cl L f sz px) args s rm.cells rm.slots (gA L sz)) 0 0 L f 0 (lv_args 0 av) []
theorem gx_of {av : List Value} (hy : plainName y.cls = true) (hn : (lg_sl av).length ≤ maxL) (body : gXB l y b maxL ret rm D cl tys L f av post px) : gXM l y b maxL ret rm D cl tys L f av post px := by
  intro sz
  refine vx_ofW (cc := b) (maxL := maxL) (ret := ret) hy rfl ?_
  intro p e s m args below meth c s₁ B hml hnt hv
  obtain ⟨rfl, hsz, hP, hD0, hE⟩ := hv
  have hts := atoms_spec (ws := Cond.code y b maxL ret :: TB) B.pre
  have hown : s.vm.findClass y.cls = some m.cls := findClass_of_methodNamed B.named
  have hl := lv_entry av (n := maxL) hn
  have C : gC p s m av.toArray c D cl tys (gA L sz) b y.cls maxL := ⟨⟨B.exec, B.bytes, hml, hown, fun w h => hts w (List.mem_cons_of_mem _ h)⟩, hE, fun q h => Or.inr (by rw [← hsz]; exact h)⟩
  have K := body p e s m av.toArray below meth c (gA L sz) sz rfl hsz C B.returns B.notSynchronized hnt
  rw [lg_entry_eq]
  exact K s.heap [] _ hP (pl_D hD0 (fun q hq => Or.inl hq)) va_S.rf hl
end GX
end
section
def u2 (S : Nat → Nat → Int) (k j : Nat) (z : Int) : Nat → Nat → Int := fun k' => if k' = k then updI (S k) j z else S k'
def uR (S : Nat → Nat → Int) (k : Nat) (r : Nat → Int) : Nat → Nat → Int := fun k' => if k' = k then r else S k'
abbrev TY (cd : Nat → ClassId) : List (ClassId × FieldType) := [(cd 0, .int), (cd 1, .long), (cd 2, .object "AlloyPlans$Alloy"), (cd 3, .object "AlloyPlans$Mix")]
/-- a cell's contents out of its numbers r -/
def mkr (cd : Nat → ClassId) (ad : Nat → Nat) (k : Nat) (r : Nat → Int) : va_E := match k with
  | 0 => .inr (5, [.ref (ad 1), .ref (ad 4), .ref (ad 5), .ref (ad 7), iv (r 4)])
  | 1 => .inr (1, [iv (r 0), iv (r 1), jv (r 2), .ref (ad 2), .ref (ad 3)])
  | 2 => ia (cd 0) 8 r
  | 3 => ia (cd 0) 8 r
  | 4 => qa (cd 2) 4 (fun i => some (ad (11 + i)))
  | 5 => .inr (3, [iv (r 0), iv (r 1), iv (r 2), iv (r 3), iv (r 4), .ref (ad 6)])
  | 6 => ia (cd 0) 4 r
  | 7 => .inr (4, [iv (r 0), iv (r 1), .ref (ad 8), iv (r 3), iv (r 4), .ref (ad 9), .ref (ad 10)])
  | 8 => ia (cd 0) 4 r
  | 9 => ia (cd 0) 4 r
  | 10 => qa (cd 3) 5 (fun i => some (ad (23 + i)))
  | 11 => .inr (0, [iv (r 0), iv (r 1), iv (r 2), iv (r 3), iv (r 4), .ref (ad 15), .ref (ad 19)])
  | 12 => .inr (0, [iv (r 0), iv (r 1), iv (r 2), iv (r 3), iv (r 4), .ref (ad 16), .ref (ad 20)])
  | 13 => .inr (0, [iv (r 0), iv (r 1), iv (r 2), iv (r 3), iv (r 4), .ref (ad 17), .ref (ad 21)])
  | 14 => .inr (0, [iv (r 0), iv (r 1), iv (r 2), iv (r 3), iv (r 4), .ref (ad 18), .ref (ad 22)])
  | 15 => ia (cd 0) 8 r
  | 16 => ia (cd 0) 8 r
  | 17 => ia (cd 0) 8 r
  | 18 => ia (cd 0) 8 r
  | 19 => ja (cd 1) 8 r
  | 20 => ja (cd 1) 8 r
  | 21 => ja (cd 1) 8 r
  | 22 => ja (cd 1) 8 r
  | 23 => .inr (2, [iv (r 0), iv (r 1), iv (r 2), .ref (ad 28)])
  | 24 => .inr (2, [iv (r 0), iv (r 1), iv (r 2), .ref (ad 29)])
  | 25 => .inr (2, [iv (r 0), iv (r 1), iv (r 2), .ref (ad 30)])
  | 26 => .inr (2, [iv (r 0), iv (r 1), iv (r 2), .ref (ad 31)])
  | 27 => .inr (2, [iv (r 0), iv (r 1), iv (r 2), .ref (ad 32)])
  | 28 => ja (cd 1) 8 r
  | 29 => ja (cd 1) 8 r
  | 30 => ja (cd 1) 8 r
  | 31 => ja (cd 1) 8 r
  | 32 => ja (cd 1) 8 r
  | 33 => .inr (6, [iv (r 0), iv (r 1), .ref (ad 34), .ref (ad 35), .ref (ad 36), .ref (ad 37), iv (r 6), .ref (ad 38), .ref (ad 39), .ref (ad 40), .ref (ad 41), .ref (ad 42), .ref (ad 43), .ref (ad 44), iv (r 14), .ref (ad 45), .ref (ad 46), iv (r 17), jv (r 18)])
  | 34 => ia (cd 0) 4 r
  | 35 => ia (cd 0) 4 r
  | 36 => ia (cd 0) 4 r
  | 37 => ia (cd 0) 4 r
  | 38 => ia (cd 0) 4 r
  | 39 => ia (cd 0) 4 r
  | 40 => ia (cd 0) 4 r
  | 41 => ia (cd 0) 16 r
  | 42 => ia (cd 0) 16 r
  | 43 => ia (cd 0) 4 r
  | 44 => ia (cd 0) 4 r
  | 45 => ia (cd 0) 4 r
  | 46 => ia (cd 0) 4 r
  | _ => ja (cd 1) 1 r
def LO (ad : Nat → Nat) (L : List Nat) : Prop := (∀ k, k < 48 → ad k ∈ L) ∧ ∀ i j, i < 48 → j < 48 → ad i = ad j → i = j
/-- the world: cell k at ad k with the numbers S k -/
noncomputable def wd (cd : Nat → ClassId) (ad : Nat → Nat) (S : Nat → Nat → Int) (f0 : Nat → va_E) : Nat → va_E := fun a => @dite _ (∃ k, k < 48 ∧ ad k = a) (Classical.propDecidable _) (fun h => mkr cd ad (Classical.choose h) (S (Classical.choose h))) (fun _ => f0 a)
section LAY
variable {cd : Nat → ClassId} {ad : Nat → Nat} {L : List Nat} {f0 : Nat → va_E} {S : Nat → Nat → Int}
theorem wd_at (G : LO ad L) (k : Nat) (hk : k < 48) : wd cd ad S f0 (ad k) = mkr cd ad k (S k) := by
  have h : ∃ j, j < 48 ∧ ad j = ad k := ⟨k, hk, rfl⟩
  have e : Classical.choose h = k := G.2 _ _ (Classical.choose_spec h).1 hk (Classical.choose_spec h).2
  unfold wd
  rw [dif_pos h, e]
theorem wd_off {a : Nat} (h : ¬ ∃ k, k < 48 ∧ ad k = a) : wd cd ad S f0 a = f0 a := by
  unfold wd
  rw [dif_neg h]
theorem wd_up (G : LO ad L) (k : Nat) (hk : k < 48) (r : Nat → Int) : va_up (wd cd ad S f0) (ad k) (mkr cd ad k r) = wd cd ad (uR S k r) f0 := by
  funext a
  by_cases h : ∃ j, j < 48 ∧ ad j = a
  · obtain ⟨j, hj, rfl⟩ := h
    rw [wd_at G j hj]
    by_cases hjk : j = k
    · subst hjk
      rw [va_up_self]
      simp [uR]
    · rw [va_up_ne _ _ (fun e => hjk (G.2 j k hj hk e)), wd_at G j hj]
      simp [uR, hjk]
  · have hne : a ≠ ad k := fun e => h ⟨k, hk, e.symm⟩
    rw [va_up_ne _ _ hne, wd_off h, wd_off h]
theorem at_P (G : LO ad L) : wd cd ad S f0 (ad 0) = .inr (5, [.ref (ad 1), .ref (ad 4), .ref (ad 5), .ref (ad 7), iv (S 0 4)]) := wd_at G 0 (by decide)
theorem at_E (G : LO ad L) : wd cd ad S f0 (ad 1) = .inr (1, [iv (S 1 0), iv (S 1 1), jv (S 1 2), .ref (ad 2), .ref (ad 3)]) := wd_at G 1 (by decide)
theorem at_N (G : LO ad L) : wd cd ad S f0 (ad 5) = .inr (3, [iv (S 5 0), iv (S 5 1), iv (S 5 2), iv (S 5 3), iv (S 5 4), .ref (ad 6)]) := wd_at G 5 (by decide)
theorem at_S (G : LO ad L) : wd cd ad S f0 (ad 7) = .inr (4, [iv (S 7 0), iv (S 7 1), .ref (ad 8), iv (S 7 3), iv (S 7 4), .ref (ad 9), .ref (ad 10)]) := wd_at G 7 (by decide)
theorem mk_A (i : Nat) (hi : i < 4) (r : Nat → Int) : mkr cd ad (11 + i) r = .inr (0, [iv (r 0), iv (r 1), iv (r 2), iv (r 3), iv (r 4), .ref (ad (15 + i)), .ref (ad (19 + i))]) := by
  match i, hi with
  | 0, _ => rfl
  | 1, _ => rfl
  | 2, _ => rfl
  | 3, _ => rfl
theorem at_A (G : LO ad L) (i : Nat) (hi : i < 4) : wd cd ad S f0 (ad (11 + i)) = .inr (0, [iv (S (11 + i) 0), iv (S (11 + i) 1), iv (S (11 + i) 2), iv (S (11 + i) 3), iv (S (11 + i) 4), .ref (ad (15 + i)), .ref (ad (19 + i))]) := (wd_at G (11 + i) (by omega)).trans (mk_A i hi _)
theorem mk_X (i : Nat) (hi : i < 5) (r : Nat → Int) : mkr cd ad (23 + i) r = .inr (2, [iv (r 0), iv (r 1), iv (r 2), .ref (ad (28 + i))]) := by
  match i, hi with
  | 0, _ => rfl
  | 1, _ => rfl
  | 2, _ => rfl
  | 3, _ => rfl
  | 4, _ => rfl
theorem at_X (G : LO ad L) (i : Nat) (hi : i < 5) : wd cd ad S f0 (ad (23 + i)) = .inr (2, [iv (S (23 + i) 0), iv (S (23 + i) 1), iv (S (23 + i) 2), .ref (ad (28 + i))]) := (wd_at G (23 + i) (by omega)).trans (mk_X i hi _)
theorem at_M (G : LO ad L) : wd cd ad S f0 (ad 33) = .inr (6, [iv (S 33 0), iv (S 33 1), .ref (ad 34), .ref (ad 35), .ref (ad 36), .ref (ad 37), iv (S 33 6), .ref (ad 38), .ref (ad 39), .ref (ad 40), .ref (ad 41), .ref (ad 42), .ref (ad 43), .ref (ad 44), iv (S 33 14), .ref (ad 45), .ref (ad 46), iv (S 33 17), jv (S 33 18)]) := wd_at G 33 (by decide)
theorem at_2 (G : LO ad L) : wd cd ad S f0 (ad 2) = ia (cd 0) 8 (S 2) := wd_at G 2 (by decide)
theorem at_3 (G : LO ad L) : wd cd ad S f0 (ad 3) = ia (cd 0) 8 (S 3) := wd_at G 3 (by decide)
theorem at_6 (G : LO ad L) : wd cd ad S f0 (ad 6) = ia (cd 0) 4 (S 6) := wd_at G 6 (by decide)
theorem at_8 (G : LO ad L) : wd cd ad S f0 (ad 8) = ia (cd 0) 4 (S 8) := wd_at G 8 (by decide)
theorem at_9 (G : LO ad L) : wd cd ad S f0 (ad 9) = ia (cd 0) 4 (S 9) := wd_at G 9 (by decide)
theorem at_34 (G : LO ad L) : wd cd ad S f0 (ad 34) = ia (cd 0) 4 (S 34) := wd_at G 34 (by decide)
theorem at_35 (G : LO ad L) : wd cd ad S f0 (ad 35) = ia (cd 0) 4 (S 35) := wd_at G 35 (by decide)
theorem at_36 (G : LO ad L) : wd cd ad S f0 (ad 36) = ia (cd 0) 4 (S 36) := wd_at G 36 (by decide)
theorem at_37 (G : LO ad L) : wd cd ad S f0 (ad 37) = ia (cd 0) 4 (S 37) := wd_at G 37 (by decide)
theorem at_38 (G : LO ad L) : wd cd ad S f0 (ad 38) = ia (cd 0) 4 (S 38) := wd_at G 38 (by decide)
theorem at_39 (G : LO ad L) : wd cd ad S f0 (ad 39) = ia (cd 0) 4 (S 39) := wd_at G 39 (by decide)
theorem at_40 (G : LO ad L) : wd cd ad S f0 (ad 40) = ia (cd 0) 4 (S 40) := wd_at G 40 (by decide)
theorem at_41 (G : LO ad L) : wd cd ad S f0 (ad 41) = ia (cd 0) 16 (S 41) := wd_at G 41 (by decide)
theorem at_42 (G : LO ad L) : wd cd ad S f0 (ad 42) = ia (cd 0) 16 (S 42) := wd_at G 42 (by decide)
theorem at_43 (G : LO ad L) : wd cd ad S f0 (ad 43) = ia (cd 0) 4 (S 43) := wd_at G 43 (by decide)
theorem at_44 (G : LO ad L) : wd cd ad S f0 (ad 44) = ia (cd 0) 4 (S 44) := wd_at G 44 (by decide)
theorem at_45 (G : LO ad L) : wd cd ad S f0 (ad 45) = ia (cd 0) 4 (S 45) := wd_at G 45 (by decide)
theorem at_46 (G : LO ad L) : wd cd ad S f0 (ad 46) = ia (cd 0) 4 (S 46) := wd_at G 46 (by decide)
theorem at_47 (G : LO ad L) : wd cd ad S f0 (ad 47) = ja (cd 1) 1 (S 47) := wd_at G 47 (by decide)
theorem mk_15 (i : Nat) (hi : i < 4) (r : Nat → Int) : mkr cd ad (15 + i) r = ia (cd 0) 8 r := by
  match i, hi with
  | 0, _ => rfl
  | 1, _ => rfl
  | 2, _ => rfl
  | 3, _ => rfl
theorem at_15 (G : LO ad L) (i : Nat) (hi : i < 4) : wd cd ad S f0 (ad (15 + i)) = ia (cd 0) 8 (S (15 + i)) := (wd_at G (15 + i) (by omega)).trans (mk_15 i hi _)
theorem mk_19 (i : Nat) (hi : i < 4) (r : Nat → Int) : mkr cd ad (19 + i) r = ja (cd 1) 8 r := by
  match i, hi with
  | 0, _ => rfl
  | 1, _ => rfl
  | 2, _ => rfl
  | 3, _ => rfl
theorem at_19 (G : LO ad L) (i : Nat) (hi : i < 4) : wd cd ad S f0 (ad (19 + i)) = ja (cd 1) 8 (S (19 + i)) := (wd_at G (19 + i) (by omega)).trans (mk_19 i hi _)
theorem mk_28 (i : Nat) (hi : i < 5) (r : Nat → Int) : mkr cd ad (28 + i) r = ja (cd 1) 8 r := by
  match i, hi with
  | 0, _ => rfl
  | 1, _ => rfl
  | 2, _ => rfl
  | 3, _ => rfl
  | 4, _ => rfl
theorem at_28 (G : LO ad L) (i : Nat) (hi : i < 5) : wd cd ad S f0 (ad (28 + i)) = ja (cd 1) 8 (S (28 + i)) := (wd_at G (28 + i) (by omega)).trans (mk_28 i hi _)
theorem at_4 (G : LO ad L) : wd cd ad S f0 (ad 4) = qa (cd 2) 4 (fun i => some (ad (11 + i))) := wd_at G 4 (by decide)
theorem at_10 (G : LO ad L) : wd cd ad S f0 (ad 10) = qa (cd 3) 5 (fun i => some (ad (23 + i))) := wd_at G 10 (by decide)
end LAY
end
section
section LROW
variable {p : Program} {l : Launch} {e : Env} {R : Room} {s : State} {m : MethodId} {args : Array Value} {below : List Frame} {meth : Method} {c : Code} {D : va_G} {A : Nat → Prop} {nL : Nat} {Q : State → Prop} {cells slots : Nat} {L : List Nat} {pc : Nat} {lv : List (Nat × Value)} {st : List Value} {cc : ByteArray} {own : String} {cd : Nat → ClassId} {ad : Nat → Nat} {f0 : Nat → va_E} {S : Nat → Nat → Int}
theorem gt_P_melt (C : gC p s m args c D CL (TY cd) A cc own nL) (G : LO ad L) {ix : Nat} (hd : decode cc pc = .ok (.getfield ix, 3)) (pc' : Nat) (hp : pc + 3 = pc') (hl : Cond.fieldLink own ix "AlloyPlans" "melt" "LAlloyPlans$Melt;" ∈ TB) (k : gW p l e R s m args below meth c D CL A nL Q cells slots L (wd cd ad S f0) pc' lv (.ref (ad 1) :: st)) : gW p l e R s m args below meth c D CL A nL Q cells slots L (wd cd ad S f0) pc lv (.ref (ad 0) :: st) := g_get C hd pc' hp in_P rfl (G.1 0 (by decide)) (at_P G) 0 (by decide) hl rfl k
theorem gt_P_alloys (C : gC p s m args c D CL (TY cd) A cc own nL) (G : LO ad L) {ix : Nat} (hd : decode cc pc = .ok (.getfield ix, 3)) (pc' : Nat) (hp : pc + 3 = pc') (hl : Cond.fieldLink own ix "AlloyPlans" "alloys" "[LAlloyPlans$Alloy;" ∈ TB) (k : gW p l e R s m args below meth c D CL A nL Q cells slots L (wd cd ad S f0) pc' lv (.ref (ad 4) :: st)) : gW p l e R s m args below meth c D CL A nL Q cells slots L (wd cd ad S f0) pc lv (.ref (ad 0) :: st) := g_get C hd pc' hp in_P rfl (G.1 0 (by decide)) (at_P G) 1 (by decide) hl rfl k
theorem gt_P_plan (C : gC p s m args c D CL (TY cd) A cc own nL) (G : LO ad L) {ix : Nat} (hd : decode cc pc = .ok (.getfield ix, 3)) (pc' : Nat) (hp : pc + 3 = pc') (hl : Cond.fieldLink own ix "AlloyPlans" "plan" "LAlloyPlans$Plan;" ∈ TB) (k : gW p l e R s m args below meth c D CL A nL Q cells slots L (wd cd ad S f0) pc' lv (.ref (ad 5) :: st)) : gW p l e R s m args below meth c D CL A nL Q cells slots L (wd cd ad S f0) pc lv (.ref (ad 0) :: st) := g_get C hd pc' hp in_P rfl (G.1 0 (by decide)) (at_P G) 2 (by decide) hl rfl k
theorem gt_P_search (C : gC p s m args c D CL (TY cd) A cc own nL) (G : LO ad L) {ix : Nat} (hd : decode cc pc = .ok (.getfield ix, 3)) (pc' : Nat) (hp : pc + 3 = pc') (hl : Cond.fieldLink own ix "AlloyPlans" "search" "LAlloyPlans$Search;" ∈ TB) (k : gW p l e R s m args below meth c D CL A nL Q cells slots L (wd cd ad S f0) pc' lv (.ref (ad 7) :: st)) : gW p l e R s m args below meth c D CL A nL Q cells slots L (wd cd ad S f0) pc lv (.ref (ad 0) :: st) := g_get C hd pc' hp in_P rfl (G.1 0 (by decide)) (at_P G) 3 (by decide) hl rfl k
theorem gt_P_kindCount (C : gC p s m args c D CL (TY cd) A cc own nL) (G : LO ad L) {ix : Nat} (hd : decode cc pc = .ok (.getfield ix, 3)) (pc' : Nat) (hp : pc + 3 = pc') (hl : Cond.fieldLink own ix "AlloyPlans" "kindCount" "I" ∈ TB) (k : gW p l e R s m args below meth c D CL A nL Q cells slots L (wd cd ad S f0) pc' lv (iv (S 0 4) :: st)) : gW p l e R s m args below meth c D CL A nL Q cells slots L (wd cd ad S f0) pc lv (.ref (ad 0) :: st) := g_get C hd pc' hp in_P rfl (G.1 0 (by decide)) (at_P G) 4 (by decide) hl rfl k
theorem pt_P_kindCount (C : gC p s m args c D CL (TY cd) A cc own nL) (G : LO ad L) {ix : Nat} {z : Int} (hd : decode cc pc = .ok (.putfield ix, 3)) (pc' : Nat) (hp : pc + 3 = pc') (hl : Cond.fieldLink own ix "AlloyPlans" "kindCount" "I" ∈ TB) (k : gW p l e R s m args below meth c D CL A nL Q cells slots L (wd cd ad (u2 S 0 4 z) f0) pc' lv (st)) : gW p l e R s m args below meth c D CL A nL Q cells slots L (wd cd ad S f0) pc lv (iv z :: .ref (ad 0) :: st) := by
  refine g_put C hd pc' hp in_P rfl (G.1 0 (by decide)) (at_P G) 4 (by decide) hl tyX5 tyX5_ok nmX5 rfl (ty := .int) (by decide +kernel) rfl rfl (Nat.le_of_ble_eq_true rfl) ?_
  exact (show wd cd ad (u2 S 0 4 z) f0 = _ from (wd_up (cd := cd) (S := S) (f0 := f0) G 0 (by decide) (updI (S 0) 4 z)).symm) ▸ k
theorem gt_E_kilos (C : gC p s m args c D CL (TY cd) A cc own nL) (G : LO ad L) {ix : Nat} (hd : decode cc pc = .ok (.getfield ix, 3)) (pc' : Nat) (hp : pc + 3 = pc') (hl : Cond.fieldLink own ix "AlloyPlans$Melt" "kilos" "I" ∈ TB) (k : gW p l e R s m args below meth c D CL A nL Q cells slots L (wd cd ad S f0) pc' lv (iv (S 1 0) :: st)) : gW p l e R s m args below meth c D CL A nL Q cells slots L (wd cd ad S f0) pc lv (.ref (ad 1) :: st) := g_get C hd pc' hp in_E rfl (G.1 1 (by decide)) (at_E G) 0 (by decide) hl rfl k
theorem pt_E_kilos (C : gC p s m args c D CL (TY cd) A cc own nL) (G : LO ad L) {ix : Nat} {z : Int} (hd : decode cc pc = .ok (.putfield ix, 3)) (pc' : Nat) (hp : pc + 3 = pc') (hl : Cond.fieldLink own ix "AlloyPlans$Melt" "kilos" "I" ∈ TB) (k : gW p l e R s m args below meth c D CL A nL Q cells slots L (wd cd ad (u2 S 1 0 z) f0) pc' lv (st)) : gW p l e R s m args below meth c D CL A nL Q cells slots L (wd cd ad S f0) pc lv (iv z :: .ref (ad 1) :: st) := by
  refine g_put C hd pc' hp in_E rfl (G.1 1 (by decide)) (at_E G) 0 (by decide) hl tyX1 tyX1_ok nmX1 rfl (ty := .int) (by decide +kernel) rfl rfl (Nat.le_of_ble_eq_true rfl) ?_
  exact (show wd cd ad (u2 S 1 0 z) f0 = _ from (wd_up (cd := cd) (S := S) (f0 := f0) G 1 (by decide) (updI (S 1) 0 z)).symm) ▸ k
theorem gt_E_additions (C : gC p s m args c D CL (TY cd) A cc own nL) (G : LO ad L) {ix : Nat} (hd : decode cc pc = .ok (.getfield ix, 3)) (pc' : Nat) (hp : pc + 3 = pc') (hl : Cond.fieldLink own ix "AlloyPlans$Melt" "additions" "I" ∈ TB) (k : gW p l e R s m args below meth c D CL A nL Q cells slots L (wd cd ad S f0) pc' lv (iv (S 1 1) :: st)) : gW p l e R s m args below meth c D CL A nL Q cells slots L (wd cd ad S f0) pc lv (.ref (ad 1) :: st) := g_get C hd pc' hp in_E rfl (G.1 1 (by decide)) (at_E G) 1 (by decide) hl rfl k
theorem pt_E_additions (C : gC p s m args c D CL (TY cd) A cc own nL) (G : LO ad L) {ix : Nat} {z : Int} (hd : decode cc pc = .ok (.putfield ix, 3)) (pc' : Nat) (hp : pc + 3 = pc') (hl : Cond.fieldLink own ix "AlloyPlans$Melt" "additions" "I" ∈ TB) (k : gW p l e R s m args below meth c D CL A nL Q cells slots L (wd cd ad (u2 S 1 1 z) f0) pc' lv (st)) : gW p l e R s m args below meth c D CL A nL Q cells slots L (wd cd ad S f0) pc lv (iv z :: .ref (ad 1) :: st) := by
  refine g_put C hd pc' hp in_E rfl (G.1 1 (by decide)) (at_E G) 1 (by decide) hl tyX1 tyX1_ok nmX1 rfl (ty := .int) (by decide +kernel) rfl rfl (Nat.le_of_ble_eq_true rfl) ?_
  exact (show wd cd ad (u2 S 1 1 z) f0 = _ from (wd_up (cd := cd) (S := S) (f0 := f0) G 1 (by decide) (updI (S 1) 1 z)).symm) ▸ k
theorem gt_E_cents (C : gC p s m args c D CL (TY cd) A cc own nL) (G : LO ad L) {ix : Nat} (hd : decode cc pc = .ok (.getfield ix, 3)) (pc' : Nat) (hp : pc + 3 = pc') (hl : Cond.fieldLink own ix "AlloyPlans$Melt" "cents" "J" ∈ TB) (k : gW p l e R s m args below meth c D CL A nL Q cells slots L (wd cd ad S f0) pc' lv (jv (S 1 2) :: st)) : gW p l e R s m args below meth c D CL A nL Q cells slots L (wd cd ad S f0) pc lv (.ref (ad 1) :: st) := g_get C hd pc' hp in_E rfl (G.1 1 (by decide)) (at_E G) 2 (by decide) hl rfl k
theorem pt_E_cents (C : gC p s m args c D CL (TY cd) A cc own nL) (G : LO ad L) {ix : Nat} {z : Int} (hd : decode cc pc = .ok (.putfield ix, 3)) (pc' : Nat) (hp : pc + 3 = pc') (hl : Cond.fieldLink own ix "AlloyPlans$Melt" "cents" "J" ∈ TB) (k : gW p l e R s m args below meth c D CL A nL Q cells slots L (wd cd ad (u2 S 1 2 z) f0) pc' lv (st)) : gW p l e R s m args below meth c D CL A nL Q cells slots L (wd cd ad S f0) pc lv (jv z :: .ref (ad 1) :: st) := by
  refine g_put C hd pc' hp in_E rfl (G.1 1 (by decide)) (at_E G) 2 (by decide) hl tyX1 tyX1_ok nmX1 rfl (ty := .long) (by decide +kernel) rfl rfl (Nat.le_of_ble_eq_true rfl) ?_
  exact (show wd cd ad (u2 S 1 2 z) f0 = _ from (wd_up (cd := cd) (S := S) (f0 := f0) G 1 (by decide) (updI (S 1) 2 z)).symm) ▸ k
theorem gt_E_presentEnds (C : gC p s m args c D CL (TY cd) A cc own nL) (G : LO ad L) {ix : Nat} (hd : decode cc pc = .ok (.getfield ix, 3)) (pc' : Nat) (hp : pc + 3 = pc') (hl : Cond.fieldLink own ix "AlloyPlans$Melt" "presentEnds" "[I" ∈ TB) (k : gW p l e R s m args below meth c D CL A nL Q cells slots L (wd cd ad S f0) pc' lv (.ref (ad 2) :: st)) : gW p l e R s m args below meth c D CL A nL Q cells slots L (wd cd ad S f0) pc lv (.ref (ad 1) :: st) := g_get C hd pc' hp in_E rfl (G.1 1 (by decide)) (at_E G) 3 (by decide) hl rfl k
theorem gt_E_aimEnds (C : gC p s m args c D CL (TY cd) A cc own nL) (G : LO ad L) {ix : Nat} (hd : decode cc pc = .ok (.getfield ix, 3)) (pc' : Nat) (hp : pc + 3 = pc') (hl : Cond.fieldLink own ix "AlloyPlans$Melt" "aimEnds" "[I" ∈ TB) (k : gW p l e R s m args below meth c D CL A nL Q cells slots L (wd cd ad S f0) pc' lv (.ref (ad 3) :: st)) : gW p l e R s m args below meth c D CL A nL Q cells slots L (wd cd ad S f0) pc lv (.ref (ad 1) :: st) := g_get C hd pc' hp in_E rfl (G.1 1 (by decide)) (at_E G) 4 (by decide) hl rfl k
theorem gt_N_stands (C : gC p s m args c D CL (TY cd) A cc own nL) (G : LO ad L) {ix : Nat} (hd : decode cc pc = .ok (.getfield ix, 3)) (pc' : Nat) (hp : pc + 3 = pc') (hl : Cond.fieldLink own ix "AlloyPlans$Plan" "stands" "Z" ∈ TB) (k : gW p l e R s m args below meth c D CL A nL Q cells slots L (wd cd ad S f0) pc' lv (iv (S 5 0) :: st)) : gW p l e R s m args below meth c D CL A nL Q cells slots L (wd cd ad S f0) pc lv (.ref (ad 5) :: st) := g_get C hd pc' hp in_N rfl (G.1 5 (by decide)) (at_N G) 0 (by decide) hl rfl k
theorem pt_N_stands (C : gC p s m args c D CL (TY cd) A cc own nL) (G : LO ad L) {ix : Nat} {z : Int} (hd : decode cc pc = .ok (.putfield ix, 3)) (pc' : Nat) (hp : pc + 3 = pc') (hl : Cond.fieldLink own ix "AlloyPlans$Plan" "stands" "Z" ∈ TB) (hz : z = 0 ∨ z = 1) (k : gW p l e R s m args below meth c D CL A nL Q cells slots L (wd cd ad (u2 S 5 0 z) f0) pc' lv (st)) : gW p l e R s m args below meth c D CL A nL Q cells slots L (wd cd ad S f0) pc lv (iv z :: .ref (ad 5) :: st) := by
  refine g_put C hd pc' hp in_N rfl (G.1 5 (by decide)) (at_N G) 0 (by decide) hl tyX3 tyX3_ok nmX3 rfl (ty := .boolean) (by decide +kernel) (by rcases hz with rfl | rfl <;> rfl) (by rcases hz with rfl | rfl <;> rfl) (Nat.le_of_ble_eq_true rfl) ?_
  exact (show wd cd ad (u2 S 5 0 z) f0 = _ from (wd_up (cd := cd) (S := S) (f0 := f0) G 5 (by decide) (updI (S 5) 0 z)).symm) ▸ k
theorem gt_N_cents (C : gC p s m args c D CL (TY cd) A cc own nL) (G : LO ad L) {ix : Nat} (hd : decode cc pc = .ok (.getfield ix, 3)) (pc' : Nat) (hp : pc + 3 = pc') (hl : Cond.fieldLink own ix "AlloyPlans$Plan" "cents" "I" ∈ TB) (k : gW p l e R s m args below meth c D CL A nL Q cells slots L (wd cd ad S f0) pc' lv (iv (S 5 1) :: st)) : gW p l e R s m args below meth c D CL A nL Q cells slots L (wd cd ad S f0) pc lv (.ref (ad 5) :: st) := g_get C hd pc' hp in_N rfl (G.1 5 (by decide)) (at_N G) 1 (by decide) hl rfl k
theorem pt_N_cents (C : gC p s m args c D CL (TY cd) A cc own nL) (G : LO ad L) {ix : Nat} {z : Int} (hd : decode cc pc = .ok (.putfield ix, 3)) (pc' : Nat) (hp : pc + 3 = pc') (hl : Cond.fieldLink own ix "AlloyPlans$Plan" "cents" "I" ∈ TB) (k : gW p l e R s m args below meth c D CL A nL Q cells slots L (wd cd ad (u2 S 5 1 z) f0) pc' lv (st)) : gW p l e R s m args below meth c D CL A nL Q cells slots L (wd cd ad S f0) pc lv (iv z :: .ref (ad 5) :: st) := by
  refine g_put C hd pc' hp in_N rfl (G.1 5 (by decide)) (at_N G) 1 (by decide) hl tyX3 tyX3_ok nmX3 rfl (ty := .int) (by decide +kernel) rfl rfl (Nat.le_of_ble_eq_true rfl) ?_
  exact (show wd cd ad (u2 S 5 1 z) f0 = _ from (wd_up (cd := cd) (S := S) (f0 := f0) G 5 (by decide) (updI (S 5) 1 z)).symm) ▸ k
theorem gt_N_kilos (C : gC p s m args c D CL (TY cd) A cc own nL) (G : LO ad L) {ix : Nat} (hd : decode cc pc = .ok (.getfield ix, 3)) (pc' : Nat) (hp : pc + 3 = pc') (hl : Cond.fieldLink own ix "AlloyPlans$Plan" "kilos" "I" ∈ TB) (k : gW p l e R s m args below meth c D CL A nL Q cells slots L (wd cd ad S f0) pc' lv (iv (S 5 2) :: st)) : gW p l e R s m args below meth c D CL A nL Q cells slots L (wd cd ad S f0) pc lv (.ref (ad 5) :: st) := g_get C hd pc' hp in_N rfl (G.1 5 (by decide)) (at_N G) 2 (by decide) hl rfl k
theorem pt_N_kilos (C : gC p s m args c D CL (TY cd) A cc own nL) (G : LO ad L) {ix : Nat} {z : Int} (hd : decode cc pc = .ok (.putfield ix, 3)) (pc' : Nat) (hp : pc + 3 = pc') (hl : Cond.fieldLink own ix "AlloyPlans$Plan" "kilos" "I" ∈ TB) (k : gW p l e R s m args below meth c D CL A nL Q cells slots L (wd cd ad (u2 S 5 2 z) f0) pc' lv (st)) : gW p l e R s m args below meth c D CL A nL Q cells slots L (wd cd ad S f0) pc lv (iv z :: .ref (ad 5) :: st) := by
  refine g_put C hd pc' hp in_N rfl (G.1 5 (by decide)) (at_N G) 2 (by decide) hl tyX3 tyX3_ok nmX3 rfl (ty := .int) (by decide +kernel) rfl rfl (Nat.le_of_ble_eq_true rfl) ?_
  exact (show wd cd ad (u2 S 5 2 z) f0 = _ from (wd_up (cd := cd) (S := S) (f0 := f0) G 5 (by decide) (updI (S 5) 2 z)).symm) ▸ k
theorem gt_N_kinds (C : gC p s m args c D CL (TY cd) A cc own nL) (G : LO ad L) {ix : Nat} (hd : decode cc pc = .ok (.getfield ix, 3)) (pc' : Nat) (hp : pc + 3 = pc') (hl : Cond.fieldLink own ix "AlloyPlans$Plan" "kinds" "I" ∈ TB) (k : gW p l e R s m args below meth c D CL A nL Q cells slots L (wd cd ad S f0) pc' lv (iv (S 5 3) :: st)) : gW p l e R s m args below meth c D CL A nL Q cells slots L (wd cd ad S f0) pc lv (.ref (ad 5) :: st) := g_get C hd pc' hp in_N rfl (G.1 5 (by decide)) (at_N G) 3 (by decide) hl rfl k
theorem pt_N_kinds (C : gC p s m args c D CL (TY cd) A cc own nL) (G : LO ad L) {ix : Nat} {z : Int} (hd : decode cc pc = .ok (.putfield ix, 3)) (pc' : Nat) (hp : pc + 3 = pc') (hl : Cond.fieldLink own ix "AlloyPlans$Plan" "kinds" "I" ∈ TB) (k : gW p l e R s m args below meth c D CL A nL Q cells slots L (wd cd ad (u2 S 5 3 z) f0) pc' lv (st)) : gW p l e R s m args below meth c D CL A nL Q cells slots L (wd cd ad S f0) pc lv (iv z :: .ref (ad 5) :: st) := by
  refine g_put C hd pc' hp in_N rfl (G.1 5 (by decide)) (at_N G) 3 (by decide) hl tyX3 tyX3_ok nmX3 rfl (ty := .int) (by decide +kernel) rfl rfl (Nat.le_of_ble_eq_true rfl) ?_
  exact (show wd cd ad (u2 S 5 3 z) f0 = _ from (wd_up (cd := cd) (S := S) (f0 := f0) G 5 (by decide) (updI (S 5) 3 z)).symm) ▸ k
theorem gt_N_cooling (C : gC p s m args c D CL (TY cd) A cc own nL) (G : LO ad L) {ix : Nat} (hd : decode cc pc = .ok (.getfield ix, 3)) (pc' : Nat) (hp : pc + 3 = pc') (hl : Cond.fieldLink own ix "AlloyPlans$Plan" "cooling" "I" ∈ TB) (k : gW p l e R s m args below meth c D CL A nL Q cells slots L (wd cd ad S f0) pc' lv (iv (S 5 4) :: st)) : gW p l e R s m args below meth c D CL A nL Q cells slots L (wd cd ad S f0) pc lv (.ref (ad 5) :: st) := g_get C hd pc' hp in_N rfl (G.1 5 (by decide)) (at_N G) 4 (by decide) hl rfl k
theorem pt_N_cooling (C : gC p s m args c D CL (TY cd) A cc own nL) (G : LO ad L) {ix : Nat} {z : Int} (hd : decode cc pc = .ok (.putfield ix, 3)) (pc' : Nat) (hp : pc + 3 = pc') (hl : Cond.fieldLink own ix "AlloyPlans$Plan" "cooling" "I" ∈ TB) (k : gW p l e R s m args below meth c D CL A nL Q cells slots L (wd cd ad (u2 S 5 4 z) f0) pc' lv (st)) : gW p l e R s m args below meth c D CL A nL Q cells slots L (wd cd ad S f0) pc lv (iv z :: .ref (ad 5) :: st) := by
  refine g_put C hd pc' hp in_N rfl (G.1 5 (by decide)) (at_N G) 4 (by decide) hl tyX3 tyX3_ok nmX3 rfl (ty := .int) (by decide +kernel) rfl rfl (Nat.le_of_ble_eq_true rfl) ?_
  exact (show wd cd ad (u2 S 5 4 z) f0 = _ from (wd_up (cd := cd) (S := S) (f0 := f0) G 5 (by decide) (updI (S 5) 4 z)).symm) ▸ k
theorem gt_N_taken (C : gC p s m args c D CL (TY cd) A cc own nL) (G : LO ad L) {ix : Nat} (hd : decode cc pc = .ok (.getfield ix, 3)) (pc' : Nat) (hp : pc + 3 = pc') (hl : Cond.fieldLink own ix "AlloyPlans$Plan" "taken" "[I" ∈ TB) (k : gW p l e R s m args below meth c D CL A nL Q cells slots L (wd cd ad S f0) pc' lv (.ref (ad 6) :: st)) : gW p l e R s m args below meth c D CL A nL Q cells slots L (wd cd ad S f0) pc lv (.ref (ad 5) :: st) := g_get C hd pc' hp in_N rfl (G.1 5 (by decide)) (at_N G) 5 (by decide) hl rfl k
theorem gt_S_found (C : gC p s m args c D CL (TY cd) A cc own nL) (G : LO ad L) {ix : Nat} (hd : decode cc pc = .ok (.getfield ix, 3)) (pc' : Nat) (hp : pc + 3 = pc') (hl : Cond.fieldLink own ix "AlloyPlans$Search" "found" "Z" ∈ TB) (k : gW p l e R s m args below meth c D CL A nL Q cells slots L (wd cd ad S f0) pc' lv (iv (S 7 0) :: st)) : gW p l e R s m args below meth c D CL A nL Q cells slots L (wd cd ad S f0) pc lv (.ref (ad 7) :: st) := g_get C hd pc' hp in_S rfl (G.1 7 (by decide)) (at_S G) 0 (by decide) hl rfl k
theorem pt_S_found (C : gC p s m args c D CL (TY cd) A cc own nL) (G : LO ad L) {ix : Nat} {z : Int} (hd : decode cc pc = .ok (.putfield ix, 3)) (pc' : Nat) (hp : pc + 3 = pc') (hl : Cond.fieldLink own ix "AlloyPlans$Search" "found" "Z" ∈ TB) (hz : z = 0 ∨ z = 1) (k : gW p l e R s m args below meth c D CL A nL Q cells slots L (wd cd ad (u2 S 7 0 z) f0) pc' lv (st)) : gW p l e R s m args below meth c D CL A nL Q cells slots L (wd cd ad S f0) pc lv (iv z :: .ref (ad 7) :: st) := by
  refine g_put C hd pc' hp in_S rfl (G.1 7 (by decide)) (at_S G) 0 (by decide) hl tyX4 tyX4_ok nmX4 rfl (ty := .boolean) (by decide +kernel) (by rcases hz with rfl | rfl <;> rfl) (by rcases hz with rfl | rfl <;> rfl) (Nat.le_of_ble_eq_true rfl) ?_
  exact (show wd cd ad (u2 S 7 0 z) f0 = _ from (wd_up (cd := cd) (S := S) (f0 := f0) G 7 (by decide) (updI (S 7) 0 z)).symm) ▸ k
theorem gt_S_mostMet (C : gC p s m args c D CL (TY cd) A cc own nL) (G : LO ad L) {ix : Nat} (hd : decode cc pc = .ok (.getfield ix, 3)) (pc' : Nat) (hp : pc + 3 = pc') (hl : Cond.fieldLink own ix "AlloyPlans$Search" "mostMet" "I" ∈ TB) (k : gW p l e R s m args below meth c D CL A nL Q cells slots L (wd cd ad S f0) pc' lv (iv (S 7 1) :: st)) : gW p l e R s m args below meth c D CL A nL Q cells slots L (wd cd ad S f0) pc lv (.ref (ad 7) :: st) := g_get C hd pc' hp in_S rfl (G.1 7 (by decide)) (at_S G) 1 (by decide) hl rfl k
theorem pt_S_mostMet (C : gC p s m args c D CL (TY cd) A cc own nL) (G : LO ad L) {ix : Nat} {z : Int} (hd : decode cc pc = .ok (.putfield ix, 3)) (pc' : Nat) (hp : pc + 3 = pc') (hl : Cond.fieldLink own ix "AlloyPlans$Search" "mostMet" "I" ∈ TB) (k : gW p l e R s m args below meth c D CL A nL Q cells slots L (wd cd ad (u2 S 7 1 z) f0) pc' lv (st)) : gW p l e R s m args below meth c D CL A nL Q cells slots L (wd cd ad S f0) pc lv (iv z :: .ref (ad 7) :: st) := by
  refine g_put C hd pc' hp in_S rfl (G.1 7 (by decide)) (at_S G) 1 (by decide) hl tyX4 tyX4_ok nmX4 rfl (ty := .int) (by decide +kernel) rfl rfl (Nat.le_of_ble_eq_true rfl) ?_
  exact (show wd cd ad (u2 S 7 1 z) f0 = _ from (wd_up (cd := cd) (S := S) (f0 := f0) G 7 (by decide) (updI (S 7) 1 z)).symm) ▸ k
theorem gt_S_best (C : gC p s m args c D CL (TY cd) A cc own nL) (G : LO ad L) {ix : Nat} (hd : decode cc pc = .ok (.getfield ix, 3)) (pc' : Nat) (hp : pc + 3 = pc') (hl : Cond.fieldLink own ix "AlloyPlans$Search" "best" "[I" ∈ TB) (k : gW p l e R s m args below meth c D CL A nL Q cells slots L (wd cd ad S f0) pc' lv (.ref (ad 8) :: st)) : gW p l e R s m args below meth c D CL A nL Q cells slots L (wd cd ad S f0) pc lv (.ref (ad 7) :: st) := g_get C hd pc' hp in_S rfl (G.1 7 (by decide)) (at_S G) 2 (by decide) hl rfl k
theorem gt_S_bestCents (C : gC p s m args c D CL (TY cd) A cc own nL) (G : LO ad L) {ix : Nat} (hd : decode cc pc = .ok (.getfield ix, 3)) (pc' : Nat) (hp : pc + 3 = pc') (hl : Cond.fieldLink own ix "AlloyPlans$Search" "bestCents" "I" ∈ TB) (k : gW p l e R s m args below meth c D CL A nL Q cells slots L (wd cd ad S f0) pc' lv (iv (S 7 3) :: st)) : gW p l e R s m args below meth c D CL A nL Q cells slots L (wd cd ad S f0) pc lv (.ref (ad 7) :: st) := g_get C hd pc' hp in_S rfl (G.1 7 (by decide)) (at_S G) 3 (by decide) hl rfl k
theorem pt_S_bestCents (C : gC p s m args c D CL (TY cd) A cc own nL) (G : LO ad L) {ix : Nat} {z : Int} (hd : decode cc pc = .ok (.putfield ix, 3)) (pc' : Nat) (hp : pc + 3 = pc') (hl : Cond.fieldLink own ix "AlloyPlans$Search" "bestCents" "I" ∈ TB) (k : gW p l e R s m args below meth c D CL A nL Q cells slots L (wd cd ad (u2 S 7 3 z) f0) pc' lv (st)) : gW p l e R s m args below meth c D CL A nL Q cells slots L (wd cd ad S f0) pc lv (iv z :: .ref (ad 7) :: st) := by
  refine g_put C hd pc' hp in_S rfl (G.1 7 (by decide)) (at_S G) 3 (by decide) hl tyX4 tyX4_ok nmX4 rfl (ty := .int) (by decide +kernel) rfl rfl (Nat.le_of_ble_eq_true rfl) ?_
  exact (show wd cd ad (u2 S 7 3 z) f0 = _ from (wd_up (cd := cd) (S := S) (f0 := f0) G 7 (by decide) (updI (S 7) 3 z)).symm) ▸ k
theorem gt_S_bestKinds (C : gC p s m args c D CL (TY cd) A cc own nL) (G : LO ad L) {ix : Nat} (hd : decode cc pc = .ok (.getfield ix, 3)) (pc' : Nat) (hp : pc + 3 = pc') (hl : Cond.fieldLink own ix "AlloyPlans$Search" "bestKinds" "I" ∈ TB) (k : gW p l e R s m args below meth c D CL A nL Q cells slots L (wd cd ad S f0) pc' lv (iv (S 7 4) :: st)) : gW p l e R s m args below meth c D CL A nL Q cells slots L (wd cd ad S f0) pc lv (.ref (ad 7) :: st) := g_get C hd pc' hp in_S rfl (G.1 7 (by decide)) (at_S G) 4 (by decide) hl rfl k
theorem pt_S_bestKinds (C : gC p s m args c D CL (TY cd) A cc own nL) (G : LO ad L) {ix : Nat} {z : Int} (hd : decode cc pc = .ok (.putfield ix, 3)) (pc' : Nat) (hp : pc + 3 = pc') (hl : Cond.fieldLink own ix "AlloyPlans$Search" "bestKinds" "I" ∈ TB) (k : gW p l e R s m args below meth c D CL A nL Q cells slots L (wd cd ad (u2 S 7 4 z) f0) pc' lv (st)) : gW p l e R s m args below meth c D CL A nL Q cells slots L (wd cd ad S f0) pc lv (iv z :: .ref (ad 7) :: st) := by
  refine g_put C hd pc' hp in_S rfl (G.1 7 (by decide)) (at_S G) 4 (by decide) hl tyX4 tyX4_ok nmX4 rfl (ty := .int) (by decide +kernel) rfl rfl (Nat.le_of_ble_eq_true rfl) ?_
  exact (show wd cd ad (u2 S 7 4 z) f0 = _ from (wd_up (cd := cd) (S := S) (f0 := f0) G 7 (by decide) (updI (S 7) 4 z)).symm) ▸ k
theorem gt_S_tried (C : gC p s m args c D CL (TY cd) A cc own nL) (G : LO ad L) {ix : Nat} (hd : decode cc pc = .ok (.getfield ix, 3)) (pc' : Nat) (hp : pc + 3 = pc') (hl : Cond.fieldLink own ix "AlloyPlans$Search" "tried" "[I" ∈ TB) (k : gW p l e R s m args below meth c D CL A nL Q cells slots L (wd cd ad S f0) pc' lv (.ref (ad 9) :: st)) : gW p l e R s m args below meth c D CL A nL Q cells slots L (wd cd ad S f0) pc lv (.ref (ad 7) :: st) := g_get C hd pc' hp in_S rfl (G.1 7 (by decide)) (at_S G) 5 (by decide) hl rfl k
theorem gt_S_mixes (C : gC p s m args c D CL (TY cd) A cc own nL) (G : LO ad L) {ix : Nat} (hd : decode cc pc = .ok (.getfield ix, 3)) (pc' : Nat) (hp : pc + 3 = pc') (hl : Cond.fieldLink own ix "AlloyPlans$Search" "mixes" "[LAlloyPlans$Mix;" ∈ TB) (k : gW p l e R s m args below meth c D CL A nL Q cells slots L (wd cd ad S f0) pc' lv (.ref (ad 10) :: st)) : gW p l e R s m args below meth c D CL A nL Q cells slots L (wd cd ad S f0) pc lv (.ref (ad 7) :: st) := g_get C hd pc' hp in_S rfl (G.1 7 (by decide)) (at_S G) 6 (by decide) hl rfl k
theorem gt_A_cents (C : gC p s m args c D CL (TY cd) A cc own nL) (G : LO ad L) {ix : Nat} (hd : decode cc pc = .ok (.getfield ix, 3)) (pc' : Nat) (hp : pc + 3 = pc') (i : Nat) (hi : i < 4) (hl : Cond.fieldLink own ix "AlloyPlans$Alloy" "cents" "I" ∈ TB) (k : gW p l e R s m args below meth c D CL A nL Q cells slots L (wd cd ad S f0) pc' lv (iv (S (11 + i) 0) :: st)) : gW p l e R s m args below meth c D CL A nL Q cells slots L (wd cd ad S f0) pc lv (.ref (ad (11 + i)) :: st) := g_get C hd pc' hp in_A rfl (G.1 (11 + i) (by omega)) (at_A G i hi) 0 (by decide) hl rfl k
theorem pt_A_cents (C : gC p s m args c D CL (TY cd) A cc own nL) (G : LO ad L) {ix : Nat} {z : Int} (hd : decode cc pc = .ok (.putfield ix, 3)) (pc' : Nat) (hp : pc + 3 = pc') (i : Nat) (hi : i < 4) (hl : Cond.fieldLink own ix "AlloyPlans$Alloy" "cents" "I" ∈ TB) (k : gW p l e R s m args below meth c D CL A nL Q cells slots L (wd cd ad (u2 S (11 + i) 0 z) f0) pc' lv (st)) : gW p l e R s m args below meth c D CL A nL Q cells slots L (wd cd ad S f0) pc lv (iv z :: .ref (ad (11 + i)) :: st) := by
  refine g_put C hd pc' hp in_A rfl (G.1 (11 + i) (by omega)) (at_A G i hi) 0 (by decide) hl tyX0 tyX0_ok nmX0 rfl (ty := .int) (by decide +kernel) rfl rfl (Nat.le_of_ble_eq_true rfl) ?_
  have h9 := wd_up (cd := cd) (S := S) (f0 := f0) G (11 + i) (by omega) (updI (S (11 + i)) 0 z)
  rw [mk_A i hi] at h9
  exact (show wd cd ad (u2 S (11 + i) 0 z) f0 = _ from h9.symm) ▸ k
theorem gt_A_kilos (C : gC p s m args c D CL (TY cd) A cc own nL) (G : LO ad L) {ix : Nat} (hd : decode cc pc = .ok (.getfield ix, 3)) (pc' : Nat) (hp : pc + 3 = pc') (i : Nat) (hi : i < 4) (hl : Cond.fieldLink own ix "AlloyPlans$Alloy" "kilos" "I" ∈ TB) (k : gW p l e R s m args below meth c D CL A nL Q cells slots L (wd cd ad S f0) pc' lv (iv (S (11 + i) 1) :: st)) : gW p l e R s m args below meth c D CL A nL Q cells slots L (wd cd ad S f0) pc lv (.ref (ad (11 + i)) :: st) := g_get C hd pc' hp in_A rfl (G.1 (11 + i) (by omega)) (at_A G i hi) 1 (by decide) hl rfl k
theorem pt_A_kilos (C : gC p s m args c D CL (TY cd) A cc own nL) (G : LO ad L) {ix : Nat} {z : Int} (hd : decode cc pc = .ok (.putfield ix, 3)) (pc' : Nat) (hp : pc + 3 = pc') (i : Nat) (hi : i < 4) (hl : Cond.fieldLink own ix "AlloyPlans$Alloy" "kilos" "I" ∈ TB) (k : gW p l e R s m args below meth c D CL A nL Q cells slots L (wd cd ad (u2 S (11 + i) 1 z) f0) pc' lv (st)) : gW p l e R s m args below meth c D CL A nL Q cells slots L (wd cd ad S f0) pc lv (iv z :: .ref (ad (11 + i)) :: st) := by
  refine g_put C hd pc' hp in_A rfl (G.1 (11 + i) (by omega)) (at_A G i hi) 1 (by decide) hl tyX0 tyX0_ok nmX0 rfl (ty := .int) (by decide +kernel) rfl rfl (Nat.le_of_ble_eq_true rfl) ?_
  have h9 := wd_up (cd := cd) (S := S) (f0 := f0) G (11 + i) (by omega) (updI (S (11 + i)) 1 z)
  rw [mk_A i hi] at h9
  exact (show wd cd ad (u2 S (11 + i) 1 z) f0 = _ from h9.symm) ▸ k
theorem gt_A_mostSteps (C : gC p s m args c D CL (TY cd) A cc own nL) (G : LO ad L) {ix : Nat} (hd : decode cc pc = .ok (.getfield ix, 3)) (pc' : Nat) (hp : pc + 3 = pc') (i : Nat) (hi : i < 4) (hl : Cond.fieldLink own ix "AlloyPlans$Alloy" "mostSteps" "I" ∈ TB) (k : gW p l e R s m args below meth c D CL A nL Q cells slots L (wd cd ad S f0) pc' lv (iv (S (11 + i) 2) :: st)) : gW p l e R s m args below meth c D CL A nL Q cells slots L (wd cd ad S f0) pc lv (.ref (ad (11 + i)) :: st) := g_get C hd pc' hp in_A rfl (G.1 (11 + i) (by omega)) (at_A G i hi) 2 (by decide) hl rfl k
theorem pt_A_mostSteps (C : gC p s m args c D CL (TY cd) A cc own nL) (G : LO ad L) {ix : Nat} {z : Int} (hd : decode cc pc = .ok (.putfield ix, 3)) (pc' : Nat) (hp : pc + 3 = pc') (i : Nat) (hi : i < 4) (hl : Cond.fieldLink own ix "AlloyPlans$Alloy" "mostSteps" "I" ∈ TB) (k : gW p l e R s m args below meth c D CL A nL Q cells slots L (wd cd ad (u2 S (11 + i) 2 z) f0) pc' lv (st)) : gW p l e R s m args below meth c D CL A nL Q cells slots L (wd cd ad S f0) pc lv (iv z :: .ref (ad (11 + i)) :: st) := by
  refine g_put C hd pc' hp in_A rfl (G.1 (11 + i) (by omega)) (at_A G i hi) 2 (by decide) hl tyX0 tyX0_ok nmX0 rfl (ty := .int) (by decide +kernel) rfl rfl (Nat.le_of_ble_eq_true rfl) ?_
  have h9 := wd_up (cd := cd) (S := S) (f0 := f0) G (11 + i) (by omega) (updI (S (11 + i)) 2 z)
  rw [mk_A i hi] at h9
  exact (show wd cd ad (u2 S (11 + i) 2 z) f0 = _ from h9.symm) ▸ k
theorem gt_A_thousandths (C : gC p s m args c D CL (TY cd) A cc own nL) (G : LO ad L) {ix : Nat} (hd : decode cc pc = .ok (.getfield ix, 3)) (pc' : Nat) (hp : pc + 3 = pc') (i : Nat) (hi : i < 4) (hl : Cond.fieldLink own ix "AlloyPlans$Alloy" "thousandths" "I" ∈ TB) (k : gW p l e R s m args below meth c D CL A nL Q cells slots L (wd cd ad S f0) pc' lv (iv (S (11 + i) 3) :: st)) : gW p l e R s m args below meth c D CL A nL Q cells slots L (wd cd ad S f0) pc lv (.ref (ad (11 + i)) :: st) := g_get C hd pc' hp in_A rfl (G.1 (11 + i) (by omega)) (at_A G i hi) 3 (by decide) hl rfl k
theorem pt_A_thousandths (C : gC p s m args c D CL (TY cd) A cc own nL) (G : LO ad L) {ix : Nat} {z : Int} (hd : decode cc pc = .ok (.putfield ix, 3)) (pc' : Nat) (hp : pc + 3 = pc') (i : Nat) (hi : i < 4) (hl : Cond.fieldLink own ix "AlloyPlans$Alloy" "thousandths" "I" ∈ TB) (k : gW p l e R s m args below meth c D CL A nL Q cells slots L (wd cd ad (u2 S (11 + i) 3 z) f0) pc' lv (st)) : gW p l e R s m args below meth c D CL A nL Q cells slots L (wd cd ad S f0) pc lv (iv z :: .ref (ad (11 + i)) :: st) := by
  refine g_put C hd pc' hp in_A rfl (G.1 (11 + i) (by omega)) (at_A G i hi) 3 (by decide) hl tyX0 tyX0_ok nmX0 rfl (ty := .int) (by decide +kernel) rfl rfl (Nat.le_of_ble_eq_true rfl) ?_
  have h9 := wd_up (cd := cd) (S := S) (f0 := f0) G (11 + i) (by omega) (updI (S (11 + i)) 3 z)
  rw [mk_A i hi] at h9
  exact (show wd cd ad (u2 S (11 + i) 3 z) f0 = _ from h9.symm) ▸ k
theorem gt_A_cooling (C : gC p s m args c D CL (TY cd) A cc own nL) (G : LO ad L) {ix : Nat} (hd : decode cc pc = .ok (.getfield ix, 3)) (pc' : Nat) (hp : pc + 3 = pc') (i : Nat) (hi : i < 4) (hl : Cond.fieldLink own ix "AlloyPlans$Alloy" "cooling" "I" ∈ TB) (k : gW p l e R s m args below meth c D CL A nL Q cells slots L (wd cd ad S f0) pc' lv (iv (S (11 + i) 4) :: st)) : gW p l e R s m args below meth c D CL A nL Q cells slots L (wd cd ad S f0) pc lv (.ref (ad (11 + i)) :: st) := g_get C hd pc' hp in_A rfl (G.1 (11 + i) (by omega)) (at_A G i hi) 4 (by decide) hl rfl k
theorem pt_A_cooling (C : gC p s m args c D CL (TY cd) A cc own nL) (G : LO ad L) {ix : Nat} {z : Int} (hd : decode cc pc = .ok (.putfield ix, 3)) (pc' : Nat) (hp : pc + 3 = pc') (i : Nat) (hi : i < 4) (hl : Cond.fieldLink own ix "AlloyPlans$Alloy" "cooling" "I" ∈ TB) (k : gW p l e R s m args below meth c D CL A nL Q cells slots L (wd cd ad (u2 S (11 + i) 4 z) f0) pc' lv (st)) : gW p l e R s m args below meth c D CL A nL Q cells slots L (wd cd ad S f0) pc lv (iv z :: .ref (ad (11 + i)) :: st) := by
  refine g_put C hd pc' hp in_A rfl (G.1 (11 + i) (by omega)) (at_A G i hi) 4 (by decide) hl tyX0 tyX0_ok nmX0 rfl (ty := .int) (by decide +kernel) rfl rfl (Nat.le_of_ble_eq_true rfl) ?_
  have h9 := wd_up (cd := cd) (S := S) (f0 := f0) G (11 + i) (by omega) (updI (S (11 + i)) 4 z)
  rw [mk_A i hi] at h9
  exact (show wd cd ad (u2 S (11 + i) 4 z) f0 = _ from h9.symm) ▸ k
theorem gt_A_ends (C : gC p s m args c D CL (TY cd) A cc own nL) (G : LO ad L) {ix : Nat} (hd : decode cc pc = .ok (.getfield ix, 3)) (pc' : Nat) (hp : pc + 3 = pc') (i : Nat) (hi : i < 4) (hl : Cond.fieldLink own ix "AlloyPlans$Alloy" "ends" "[I" ∈ TB) (k : gW p l e R s m args below meth c D CL A nL Q cells slots L (wd cd ad S f0) pc' lv (.ref (ad (15 + i)) :: st)) : gW p l e R s m args below meth c D CL A nL Q cells slots L (wd cd ad S f0) pc lv (.ref (ad (11 + i)) :: st) := g_get C hd pc' hp in_A rfl (G.1 (11 + i) (by omega)) (at_A G i hi) 5 (by decide) hl rfl k
theorem gt_A_gains (C : gC p s m args c D CL (TY cd) A cc own nL) (G : LO ad L) {ix : Nat} (hd : decode cc pc = .ok (.getfield ix, 3)) (pc' : Nat) (hp : pc + 3 = pc') (i : Nat) (hi : i < 4) (hl : Cond.fieldLink own ix "AlloyPlans$Alloy" "gains" "[J" ∈ TB) (k : gW p l e R s m args below meth c D CL A nL Q cells slots L (wd cd ad S f0) pc' lv (.ref (ad (19 + i)) :: st)) : gW p l e R s m args below meth c D CL A nL Q cells slots L (wd cd ad S f0) pc lv (.ref (ad (11 + i)) :: st) := g_get C hd pc' hp in_A rfl (G.1 (11 + i) (by omega)) (at_A G i hi) 6 (by decide) hl rfl k
theorem gt_X_cents (C : gC p s m args c D CL (TY cd) A cc own nL) (G : LO ad L) {ix : Nat} (hd : decode cc pc = .ok (.getfield ix, 3)) (pc' : Nat) (hp : pc + 3 = pc') (i : Nat) (hi : i < 5) (hl : Cond.fieldLink own ix "AlloyPlans$Mix" "cents" "I" ∈ TB) (k : gW p l e R s m args below meth c D CL A nL Q cells slots L (wd cd ad S f0) pc' lv (iv (S (23 + i) 0) :: st)) : gW p l e R s m args below meth c D CL A nL Q cells slots L (wd cd ad S f0) pc lv (.ref (ad (23 + i)) :: st) := g_get C hd pc' hp in_X rfl (G.1 (23 + i) (by omega)) (at_X G i hi) 0 (by decide) hl rfl k
theorem pt_X_cents (C : gC p s m args c D CL (TY cd) A cc own nL) (G : LO ad L) {ix : Nat} {z : Int} (hd : decode cc pc = .ok (.putfield ix, 3)) (pc' : Nat) (hp : pc + 3 = pc') (i : Nat) (hi : i < 5) (hl : Cond.fieldLink own ix "AlloyPlans$Mix" "cents" "I" ∈ TB) (k : gW p l e R s m args below meth c D CL A nL Q cells slots L (wd cd ad (u2 S (23 + i) 0 z) f0) pc' lv (st)) : gW p l e R s m args below meth c D CL A nL Q cells slots L (wd cd ad S f0) pc lv (iv z :: .ref (ad (23 + i)) :: st) := by
  refine g_put C hd pc' hp in_X rfl (G.1 (23 + i) (by omega)) (at_X G i hi) 0 (by decide) hl tyX2 tyX2_ok nmX2 rfl (ty := .int) (by decide +kernel) rfl rfl (Nat.le_of_ble_eq_true rfl) ?_
  have h9 := wd_up (cd := cd) (S := S) (f0 := f0) G (23 + i) (by omega) (updI (S (23 + i)) 0 z)
  rw [mk_X i hi] at h9
  exact (show wd cd ad (u2 S (23 + i) 0 z) f0 = _ from h9.symm) ▸ k
theorem gt_X_kinds (C : gC p s m args c D CL (TY cd) A cc own nL) (G : LO ad L) {ix : Nat} (hd : decode cc pc = .ok (.getfield ix, 3)) (pc' : Nat) (hp : pc + 3 = pc') (i : Nat) (hi : i < 5) (hl : Cond.fieldLink own ix "AlloyPlans$Mix" "kinds" "I" ∈ TB) (k : gW p l e R s m args below meth c D CL A nL Q cells slots L (wd cd ad S f0) pc' lv (iv (S (23 + i) 1) :: st)) : gW p l e R s m args below meth c D CL A nL Q cells slots L (wd cd ad S f0) pc lv (.ref (ad (23 + i)) :: st) := g_get C hd pc' hp in_X rfl (G.1 (23 + i) (by omega)) (at_X G i hi) 1 (by decide) hl rfl k
theorem pt_X_kinds (C : gC p s m args c D CL (TY cd) A cc own nL) (G : LO ad L) {ix : Nat} {z : Int} (hd : decode cc pc = .ok (.putfield ix, 3)) (pc' : Nat) (hp : pc + 3 = pc') (i : Nat) (hi : i < 5) (hl : Cond.fieldLink own ix "AlloyPlans$Mix" "kinds" "I" ∈ TB) (k : gW p l e R s m args below meth c D CL A nL Q cells slots L (wd cd ad (u2 S (23 + i) 1 z) f0) pc' lv (st)) : gW p l e R s m args below meth c D CL A nL Q cells slots L (wd cd ad S f0) pc lv (iv z :: .ref (ad (23 + i)) :: st) := by
  refine g_put C hd pc' hp in_X rfl (G.1 (23 + i) (by omega)) (at_X G i hi) 1 (by decide) hl tyX2 tyX2_ok nmX2 rfl (ty := .int) (by decide +kernel) rfl rfl (Nat.le_of_ble_eq_true rfl) ?_
  have h9 := wd_up (cd := cd) (S := S) (f0 := f0) G (23 + i) (by omega) (updI (S (23 + i)) 1 z)
  rw [mk_X i hi] at h9
  exact (show wd cd ad (u2 S (23 + i) 1 z) f0 = _ from h9.symm) ▸ k
theorem gt_X_heatLeft (C : gC p s m args c D CL (TY cd) A cc own nL) (G : LO ad L) {ix : Nat} (hd : decode cc pc = .ok (.getfield ix, 3)) (pc' : Nat) (hp : pc + 3 = pc') (i : Nat) (hi : i < 5) (hl : Cond.fieldLink own ix "AlloyPlans$Mix" "heatLeft" "I" ∈ TB) (k : gW p l e R s m args below meth c D CL A nL Q cells slots L (wd cd ad S f0) pc' lv (iv (S (23 + i) 2) :: st)) : gW p l e R s m args below meth c D CL A nL Q cells slots L (wd cd ad S f0) pc lv (.ref (ad (23 + i)) :: st) := g_get C hd pc' hp in_X rfl (G.1 (23 + i) (by omega)) (at_X G i hi) 2 (by decide) hl rfl k
theorem pt_X_heatLeft (C : gC p s m args c D CL (TY cd) A cc own nL) (G : LO ad L) {ix : Nat} {z : Int} (hd : decode cc pc = .ok (.putfield ix, 3)) (pc' : Nat) (hp : pc + 3 = pc') (i : Nat) (hi : i < 5) (hl : Cond.fieldLink own ix "AlloyPlans$Mix" "heatLeft" "I" ∈ TB) (k : gW p l e R s m args below meth c D CL A nL Q cells slots L (wd cd ad (u2 S (23 + i) 2 z) f0) pc' lv (st)) : gW p l e R s m args below meth c D CL A nL Q cells slots L (wd cd ad S f0) pc lv (iv z :: .ref (ad (23 + i)) :: st) := by
  refine g_put C hd pc' hp in_X rfl (G.1 (23 + i) (by omega)) (at_X G i hi) 2 (by decide) hl tyX2 tyX2_ok nmX2 rfl (ty := .int) (by decide +kernel) rfl rfl (Nat.le_of_ble_eq_true rfl) ?_
  have h9 := wd_up (cd := cd) (S := S) (f0 := f0) G (23 + i) (by omega) (updI (S (23 + i)) 2 z)
  rw [mk_X i hi] at h9
  exact (show wd cd ad (u2 S (23 + i) 2 z) f0 = _ from h9.symm) ▸ k
theorem gt_X_surplus (C : gC p s m args c D CL (TY cd) A cc own nL) (G : LO ad L) {ix : Nat} (hd : decode cc pc = .ok (.getfield ix, 3)) (pc' : Nat) (hp : pc + 3 = pc') (i : Nat) (hi : i < 5) (hl : Cond.fieldLink own ix "AlloyPlans$Mix" "surplus" "[J" ∈ TB) (k : gW p l e R s m args below meth c D CL A nL Q cells slots L (wd cd ad S f0) pc' lv (.ref (ad (28 + i)) :: st)) : gW p l e R s m args below meth c D CL A nL Q cells slots L (wd cd ad S f0) pc lv (.ref (ad (23 + i)) :: st) := g_get C hd pc' hp in_X rfl (G.1 (23 + i) (by omega)) (at_X G i hi) 3 (by decide) hl rfl k
theorem gt_M_thrown (C : gC p s m args c D CL (TY cd) A cc own nL) (G : LO ad L) {ix : Nat} (hd : decode cc pc = .ok (.getfield ix, 3)) (pc' : Nat) (hp : pc + 3 = pc') (hl : Cond.fieldLink own ix "AlloyPlansModel" "thrown" "I" ∈ TB) (k : gW p l e R s m args below meth c D CL A nL Q cells slots L (wd cd ad S f0) pc' lv (iv (S 33 0) :: st)) : gW p l e R s m args below meth c D CL A nL Q cells slots L (wd cd ad S f0) pc lv (.ref (ad 33) :: st) := g_get C hd pc' hp in_M rfl (G.1 33 (by decide)) (at_M G) 0 (by decide) hl rfl k
theorem pt_M_thrown (C : gC p s m args c D CL (TY cd) A cc own nL) (G : LO ad L) {ix : Nat} {z : Int} (hd : decode cc pc = .ok (.putfield ix, 3)) (pc' : Nat) (hp : pc + 3 = pc') (hl : Cond.fieldLink own ix "AlloyPlansModel" "thrown" "I" ∈ TB) (k : gW p l e R s m args below meth c D CL A nL Q cells slots L (wd cd ad (u2 S 33 0 z) f0) pc' lv (st)) : gW p l e R s m args below meth c D CL A nL Q cells slots L (wd cd ad S f0) pc lv (iv z :: .ref (ad 33) :: st) := by
  refine g_put C hd pc' hp in_M rfl (G.1 33 (by decide)) (at_M G) 0 (by decide) hl tyX6 tyX6_ok nmX6 rfl (ty := .int) (by decide +kernel) rfl rfl (Nat.le_of_ble_eq_true rfl) ?_
  exact (show wd cd ad (u2 S 33 0 z) f0 = _ from (wd_up (cd := cd) (S := S) (f0 := f0) G 33 (by decide) (updI (S 33) 0 z)).symm) ▸ k
theorem gt_M_kilos (C : gC p s m args c D CL (TY cd) A cc own nL) (G : LO ad L) {ix : Nat} (hd : decode cc pc = .ok (.getfield ix, 3)) (pc' : Nat) (hp : pc + 3 = pc') (hl : Cond.fieldLink own ix "AlloyPlansModel" "kilos" "I" ∈ TB) (k : gW p l e R s m args below meth c D CL A nL Q cells slots L (wd cd ad S f0) pc' lv (iv (S 33 1) :: st)) : gW p l e R s m args below meth c D CL A nL Q cells slots L (wd cd ad S f0) pc lv (.ref (ad 33) :: st) := g_get C hd pc' hp in_M rfl (G.1 33 (by decide)) (at_M G) 1 (by decide) hl rfl k
theorem pt_M_kilos (C : gC p s m args c D CL (TY cd) A cc own nL) (G : LO ad L) {ix : Nat} {z : Int} (hd : decode cc pc = .ok (.putfield ix, 3)) (pc' : Nat) (hp : pc + 3 = pc') (hl : Cond.fieldLink own ix "AlloyPlansModel" "kilos" "I" ∈ TB) (k : gW p l e R s m args below meth c D CL A nL Q cells slots L (wd cd ad (u2 S 33 1 z) f0) pc' lv (st)) : gW p l e R s m args below meth c D CL A nL Q cells slots L (wd cd ad S f0) pc lv (iv z :: .ref (ad 33) :: st) := by
  refine g_put C hd pc' hp in_M rfl (G.1 33 (by decide)) (at_M G) 1 (by decide) hl tyX6 tyX6_ok nmX6 rfl (ty := .int) (by decide +kernel) rfl rfl (Nat.le_of_ble_eq_true rfl) ?_
  exact (show wd cd ad (u2 S 33 1 z) f0 = _ from (wd_up (cd := cd) (S := S) (f0 := f0) G 33 (by decide) (updI (S 33) 1 z)).symm) ▸ k
theorem gt_M_presentLow (C : gC p s m args c D CL (TY cd) A cc own nL) (G : LO ad L) {ix : Nat} (hd : decode cc pc = .ok (.getfield ix, 3)) (pc' : Nat) (hp : pc + 3 = pc') (hl : Cond.fieldLink own ix "AlloyPlansModel" "presentLow" "[I" ∈ TB) (k : gW p l e R s m args below meth c D CL A nL Q cells slots L (wd cd ad S f0) pc' lv (.ref (ad 34) :: st)) : gW p l e R s m args below meth c D CL A nL Q cells slots L (wd cd ad S f0) pc lv (.ref (ad 33) :: st) := g_get C hd pc' hp in_M rfl (G.1 33 (by decide)) (at_M G) 2 (by decide) hl rfl k
theorem gt_M_presentHigh (C : gC p s m args c D CL (TY cd) A cc own nL) (G : LO ad L) {ix : Nat} (hd : decode cc pc = .ok (.getfield ix, 3)) (pc' : Nat) (hp : pc + 3 = pc') (hl : Cond.fieldLink own ix "AlloyPlansModel" "presentHigh" "[I" ∈ TB) (k : gW p l e R s m args below meth c D CL A nL Q cells slots L (wd cd ad S f0) pc' lv (.ref (ad 35) :: st)) : gW p l e R s m args below meth c D CL A nL Q cells slots L (wd cd ad S f0) pc lv (.ref (ad 33) :: st) := g_get C hd pc' hp in_M rfl (G.1 33 (by decide)) (at_M G) 3 (by decide) hl rfl k
theorem gt_M_aimLow (C : gC p s m args c D CL (TY cd) A cc own nL) (G : LO ad L) {ix : Nat} (hd : decode cc pc = .ok (.getfield ix, 3)) (pc' : Nat) (hp : pc + 3 = pc') (hl : Cond.fieldLink own ix "AlloyPlansModel" "aimLow" "[I" ∈ TB) (k : gW p l e R s m args below meth c D CL A nL Q cells slots L (wd cd ad S f0) pc' lv (.ref (ad 36) :: st)) : gW p l e R s m args below meth c D CL A nL Q cells slots L (wd cd ad S f0) pc lv (.ref (ad 33) :: st) := g_get C hd pc' hp in_M rfl (G.1 33 (by decide)) (at_M G) 4 (by decide) hl rfl k
theorem gt_M_aimHigh (C : gC p s m args c D CL (TY cd) A cc own nL) (G : LO ad L) {ix : Nat} (hd : decode cc pc = .ok (.getfield ix, 3)) (pc' : Nat) (hp : pc + 3 = pc') (hl : Cond.fieldLink own ix "AlloyPlansModel" "aimHigh" "[I" ∈ TB) (k : gW p l e R s m args below meth c D CL A nL Q cells slots L (wd cd ad S f0) pc' lv (.ref (ad 37) :: st)) : gW p l e R s m args below meth c D CL A nL Q cells slots L (wd cd ad S f0) pc lv (.ref (ad 33) :: st) := g_get C hd pc' hp in_M rfl (G.1 33 (by decide)) (at_M G) 5 (by decide) hl rfl k
theorem gt_M_kinds (C : gC p s m args c D CL (TY cd) A cc own nL) (G : LO ad L) {ix : Nat} (hd : decode cc pc = .ok (.getfield ix, 3)) (pc' : Nat) (hp : pc + 3 = pc') (hl : Cond.fieldLink own ix "AlloyPlansModel" "kinds" "I" ∈ TB) (k : gW p l e R s m args below meth c D CL A nL Q cells slots L (wd cd ad S f0) pc' lv (iv (S 33 6) :: st)) : gW p l e R s m args below meth c D CL A nL Q cells slots L (wd cd ad S f0) pc lv (.ref (ad 33) :: st) := g_get C hd pc' hp in_M rfl (G.1 33 (by decide)) (at_M G) 6 (by decide) hl rfl k
theorem pt_M_kinds (C : gC p s m args c D CL (TY cd) A cc own nL) (G : LO ad L) {ix : Nat} {z : Int} (hd : decode cc pc = .ok (.putfield ix, 3)) (pc' : Nat) (hp : pc + 3 = pc') (hl : Cond.fieldLink own ix "AlloyPlansModel" "kinds" "I" ∈ TB) (k : gW p l e R s m args below meth c D CL A nL Q cells slots L (wd cd ad (u2 S 33 6 z) f0) pc' lv (st)) : gW p l e R s m args below meth c D CL A nL Q cells slots L (wd cd ad S f0) pc lv (iv z :: .ref (ad 33) :: st) := by
  refine g_put C hd pc' hp in_M rfl (G.1 33 (by decide)) (at_M G) 6 (by decide) hl tyX6 tyX6_ok nmX6 rfl (ty := .int) (by decide +kernel) rfl rfl (Nat.le_of_ble_eq_true rfl) ?_
  exact (show wd cd ad (u2 S 33 6 z) f0 = _ from (wd_up (cd := cd) (S := S) (f0 := f0) G 33 (by decide) (updI (S 33) 6 z)).symm) ▸ k
theorem gt_M_cents (C : gC p s m args c D CL (TY cd) A cc own nL) (G : LO ad L) {ix : Nat} (hd : decode cc pc = .ok (.getfield ix, 3)) (pc' : Nat) (hp : pc + 3 = pc') (hl : Cond.fieldLink own ix "AlloyPlansModel" "cents" "[I" ∈ TB) (k : gW p l e R s m args below meth c D CL A nL Q cells slots L (wd cd ad S f0) pc' lv (.ref (ad 38) :: st)) : gW p l e R s m args below meth c D CL A nL Q cells slots L (wd cd ad S f0) pc lv (.ref (ad 33) :: st) := g_get C hd pc' hp in_M rfl (G.1 33 (by decide)) (at_M G) 7 (by decide) hl rfl k
theorem gt_M_each (C : gC p s m args c D CL (TY cd) A cc own nL) (G : LO ad L) {ix : Nat} (hd : decode cc pc = .ok (.getfield ix, 3)) (pc' : Nat) (hp : pc + 3 = pc') (hl : Cond.fieldLink own ix "AlloyPlansModel" "each" "[I" ∈ TB) (k : gW p l e R s m args below meth c D CL A nL Q cells slots L (wd cd ad S f0) pc' lv (.ref (ad 39) :: st)) : gW p l e R s m args below meth c D CL A nL Q cells slots L (wd cd ad S f0) pc lv (.ref (ad 33) :: st) := g_get C hd pc' hp in_M rfl (G.1 33 (by decide)) (at_M G) 8 (by decide) hl rfl k
theorem gt_M_most (C : gC p s m args c D CL (TY cd) A cc own nL) (G : LO ad L) {ix : Nat} (hd : decode cc pc = .ok (.getfield ix, 3)) (pc' : Nat) (hp : pc + 3 = pc') (hl : Cond.fieldLink own ix "AlloyPlansModel" "most" "[I" ∈ TB) (k : gW p l e R s m args below meth c D CL A nL Q cells slots L (wd cd ad S f0) pc' lv (.ref (ad 40) :: st)) : gW p l e R s m args below meth c D CL A nL Q cells slots L (wd cd ad S f0) pc lv (.ref (ad 33) :: st) := g_get C hd pc' hp in_M rfl (G.1 33 (by decide)) (at_M G) 9 (by decide) hl rfl k
theorem gt_M_low (C : gC p s m args c D CL (TY cd) A cc own nL) (G : LO ad L) {ix : Nat} (hd : decode cc pc = .ok (.getfield ix, 3)) (pc' : Nat) (hp : pc + 3 = pc') (hl : Cond.fieldLink own ix "AlloyPlansModel" "low" "[I" ∈ TB) (k : gW p l e R s m args below meth c D CL A nL Q cells slots L (wd cd ad S f0) pc' lv (.ref (ad 41) :: st)) : gW p l e R s m args below meth c D CL A nL Q cells slots L (wd cd ad S f0) pc lv (.ref (ad 33) :: st) := g_get C hd pc' hp in_M rfl (G.1 33 (by decide)) (at_M G) 10 (by decide) hl rfl k
theorem gt_M_high (C : gC p s m args c D CL (TY cd) A cc own nL) (G : LO ad L) {ix : Nat} (hd : decode cc pc = .ok (.getfield ix, 3)) (pc' : Nat) (hp : pc + 3 = pc') (hl : Cond.fieldLink own ix "AlloyPlansModel" "high" "[I" ∈ TB) (k : gW p l e R s m args below meth c D CL A nL Q cells slots L (wd cd ad S f0) pc' lv (.ref (ad 42) :: st)) : gW p l e R s m args below meth c D CL A nL Q cells slots L (wd cd ad S f0) pc lv (.ref (ad 33) :: st) := g_get C hd pc' hp in_M rfl (G.1 33 (by decide)) (at_M G) 11 (by decide) hl rfl k
theorem gt_M_stays (C : gC p s m args c D CL (TY cd) A cc own nL) (G : LO ad L) {ix : Nat} (hd : decode cc pc = .ok (.getfield ix, 3)) (pc' : Nat) (hp : pc + 3 = pc') (hl : Cond.fieldLink own ix "AlloyPlansModel" "stays" "[I" ∈ TB) (k : gW p l e R s m args below meth c D CL A nL Q cells slots L (wd cd ad S f0) pc' lv (.ref (ad 43) :: st)) : gW p l e R s m args below meth c D CL A nL Q cells slots L (wd cd ad S f0) pc lv (.ref (ad 33) :: st) := g_get C hd pc' hp in_M rfl (G.1 33 (by decide)) (at_M G) 12 (by decide) hl rfl k
theorem gt_M_cools (C : gC p s m args c D CL (TY cd) A cc own nL) (G : LO ad L) {ix : Nat} (hd : decode cc pc = .ok (.getfield ix, 3)) (pc' : Nat) (hp : pc + 3 = pc') (hl : Cond.fieldLink own ix "AlloyPlansModel" "cools" "[I" ∈ TB) (k : gW p l e R s m args below meth c D CL A nL Q cells slots L (wd cd ad S f0) pc' lv (.ref (ad 44) :: st)) : gW p l e R s m args below meth c D CL A nL Q cells slots L (wd cd ad S f0) pc lv (.ref (ad 33) :: st) := g_get C hd pc' hp in_M rfl (G.1 33 (by decide)) (at_M G) 13 (by decide) hl rfl k
theorem gt_M_planned (C : gC p s m args c D CL (TY cd) A cc own nL) (G : LO ad L) {ix : Nat} (hd : decode cc pc = .ok (.getfield ix, 3)) (pc' : Nat) (hp : pc + 3 = pc') (hl : Cond.fieldLink own ix "AlloyPlansModel" "planned" "Z" ∈ TB) (k : gW p l e R s m args below meth c D CL A nL Q cells slots L (wd cd ad S f0) pc' lv (iv (S 33 14) :: st)) : gW p l e R s m args below meth c D CL A nL Q cells slots L (wd cd ad S f0) pc lv (.ref (ad 33) :: st) := g_get C hd pc' hp in_M rfl (G.1 33 (by decide)) (at_M G) 14 (by decide) hl rfl k
theorem pt_M_planned (C : gC p s m args c D CL (TY cd) A cc own nL) (G : LO ad L) {ix : Nat} {z : Int} (hd : decode cc pc = .ok (.putfield ix, 3)) (pc' : Nat) (hp : pc + 3 = pc') (hl : Cond.fieldLink own ix "AlloyPlansModel" "planned" "Z" ∈ TB) (hz : z = 0 ∨ z = 1) (k : gW p l e R s m args below meth c D CL A nL Q cells slots L (wd cd ad (u2 S 33 14 z) f0) pc' lv (st)) : gW p l e R s m args below meth c D CL A nL Q cells slots L (wd cd ad S f0) pc lv (iv z :: .ref (ad 33) :: st) := by
  refine g_put C hd pc' hp in_M rfl (G.1 33 (by decide)) (at_M G) 14 (by decide) hl tyX6 tyX6_ok nmX6 rfl (ty := .boolean) (by decide +kernel) (by rcases hz with rfl | rfl <;> rfl) (by rcases hz with rfl | rfl <;> rfl) (Nat.le_of_ble_eq_true rfl) ?_
  exact (show wd cd ad (u2 S 33 14 z) f0 = _ from (wd_up (cd := cd) (S := S) (f0 := f0) G 33 (by decide) (updI (S 33) 14 z)).symm) ▸ k
theorem gt_M_plan (C : gC p s m args c D CL (TY cd) A cc own nL) (G : LO ad L) {ix : Nat} (hd : decode cc pc = .ok (.getfield ix, 3)) (pc' : Nat) (hp : pc + 3 = pc') (hl : Cond.fieldLink own ix "AlloyPlansModel" "plan" "[I" ∈ TB) (k : gW p l e R s m args below meth c D CL A nL Q cells slots L (wd cd ad S f0) pc' lv (.ref (ad 45) :: st)) : gW p l e R s m args below meth c D CL A nL Q cells slots L (wd cd ad S f0) pc lv (.ref (ad 33) :: st) := g_get C hd pc' hp in_M rfl (G.1 33 (by decide)) (at_M G) 15 (by decide) hl rfl k
theorem gt_M_tried (C : gC p s m args c D CL (TY cd) A cc own nL) (G : LO ad L) {ix : Nat} (hd : decode cc pc = .ok (.getfield ix, 3)) (pc' : Nat) (hp : pc + 3 = pc') (hl : Cond.fieldLink own ix "AlloyPlansModel" "tried" "[I" ∈ TB) (k : gW p l e R s m args below meth c D CL A nL Q cells slots L (wd cd ad S f0) pc' lv (.ref (ad 46) :: st)) : gW p l e R s m args below meth c D CL A nL Q cells slots L (wd cd ad S f0) pc lv (.ref (ad 33) :: st) := g_get C hd pc' hp in_M rfl (G.1 33 (by decide)) (at_M G) 16 (by decide) hl rfl k
theorem gt_M_added (C : gC p s m args c D CL (TY cd) A cc own nL) (G : LO ad L) {ix : Nat} (hd : decode cc pc = .ok (.getfield ix, 3)) (pc' : Nat) (hp : pc + 3 = pc') (hl : Cond.fieldLink own ix "AlloyPlansModel" "added" "I" ∈ TB) (k : gW p l e R s m args below meth c D CL A nL Q cells slots L (wd cd ad S f0) pc' lv (iv (S 33 17) :: st)) : gW p l e R s m args below meth c D CL A nL Q cells slots L (wd cd ad S f0) pc lv (.ref (ad 33) :: st) := g_get C hd pc' hp in_M rfl (G.1 33 (by decide)) (at_M G) 17 (by decide) hl rfl k
theorem pt_M_added (C : gC p s m args c D CL (TY cd) A cc own nL) (G : LO ad L) {ix : Nat} {z : Int} (hd : decode cc pc = .ok (.putfield ix, 3)) (pc' : Nat) (hp : pc + 3 = pc') (hl : Cond.fieldLink own ix "AlloyPlansModel" "added" "I" ∈ TB) (k : gW p l e R s m args below meth c D CL A nL Q cells slots L (wd cd ad (u2 S 33 17 z) f0) pc' lv (st)) : gW p l e R s m args below meth c D CL A nL Q cells slots L (wd cd ad S f0) pc lv (iv z :: .ref (ad 33) :: st) := by
  refine g_put C hd pc' hp in_M rfl (G.1 33 (by decide)) (at_M G) 17 (by decide) hl tyX6 tyX6_ok nmX6 rfl (ty := .int) (by decide +kernel) rfl rfl (Nat.le_of_ble_eq_true rfl) ?_
  exact (show wd cd ad (u2 S 33 17 z) f0 = _ from (wd_up (cd := cd) (S := S) (f0 := f0) G 33 (by decide) (updI (S 33) 17 z)).symm) ▸ k
theorem gt_M_paid (C : gC p s m args c D CL (TY cd) A cc own nL) (G : LO ad L) {ix : Nat} (hd : decode cc pc = .ok (.getfield ix, 3)) (pc' : Nat) (hp : pc + 3 = pc') (hl : Cond.fieldLink own ix "AlloyPlansModel" "paid" "J" ∈ TB) (k : gW p l e R s m args below meth c D CL A nL Q cells slots L (wd cd ad S f0) pc' lv (jv (S 33 18) :: st)) : gW p l e R s m args below meth c D CL A nL Q cells slots L (wd cd ad S f0) pc lv (.ref (ad 33) :: st) := g_get C hd pc' hp in_M rfl (G.1 33 (by decide)) (at_M G) 18 (by decide) hl rfl k
theorem pt_M_paid (C : gC p s m args c D CL (TY cd) A cc own nL) (G : LO ad L) {ix : Nat} {z : Int} (hd : decode cc pc = .ok (.putfield ix, 3)) (pc' : Nat) (hp : pc + 3 = pc') (hl : Cond.fieldLink own ix "AlloyPlansModel" "paid" "J" ∈ TB) (k : gW p l e R s m args below meth c D CL A nL Q cells slots L (wd cd ad (u2 S 33 18 z) f0) pc' lv (st)) : gW p l e R s m args below meth c D CL A nL Q cells slots L (wd cd ad S f0) pc lv (jv z :: .ref (ad 33) :: st) := by
  refine g_put C hd pc' hp in_M rfl (G.1 33 (by decide)) (at_M G) 18 (by decide) hl tyX6 tyX6_ok nmX6 rfl (ty := .long) (by decide +kernel) rfl rfl (Nat.le_of_ble_eq_true rfl) ?_
  exact (show wd cd ad (u2 S 33 18 z) f0 = _ from (wd_up (cd := cd) (S := S) (f0 := f0) G 33 (by decide) (updI (S 33) 18 z)).symm) ▸ k
theorem ln_2 (C : gC p s m args c D CL (TY cd) A cc own nL) (G : LO ad L) (hd : decode cc pc = .ok (.arraylength, 1)) (pc' : Nat) (hp : pc + 1 = pc') (k : gW p l e R s m args below meth c D CL A nL Q cells slots L (wd cd ad S f0) pc' lv (iv 8 :: st)) : gW p l e R s m args below meth c D CL A nL Q cells slots L (wd cd ad S f0) pc lv (.ref (ad 2) :: st) := g_alen C (t0 := 0) hd pc' hp (G.1 2 (by decide)) (at_2 G) rfl k
theorem ld_2 (C : gC p s m args c D CL (TY cd) A cc own nL) (G : LO ad L) {z : Int} (hd : decode cc pc = .ok (.iaload, 1)) (pc' : Nat) (hp : pc + 1 = pc') (n : Nat) (hn : n < 8) (hz : z = (n : Int)) (k : gW p l e R s m args below meth c D CL A nL Q cells slots L (wd cd ad S f0) pc' lv (iv (S 2 n) :: st)) : gW p l e R s m args below meth c D CL A nL Q cells slots L (wd cd ad S f0) pc lv (iv z :: .ref (ad 2) :: st) := by
  subst hz
  exact g_iald C (t0 := 0) hd pc' hp (G.1 2 (by decide)) (at_2 G) rfl (by omega) (by omega) ⟨by omega, by omega⟩ k
theorem st_2 (C : gC p s m args c D CL (TY cd) A cc own nL) (G : LO ad L) {z x : Int} (hd : decode cc pc = .ok (.iastore, 1)) (pc' : Nat) (hp : pc + 1 = pc') (n : Nat) (hn : n < 8) (hz : z = (n : Int)) (k : gW p l e R s m args below meth c D CL A nL Q cells slots L (wd cd ad (u2 S 2 n x) f0) pc' lv (st)) : gW p l e R s m args below meth c D CL A nL Q cells slots L (wd cd ad S f0) pc lv (iv x :: iv z :: .ref (ad 2) :: st) := by
  subst hz
  refine g_iast C (t0 := 0) hd pc' hp (G.1 2 (by decide)) (at_2 G) rfl (by omega) (by omega) ⟨by omega, by omega⟩ ?_
  exact (show wd cd ad (u2 S 2 n x) f0 = _ from (wd_up (cd := cd) (S := S) (f0 := f0) G 2 (by decide) (updI (S 2) n x)).symm) ▸ k
theorem ln_3 (C : gC p s m args c D CL (TY cd) A cc own nL) (G : LO ad L) (hd : decode cc pc = .ok (.arraylength, 1)) (pc' : Nat) (hp : pc + 1 = pc') (k : gW p l e R s m args below meth c D CL A nL Q cells slots L (wd cd ad S f0) pc' lv (iv 8 :: st)) : gW p l e R s m args below meth c D CL A nL Q cells slots L (wd cd ad S f0) pc lv (.ref (ad 3) :: st) := g_alen C (t0 := 0) hd pc' hp (G.1 3 (by decide)) (at_3 G) rfl k
theorem ld_3 (C : gC p s m args c D CL (TY cd) A cc own nL) (G : LO ad L) {z : Int} (hd : decode cc pc = .ok (.iaload, 1)) (pc' : Nat) (hp : pc + 1 = pc') (n : Nat) (hn : n < 8) (hz : z = (n : Int)) (k : gW p l e R s m args below meth c D CL A nL Q cells slots L (wd cd ad S f0) pc' lv (iv (S 3 n) :: st)) : gW p l e R s m args below meth c D CL A nL Q cells slots L (wd cd ad S f0) pc lv (iv z :: .ref (ad 3) :: st) := by
  subst hz
  exact g_iald C (t0 := 0) hd pc' hp (G.1 3 (by decide)) (at_3 G) rfl (by omega) (by omega) ⟨by omega, by omega⟩ k
theorem st_3 (C : gC p s m args c D CL (TY cd) A cc own nL) (G : LO ad L) {z x : Int} (hd : decode cc pc = .ok (.iastore, 1)) (pc' : Nat) (hp : pc + 1 = pc') (n : Nat) (hn : n < 8) (hz : z = (n : Int)) (k : gW p l e R s m args below meth c D CL A nL Q cells slots L (wd cd ad (u2 S 3 n x) f0) pc' lv (st)) : gW p l e R s m args below meth c D CL A nL Q cells slots L (wd cd ad S f0) pc lv (iv x :: iv z :: .ref (ad 3) :: st) := by
  subst hz
  refine g_iast C (t0 := 0) hd pc' hp (G.1 3 (by decide)) (at_3 G) rfl (by omega) (by omega) ⟨by omega, by omega⟩ ?_
  exact (show wd cd ad (u2 S 3 n x) f0 = _ from (wd_up (cd := cd) (S := S) (f0 := f0) G 3 (by decide) (updI (S 3) n x)).symm) ▸ k
theorem ln_6 (C : gC p s m args c D CL (TY cd) A cc own nL) (G : LO ad L) (hd : decode cc pc = .ok (.arraylength, 1)) (pc' : Nat) (hp : pc + 1 = pc') (k : gW p l e R s m args below meth c D CL A nL Q cells slots L (wd cd ad S f0) pc' lv (iv 4 :: st)) : gW p l e R s m args below meth c D CL A nL Q cells slots L (wd cd ad S f0) pc lv (.ref (ad 6) :: st) := g_alen C (t0 := 0) hd pc' hp (G.1 6 (by decide)) (at_6 G) rfl k
theorem ld_6 (C : gC p s m args c D CL (TY cd) A cc own nL) (G : LO ad L) {z : Int} (hd : decode cc pc = .ok (.iaload, 1)) (pc' : Nat) (hp : pc + 1 = pc') (n : Nat) (hn : n < 4) (hz : z = (n : Int)) (k : gW p l e R s m args below meth c D CL A nL Q cells slots L (wd cd ad S f0) pc' lv (iv (S 6 n) :: st)) : gW p l e R s m args below meth c D CL A nL Q cells slots L (wd cd ad S f0) pc lv (iv z :: .ref (ad 6) :: st) := by
  subst hz
  exact g_iald C (t0 := 0) hd pc' hp (G.1 6 (by decide)) (at_6 G) rfl (by omega) (by omega) ⟨by omega, by omega⟩ k
theorem st_6 (C : gC p s m args c D CL (TY cd) A cc own nL) (G : LO ad L) {z x : Int} (hd : decode cc pc = .ok (.iastore, 1)) (pc' : Nat) (hp : pc + 1 = pc') (n : Nat) (hn : n < 4) (hz : z = (n : Int)) (k : gW p l e R s m args below meth c D CL A nL Q cells slots L (wd cd ad (u2 S 6 n x) f0) pc' lv (st)) : gW p l e R s m args below meth c D CL A nL Q cells slots L (wd cd ad S f0) pc lv (iv x :: iv z :: .ref (ad 6) :: st) := by
  subst hz
  refine g_iast C (t0 := 0) hd pc' hp (G.1 6 (by decide)) (at_6 G) rfl (by omega) (by omega) ⟨by omega, by omega⟩ ?_
  exact (show wd cd ad (u2 S 6 n x) f0 = _ from (wd_up (cd := cd) (S := S) (f0 := f0) G 6 (by decide) (updI (S 6) n x)).symm) ▸ k
theorem ln_8 (C : gC p s m args c D CL (TY cd) A cc own nL) (G : LO ad L) (hd : decode cc pc = .ok (.arraylength, 1)) (pc' : Nat) (hp : pc + 1 = pc') (k : gW p l e R s m args below meth c D CL A nL Q cells slots L (wd cd ad S f0) pc' lv (iv 4 :: st)) : gW p l e R s m args below meth c D CL A nL Q cells slots L (wd cd ad S f0) pc lv (.ref (ad 8) :: st) := g_alen C (t0 := 0) hd pc' hp (G.1 8 (by decide)) (at_8 G) rfl k
theorem ld_8 (C : gC p s m args c D CL (TY cd) A cc own nL) (G : LO ad L) {z : Int} (hd : decode cc pc = .ok (.iaload, 1)) (pc' : Nat) (hp : pc + 1 = pc') (n : Nat) (hn : n < 4) (hz : z = (n : Int)) (k : gW p l e R s m args below meth c D CL A nL Q cells slots L (wd cd ad S f0) pc' lv (iv (S 8 n) :: st)) : gW p l e R s m args below meth c D CL A nL Q cells slots L (wd cd ad S f0) pc lv (iv z :: .ref (ad 8) :: st) := by
  subst hz
  exact g_iald C (t0 := 0) hd pc' hp (G.1 8 (by decide)) (at_8 G) rfl (by omega) (by omega) ⟨by omega, by omega⟩ k
theorem st_8 (C : gC p s m args c D CL (TY cd) A cc own nL) (G : LO ad L) {z x : Int} (hd : decode cc pc = .ok (.iastore, 1)) (pc' : Nat) (hp : pc + 1 = pc') (n : Nat) (hn : n < 4) (hz : z = (n : Int)) (k : gW p l e R s m args below meth c D CL A nL Q cells slots L (wd cd ad (u2 S 8 n x) f0) pc' lv (st)) : gW p l e R s m args below meth c D CL A nL Q cells slots L (wd cd ad S f0) pc lv (iv x :: iv z :: .ref (ad 8) :: st) := by
  subst hz
  refine g_iast C (t0 := 0) hd pc' hp (G.1 8 (by decide)) (at_8 G) rfl (by omega) (by omega) ⟨by omega, by omega⟩ ?_
  exact (show wd cd ad (u2 S 8 n x) f0 = _ from (wd_up (cd := cd) (S := S) (f0 := f0) G 8 (by decide) (updI (S 8) n x)).symm) ▸ k
theorem ln_9 (C : gC p s m args c D CL (TY cd) A cc own nL) (G : LO ad L) (hd : decode cc pc = .ok (.arraylength, 1)) (pc' : Nat) (hp : pc + 1 = pc') (k : gW p l e R s m args below meth c D CL A nL Q cells slots L (wd cd ad S f0) pc' lv (iv 4 :: st)) : gW p l e R s m args below meth c D CL A nL Q cells slots L (wd cd ad S f0) pc lv (.ref (ad 9) :: st) := g_alen C (t0 := 0) hd pc' hp (G.1 9 (by decide)) (at_9 G) rfl k
theorem ld_9 (C : gC p s m args c D CL (TY cd) A cc own nL) (G : LO ad L) {z : Int} (hd : decode cc pc = .ok (.iaload, 1)) (pc' : Nat) (hp : pc + 1 = pc') (n : Nat) (hn : n < 4) (hz : z = (n : Int)) (k : gW p l e R s m args below meth c D CL A nL Q cells slots L (wd cd ad S f0) pc' lv (iv (S 9 n) :: st)) : gW p l e R s m args below meth c D CL A nL Q cells slots L (wd cd ad S f0) pc lv (iv z :: .ref (ad 9) :: st) := by
  subst hz
  exact g_iald C (t0 := 0) hd pc' hp (G.1 9 (by decide)) (at_9 G) rfl (by omega) (by omega) ⟨by omega, by omega⟩ k
theorem st_9 (C : gC p s m args c D CL (TY cd) A cc own nL) (G : LO ad L) {z x : Int} (hd : decode cc pc = .ok (.iastore, 1)) (pc' : Nat) (hp : pc + 1 = pc') (n : Nat) (hn : n < 4) (hz : z = (n : Int)) (k : gW p l e R s m args below meth c D CL A nL Q cells slots L (wd cd ad (u2 S 9 n x) f0) pc' lv (st)) : gW p l e R s m args below meth c D CL A nL Q cells slots L (wd cd ad S f0) pc lv (iv x :: iv z :: .ref (ad 9) :: st) := by
  subst hz
  refine g_iast C (t0 := 0) hd pc' hp (G.1 9 (by decide)) (at_9 G) rfl (by omega) (by omega) ⟨by omega, by omega⟩ ?_
  exact (show wd cd ad (u2 S 9 n x) f0 = _ from (wd_up (cd := cd) (S := S) (f0 := f0) G 9 (by decide) (updI (S 9) n x)).symm) ▸ k
theorem ln_34 (C : gC p s m args c D CL (TY cd) A cc own nL) (G : LO ad L) (hd : decode cc pc = .ok (.arraylength, 1)) (pc' : Nat) (hp : pc + 1 = pc') (k : gW p l e R s m args below meth c D CL A nL Q cells slots L (wd cd ad S f0) pc' lv (iv 4 :: st)) : gW p l e R s m args below meth c D CL A nL Q cells slots L (wd cd ad S f0) pc lv (.ref (ad 34) :: st) := g_alen C (t0 := 0) hd pc' hp (G.1 34 (by decide)) (at_34 G) rfl k
theorem ld_34 (C : gC p s m args c D CL (TY cd) A cc own nL) (G : LO ad L) {z : Int} (hd : decode cc pc = .ok (.iaload, 1)) (pc' : Nat) (hp : pc + 1 = pc') (n : Nat) (hn : n < 4) (hz : z = (n : Int)) (k : gW p l e R s m args below meth c D CL A nL Q cells slots L (wd cd ad S f0) pc' lv (iv (S 34 n) :: st)) : gW p l e R s m args below meth c D CL A nL Q cells slots L (wd cd ad S f0) pc lv (iv z :: .ref (ad 34) :: st) := by
  subst hz
  exact g_iald C (t0 := 0) hd pc' hp (G.1 34 (by decide)) (at_34 G) rfl (by omega) (by omega) ⟨by omega, by omega⟩ k
theorem st_34 (C : gC p s m args c D CL (TY cd) A cc own nL) (G : LO ad L) {z x : Int} (hd : decode cc pc = .ok (.iastore, 1)) (pc' : Nat) (hp : pc + 1 = pc') (n : Nat) (hn : n < 4) (hz : z = (n : Int)) (k : gW p l e R s m args below meth c D CL A nL Q cells slots L (wd cd ad (u2 S 34 n x) f0) pc' lv (st)) : gW p l e R s m args below meth c D CL A nL Q cells slots L (wd cd ad S f0) pc lv (iv x :: iv z :: .ref (ad 34) :: st) := by
  subst hz
  refine g_iast C (t0 := 0) hd pc' hp (G.1 34 (by decide)) (at_34 G) rfl (by omega) (by omega) ⟨by omega, by omega⟩ ?_
  exact (show wd cd ad (u2 S 34 n x) f0 = _ from (wd_up (cd := cd) (S := S) (f0 := f0) G 34 (by decide) (updI (S 34) n x)).symm) ▸ k
theorem ln_35 (C : gC p s m args c D CL (TY cd) A cc own nL) (G : LO ad L) (hd : decode cc pc = .ok (.arraylength, 1)) (pc' : Nat) (hp : pc + 1 = pc') (k : gW p l e R s m args below meth c D CL A nL Q cells slots L (wd cd ad S f0) pc' lv (iv 4 :: st)) : gW p l e R s m args below meth c D CL A nL Q cells slots L (wd cd ad S f0) pc lv (.ref (ad 35) :: st) := g_alen C (t0 := 0) hd pc' hp (G.1 35 (by decide)) (at_35 G) rfl k
theorem ld_35 (C : gC p s m args c D CL (TY cd) A cc own nL) (G : LO ad L) {z : Int} (hd : decode cc pc = .ok (.iaload, 1)) (pc' : Nat) (hp : pc + 1 = pc') (n : Nat) (hn : n < 4) (hz : z = (n : Int)) (k : gW p l e R s m args below meth c D CL A nL Q cells slots L (wd cd ad S f0) pc' lv (iv (S 35 n) :: st)) : gW p l e R s m args below meth c D CL A nL Q cells slots L (wd cd ad S f0) pc lv (iv z :: .ref (ad 35) :: st) := by
  subst hz
  exact g_iald C (t0 := 0) hd pc' hp (G.1 35 (by decide)) (at_35 G) rfl (by omega) (by omega) ⟨by omega, by omega⟩ k
theorem st_35 (C : gC p s m args c D CL (TY cd) A cc own nL) (G : LO ad L) {z x : Int} (hd : decode cc pc = .ok (.iastore, 1)) (pc' : Nat) (hp : pc + 1 = pc') (n : Nat) (hn : n < 4) (hz : z = (n : Int)) (k : gW p l e R s m args below meth c D CL A nL Q cells slots L (wd cd ad (u2 S 35 n x) f0) pc' lv (st)) : gW p l e R s m args below meth c D CL A nL Q cells slots L (wd cd ad S f0) pc lv (iv x :: iv z :: .ref (ad 35) :: st) := by
  subst hz
  refine g_iast C (t0 := 0) hd pc' hp (G.1 35 (by decide)) (at_35 G) rfl (by omega) (by omega) ⟨by omega, by omega⟩ ?_
  exact (show wd cd ad (u2 S 35 n x) f0 = _ from (wd_up (cd := cd) (S := S) (f0 := f0) G 35 (by decide) (updI (S 35) n x)).symm) ▸ k
theorem ln_36 (C : gC p s m args c D CL (TY cd) A cc own nL) (G : LO ad L) (hd : decode cc pc = .ok (.arraylength, 1)) (pc' : Nat) (hp : pc + 1 = pc') (k : gW p l e R s m args below meth c D CL A nL Q cells slots L (wd cd ad S f0) pc' lv (iv 4 :: st)) : gW p l e R s m args below meth c D CL A nL Q cells slots L (wd cd ad S f0) pc lv (.ref (ad 36) :: st) := g_alen C (t0 := 0) hd pc' hp (G.1 36 (by decide)) (at_36 G) rfl k
theorem ld_36 (C : gC p s m args c D CL (TY cd) A cc own nL) (G : LO ad L) {z : Int} (hd : decode cc pc = .ok (.iaload, 1)) (pc' : Nat) (hp : pc + 1 = pc') (n : Nat) (hn : n < 4) (hz : z = (n : Int)) (k : gW p l e R s m args below meth c D CL A nL Q cells slots L (wd cd ad S f0) pc' lv (iv (S 36 n) :: st)) : gW p l e R s m args below meth c D CL A nL Q cells slots L (wd cd ad S f0) pc lv (iv z :: .ref (ad 36) :: st) := by
  subst hz
  exact g_iald C (t0 := 0) hd pc' hp (G.1 36 (by decide)) (at_36 G) rfl (by omega) (by omega) ⟨by omega, by omega⟩ k
theorem st_36 (C : gC p s m args c D CL (TY cd) A cc own nL) (G : LO ad L) {z x : Int} (hd : decode cc pc = .ok (.iastore, 1)) (pc' : Nat) (hp : pc + 1 = pc') (n : Nat) (hn : n < 4) (hz : z = (n : Int)) (k : gW p l e R s m args below meth c D CL A nL Q cells slots L (wd cd ad (u2 S 36 n x) f0) pc' lv (st)) : gW p l e R s m args below meth c D CL A nL Q cells slots L (wd cd ad S f0) pc lv (iv x :: iv z :: .ref (ad 36) :: st) := by
  subst hz
  refine g_iast C (t0 := 0) hd pc' hp (G.1 36 (by decide)) (at_36 G) rfl (by omega) (by omega) ⟨by omega, by omega⟩ ?_
  exact (show wd cd ad (u2 S 36 n x) f0 = _ from (wd_up (cd := cd) (S := S) (f0 := f0) G 36 (by decide) (updI (S 36) n x)).symm) ▸ k
theorem ln_37 (C : gC p s m args c D CL (TY cd) A cc own nL) (G : LO ad L) (hd : decode cc pc = .ok (.arraylength, 1)) (pc' : Nat) (hp : pc + 1 = pc') (k : gW p l e R s m args below meth c D CL A nL Q cells slots L (wd cd ad S f0) pc' lv (iv 4 :: st)) : gW p l e R s m args below meth c D CL A nL Q cells slots L (wd cd ad S f0) pc lv (.ref (ad 37) :: st) := g_alen C (t0 := 0) hd pc' hp (G.1 37 (by decide)) (at_37 G) rfl k
theorem ld_37 (C : gC p s m args c D CL (TY cd) A cc own nL) (G : LO ad L) {z : Int} (hd : decode cc pc = .ok (.iaload, 1)) (pc' : Nat) (hp : pc + 1 = pc') (n : Nat) (hn : n < 4) (hz : z = (n : Int)) (k : gW p l e R s m args below meth c D CL A nL Q cells slots L (wd cd ad S f0) pc' lv (iv (S 37 n) :: st)) : gW p l e R s m args below meth c D CL A nL Q cells slots L (wd cd ad S f0) pc lv (iv z :: .ref (ad 37) :: st) := by
  subst hz
  exact g_iald C (t0 := 0) hd pc' hp (G.1 37 (by decide)) (at_37 G) rfl (by omega) (by omega) ⟨by omega, by omega⟩ k
theorem st_37 (C : gC p s m args c D CL (TY cd) A cc own nL) (G : LO ad L) {z x : Int} (hd : decode cc pc = .ok (.iastore, 1)) (pc' : Nat) (hp : pc + 1 = pc') (n : Nat) (hn : n < 4) (hz : z = (n : Int)) (k : gW p l e R s m args below meth c D CL A nL Q cells slots L (wd cd ad (u2 S 37 n x) f0) pc' lv (st)) : gW p l e R s m args below meth c D CL A nL Q cells slots L (wd cd ad S f0) pc lv (iv x :: iv z :: .ref (ad 37) :: st) := by
  subst hz
  refine g_iast C (t0 := 0) hd pc' hp (G.1 37 (by decide)) (at_37 G) rfl (by omega) (by omega) ⟨by omega, by omega⟩ ?_
  exact (show wd cd ad (u2 S 37 n x) f0 = _ from (wd_up (cd := cd) (S := S) (f0 := f0) G 37 (by decide) (updI (S 37) n x)).symm) ▸ k
theorem ln_38 (C : gC p s m args c D CL (TY cd) A cc own nL) (G : LO ad L) (hd : decode cc pc = .ok (.arraylength, 1)) (pc' : Nat) (hp : pc + 1 = pc') (k : gW p l e R s m args below meth c D CL A nL Q cells slots L (wd cd ad S f0) pc' lv (iv 4 :: st)) : gW p l e R s m args below meth c D CL A nL Q cells slots L (wd cd ad S f0) pc lv (.ref (ad 38) :: st) := g_alen C (t0 := 0) hd pc' hp (G.1 38 (by decide)) (at_38 G) rfl k
theorem ld_38 (C : gC p s m args c D CL (TY cd) A cc own nL) (G : LO ad L) {z : Int} (hd : decode cc pc = .ok (.iaload, 1)) (pc' : Nat) (hp : pc + 1 = pc') (n : Nat) (hn : n < 4) (hz : z = (n : Int)) (k : gW p l e R s m args below meth c D CL A nL Q cells slots L (wd cd ad S f0) pc' lv (iv (S 38 n) :: st)) : gW p l e R s m args below meth c D CL A nL Q cells slots L (wd cd ad S f0) pc lv (iv z :: .ref (ad 38) :: st) := by
  subst hz
  exact g_iald C (t0 := 0) hd pc' hp (G.1 38 (by decide)) (at_38 G) rfl (by omega) (by omega) ⟨by omega, by omega⟩ k
theorem st_38 (C : gC p s m args c D CL (TY cd) A cc own nL) (G : LO ad L) {z x : Int} (hd : decode cc pc = .ok (.iastore, 1)) (pc' : Nat) (hp : pc + 1 = pc') (n : Nat) (hn : n < 4) (hz : z = (n : Int)) (k : gW p l e R s m args below meth c D CL A nL Q cells slots L (wd cd ad (u2 S 38 n x) f0) pc' lv (st)) : gW p l e R s m args below meth c D CL A nL Q cells slots L (wd cd ad S f0) pc lv (iv x :: iv z :: .ref (ad 38) :: st) := by
  subst hz
  refine g_iast C (t0 := 0) hd pc' hp (G.1 38 (by decide)) (at_38 G) rfl (by omega) (by omega) ⟨by omega, by omega⟩ ?_
  exact (show wd cd ad (u2 S 38 n x) f0 = _ from (wd_up (cd := cd) (S := S) (f0 := f0) G 38 (by decide) (updI (S 38) n x)).symm) ▸ k
theorem ln_39 (C : gC p s m args c D CL (TY cd) A cc own nL) (G : LO ad L) (hd : decode cc pc = .ok (.arraylength, 1)) (pc' : Nat) (hp : pc + 1 = pc') (k : gW p l e R s m args below meth c D CL A nL Q cells slots L (wd cd ad S f0) pc' lv (iv 4 :: st)) : gW p l e R s m args below meth c D CL A nL Q cells slots L (wd cd ad S f0) pc lv (.ref (ad 39) :: st) := g_alen C (t0 := 0) hd pc' hp (G.1 39 (by decide)) (at_39 G) rfl k
theorem ld_39 (C : gC p s m args c D CL (TY cd) A cc own nL) (G : LO ad L) {z : Int} (hd : decode cc pc = .ok (.iaload, 1)) (pc' : Nat) (hp : pc + 1 = pc') (n : Nat) (hn : n < 4) (hz : z = (n : Int)) (k : gW p l e R s m args below meth c D CL A nL Q cells slots L (wd cd ad S f0) pc' lv (iv (S 39 n) :: st)) : gW p l e R s m args below meth c D CL A nL Q cells slots L (wd cd ad S f0) pc lv (iv z :: .ref (ad 39) :: st) := by
  subst hz
  exact g_iald C (t0 := 0) hd pc' hp (G.1 39 (by decide)) (at_39 G) rfl (by omega) (by omega) ⟨by omega, by omega⟩ k
theorem st_39 (C : gC p s m args c D CL (TY cd) A cc own nL) (G : LO ad L) {z x : Int} (hd : decode cc pc = .ok (.iastore, 1)) (pc' : Nat) (hp : pc + 1 = pc') (n : Nat) (hn : n < 4) (hz : z = (n : Int)) (k : gW p l e R s m args below meth c D CL A nL Q cells slots L (wd cd ad (u2 S 39 n x) f0) pc' lv (st)) : gW p l e R s m args below meth c D CL A nL Q cells slots L (wd cd ad S f0) pc lv (iv x :: iv z :: .ref (ad 39) :: st) := by
  subst hz
  refine g_iast C (t0 := 0) hd pc' hp (G.1 39 (by decide)) (at_39 G) rfl (by omega) (by omega) ⟨by omega, by omega⟩ ?_
  exact (show wd cd ad (u2 S 39 n x) f0 = _ from (wd_up (cd := cd) (S := S) (f0 := f0) G 39 (by decide) (updI (S 39) n x)).symm) ▸ k
theorem ln_40 (C : gC p s m args c D CL (TY cd) A cc own nL) (G : LO ad L) (hd : decode cc pc = .ok (.arraylength, 1)) (pc' : Nat) (hp : pc + 1 = pc') (k : gW p l e R s m args below meth c D CL A nL Q cells slots L (wd cd ad S f0) pc' lv (iv 4 :: st)) : gW p l e R s m args below meth c D CL A nL Q cells slots L (wd cd ad S f0) pc lv (.ref (ad 40) :: st) := g_alen C (t0 := 0) hd pc' hp (G.1 40 (by decide)) (at_40 G) rfl k
theorem ld_40 (C : gC p s m args c D CL (TY cd) A cc own nL) (G : LO ad L) {z : Int} (hd : decode cc pc = .ok (.iaload, 1)) (pc' : Nat) (hp : pc + 1 = pc') (n : Nat) (hn : n < 4) (hz : z = (n : Int)) (k : gW p l e R s m args below meth c D CL A nL Q cells slots L (wd cd ad S f0) pc' lv (iv (S 40 n) :: st)) : gW p l e R s m args below meth c D CL A nL Q cells slots L (wd cd ad S f0) pc lv (iv z :: .ref (ad 40) :: st) := by
  subst hz
  exact g_iald C (t0 := 0) hd pc' hp (G.1 40 (by decide)) (at_40 G) rfl (by omega) (by omega) ⟨by omega, by omega⟩ k
theorem st_40 (C : gC p s m args c D CL (TY cd) A cc own nL) (G : LO ad L) {z x : Int} (hd : decode cc pc = .ok (.iastore, 1)) (pc' : Nat) (hp : pc + 1 = pc') (n : Nat) (hn : n < 4) (hz : z = (n : Int)) (k : gW p l e R s m args below meth c D CL A nL Q cells slots L (wd cd ad (u2 S 40 n x) f0) pc' lv (st)) : gW p l e R s m args below meth c D CL A nL Q cells slots L (wd cd ad S f0) pc lv (iv x :: iv z :: .ref (ad 40) :: st) := by
  subst hz
  refine g_iast C (t0 := 0) hd pc' hp (G.1 40 (by decide)) (at_40 G) rfl (by omega) (by omega) ⟨by omega, by omega⟩ ?_
  exact (show wd cd ad (u2 S 40 n x) f0 = _ from (wd_up (cd := cd) (S := S) (f0 := f0) G 40 (by decide) (updI (S 40) n x)).symm) ▸ k
theorem ln_41 (C : gC p s m args c D CL (TY cd) A cc own nL) (G : LO ad L) (hd : decode cc pc = .ok (.arraylength, 1)) (pc' : Nat) (hp : pc + 1 = pc') (k : gW p l e R s m args below meth c D CL A nL Q cells slots L (wd cd ad S f0) pc' lv (iv 16 :: st)) : gW p l e R s m args below meth c D CL A nL Q cells slots L (wd cd ad S f0) pc lv (.ref (ad 41) :: st) := g_alen C (t0 := 0) hd pc' hp (G.1 41 (by decide)) (at_41 G) rfl k
theorem ld_41 (C : gC p s m args c D CL (TY cd) A cc own nL) (G : LO ad L) {z : Int} (hd : decode cc pc = .ok (.iaload, 1)) (pc' : Nat) (hp : pc + 1 = pc') (n : Nat) (hn : n < 16) (hz : z = (n : Int)) (k : gW p l e R s m args below meth c D CL A nL Q cells slots L (wd cd ad S f0) pc' lv (iv (S 41 n) :: st)) : gW p l e R s m args below meth c D CL A nL Q cells slots L (wd cd ad S f0) pc lv (iv z :: .ref (ad 41) :: st) := by
  subst hz
  exact g_iald C (t0 := 0) hd pc' hp (G.1 41 (by decide)) (at_41 G) rfl (by omega) (by omega) ⟨by omega, by omega⟩ k
theorem st_41 (C : gC p s m args c D CL (TY cd) A cc own nL) (G : LO ad L) {z x : Int} (hd : decode cc pc = .ok (.iastore, 1)) (pc' : Nat) (hp : pc + 1 = pc') (n : Nat) (hn : n < 16) (hz : z = (n : Int)) (k : gW p l e R s m args below meth c D CL A nL Q cells slots L (wd cd ad (u2 S 41 n x) f0) pc' lv (st)) : gW p l e R s m args below meth c D CL A nL Q cells slots L (wd cd ad S f0) pc lv (iv x :: iv z :: .ref (ad 41) :: st) := by
  subst hz
  refine g_iast C (t0 := 0) hd pc' hp (G.1 41 (by decide)) (at_41 G) rfl (by omega) (by omega) ⟨by omega, by omega⟩ ?_
  exact (show wd cd ad (u2 S 41 n x) f0 = _ from (wd_up (cd := cd) (S := S) (f0 := f0) G 41 (by decide) (updI (S 41) n x)).symm) ▸ k
theorem ln_42 (C : gC p s m args c D CL (TY cd) A cc own nL) (G : LO ad L) (hd : decode cc pc = .ok (.arraylength, 1)) (pc' : Nat) (hp : pc + 1 = pc') (k : gW p l e R s m args below meth c D CL A nL Q cells slots L (wd cd ad S f0) pc' lv (iv 16 :: st)) : gW p l e R s m args below meth c D CL A nL Q cells slots L (wd cd ad S f0) pc lv (.ref (ad 42) :: st) := g_alen C (t0 := 0) hd pc' hp (G.1 42 (by decide)) (at_42 G) rfl k
theorem ld_42 (C : gC p s m args c D CL (TY cd) A cc own nL) (G : LO ad L) {z : Int} (hd : decode cc pc = .ok (.iaload, 1)) (pc' : Nat) (hp : pc + 1 = pc') (n : Nat) (hn : n < 16) (hz : z = (n : Int)) (k : gW p l e R s m args below meth c D CL A nL Q cells slots L (wd cd ad S f0) pc' lv (iv (S 42 n) :: st)) : gW p l e R s m args below meth c D CL A nL Q cells slots L (wd cd ad S f0) pc lv (iv z :: .ref (ad 42) :: st) := by
  subst hz
  exact g_iald C (t0 := 0) hd pc' hp (G.1 42 (by decide)) (at_42 G) rfl (by omega) (by omega) ⟨by omega, by omega⟩ k
theorem st_42 (C : gC p s m args c D CL (TY cd) A cc own nL) (G : LO ad L) {z x : Int} (hd : decode cc pc = .ok (.iastore, 1)) (pc' : Nat) (hp : pc + 1 = pc') (n : Nat) (hn : n < 16) (hz : z = (n : Int)) (k : gW p l e R s m args below meth c D CL A nL Q cells slots L (wd cd ad (u2 S 42 n x) f0) pc' lv (st)) : gW p l e R s m args below meth c D CL A nL Q cells slots L (wd cd ad S f0) pc lv (iv x :: iv z :: .ref (ad 42) :: st) := by
  subst hz
  refine g_iast C (t0 := 0) hd pc' hp (G.1 42 (by decide)) (at_42 G) rfl (by omega) (by omega) ⟨by omega, by omega⟩ ?_
  exact (show wd cd ad (u2 S 42 n x) f0 = _ from (wd_up (cd := cd) (S := S) (f0 := f0) G 42 (by decide) (updI (S 42) n x)).symm) ▸ k
theorem ln_43 (C : gC p s m args c D CL (TY cd) A cc own nL) (G : LO ad L) (hd : decode cc pc = .ok (.arraylength, 1)) (pc' : Nat) (hp : pc + 1 = pc') (k : gW p l e R s m args below meth c D CL A nL Q cells slots L (wd cd ad S f0) pc' lv (iv 4 :: st)) : gW p l e R s m args below meth c D CL A nL Q cells slots L (wd cd ad S f0) pc lv (.ref (ad 43) :: st) := g_alen C (t0 := 0) hd pc' hp (G.1 43 (by decide)) (at_43 G) rfl k
theorem ld_43 (C : gC p s m args c D CL (TY cd) A cc own nL) (G : LO ad L) {z : Int} (hd : decode cc pc = .ok (.iaload, 1)) (pc' : Nat) (hp : pc + 1 = pc') (n : Nat) (hn : n < 4) (hz : z = (n : Int)) (k : gW p l e R s m args below meth c D CL A nL Q cells slots L (wd cd ad S f0) pc' lv (iv (S 43 n) :: st)) : gW p l e R s m args below meth c D CL A nL Q cells slots L (wd cd ad S f0) pc lv (iv z :: .ref (ad 43) :: st) := by
  subst hz
  exact g_iald C (t0 := 0) hd pc' hp (G.1 43 (by decide)) (at_43 G) rfl (by omega) (by omega) ⟨by omega, by omega⟩ k
theorem st_43 (C : gC p s m args c D CL (TY cd) A cc own nL) (G : LO ad L) {z x : Int} (hd : decode cc pc = .ok (.iastore, 1)) (pc' : Nat) (hp : pc + 1 = pc') (n : Nat) (hn : n < 4) (hz : z = (n : Int)) (k : gW p l e R s m args below meth c D CL A nL Q cells slots L (wd cd ad (u2 S 43 n x) f0) pc' lv (st)) : gW p l e R s m args below meth c D CL A nL Q cells slots L (wd cd ad S f0) pc lv (iv x :: iv z :: .ref (ad 43) :: st) := by
  subst hz
  refine g_iast C (t0 := 0) hd pc' hp (G.1 43 (by decide)) (at_43 G) rfl (by omega) (by omega) ⟨by omega, by omega⟩ ?_
  exact (show wd cd ad (u2 S 43 n x) f0 = _ from (wd_up (cd := cd) (S := S) (f0 := f0) G 43 (by decide) (updI (S 43) n x)).symm) ▸ k
theorem ln_44 (C : gC p s m args c D CL (TY cd) A cc own nL) (G : LO ad L) (hd : decode cc pc = .ok (.arraylength, 1)) (pc' : Nat) (hp : pc + 1 = pc') (k : gW p l e R s m args below meth c D CL A nL Q cells slots L (wd cd ad S f0) pc' lv (iv 4 :: st)) : gW p l e R s m args below meth c D CL A nL Q cells slots L (wd cd ad S f0) pc lv (.ref (ad 44) :: st) := g_alen C (t0 := 0) hd pc' hp (G.1 44 (by decide)) (at_44 G) rfl k
theorem ld_44 (C : gC p s m args c D CL (TY cd) A cc own nL) (G : LO ad L) {z : Int} (hd : decode cc pc = .ok (.iaload, 1)) (pc' : Nat) (hp : pc + 1 = pc') (n : Nat) (hn : n < 4) (hz : z = (n : Int)) (k : gW p l e R s m args below meth c D CL A nL Q cells slots L (wd cd ad S f0) pc' lv (iv (S 44 n) :: st)) : gW p l e R s m args below meth c D CL A nL Q cells slots L (wd cd ad S f0) pc lv (iv z :: .ref (ad 44) :: st) := by
  subst hz
  exact g_iald C (t0 := 0) hd pc' hp (G.1 44 (by decide)) (at_44 G) rfl (by omega) (by omega) ⟨by omega, by omega⟩ k
theorem st_44 (C : gC p s m args c D CL (TY cd) A cc own nL) (G : LO ad L) {z x : Int} (hd : decode cc pc = .ok (.iastore, 1)) (pc' : Nat) (hp : pc + 1 = pc') (n : Nat) (hn : n < 4) (hz : z = (n : Int)) (k : gW p l e R s m args below meth c D CL A nL Q cells slots L (wd cd ad (u2 S 44 n x) f0) pc' lv (st)) : gW p l e R s m args below meth c D CL A nL Q cells slots L (wd cd ad S f0) pc lv (iv x :: iv z :: .ref (ad 44) :: st) := by
  subst hz
  refine g_iast C (t0 := 0) hd pc' hp (G.1 44 (by decide)) (at_44 G) rfl (by omega) (by omega) ⟨by omega, by omega⟩ ?_
  exact (show wd cd ad (u2 S 44 n x) f0 = _ from (wd_up (cd := cd) (S := S) (f0 := f0) G 44 (by decide) (updI (S 44) n x)).symm) ▸ k
theorem ln_45 (C : gC p s m args c D CL (TY cd) A cc own nL) (G : LO ad L) (hd : decode cc pc = .ok (.arraylength, 1)) (pc' : Nat) (hp : pc + 1 = pc') (k : gW p l e R s m args below meth c D CL A nL Q cells slots L (wd cd ad S f0) pc' lv (iv 4 :: st)) : gW p l e R s m args below meth c D CL A nL Q cells slots L (wd cd ad S f0) pc lv (.ref (ad 45) :: st) := g_alen C (t0 := 0) hd pc' hp (G.1 45 (by decide)) (at_45 G) rfl k
theorem ld_45 (C : gC p s m args c D CL (TY cd) A cc own nL) (G : LO ad L) {z : Int} (hd : decode cc pc = .ok (.iaload, 1)) (pc' : Nat) (hp : pc + 1 = pc') (n : Nat) (hn : n < 4) (hz : z = (n : Int)) (k : gW p l e R s m args below meth c D CL A nL Q cells slots L (wd cd ad S f0) pc' lv (iv (S 45 n) :: st)) : gW p l e R s m args below meth c D CL A nL Q cells slots L (wd cd ad S f0) pc lv (iv z :: .ref (ad 45) :: st) := by
  subst hz
  exact g_iald C (t0 := 0) hd pc' hp (G.1 45 (by decide)) (at_45 G) rfl (by omega) (by omega) ⟨by omega, by omega⟩ k
theorem st_45 (C : gC p s m args c D CL (TY cd) A cc own nL) (G : LO ad L) {z x : Int} (hd : decode cc pc = .ok (.iastore, 1)) (pc' : Nat) (hp : pc + 1 = pc') (n : Nat) (hn : n < 4) (hz : z = (n : Int)) (k : gW p l e R s m args below meth c D CL A nL Q cells slots L (wd cd ad (u2 S 45 n x) f0) pc' lv (st)) : gW p l e R s m args below meth c D CL A nL Q cells slots L (wd cd ad S f0) pc lv (iv x :: iv z :: .ref (ad 45) :: st) := by
  subst hz
  refine g_iast C (t0 := 0) hd pc' hp (G.1 45 (by decide)) (at_45 G) rfl (by omega) (by omega) ⟨by omega, by omega⟩ ?_
  exact (show wd cd ad (u2 S 45 n x) f0 = _ from (wd_up (cd := cd) (S := S) (f0 := f0) G 45 (by decide) (updI (S 45) n x)).symm) ▸ k
theorem ln_46 (C : gC p s m args c D CL (TY cd) A cc own nL) (G : LO ad L) (hd : decode cc pc = .ok (.arraylength, 1)) (pc' : Nat) (hp : pc + 1 = pc') (k : gW p l e R s m args below meth c D CL A nL Q cells slots L (wd cd ad S f0) pc' lv (iv 4 :: st)) : gW p l e R s m args below meth c D CL A nL Q cells slots L (wd cd ad S f0) pc lv (.ref (ad 46) :: st) := g_alen C (t0 := 0) hd pc' hp (G.1 46 (by decide)) (at_46 G) rfl k
theorem ld_46 (C : gC p s m args c D CL (TY cd) A cc own nL) (G : LO ad L) {z : Int} (hd : decode cc pc = .ok (.iaload, 1)) (pc' : Nat) (hp : pc + 1 = pc') (n : Nat) (hn : n < 4) (hz : z = (n : Int)) (k : gW p l e R s m args below meth c D CL A nL Q cells slots L (wd cd ad S f0) pc' lv (iv (S 46 n) :: st)) : gW p l e R s m args below meth c D CL A nL Q cells slots L (wd cd ad S f0) pc lv (iv z :: .ref (ad 46) :: st) := by
  subst hz
  exact g_iald C (t0 := 0) hd pc' hp (G.1 46 (by decide)) (at_46 G) rfl (by omega) (by omega) ⟨by omega, by omega⟩ k
theorem st_46 (C : gC p s m args c D CL (TY cd) A cc own nL) (G : LO ad L) {z x : Int} (hd : decode cc pc = .ok (.iastore, 1)) (pc' : Nat) (hp : pc + 1 = pc') (n : Nat) (hn : n < 4) (hz : z = (n : Int)) (k : gW p l e R s m args below meth c D CL A nL Q cells slots L (wd cd ad (u2 S 46 n x) f0) pc' lv (st)) : gW p l e R s m args below meth c D CL A nL Q cells slots L (wd cd ad S f0) pc lv (iv x :: iv z :: .ref (ad 46) :: st) := by
  subst hz
  refine g_iast C (t0 := 0) hd pc' hp (G.1 46 (by decide)) (at_46 G) rfl (by omega) (by omega) ⟨by omega, by omega⟩ ?_
  exact (show wd cd ad (u2 S 46 n x) f0 = _ from (wd_up (cd := cd) (S := S) (f0 := f0) G 46 (by decide) (updI (S 46) n x)).symm) ▸ k
theorem ln_47 (C : gC p s m args c D CL (TY cd) A cc own nL) (G : LO ad L) (hd : decode cc pc = .ok (.arraylength, 1)) (pc' : Nat) (hp : pc + 1 = pc') (k : gW p l e R s m args below meth c D CL A nL Q cells slots L (wd cd ad S f0) pc' lv (iv 1 :: st)) : gW p l e R s m args below meth c D CL A nL Q cells slots L (wd cd ad S f0) pc lv (.ref (ad 47) :: st) := g_alen C (t0 := 1) hd pc' hp (G.1 47 (by decide)) (at_47 G) rfl k
theorem ld_47 (C : gC p s m args c D CL (TY cd) A cc own nL) (G : LO ad L) {z : Int} (hd : decode cc pc = .ok (.laload, 1)) (pc' : Nat) (hp : pc + 1 = pc') (n : Nat) (hn : n < 1) (hz : z = (n : Int)) (k : gW p l e R s m args below meth c D CL A nL Q cells slots L (wd cd ad S f0) pc' lv (jv (S 47 n) :: st)) : gW p l e R s m args below meth c D CL A nL Q cells slots L (wd cd ad S f0) pc lv (iv z :: .ref (ad 47) :: st) := by
  subst hz
  exact g_lald C (t0 := 1) hd pc' hp (G.1 47 (by decide)) (at_47 G) rfl (by omega) (by omega) ⟨by omega, by omega⟩ k
theorem st_47 (C : gC p s m args c D CL (TY cd) A cc own nL) (G : LO ad L) {z x : Int} (hd : decode cc pc = .ok (.lastore, 1)) (pc' : Nat) (hp : pc + 1 = pc') (n : Nat) (hn : n < 1) (hz : z = (n : Int)) (k : gW p l e R s m args below meth c D CL A nL Q cells slots L (wd cd ad (u2 S 47 n x) f0) pc' lv (st)) : gW p l e R s m args below meth c D CL A nL Q cells slots L (wd cd ad S f0) pc lv (jv x :: iv z :: .ref (ad 47) :: st) := by
  subst hz
  refine g_last C (t0 := 1) hd pc' hp (G.1 47 (by decide)) (at_47 G) rfl (by omega) (by omega) ⟨by omega, by omega⟩ ?_
  exact (show wd cd ad (u2 S 47 n x) f0 = _ from (wd_up (cd := cd) (S := S) (f0 := f0) G 47 (by decide) (updI (S 47) n x)).symm) ▸ k
theorem ln_15 (C : gC p s m args c D CL (TY cd) A cc own nL) (G : LO ad L) (hd : decode cc pc = .ok (.arraylength, 1)) (pc' : Nat) (hp : pc + 1 = pc') (i : Nat) (hi : i < 4) (k : gW p l e R s m args below meth c D CL A nL Q cells slots L (wd cd ad S f0) pc' lv (iv 8 :: st)) : gW p l e R s m args below meth c D CL A nL Q cells slots L (wd cd ad S f0) pc lv (.ref (ad (15 + i)) :: st) := g_alen C (t0 := 0) hd pc' hp (G.1 (15 + i) (by omega)) (at_15 G i hi) rfl k
theorem ld_15 (C : gC p s m args c D CL (TY cd) A cc own nL) (G : LO ad L) {z : Int} (hd : decode cc pc = .ok (.iaload, 1)) (pc' : Nat) (hp : pc + 1 = pc') (i : Nat) (hi : i < 4) (n : Nat) (hn : n < 8) (hz : z = (n : Int)) (k : gW p l e R s m args below meth c D CL A nL Q cells slots L (wd cd ad S f0) pc' lv (iv (S (15 + i) n) :: st)) : gW p l e R s m args below meth c D CL A nL Q cells slots L (wd cd ad S f0) pc lv (iv z :: .ref (ad (15 + i)) :: st) := by
  subst hz
  exact g_iald C (t0 := 0) hd pc' hp (G.1 (15 + i) (by omega)) (at_15 G i hi) rfl (by omega) (by omega) ⟨by omega, by omega⟩ k
theorem st_15 (C : gC p s m args c D CL (TY cd) A cc own nL) (G : LO ad L) {z x : Int} (hd : decode cc pc = .ok (.iastore, 1)) (pc' : Nat) (hp : pc + 1 = pc') (i : Nat) (hi : i < 4) (n : Nat) (hn : n < 8) (hz : z = (n : Int)) (k : gW p l e R s m args below meth c D CL A nL Q cells slots L (wd cd ad (u2 S (15 + i) n x) f0) pc' lv (st)) : gW p l e R s m args below meth c D CL A nL Q cells slots L (wd cd ad S f0) pc lv (iv x :: iv z :: .ref (ad (15 + i)) :: st) := by
  subst hz
  refine g_iast C (t0 := 0) hd pc' hp (G.1 (15 + i) (by omega)) (at_15 G i hi) rfl (by omega) (by omega) ⟨by omega, by omega⟩ ?_
  have h9 := wd_up (cd := cd) (S := S) (f0 := f0) G (15 + i) (by omega) (updI (S (15 + i)) n x)
  rw [mk_15 i hi] at h9
  exact (show wd cd ad (u2 S (15 + i) n x) f0 = _ from h9.symm) ▸ k
theorem ln_19 (C : gC p s m args c D CL (TY cd) A cc own nL) (G : LO ad L) (hd : decode cc pc = .ok (.arraylength, 1)) (pc' : Nat) (hp : pc + 1 = pc') (i : Nat) (hi : i < 4) (k : gW p l e R s m args below meth c D CL A nL Q cells slots L (wd cd ad S f0) pc' lv (iv 8 :: st)) : gW p l e R s m args below meth c D CL A nL Q cells slots L (wd cd ad S f0) pc lv (.ref (ad (19 + i)) :: st) := g_alen C (t0 := 1) hd pc' hp (G.1 (19 + i) (by omega)) (at_19 G i hi) rfl k
theorem ld_19 (C : gC p s m args c D CL (TY cd) A cc own nL) (G : LO ad L) {z : Int} (hd : decode cc pc = .ok (.laload, 1)) (pc' : Nat) (hp : pc + 1 = pc') (i : Nat) (hi : i < 4) (n : Nat) (hn : n < 8) (hz : z = (n : Int)) (k : gW p l e R s m args below meth c D CL A nL Q cells slots L (wd cd ad S f0) pc' lv (jv (S (19 + i) n) :: st)) : gW p l e R s m args below meth c D CL A nL Q cells slots L (wd cd ad S f0) pc lv (iv z :: .ref (ad (19 + i)) :: st) := by
  subst hz
  exact g_lald C (t0 := 1) hd pc' hp (G.1 (19 + i) (by omega)) (at_19 G i hi) rfl (by omega) (by omega) ⟨by omega, by omega⟩ k
theorem st_19 (C : gC p s m args c D CL (TY cd) A cc own nL) (G : LO ad L) {z x : Int} (hd : decode cc pc = .ok (.lastore, 1)) (pc' : Nat) (hp : pc + 1 = pc') (i : Nat) (hi : i < 4) (n : Nat) (hn : n < 8) (hz : z = (n : Int)) (k : gW p l e R s m args below meth c D CL A nL Q cells slots L (wd cd ad (u2 S (19 + i) n x) f0) pc' lv (st)) : gW p l e R s m args below meth c D CL A nL Q cells slots L (wd cd ad S f0) pc lv (jv x :: iv z :: .ref (ad (19 + i)) :: st) := by
  subst hz
  refine g_last C (t0 := 1) hd pc' hp (G.1 (19 + i) (by omega)) (at_19 G i hi) rfl (by omega) (by omega) ⟨by omega, by omega⟩ ?_
  have h9 := wd_up (cd := cd) (S := S) (f0 := f0) G (19 + i) (by omega) (updI (S (19 + i)) n x)
  rw [mk_19 i hi] at h9
  exact (show wd cd ad (u2 S (19 + i) n x) f0 = _ from h9.symm) ▸ k
theorem ln_28 (C : gC p s m args c D CL (TY cd) A cc own nL) (G : LO ad L) (hd : decode cc pc = .ok (.arraylength, 1)) (pc' : Nat) (hp : pc + 1 = pc') (i : Nat) (hi : i < 5) (k : gW p l e R s m args below meth c D CL A nL Q cells slots L (wd cd ad S f0) pc' lv (iv 8 :: st)) : gW p l e R s m args below meth c D CL A nL Q cells slots L (wd cd ad S f0) pc lv (.ref (ad (28 + i)) :: st) := g_alen C (t0 := 1) hd pc' hp (G.1 (28 + i) (by omega)) (at_28 G i hi) rfl k
theorem ld_28 (C : gC p s m args c D CL (TY cd) A cc own nL) (G : LO ad L) {z : Int} (hd : decode cc pc = .ok (.laload, 1)) (pc' : Nat) (hp : pc + 1 = pc') (i : Nat) (hi : i < 5) (n : Nat) (hn : n < 8) (hz : z = (n : Int)) (k : gW p l e R s m args below meth c D CL A nL Q cells slots L (wd cd ad S f0) pc' lv (jv (S (28 + i) n) :: st)) : gW p l e R s m args below meth c D CL A nL Q cells slots L (wd cd ad S f0) pc lv (iv z :: .ref (ad (28 + i)) :: st) := by
  subst hz
  exact g_lald C (t0 := 1) hd pc' hp (G.1 (28 + i) (by omega)) (at_28 G i hi) rfl (by omega) (by omega) ⟨by omega, by omega⟩ k
theorem st_28 (C : gC p s m args c D CL (TY cd) A cc own nL) (G : LO ad L) {z x : Int} (hd : decode cc pc = .ok (.lastore, 1)) (pc' : Nat) (hp : pc + 1 = pc') (i : Nat) (hi : i < 5) (n : Nat) (hn : n < 8) (hz : z = (n : Int)) (k : gW p l e R s m args below meth c D CL A nL Q cells slots L (wd cd ad (u2 S (28 + i) n x) f0) pc' lv (st)) : gW p l e R s m args below meth c D CL A nL Q cells slots L (wd cd ad S f0) pc lv (jv x :: iv z :: .ref (ad (28 + i)) :: st) := by
  subst hz
  refine g_last C (t0 := 1) hd pc' hp (G.1 (28 + i) (by omega)) (at_28 G i hi) rfl (by omega) (by omega) ⟨by omega, by omega⟩ ?_
  have h9 := wd_up (cd := cd) (S := S) (f0 := f0) G (28 + i) (by omega) (updI (S (28 + i)) n x)
  rw [mk_28 i hi] at h9
  exact (show wd cd ad (u2 S (28 + i) n x) f0 = _ from h9.symm) ▸ k
theorem ln_4 (C : gC p s m args c D CL (TY cd) A cc own nL) (G : LO ad L) (hd : decode cc pc = .ok (.arraylength, 1)) (pc' : Nat) (hp : pc + 1 = pc') (k : gW p l e R s m args below meth c D CL A nL Q cells slots L (wd cd ad S f0) pc' lv (iv 4 :: st)) : gW p l e R s m args below meth c D CL A nL Q cells slots L (wd cd ad S f0) pc lv (.ref (ad 4) :: st) := g_alen C (t0 := 2) hd pc' hp (G.1 4 (by decide)) (at_4 G) rfl k
theorem ld_4 (C : gC p s m args c D CL (TY cd) A cc own nL) (G : LO ad L) {z : Int} (hd : decode cc pc = .ok (.aaload, 1)) (pc' : Nat) (hp : pc + 1 = pc') (n : Nat) (hn : n < 4) (hz : z = (n : Int)) (k : gW p l e R s m args below meth c D CL A nL Q cells slots L (wd cd ad S f0) pc' lv (.ref (ad (11 + n)) :: st)) : gW p l e R s m args below meth c D CL A nL Q cells slots L (wd cd ad S f0) pc lv (iv z :: .ref (ad 4) :: st) := by
  subst hz
  exact g_aald C (t0 := 2) hd pc' hp (G.1 4 (by decide)) (at_4 G) rfl (by omega) (by omega) ⟨by omega, by omega⟩ rfl k
theorem ln_10 (C : gC p s m args c D CL (TY cd) A cc own nL) (G : LO ad L) (hd : decode cc pc = .ok (.arraylength, 1)) (pc' : Nat) (hp : pc + 1 = pc') (k : gW p l e R s m args below meth c D CL A nL Q cells slots L (wd cd ad S f0) pc' lv (iv 5 :: st)) : gW p l e R s m args below meth c D CL A nL Q cells slots L (wd cd ad S f0) pc lv (.ref (ad 10) :: st) := g_alen C (t0 := 3) hd pc' hp (G.1 10 (by decide)) (at_10 G) rfl k
theorem ld_10 (C : gC p s m args c D CL (TY cd) A cc own nL) (G : LO ad L) {z : Int} (hd : decode cc pc = .ok (.aaload, 1)) (pc' : Nat) (hp : pc + 1 = pc') (n : Nat) (hn : n < 5) (hz : z = (n : Int)) (k : gW p l e R s m args below meth c D CL A nL Q cells slots L (wd cd ad S f0) pc' lv (.ref (ad (23 + n)) :: st)) : gW p l e R s m args below meth c D CL A nL Q cells slots L (wd cd ad S f0) pc lv (iv z :: .ref (ad 10) :: st) := by
  subst hz
  exact g_aald C (t0 := 3) hd pc' hp (G.1 10 (by decide)) (at_10 G) rfl (by omega) (by omega) ⟨by omega, by omega⟩ rfl k
end LROW
end
section
section FC
variable {p : Program} {l : Launch} {e : Env} {R : Room} {s : State} {m : MethodId} {args : Array Value} {below : List Frame} {meth : Method} {c : Code} {D : va_G} {A : Nat → Prop} {nL : Nat} {Q : State → Prop} {cells slots : Nat} {L : List Nat} {f f' : Nat → va_E} {pc : Nat} {lv : List (Nat × Value)} {cc : ByteArray} {own : String} {cd : Nat → ClassId}
variable {mc ms sz : Nat} {st0 rest As : List Value} {y : MethodName} {b : ByteArray} {maxL : Nat} {ret : Option FieldType} {rm : Room} {px px0 : String → Prop} {ok : Prop} {v : Value}
def FM (l : Launch) (y : MethodName) (b : ByteArray) (maxL : Nat) (ret : Option FieldType) (rm : Room) (D : va_G) (cd : Nat → ClassId) (L : List Nat) (f : Nat → va_E) (av : List Value) (v : Option Value) (f' : Nat → va_E) : Prop :=
  gMet l y b maxL ret rm D CL (TY cd) L f av (fun r L' g => r = v ∧ L' = L ∧ g = f')
def FX (l : Launch) (y : MethodName) (b : ByteArray) (maxL : Nat) (ret : Option FieldType) (rm : Room) (D : va_G) (cd : Nat → ClassId) (L : List Nat) (f : Nat → va_E) (av : List Value) (ok : Prop) (v : Option Value) (f' : Nat → va_E) (px : String → Prop) : Prop :=
  gXM l y b maxL ret rm D CL (TY cd) L f av (fun r L' g => ok ∧ r = v ∧ L' = L ∧ g = f') px
theorem fcS0 (C : gC p s m args c D CL (TY cd) A cc own nL) {ix : Nat} (hd : decode cc pc = .ok (.invokestatic ix, 3)) (pc' : Nat) (hp : pc + 3 = pc') (M : FM l y b maxL ret rm D cd L f As none f') (hw : gwS own ix y) (hcode : Cond.code y b maxL ret ∈ TB) (hown : y.cls = own) (n : Nat) (hy : gY y n = true) (hlen : As.length = n) (cs : Nat) (hcs : cells + rm.cells = cs) (ss : Nat) (hss : slots + rm.slots = ss) (hR : gR rm R maxL cells slots = true) (hst : st0 = As.reverse ++ rest) (hrest : (rest.map fun v => v.category).sum ≤ 8) (k : gW p l e R s m args below meth c D CL A nL Q cs ss L f' pc' lv (rest)) : gW p l e R s m args below meth c D CL A nL Q cells slots L f pc lv (st0) := by
  subst hcs; subst hss
  refine g_callS C M hd pc' hp hw hcode hown n hy hlen hR hst hrest (fun r L' g q => ?_)
  obtain ⟨rfl, rfl, rfl⟩ := q
  exact k
theorem fcS1 (C : gC p s m args c D CL (TY cd) A cc own nL) {ix : Nat} (hd : decode cc pc = .ok (.invokestatic ix, 3)) (pc' : Nat) (hp : pc + 3 = pc') (M : FM l y b maxL ret rm D cd L f As (some v) f') (hw : gwS own ix y) (hcode : Cond.code y b maxL ret ∈ TB) (hown : y.cls = own) (n : Nat) (hy : gY y n = true) (hlen : As.length = n) (cs : Nat) (hcs : cells + rm.cells = cs) (ss : Nat) (hss : slots + rm.slots = ss) (hR : gR rm R maxL cells slots = true) (hst : st0 = As.reverse ++ rest) (hrest : (rest.map fun v => v.category).sum ≤ 8) (k : gW p l e R s m args below meth c D CL A nL Q cs ss L f' pc' lv (v :: rest)) : gW p l e R s m args below meth c D CL A nL Q cells slots L f pc lv (st0) := by
  subst hcs; subst hss
  refine g_callS C M hd pc' hp hw hcode hown n hy hlen hR hst hrest (fun r L' g q => ?_)
  obtain ⟨rfl, rfl, rfl⟩ := q
  exact k
theorem fcV0 (C : gC p s m args c D CL (TY cd) A cc own nL) {cn : String} {T : u_T} {N ci a : Nat} {fs : List Value} {ix : Nat} (hd : decode cc pc = .ok (.invokevirtual ix, 3)) (pc' : Nat) (hp : pc + 3 = pc') (M : FM l y b maxL ret rm D cd L f (.ref a :: As) none f') (hc0 : CL[ci]? = some (cn, T, N)) (ha : a ∈ L) (he : f a = .inr (ci, fs)) (hw : gwV own ix cn y) (hcode : Cond.code y b maxL ret ∈ TB) (hown : y.cls = cn) (n : Nat) (hy : gY y n = true) (hlen : As.length = n) (cs : Nat) (hcs : cells + rm.cells = cs) (ss : Nat) (hss : slots + rm.slots = ss) (hR : gR rm R maxL cells slots = true) (hst : st0 = As.reverse ++ .ref a :: rest) (hrest : (rest.map fun v => v.category).sum ≤ 8) (k : gW p l e R s m args below meth c D CL A nL Q cs ss L f' pc' lv (rest)) : gW p l e R s m args below meth c D CL A nL Q cells slots L f pc lv (st0) := by
  subst hcs; subst hss
  refine g_callV C M hc0 ha he hd pc' hp hw hcode hown n hy hlen hR hst hrest (fun r L' g q => ?_)
  obtain ⟨rfl, rfl, rfl⟩ := q
  exact k
theorem fcV1 (C : gC p s m args c D CL (TY cd) A cc own nL) {cn : String} {T : u_T} {N ci a : Nat} {fs : List Value} {ix : Nat} (hd : decode cc pc = .ok (.invokevirtual ix, 3)) (pc' : Nat) (hp : pc + 3 = pc') (M : FM l y b maxL ret rm D cd L f (.ref a :: As) (some v) f') (hc0 : CL[ci]? = some (cn, T, N)) (ha : a ∈ L) (he : f a = .inr (ci, fs)) (hw : gwV own ix cn y) (hcode : Cond.code y b maxL ret ∈ TB) (hown : y.cls = cn) (n : Nat) (hy : gY y n = true) (hlen : As.length = n) (cs : Nat) (hcs : cells + rm.cells = cs) (ss : Nat) (hss : slots + rm.slots = ss) (hR : gR rm R maxL cells slots = true) (hst : st0 = As.reverse ++ .ref a :: rest) (hrest : (rest.map fun v => v.category).sum ≤ 8) (k : gW p l e R s m args below meth c D CL A nL Q cs ss L f' pc' lv (v :: rest)) : gW p l e R s m args below meth c D CL A nL Q cells slots L f pc lv (st0) := by
  subst hcs; subst hss
  refine g_callV C M hc0 ha he hd pc' hp hw hcode hown n hy hlen hR hst hrest (fun r L' g q => ?_)
  obtain ⟨rfl, rfl, rfl⟩ := q
  exact k
theorem fcN0 (C : gC p s m args c D CL (TY cd) A cc own nL) {host : String} {ix : Nat} (hd : decode cc pc = .ok (.invokestatic ix, 3)) (pc' : Nat) (hp : pc + 3 = pc') (M : FM l y b maxL ret rm D cd L f As none f') (hn9 : va_Nw (.methodLinkNest own ix y host) s) (hw : Cond.initialized y.cls ∈ TB ∧ Cond.static y ∈ TB) (hcode : Cond.code y b maxL ret ∈ TB) (n : Nat) (hy : gY y n = true) (hlen : As.length = n) (cs : Nat) (hcs : cells + rm.cells = cs) (ss : Nat) (hss : slots + rm.slots = ss) (hR : gR rm R maxL cells slots = true) (hst : st0 = As.reverse ++ rest) (hrest : (rest.map fun v => v.category).sum ≤ 8) (k : gW p l e R s m args below meth c D CL A nL Q cs ss L f' pc' lv (rest)) : gW p l e R s m args below meth c D CL A nL Q cells slots L f pc lv (st0) := by
  subst hcs; subst hss
  subst hp
  intro H locs ls h1 h2 h3 h4
  have hG : GoodIn TB (Cond.code y b maxL ret :: TB) := tb_in (fun w h => by
    rcases List.mem_cons.mp h with rfl | h
    · exact hcode
    · exact h)
  have hr := gR_ok hR
  refine w_call C (a9 := As.toArray) (va_runSN (As := As) (rest := rest) C.1 (M H.size) ⟨va_cnB n C.1.2.2.2.2 hG rfl rfl rfl hn9 (C.1.2.2.2.2 _ hw.1) (gY_ok hy) hr.1, C.1.2.2.2.2 _ hw.2, trivial⟩ ⟨gPre_blind, fun U hU hW => ⟨rfl, gPre_of C h1 h2 h3 hU hW⟩⟩ rfl hlen h4.1 hst (lv_room hrest) hd hr.2) h2 h3 (fun r L' g H1 locs1 hp g1 g2 g3 => ?_)
  obtain ⟨rfl, rfl, rfl⟩ := hp
  exact k H1 locs1 ls g1 g2 g3 h4
theorem fcN1 (C : gC p s m args c D CL (TY cd) A cc own nL) {host : String} {ix : Nat} (hd : decode cc pc = .ok (.invokestatic ix, 3)) (pc' : Nat) (hp : pc + 3 = pc') (M : FM l y b maxL ret rm D cd L f As (some v) f') (hn9 : va_Nw (.methodLinkNest own ix y host) s) (hw : Cond.initialized y.cls ∈ TB ∧ Cond.static y ∈ TB) (hcode : Cond.code y b maxL ret ∈ TB) (n : Nat) (hy : gY y n = true) (hlen : As.length = n) (cs : Nat) (hcs : cells + rm.cells = cs) (ss : Nat) (hss : slots + rm.slots = ss) (hR : gR rm R maxL cells slots = true) (hst : st0 = As.reverse ++ rest) (hrest : (rest.map fun v => v.category).sum ≤ 8) (k : gW p l e R s m args below meth c D CL A nL Q cs ss L f' pc' lv (v :: rest)) : gW p l e R s m args below meth c D CL A nL Q cells slots L f pc lv (st0) := by
  subst hcs; subst hss
  subst hp
  intro H locs ls h1 h2 h3 h4
  have hG : GoodIn TB (Cond.code y b maxL ret :: TB) := tb_in (fun w h => by
    rcases List.mem_cons.mp h with rfl | h
    · exact hcode
    · exact h)
  have hr := gR_ok hR
  refine w_call C (a9 := As.toArray) (va_runSN (As := As) (rest := rest) C.1 (M H.size) ⟨va_cnB n C.1.2.2.2.2 hG rfl rfl rfl hn9 (C.1.2.2.2.2 _ hw.1) (gY_ok hy) hr.1, C.1.2.2.2.2 _ hw.2, trivial⟩ ⟨gPre_blind, fun U hU hW => ⟨rfl, gPre_of C h1 h2 h3 hU hW⟩⟩ rfl hlen h4.1 hst (lv_room hrest) hd hr.2) h2 h3 (fun r L' g H1 locs1 hp g1 g2 g3 => ?_)
  obtain ⟨rfl, rfl, rfl⟩ := hp
  exact k H1 locs1 ls g1 g2 g3 h4
theorem fxS0 (C : gC p s m args c D CL (TY cd) A cc own nL) (hA : A = gA L sz) (hsz : s.heap.size = sz) (hnt : ∀ x ∈ c.exceptionTable.toList, False) (hlk : meth.locks = false) {ix : Nat} {Qc : Array Value → State → Outcome → State → Prop} (hd : decode cc pc = .ok (.invokestatic ix, 3)) (pc' : Nat) (hp : pc + 3 = pc') (M : FX l y b maxL ret rm D cd L f As ok none f' px) (hw : gwS own ix y) (hcode : Cond.code y b maxL ret ∈ TB) (hown : y.cls = own) (n : Nat) (hy : gY y n = true) (hlen : As.length = n) (cs : Nat) (hcs : cells + rm.cells = cs) (ss : Nat) (hss : slots + rm.slots = ss) (hR : gR rm R maxL cells slots = true) (hst : st0 = As.reverse ++ rest) (hrest : (rest.map fun v => v.category).sum ≤ 8) (hpx : ∀ E, px E → px0 E) (hc : cs ≤ mc) (hs : ss ≤ ms) (k : ok → gW p l e R s m args below meth c D CL A nL (vx_MQ below Qc (gQx D CL L f sz px0) args s mc ms (gA L sz)) cs ss L f' pc' lv (rest)) : gW p l e R s m args below meth c D CL A nL (vx_MQ below Qc (gQx D CL L f sz px0) args s mc ms (gA L sz)) cells slots L f pc lv (st0) := by
  subst hcs; subst hss
  refine gx_callS C hA hsz hnt hlk M hd pc' hp hw hcode hown n hy hlen hR hst hrest hpx hc hs (fun r L' g q => ?_)
  obtain ⟨hok, rfl, rfl, rfl⟩ := q
  exact k hok
theorem fxS1 (C : gC p s m args c D CL (TY cd) A cc own nL) (hA : A = gA L sz) (hsz : s.heap.size = sz) (hnt : ∀ x ∈ c.exceptionTable.toList, False) (hlk : meth.locks = false) {ix : Nat} {Qc : Array Value → State → Outcome → State → Prop} (hd : decode cc pc = .ok (.invokestatic ix, 3)) (pc' : Nat) (hp : pc + 3 = pc') (M : FX l y b maxL ret rm D cd L f As ok (some v) f' px) (hw : gwS own ix y) (hcode : Cond.code y b maxL ret ∈ TB) (hown : y.cls = own) (n : Nat) (hy : gY y n = true) (hlen : As.length = n) (cs : Nat) (hcs : cells + rm.cells = cs) (ss : Nat) (hss : slots + rm.slots = ss) (hR : gR rm R maxL cells slots = true) (hst : st0 = As.reverse ++ rest) (hrest : (rest.map fun v => v.category).sum ≤ 8) (hpx : ∀ E, px E → px0 E) (hc : cs ≤ mc) (hs : ss ≤ ms) (k : ok → gW p l e R s m args below meth c D CL A nL (vx_MQ below Qc (gQx D CL L f sz px0) args s mc ms (gA L sz)) cs ss L f' pc' lv (v :: rest)) : gW p l e R s m args below meth c D CL A nL (vx_MQ below Qc (gQx D CL L f sz px0) args s mc ms (gA L sz)) cells slots L f pc lv (st0) := by
  subst hcs; subst hss
  refine gx_callS C hA hsz hnt hlk M hd pc' hp hw hcode hown n hy hlen hR hst hrest hpx hc hs (fun r L' g q => ?_)
  obtain ⟨hok, rfl, rfl, rfl⟩ := q
  exact k hok
theorem fxV0 (C : gC p s m args c D CL (TY cd) A cc own nL) (hA : A = gA L sz) (hsz : s.heap.size = sz) (hnt : ∀ x ∈ c.exceptionTable.toList, False) (hlk : meth.locks = false) {cn : String} {T : u_T} {N ci a : Nat} {fs : List Value} {ix : Nat} {Qc : Array Value → State → Outcome → State → Prop} (hd : decode cc pc = .ok (.invokevirtual ix, 3)) (pc' : Nat) (hp : pc + 3 = pc') (M : FX l y b maxL ret rm D cd L f (.ref a :: As) ok none f' px) (hc0 : CL[ci]? = some (cn, T, N)) (ha : a ∈ L) (he : f a = .inr (ci, fs)) (hw : gwV own ix cn y) (hcode : Cond.code y b maxL ret ∈ TB) (hown : y.cls = cn) (n : Nat) (hy : gY y n = true) (hlen : As.length = n) (cs : Nat) (hcs : cells + rm.cells = cs) (ss : Nat) (hss : slots + rm.slots = ss) (hR : gR rm R maxL cells slots = true) (hst : st0 = As.reverse ++ .ref a :: rest) (hrest : (rest.map fun v => v.category).sum ≤ 8) (hpx : ∀ E, px E → px0 E) (hc : cs ≤ mc) (hs : ss ≤ ms) (k : ok → gW p l e R s m args below meth c D CL A nL (vx_MQ below Qc (gQx D CL L f sz px0) args s mc ms (gA L sz)) cs ss L f' pc' lv (rest)) : gW p l e R s m args below meth c D CL A nL (vx_MQ below Qc (gQx D CL L f sz px0) args s mc ms (gA L sz)) cells slots L f pc lv (st0) := by
  subst hcs; subst hss
  refine gx_callV C hA hsz hnt hlk M hc0 ha he hd pc' hp hw hcode hown n hy hlen hR hst hrest hpx hc hs (fun r L' g q => ?_)
  obtain ⟨hok, rfl, rfl, rfl⟩ := q
  exact k hok
theorem fxV1 (C : gC p s m args c D CL (TY cd) A cc own nL) (hA : A = gA L sz) (hsz : s.heap.size = sz) (hnt : ∀ x ∈ c.exceptionTable.toList, False) (hlk : meth.locks = false) {cn : String} {T : u_T} {N ci a : Nat} {fs : List Value} {ix : Nat} {Qc : Array Value → State → Outcome → State → Prop} (hd : decode cc pc = .ok (.invokevirtual ix, 3)) (pc' : Nat) (hp : pc + 3 = pc') (M : FX l y b maxL ret rm D cd L f (.ref a :: As) ok (some v) f' px) (hc0 : CL[ci]? = some (cn, T, N)) (ha : a ∈ L) (he : f a = .inr (ci, fs)) (hw : gwV own ix cn y) (hcode : Cond.code y b maxL ret ∈ TB) (hown : y.cls = cn) (n : Nat) (hy : gY y n = true) (hlen : As.length = n) (cs : Nat) (hcs : cells + rm.cells = cs) (ss : Nat) (hss : slots + rm.slots = ss) (hR : gR rm R maxL cells slots = true) (hst : st0 = As.reverse ++ .ref a :: rest) (hrest : (rest.map fun v => v.category).sum ≤ 8) (hpx : ∀ E, px E → px0 E) (hc : cs ≤ mc) (hs : ss ≤ ms) (k : ok → gW p l e R s m args below meth c D CL A nL (vx_MQ below Qc (gQx D CL L f sz px0) args s mc ms (gA L sz)) cs ss L f' pc' lv (v :: rest)) : gW p l e R s m args below meth c D CL A nL (vx_MQ below Qc (gQx D CL L f sz px0) args s mc ms (gA L sz)) cells slots L f pc lv (st0) := by
  subst hcs; subst hss
  refine gx_callV C hA hsz hnt hlk M hc0 ha he hd pc' hp hw hcode hown n hy hlen hR hst hrest hpx hc hs (fun r L' g q => ?_)
  obtain ⟨hok, rfl, rfl, rfl⟩ := q
  exact k hok
end FC
end
section
def bi (p : Prop) [Decidable p] : Int := if p then 1 else 0
theorem bi_01 (p : Prop) [Decidable p] : bi p = 0 ∨ bi p = 1 := by unfold bi; split <;> simp
theorem bi_r (p : Prop) [Decidable p] : r32 (bi p) := by rcases bi_01 p with h | h <;> rw [h] <;> exact ⟨by decide, by decide⟩
theorem bi_pos {p : Prop} [Decidable p] (h : p) : bi p = 1 := if_pos h
theorem bi_neg {p : Prop} [Decidable p] (h : ¬ p) : bi p = 0 := if_neg h
theorem bi_t {p : Prop} [Decidable p] (h : ¬ bi p = 0) : p := Decidable.byContradiction (fun q => h (bi_neg q))
theorem bi_f {p : Prop} [Decidable p] (h : bi p = 0) : ¬ p := fun q => by rw [bi_pos q] at h; cases h
theorem zi_t {p : Prop} [Decidable p] (h : p) : some (iv 1) = some (iv (bi p)) := by rw [bi_pos h]
theorem zi_f {p : Prop} [Decidable p] (h : ¬ p) : some (iv 0) = some (iv (bi p)) := by rw [bi_neg h]
theorem vi_e {a b : Int} (h : a = b) : some (iv a) = some (iv b) := by rw [h]
theorem vj_e {a b : Int} (h : a = b) : some (jv a) = some (jv b) := by rw [h]
abbrev EXN : List String := ["java/lang/RuntimeException", "java/lang/Exception"]
/-- the first n places of cell k set to g -/
def uA (S : Nat → Nat → Int) (k n : Nat) (g : Nat → Int) : Nat → Nat → Int := uR S k (fun j => if j < n then g j else S k j)
theorem uA_0 (S : Nat → Nat → Int) (k : Nat) (g : Nat → Int) : uA S k 0 g = S := by
  funext k' j
  unfold uA uR
  split
  · next h => subst h; simp
  · rfl
theorem uA_s (S : Nat → Nat → Int) (k n : Nat) (g : Nat → Int) : u2 (uA S k n g) k n (g n) = uA S k (n + 1) g := by
  funext k' j
  unfold u2 uA uR updI
  by_cases h : k' = k
  · subst h
    simp only [if_true]
    by_cases h1 : j = n
    · subst h1; simp
    · simp only [h1, if_false]
      by_cases h2 : j < n
      · rw [if_pos h2, if_pos (by omega)]
      · rw [if_neg h2, if_neg (by omega)]
  · simp only [h, if_false]
theorem uA_ne {S : Nat → Nat → Int} {k n k' : Nat} {g : Nat → Int} (h : k' ≠ k) : uA S k n g k' = S k' := by unfold uA uR; rw [if_neg h]
theorem uA_ge {S : Nat → Nat → Int} {k n j : Nat} {g : Nat → Int} (h : n ≤ j) : uA S k n g k j = S k j := by unfold uA uR; simp [Nat.not_lt.mpr h]
theorem uA_lt {S : Nat → Nat → Int} {k n j : Nat} {g : Nat → Int} (h : j < n) : uA S k n g k j = g j := by unfold uA uR; simp [h]
theorem u2_ne {S : Nat → Nat → Int} {k j k' : Nat} {z : Int} (h : k' ≠ k) : u2 S k j z k' = S k' := by unfold u2; rw [if_neg h]
theorem u2_eq {S : Nat → Nat → Int} {k j : Nat} {z : Int} : u2 S k j z k j = z := by unfold u2 updI; simp
theorem u2_j {S : Nat → Nat → Int} {k j i : Nat} {z : Int} (h : i ≠ j) : u2 S k j z k i = S k i := by unfold u2 updI; simp [h]
theorem wM_max_s : Cond.static Lib.Math.max.name ∈ TB := tb_mem (List.mem_of_getElem? (i := 437) (by decide +kernel)) rfl
set_option maxRecDepth 20000 in
theorem wM_max_c : Cond.code Lib.Math.max.name Lib.Math.max.code 2 (some .int) ∈ TB := tb_mem (List.mem_of_getElem? (i := 438) rfl) rfl
theorem wA_static : Cond.static arraycopyName ∈ TB := tb_mem (List.mem_of_getElem? (i := 440) (by decide +kernel)) rfl
theorem wA_native : Cond.native arraycopyName ∈ TB := tb_mem (List.mem_of_getElem? (i := 441) (by decide +kernel)) rfl
theorem wC_int : Cond.arrayClass .int ∈ TB := tb_mem (List.mem_of_getElem? (i := 55) (by decide +kernel)) rfl
theorem wC_long : Cond.arrayClass .long ∈ TB := tb_mem (List.mem_of_getElem? (i := 94) (by decide +kernel)) rfl
theorem wC_byte : Cond.arrayClass .byte ∈ TB := tb_mem (List.mem_of_getElem? (i := 273) (by decide +kernel)) rfl
theorem gy_P_init : gY y_P_init 0 = true := by decide +kernel
theorem gy_P_heat : gY y_P_heat 1 = true := by decide +kernel
theorem gy_P_present : gY y_P_present 3 = true := by decide +kernel
theorem gy_P_aim : gY y_P_aim 3 = true := by decide +kernel
theorem gy_P_kind : gY y_P_kind 3 = true := by decide +kernel
theorem gy_P_holds : gY y_P_holds 4 = true := by decide +kernel
theorem gy_P_yields : gY y_P_yields 3 = true := by decide +kernel
theorem gy_P_run : gY y_P_run 1 = true := by decide +kernel
theorem gy_P_steps : gY y_P_steps 1 = true := by decide +kernel
theorem gy_P_planned : gY y_P_planned 1 = true := by decide +kernel
theorem gy_P_order : gY y_P_order 1 = true := by decide +kernel
theorem gy_P_after : gY y_P_after 3 = true := by decide +kernel
theorem gy_P_add : gY y_P_add 0 = true := by decide +kernel
theorem gy_P_heatAt : gY y_P_heatAt 1 = true := by decide +kernel
theorem gy_P_requireIndex : gY y_P_requireIndex 1 = true := by decide +kernel
theorem gy_P_requireRange : gY y_P_requireRange 1 = true := by decide +kernel
theorem gy_P_requirePlan : gY y_P_requirePlan 0 = true := by decide +kernel
theorem gy_P_isWithin : gY y_P_isWithin 3 = true := by decide +kernel
theorem gy_P_isSpan : gY y_P_isSpan 2 = true := by decide +kernel
theorem gy_P_isKind : gY y_P_isKind 1 = true := by decide +kernel
theorem gy_P_isLowEnd : gY y_P_isLowEnd 1 = true := by decide +kernel
theorem gy_P_tell : gY y_P_tell 4 = true := by decide +kernel
theorem gy_P_countAddedBefore : gY y_P_countAddedBefore 1 = true := by decide +kernel
theorem gy_P_isAddedBefore : gY y_P_isAddedBefore 2 = true := by decide +kernel
theorem gy_P_heldByPlan : gY y_P_heldByPlan 1 = true := by decide +kernel
theorem gy_P_wholeByPlan : gY y_P_wholeByPlan 0 = true := by decide +kernel
theorem gy_P_roundedByPlan : gY y_P_roundedByPlan 1 = true := by decide +kernel
theorem gy_P_quotient : gY y_P_quotient 2 = true := by decide +kernel
theorem gy_P_commonDivisor : gY y_P_commonDivisor 2 = true := by decide +kernel
theorem gy_P_surplusAt : gY y_P_surplusAt 3 = true := by decide +kernel
theorem gy_M_init : gY y_M_init 0 = true := by decide +kernel
theorem gy_M_thrown : gY y_M_thrown 0 = true := by decide +kernel
theorem gy_M_in : gY y_M_in 3 = true := by decide +kernel
theorem gy_M_goes : gY y_M_goes 2 = true := by decide +kernel
theorem gy_M_isElement : gY y_M_isElement 1 = true := by decide +kernel
theorem gy_M_isKind : gY y_M_isKind 1 = true := by decide +kernel
theorem gy_M_areShares : gY y_M_areShares 2 = true := by decide +kernel
theorem gy_M_heat : gY y_M_heat 1 = true := by decide +kernel
theorem gy_M_present : gY y_M_present 3 = true := by decide +kernel
theorem gy_M_aim : gY y_M_aim 3 = true := by decide +kernel
theorem gy_M_kind : gY y_M_kind 3 = true := by decide +kernel
theorem gy_M_holds : gY y_M_holds 4 = true := by decide +kernel
theorem gy_M_yields : gY y_M_yields 3 = true := by decide +kernel
theorem gy_M_weight : gY y_M_weight 0 = true := by decide +kernel
theorem gy_M_cost : gY y_M_cost 0 = true := by decide +kernel
theorem gy_M_used : gY y_M_used 0 = true := by decide +kernel
theorem gy_M_cooling : gY y_M_cooling 0 = true := by decide +kernel
theorem gy_M_amount : gY y_M_amount 2 = true := by decide +kernel
theorem gy_M_isMet : gY y_M_isMet 1 = true := by decide +kernel
theorem gy_M_sets : gY y_M_sets 1 = true := by decide +kernel
theorem gy_M_run : gY y_M_run 1 = true := by decide +kernel
theorem gy_M_load : gY y_M_load 0 = true := by decide +kernel
theorem gy_M_steps : gY y_M_steps 1 = true := by decide +kernel
theorem gy_M_planned : gY y_M_planned 1 = true := by decide +kernel
theorem gy_M_order : gY y_M_order 1 = true := by decide +kernel
theorem gy_M_after : gY y_M_after 3 = true := by decide +kernel
theorem gy_M_add : gY y_M_add 0 = true := by decide +kernel
theorem gy_M_heatAt : gY y_M_heatAt 1 = true := by decide +kernel
theorem gy_A_init : gY y_A_init 0 = true := by decide +kernel
theorem gy_A_coolingOfStep : gY y_A_coolingOfStep 0 = true := by decide +kernel
theorem gy_A_heldInStepAt : gY y_A_heldInStepAt 1 = true := by decide +kernel
theorem gy_A_weighAgainst : gY y_A_weighAgainst 1 = true := by decide +kernel
theorem gy_E_init : gY y_E_init 0 = true := by decide +kernel
theorem gy_E_heldAt : gY y_E_heldAt 1 = true := by decide +kernel
theorem gy_E_surplusOfHeat : gY y_E_surplusOfHeat 1 = true := by decide +kernel
theorem gy_X_init : gY y_X_init 0 = true := by decide +kernel
theorem gy_X_becomeHeat : gY y_X_becomeHeat 2 = true := by decide +kernel
theorem gy_X_becomeLike : gY y_X_becomeLike 1 = true := by decide +kernel
theorem gy_X_takeStep : gY y_X_takeStep 2 = true := by decide +kernel
theorem gy_X_countMet : gY y_X_countMet 0 = true := by decide +kernel
theorem gy_N_init : gY y_N_init 0 = true := by decide +kernel
theorem gy_N_forget : gY y_N_forget 0 = true := by decide +kernel
theorem gy_N_isTaken : gY y_N_isTaken 1 = true := by decide +kernel
theorem gy_N_settle : gY y_N_settle 3 = true := by decide +kernel
theorem gy_S_init : gY y_S_init 0 = true := by decide +kernel
theorem gy_S_begin : gY y_S_begin 4 = true := by decide +kernel
theorem gy_S_tryKindsFrom : gY y_S_tryKindsFrom 3 = true := by decide +kernel
theorem gy_S_isWorthTrying : gY y_S_isWorthTrying 1 = true := by decide +kernel
theorem gy_S_judge : gY y_S_judge 1 = true := by decide +kernel
theorem gy_L_heat : gY y_L_heat 2 = true := by decide +kernel
theorem gy_L_present : gY y_L_present 4 = true := by decide +kernel
theorem gy_L_aim : gY y_L_aim 4 = true := by decide +kernel
theorem gy_L_kind : gY y_L_kind 5 = true := by decide +kernel
theorem gy_L_holds : gY y_L_holds 5 = true := by decide +kernel
theorem gy_L_yields : gY y_L_yields 4 = true := by decide +kernel
theorem gy_L_run : gY y_L_run 3 = true := by decide +kernel
theorem gy_L_steps : gY y_L_steps 3 = true := by decide +kernel
theorem gy_L_planned : gY y_L_planned 3 = true := by decide +kernel
theorem gy_L_order : gY y_L_order 3 = true := by decide +kernel
theorem gy_L_after : gY y_L_after 5 = true := by decide +kernel
theorem gy_L_add : gY y_L_add 2 = true := by decide +kernel
theorem gy_L_heatAt : gY y_L_heatAt 3 = true := by decide +kernel
theorem hat_48 {args : Array Value} {s : State} (hts : ∀ w ∈ TB, w.before args s = true) (hN : gN s) : ∀ w ∈ vx_atS "AlloyPlans" 48 xISE EXN, w.before args s = true :=
  vx_hat (B := [.castable xISE xISE, .declares ⟨"java/lang/RuntimeException", "<init>", "(Ljava/lang/String;)V"⟩, .declares ⟨"java/lang/Exception", "<init>", "(Ljava/lang/String;)V"⟩, .declares ⟨"java/lang/Throwable", "<init>", "(Ljava/lang/String;)V"⟩]) (fun w hw => hts w ((by decide +kernel : ∀ w ∈ (vx_atS "AlloyPlans" 48 xISE EXN).filter goodWord, w ∈ TB) w hw)) (by decide +kernel) (vx_c (va_Nw.use rfl (gN_n_cISE hN)) (vx_c (va_Nw.use rfl (gN_n_dRuntimeException hN)) (vx_c (va_Nw.use rfl (gN_n_dException hN)) (vx_c (va_Nw.use rfl (gN_n_dThrowable hN)) vx_n))))
theorem hgd_48 : ∀ w ∈ Cond.classLink "AlloyPlans" 44 xISE :: Cond.initialized xISE :: vx_atS "AlloyPlans" 48 xISE EXN, vx_ot w = true := by decide +kernel
theorem hat_89 {args : Array Value} {s : State} (hts : ∀ w ∈ TB, w.before args s = true) (hN : gN s) : ∀ w ∈ vx_atS "AlloyPlans" 89 xUOE EXN, w.before args s = true :=
  vx_hat (B := [.castable xUOE xUOE, .declares ⟨"java/lang/RuntimeException", "<init>", "(Ljava/lang/String;)V"⟩, .declares ⟨"java/lang/Exception", "<init>", "(Ljava/lang/String;)V"⟩, .declares ⟨"java/lang/Throwable", "<init>", "(Ljava/lang/String;)V"⟩]) (fun w hw => hts w ((by decide +kernel : ∀ w ∈ (vx_atS "AlloyPlans" 89 xUOE EXN).filter goodWord, w ∈ TB) w hw)) (by decide +kernel) (vx_c (va_Nw.use rfl (gN_n_cUOE hN)) (vx_c (va_Nw.use rfl (gN_n_dRuntimeException hN)) (vx_c (va_Nw.use rfl (gN_n_dException hN)) (vx_c (va_Nw.use rfl (gN_n_dThrowable hN)) vx_n))))
theorem hgd_89 : ∀ w ∈ Cond.classLink "AlloyPlans" 85 xUOE :: Cond.initialized xUOE :: vx_atS "AlloyPlans" 89 xUOE EXN, vx_ot w = true := by decide +kernel
theorem hat_179 {args : Array Value} {s : State} (hts : ∀ w ∈ TB, w.before args s = true) (hN : gN s) : ∀ w ∈ vx_atS "AlloyPlans" 179 xIOB EXN, w.before args s = true :=
  vx_hat (B := [.castable xIOB xIOB, .declares ⟨"java/lang/RuntimeException", "<init>", "(Ljava/lang/String;)V"⟩, .declares ⟨"java/lang/Exception", "<init>", "(Ljava/lang/String;)V"⟩, .declares ⟨"java/lang/Throwable", "<init>", "(Ljava/lang/String;)V"⟩]) (fun w hw => hts w ((by decide +kernel : ∀ w ∈ (vx_atS "AlloyPlans" 179 xIOB EXN).filter goodWord, w ∈ TB) w hw)) (by decide +kernel) (vx_c (va_Nw.use rfl (gN_n_cIOB hN)) (vx_c (va_Nw.use rfl (gN_n_dRuntimeException hN)) (vx_c (va_Nw.use rfl (gN_n_dException hN)) (vx_c (va_Nw.use rfl (gN_n_dThrowable hN)) vx_n))))
theorem hgd_179 : ∀ w ∈ Cond.classLink "AlloyPlans" 175 xIOB :: Cond.initialized xIOB :: vx_atS "AlloyPlans" 179 xIOB EXN, vx_ot w = true := by decide +kernel
theorem hat_184 {args : Array Value} {s : State} (hts : ∀ w ∈ TB, w.before args s = true) (hN : gN s) : ∀ w ∈ vx_atS "AlloyPlans" 184 xIAE EXN, w.before args s = true :=
  vx_hat (B := [.castable xIAE xIAE, .declares ⟨"java/lang/RuntimeException", "<init>", "(Ljava/lang/String;)V"⟩, .declares ⟨"java/lang/Exception", "<init>", "(Ljava/lang/String;)V"⟩, .declares ⟨"java/lang/Throwable", "<init>", "(Ljava/lang/String;)V"⟩]) (fun w hw => hts w ((by decide +kernel : ∀ w ∈ (vx_atS "AlloyPlans" 184 xIAE EXN).filter goodWord, w ∈ TB) w hw)) (by decide +kernel) (vx_c (va_Nw.use rfl (gN_n_cIAE hN)) (vx_c (va_Nw.use rfl (gN_n_dRuntimeException hN)) (vx_c (va_Nw.use rfl (gN_n_dException hN)) (vx_c (va_Nw.use rfl (gN_n_dThrowable hN)) vx_n))))
theorem hgd_184 : ∀ w ∈ Cond.classLink "AlloyPlans" 180 xIAE :: Cond.initialized xIAE :: vx_atS "AlloyPlans" 184 xIAE EXN, vx_ot w = true := by decide +kernel
end
section
def heldH (S : Nat → Nat → Int) (n : Nat) : Int := 1000 * S 1 0 * S 2 n
def surH (S : Nat → Nat → Int) (n : Nat) : Int := if Int.tmod (n : Int) 2 = 0 then heldH S n - 1000 * S 1 0 * S 3 n else 1000 * S 1 0 * S 3 n - heldH S n
def heldA (S : Nat → Nat → Int) (i n : Nat) : Int := S (11 + i) 1 * S (15 + i) n * S (11 + i) 3
def gainA (S : Nat → Nat → Int) (i n : Nat) : Int := if Int.tmod (n : Int) 2 = 0 then heldA S i n - 1000 * S (11 + i) 1 * S 3 n else 1000 * S (11 + i) 1 * S 3 n - heldA S i n
def cmet (g : Nat → Int) : Int := if g 0 < 0 then 0 else if g 1 < 0 then 0 else if g 2 < 0 then 1 else if g 3 < 0 then 1 else if g 4 < 0 then 2 else if g 5 < 0 then 2 else if g 6 < 0 then 3 else if g 7 < 0 then 3 else 4
/-- the sum of the first n of g -/
def sumN (g : Nat → Int) : Nat → Int
  | 0 => 0
  | n + 1 => sumN g n + g n
/-- how many of the first n have p -/
def cntN (p : Nat → Prop) [DecidablePred p] (n : Nat) : Int := sumN (fun j => bi (p j)) n
abbrev befA (S : Nat → Nat → Int) (i j : Nat) : Prop := 0 < S (11 + i) 4 - S (11 + j) 4 ∨ (S (11 + i) 4 - S (11 + j) 4 = 0 ∧ i < j)
def likeS (S : Nat → Nat → Int) (i j : Nat) : Nat → Nat → Int := uA (u2 (u2 (u2 S (23 + i) 0 (S (23 + j) 0)) (23 + i) 1 (S (23 + j) 1)) (23 + i) 2 (S (23 + j) 2)) (28 + i) 8 (S (28 + j))
def takeS (S : Nat → Nat → Int) (i j : Nat) (x : Int) : Nat → Nat → Int := uA (u2 (u2 (u2 S (23 + i) 0 (S (23 + i) 0 + S (11 + j) 0)) (23 + i) 1 (S (23 + i) 1 + (if x = 0 then 0 else 1))) (23 + i) 2 (S (23 + i) 2 - S (11 + j) 1 * S (11 + j) 4)) (28 + i) 8 (fun n => S (28 + i) n + S (19 + j) n)
section CP
variable {p : Program} {l : Launch} {e : Env} {R : Room} {s : State} {m : MethodId} {args : Array Value} {below : List Frame} {meth : Method} {c : Code} {D : va_G} {A : Nat → Prop} {nL : Nat} {Q : State → Prop} {cells slots : Nat} {L : List Nat} {pc : Nat} {lv : List (Nat × Value)} {st : List Value} {cc : ByteArray} {own : String} {cd : Nat → ClassId} {ad : Nat → Nat} {f0 : Nat → va_E} {S : Nat → Nat → Int}
theorem cpy_0 (g h : Nat → Int) (n : Nat) : va_cpy g h 0 0 n = fun j => if j < n then g j else h j := by
  funext j
  simp only [va_cpy, Nat.zero_add, Nat.sub_zero, Nat.zero_le, true_and]
theorem cp_28 (C : gC p s m args c D CL (TY cd) A cc own nL) (G : LO ad L) {ix : Nat} (hd : decode cc pc = .ok (.invokestatic ix, 3)) (pc' : Nat) (hp : pc + 3 = pc') (hw : gwC own ix) (i j : Nat) (hi : i < 5) (hj : j < 5) (hf : 1 ≤ R.frames) (hl : (st.map fun v => v.category).sum + (nativeFrameWords "java/lang/System" "arraycopy" 5 + 11) ≤ R.locals) (k : gW p l e R s m args below meth c D CL A nL Q cells slots L (wd cd ad (uA S (28 + i) 8 (S (28 + j))) f0) pc' lv (st)) : gW p l e R s m args below meth c D CL A nL Q cells slots L (wd cd ad S f0) pc lv (iv 8 :: iv 0 :: .ref (ad (28 + i)) :: iv 0 :: .ref (ad (28 + j)) :: st) := by
  refine g_copyl C hw (t0 := 1) (G.1 (28 + j) (by omega)) (at_28 G j hj) (G.1 (28 + i) (by omega)) (at_28 G i hi) rfl (by decide) (by decide) (by decide) (by decide) (by decide) (by decide) (by decide) hf hl hd pc' hp ?_
  rw [show (0 : Int).toNat = 0 from rfl, show (8 : Int).toNat = 8 from rfl, cpy_0]
  have h9 := wd_up (cd := cd) (S := S) (f0 := f0) G (28 + i) (by omega) (fun j9 => if j9 < 8 then S (28 + j) j9 else S (28 + i) j9)
  rw [mk_28 i hi] at h9
  exact (show wd cd ad (uA S (28 + i) 8 (S (28 + j))) f0 = _ from h9.symm) ▸ k
theorem cp_8 (C : gC p s m args c D CL (TY cd) A cc own nL) (G : LO ad L) {ix : Nat} (hd : decode cc pc = .ok (.invokestatic ix, 3)) (pc' : Nat) (hp : pc + 3 = pc') (hw : gwC own ix) (hf : 1 ≤ R.frames) (hl : (st.map fun v => v.category).sum + (nativeFrameWords "java/lang/System" "arraycopy" 5 + 11) ≤ R.locals) (k : gW p l e R s m args below meth c D CL A nL Q cells slots L (wd cd ad (uA S 8 4 (S 9)) f0) pc' lv (st)) : gW p l e R s m args below meth c D CL A nL Q cells slots L (wd cd ad S f0) pc lv (iv 4 :: iv 0 :: .ref (ad 8) :: iv 0 :: .ref (ad 9) :: st) := by
  refine g_copyi C hw (t0 := 0) (G.1 9 (by decide)) (at_9 G) (G.1 8 (by decide)) (at_8 G) rfl (by decide) (by decide) (by decide) (by decide) (by decide) (by decide) (by decide) hf hl hd pc' hp ?_
  rw [show (0 : Int).toNat = 0 from rfl, show (4 : Int).toNat = 4 from rfl, cpy_0]
  exact (show wd cd ad (uA S 8 4 (S 9)) f0 = _ from (wd_up (cd := cd) (S := S) (f0 := f0) G 8 (by decide) (fun j9 => if j9 < 4 then S 9 j9 else S 8 j9)).symm) ▸ k
end CP
end
section
section M1
variable {l : Launch} {D : va_G} {cd : Nat → ClassId} {ad : Nat → Nat} {L : List Nat} {f f0 : Nat → va_E} {S : Nat → Nat → Int}
abbrev rm_P_isWithin : Room := { frames := 0, cells := 0, slots := 0, locals := 0 }
set_option maxHeartbeats 4000000 in
set_option maxRecDepth 100000 in
theorem t_P_isWithin (x lo hi : Int) (hx : r32 x) (hlo : r32 lo) (hhi : r32 hi) : FM l y_P_isWithin c_P_isWithin 3 (some .boolean) rm_P_isWithin D cd L f [iv (x), iv (lo), iv (hi)] (some (iv (bi (lo ≤ x ∧ x ≤ hi)))) f := by
  refine g_of (by decide) (Nat.le_of_ble_eq_true rfl) ?_
  intro p e s m args below meth c A sz hA hsz C hr hl hnm
  have C : gC p s m args c D CL (TY cd) A c_P_isWithin "AlloyPlans" 3 := C
  change gW _ _ _ _ _ _ _ _ _ _ _ _ _ _ _ _ _ _ _ 0 [(0, iv (x)), (1, iv (lo)), (2, iv (hi))] []
  have hx1 : -2147483648 ≤ x := hx.1
  have hx2 : x ≤ 2147483647 := hx.2
  have hlo1 : -2147483648 ≤ lo := hlo.1
  have hlo2 : lo ≤ 2147483647 := hlo.2
  have hhi1 : -2147483648 ≤ hi := hhi.1
  have hhi2 : hi ≤ 2147483647 := hhi.2
  refine g_iload_n C d_P_isWithin_0 1 rfl rfl 0 rfl ?_
  refine g_iload_n C d_P_isWithin_1 2 rfl rfl 1 rfl ?_
  refine g_icmp_lt C d_P_isWithin_2 5 rfl (show r32 x from ⟨by omega, by omega⟩) (show r32 lo from ⟨by omega, by omega⟩) 14 rfl (fun (w1 : x < lo) => ?_) (fun (w2 : ¬ x < lo) => ?_)
  · skip
    refine g_iconst C d_P_isWithin_14 15 rfl ?_
    exact g_zret C hA hsz hr hl (Or.inl rfl) d_P_isWithin_15 (by decide) (by decide) ⟨zi_f (by omega), rfl, rfl⟩
  · skip
    refine g_iload_n C d_P_isWithin_5 6 rfl rfl 0 rfl ?_
    refine g_iload_n C d_P_isWithin_6 7 rfl rfl 2 rfl ?_
    refine g_icmp_gt C d_P_isWithin_7 10 rfl (show r32 x from ⟨by omega, by omega⟩) (show r32 hi from ⟨by omega, by omega⟩) 14 rfl (fun (w3 : hi < x) => ?_) (fun (w4 : ¬ hi < x) => ?_)
    · skip
      refine g_iconst C d_P_isWithin_14 15 rfl ?_
      exact g_zret C hA hsz hr hl (Or.inl rfl) d_P_isWithin_15 (by decide) (by decide) ⟨zi_f (by omega), rfl, rfl⟩
    · skip
      refine g_iconst C d_P_isWithin_10 11 rfl ?_
      refine g_goto C d_P_isWithin_11 15 rfl ?_
      exact g_zret C hA hsz hr hl (Or.inr rfl) d_P_isWithin_15 (by decide) (by decide) ⟨zi_t (by omega), rfl, rfl⟩
abbrev rm_P_isSpan : Room := { frames := 0, cells := 0, slots := 0, locals := 0 }
set_option maxHeartbeats 4000000 in
set_option maxRecDepth 100000 in
theorem t_P_isSpan (lo hi : Int) (hlo : r32 lo) (hhi : r32 hi) : FM l y_P_isSpan c_P_isSpan 2 (some .boolean) rm_P_isSpan D cd L f [iv (lo), iv (hi)] (some (iv (bi (0 ≤ lo ∧ lo ≤ hi ∧ hi ≤ 100000)))) f := by
  refine g_of (by decide) (Nat.le_of_ble_eq_true rfl) ?_
  intro p e s m args below meth c A sz hA hsz C hr hl hnm
  have C : gC p s m args c D CL (TY cd) A c_P_isSpan "AlloyPlans" 2 := C
  change gW _ _ _ _ _ _ _ _ _ _ _ _ _ _ _ _ _ _ _ 0 [(0, iv (lo)), (1, iv (hi))] []
  have hlo1 : -2147483648 ≤ lo := hlo.1
  have hlo2 : lo ≤ 2147483647 := hlo.2
  have hhi1 : -2147483648 ≤ hi := hhi.1
  have hhi2 : hi ≤ 2147483647 := hhi.2
  refine g_iload_n C d_P_isSpan_0 1 rfl rfl 0 rfl ?_
  refine g_if_lt C d_P_isSpan_1 4 rfl (show r32 lo from ⟨by omega, by omega⟩) 19 rfl (fun (w1 : lo < 0) => ?_) (fun (w2 : ¬ lo < 0) => ?_)
  · skip
    refine g_iconst C d_P_isSpan_19 20 rfl ?_
    exact g_zret C hA hsz hr hl (Or.inl rfl) d_P_isSpan_20 (by decide) (by decide) ⟨zi_f (by omega), rfl, rfl⟩
  · skip
    refine g_iload_n C d_P_isSpan_4 5 rfl rfl 0 rfl ?_
    refine g_iload_n C d_P_isSpan_5 6 rfl rfl 1 rfl ?_
    refine g_icmp_gt C d_P_isSpan_6 9 rfl (show r32 lo from ⟨by omega, by omega⟩) (show r32 hi from ⟨by omega, by omega⟩) 19 rfl (fun (w3 : hi < lo) => ?_) (fun (w4 : ¬ hi < lo) => ?_)
    · skip
      refine g_iconst C d_P_isSpan_19 20 rfl ?_
      exact g_zret C hA hsz hr hl (Or.inl rfl) d_P_isSpan_20 (by decide) (by decide) ⟨zi_f (by omega), rfl, rfl⟩
    · skip
      refine g_iload_n C d_P_isSpan_9 10 rfl rfl 1 rfl ?_
      refine g_ldc C (z := 100000) d_P_isSpan_10 12 rfl rfl kc_P_84 ?_
      refine g_icmp_gt C d_P_isSpan_12 15 rfl (show r32 hi from ⟨by omega, by omega⟩) ⟨by decide, by decide⟩ 19 rfl (fun (w5 : 100000 < hi) => ?_) (fun (w6 : ¬ 100000 < hi) => ?_)
      · skip
        refine g_iconst C d_P_isSpan_19 20 rfl ?_
        exact g_zret C hA hsz hr hl (Or.inl rfl) d_P_isSpan_20 (by decide) (by decide) ⟨zi_f (by omega), rfl, rfl⟩
      · skip
        refine g_iconst C d_P_isSpan_15 16 rfl ?_
        refine g_goto C d_P_isSpan_16 20 rfl ?_
        exact g_zret C hA hsz hr hl (Or.inr rfl) d_P_isSpan_20 (by decide) (by decide) ⟨zi_t (by omega), rfl, rfl⟩
abbrev rm_P_isLowEnd : Room := { frames := 0, cells := 0, slots := 0, locals := 0 }
set_option maxHeartbeats 4000000 in
set_option maxRecDepth 100000 in
theorem t_P_isLowEnd (n : Int) (hn : r32 n) : FM l y_P_isLowEnd c_P_isLowEnd 1 (some .boolean) rm_P_isLowEnd D cd L f [iv (n)] (some (iv (bi (Int.tmod n 2 = 0)))) f := by
  refine g_of (by decide) (Nat.le_of_ble_eq_true rfl) ?_
  intro p e s m args below meth c A sz hA hsz C hr hl hnm
  have C : gC p s m args c D CL (TY cd) A c_P_isLowEnd "AlloyPlans" 1 := C
  change gW _ _ _ _ _ _ _ _ _ _ _ _ _ _ _ _ _ _ _ 0 [(0, iv (n))] []
  have hn1 : -2147483648 ≤ n := hn.1
  have hn2 : n ≤ 2147483647 := hn.2
  have hm := Int.tmod_lt_of_pos n (show (0 : Int) < 2 by decide)
  have hm2 := Int.lt_tmod_of_pos n (show (0 : Int) < 2 by decide)
  refine g_iload_n C d_P_isLowEnd_0 1 rfl rfl 0 rfl ?_
  refine g_iconst C d_P_isLowEnd_1 2 rfl ?_
  refine g_irem C d_P_isLowEnd_2 3 rfl (show r32 n from ⟨by omega, by omega⟩) ⟨by decide, by decide⟩ (show 2 ≠ (0 : Int) by decide) ?_
  refine g_if_ne C d_P_isLowEnd_3 6 rfl (show r32 (Int.tmod n 2) from ⟨by omega, by omega⟩) 10 rfl (fun (w1 : ¬ Int.tmod n 2 = 0) => ?_) (fun (w2 : Int.tmod n 2 = 0) => ?_)
  · skip
    refine g_iconst C d_P_isLowEnd_10 11 rfl ?_
    exact g_zret C hA hsz hr hl (Or.inl rfl) d_P_isLowEnd_11 (by decide) (by decide) ⟨zi_f (by omega), rfl, rfl⟩
  · skip
    refine g_iconst C d_P_isLowEnd_6 7 rfl ?_
    refine g_goto C d_P_isLowEnd_7 11 rfl ?_
    exact g_zret C hA hsz hr hl (Or.inr rfl) d_P_isLowEnd_11 (by decide) (by decide) ⟨zi_t (by omega), rfl, rfl⟩
abbrev rm_P_quotient : Room := { frames := 0, cells := 0, slots := 0, locals := 0 }
set_option maxHeartbeats 4000000 in
set_option maxRecDepth 100000 in
theorem t_P_quotient (x y : Int) (hx : r64 x) (hy : r64 y) : FM l y_P_quotient c_P_quotient 4 (some .long) rm_P_quotient D cd L f [jv (x), jv (y)] (some (jv (if 0 < y then Int.tdiv x y else 0))) f := by
  refine g_of (by decide) (Nat.le_of_ble_eq_true rfl) ?_
  intro p e s m args below meth c A sz hA hsz C hr hl hnm
  have C : gC p s m args c D CL (TY cd) A c_P_quotient "AlloyPlans" 4 := C
  change gW _ _ _ _ _ _ _ _ _ _ _ _ _ _ _ _ _ _ _ 0 [(0, jv (x)), (2, jv (y))] []
  have hx1 : -9223372036854775808 ≤ x := hx.1
  have hx2 : x ≤ 9223372036854775807 := hx.2
  have hy1 : -9223372036854775808 ≤ y := hy.1
  have hy2 : y ≤ 9223372036854775807 := hy.2
  refine g_lload_n C d_P_quotient_0 1 rfl rfl 1 rfl ?_
  refine g_lconst C (z := 0) d_P_quotient_1 2 rfl rfl ?_
  refine g_lcmp_le C d_P_quotient_2 3 rfl 6 rfl (show r64 y from ⟨by omega, by omega⟩) ⟨by decide, by decide⟩ 12 rfl d_P_quotient_3 (fun (w1 : y ≤ 0) => ?_) (fun (w2 : ¬ y ≤ 0) => ?_)
  · skip
    refine g_lconst C (z := 0) d_P_quotient_12 13 rfl rfl ?_
    exact g_lret C hA hsz hr hl d_P_quotient_13 (by decide) (by decide) ⟨vj_e (by first | rw [if_pos (by omega)] | rw [if_neg (by omega)]), rfl, rfl⟩
  · skip
    refine g_lload_n C d_P_quotient_6 7 rfl rfl 0 rfl ?_
    refine g_lload_n C d_P_quotient_7 8 rfl rfl 1 rfl ?_
    refine g_ldiv C d_P_quotient_8 9 rfl (show r64 x from ⟨by omega, by omega⟩) (show r64 y from ⟨by omega, by omega⟩) (show y ≠ (0 : Int) by omega) ?_
    refine g_goto C d_P_quotient_9 13 rfl ?_
    exact g_lret C hA hsz hr hl d_P_quotient_13 (by decide) (by decide) ⟨vj_e (by first | rw [if_pos (by omega)] | rw [if_neg (by omega)]), rfl, rfl⟩
abbrev rm_P_surplusAt : Room := { frames := 1, cells := 0, slots := 0, locals := 20 }
set_option maxHeartbeats 4000000 in
set_option maxRecDepth 100000 in
theorem t_P_surplusAt (n x y : Int) (hn : r32 n) : FM l y_P_surplusAt c_P_surplusAt 5 (some .long) rm_P_surplusAt D cd L f [iv (n), jv (x), jv (y)] (some (jv (if Int.tmod n 2 = 0 then x - y else y - x))) f := by
  refine g_of (by decide) (Nat.le_of_ble_eq_true rfl) ?_
  intro p e s m args below meth c A sz hA hsz C hr hl hnm
  have C : gC p s m args c D CL (TY cd) A c_P_surplusAt "AlloyPlans" 5 := C
  change gW _ _ _ _ _ _ _ _ _ _ _ _ _ _ _ _ _ _ _ 0 [(0, iv (n)), (1, jv (x)), (3, jv (y))] []
  have hn1 : -2147483648 ≤ n := hn.1
  have hn2 : n ≤ 2147483647 := hn.2
  refine g_iload_n C d_P_surplusAt_0 1 rfl rfl 0 rfl ?_
  refine fcS1 C (rest := []) d_P_surplusAt_1 4 rfl (t_P_isLowEnd n (show r32 n from ⟨by omega, by omega⟩)) ⟨ml_P_201, sm_P_isLowEnd, ci_P⟩ w_P_isLowEnd rfl 1 gy_P_isLowEnd rfl 0 rfl 0 rfl rfl rfl (Nat.le_of_ble_eq_true rfl) ?_
  refine g_if_eq C d_P_surplusAt_4 7 rfl (bi_r _) 13 rfl (fun (w1 : bi (Int.tmod n 2 = 0) = 0) => ?_) (fun (w2 : ¬ bi (Int.tmod n 2 = 0) = 0) => ?_)
  · skip
    have w1 : ¬ (Int.tmod n 2 = 0) := bi_f w1
    refine g_lload_n C d_P_surplusAt_13 14 rfl rfl 2 rfl ?_
    refine g_lload_n C d_P_surplusAt_14 15 rfl rfl 1 rfl ?_
    refine g_lsub C d_P_surplusAt_15 16 rfl ?_
    exact g_lret C hA hsz hr hl d_P_surplusAt_16 (by decide) (by decide) ⟨vj_e (by first | rw [if_pos (by omega)] | rw [if_neg (by omega)]), rfl, rfl⟩
  · skip
    have w2 : (Int.tmod n 2 = 0) := bi_t w2
    refine g_lload_n C d_P_surplusAt_7 8 rfl rfl 1 rfl ?_
    refine g_lload_n C d_P_surplusAt_8 9 rfl rfl 2 rfl ?_
    refine g_lsub C d_P_surplusAt_9 10 rfl ?_
    refine g_goto C d_P_surplusAt_10 16 rfl ?_
    exact g_lret C hA hsz hr hl d_P_surplusAt_16 (by decide) (by decide) ⟨vj_e (by first | rw [if_pos (by omega)] | rw [if_neg (by omega)]), rfl, rfl⟩
abbrev rm_P_requireIndex : Room := { frames := 6, cells := 1, slots := 6, locals := 82 }
set_option maxHeartbeats 4000000 in
set_option maxRecDepth 100000 in
theorem t_P_requireIndex (hst9 : l.stackTraces = false) (x : Int) (hx : r32 x) : FX l y_P_requireIndex c_P_requireIndex 1 none rm_P_requireIndex D cd L f [iv (x)] (¬ x = 0) none f (fun E => x = 0 ∧ E = xIOB) := by
  refine gx_of (by decide) (Nat.le_of_ble_eq_true rfl) ?_
  intro p e s m args below meth c A sz hA hsz C hr hl hnt
  have C : gC p s m args c D CL (TY cd) A c_P_requireIndex "AlloyPlans" 1 := C
  change gW _ _ _ _ _ _ _ _ _ _ _ _ _ _ _ _ _ _ _ 0 [(0, iv (x))] []
  have hx1 : -2147483648 ≤ x := hx.1
  have hx2 : x ≤ 2147483647 := hx.2
  refine g_iload_n C d_P_requireIndex_0 1 rfl rfl 0 rfl ?_
  refine g_if_ne C d_P_requireIndex_1 4 rfl (show r32 x from ⟨by omega, by omega⟩) 14 rfl (fun (w1 : ¬ x = 0) => ?_) (fun (w2 : x = 0) => ?_)
  · skip
    exact gx_ret (g_vret C hA hsz hr hl d_P_requireIndex_14 (by decide) (by decide) ⟨by omega, rfl, rfl, rfl⟩)
  · skip
    exact gx_throw C hA hsz hnt hl hst9 (cls := xIOB) (names := EXN) (by decide +kernel) (by decide +kernel) kl_P_175 ci_IndexOutOfBoundsException (gN_n_s177 C.2.1.2.1) (hat_179 C.1.2.2.2.2 C.2.1.2.1) hgd_179 d_P_requireIndex_4 d_P_requireIndex_7 d_P_requireIndex_8 d_P_requireIndex_10 d_P_requireIndex_13 (by decide) (by decide) (by decide) (by decide) (by decide) (by decide) ⟨by omega, rfl⟩
abbrev rm_P_requireRange : Room := { frames := 6, cells := 1, slots := 6, locals := 82 }
set_option maxHeartbeats 4000000 in
set_option maxRecDepth 100000 in
theorem t_P_requireRange (hst9 : l.stackTraces = false) (x : Int) (hx : r32 x) : FX l y_P_requireRange c_P_requireRange 1 none rm_P_requireRange D cd L f [iv (x)] (¬ x = 0) none f (fun E => x = 0 ∧ E = xIAE) := by
  refine gx_of (by decide) (Nat.le_of_ble_eq_true rfl) ?_
  intro p e s m args below meth c A sz hA hsz C hr hl hnt
  have C : gC p s m args c D CL (TY cd) A c_P_requireRange "AlloyPlans" 1 := C
  change gW _ _ _ _ _ _ _ _ _ _ _ _ _ _ _ _ _ _ _ 0 [(0, iv (x))] []
  have hx1 : -2147483648 ≤ x := hx.1
  have hx2 : x ≤ 2147483647 := hx.2
  refine g_iload_n C d_P_requireRange_0 1 rfl rfl 0 rfl ?_
  refine g_if_ne C d_P_requireRange_1 4 rfl (show r32 x from ⟨by omega, by omega⟩) 14 rfl (fun (w1 : ¬ x = 0) => ?_) (fun (w2 : x = 0) => ?_)
  · skip
    exact gx_ret (g_vret C hA hsz hr hl d_P_requireRange_14 (by decide) (by decide) ⟨by omega, rfl, rfl, rfl⟩)
  · skip
    exact gx_throw C hA hsz hnt hl hst9 (cls := xIAE) (names := EXN) (by decide +kernel) (by decide +kernel) kl_P_180 ci_IllegalArgumentException (gN_n_s182 C.2.1.2.1) (hat_184 C.1.2.2.2.2 C.2.1.2.1) hgd_184 d_P_requireRange_4 d_P_requireRange_7 d_P_requireRange_8 d_P_requireRange_10 d_P_requireRange_13 (by decide) (by decide) (by decide) (by decide) (by decide) (by decide) ⟨by omega, rfl⟩
abbrev rm_P_requirePlan : Room := { frames := 6, cells := 1, slots := 6, locals := 82 }
set_option maxHeartbeats 4000000 in
set_option maxRecDepth 100000 in
theorem t_P_requirePlan (hst9 : l.stackTraces = false) (G : LO ad L)  (h5 : r32 (S 5 0)) : FX l y_P_requirePlan c_P_requirePlan 1 none rm_P_requirePlan D cd L (wd cd ad S f0) [.ref (ad 0)] (¬ S 5 0 = 0) none (wd cd ad S f0) (fun E => S 5 0 = 0 ∧ E = xISE) := by
  refine gx_of (by decide) (Nat.le_of_ble_eq_true rfl) ?_
  intro p e s m args below meth c A sz hA hsz C hr hl hnt
  have C : gC p s m args c D CL (TY cd) A c_P_requirePlan "AlloyPlans" 1 := C
  change gW _ _ _ _ _ _ _ _ _ _ _ _ _ _ _ _ _ _ _ 0 [(0, .ref (ad 0))] []
  have h51 : -2147483648 ≤ S 5 0 := h5.1
  have h52 : S 5 0 ≤ 2147483647 := h5.2
  refine g_aload_n C d_P_requirePlan_0 1 rfl rfl 0 rfl ?_
  refine gt_P_plan C G d_P_requirePlan_1 4 rfl fl_P_26 ?_
  refine gt_N_stands C G d_P_requirePlan_4 7 rfl fl_P_185 ?_
  refine g_if_ne C d_P_requirePlan_7 10 rfl (show r32 (S 5 0) from ⟨by omega, by omega⟩) 20 rfl (fun (w1 : ¬ S 5 0 = 0) => ?_) (fun (w2 : S 5 0 = 0) => ?_)
  · skip
    exact gx_ret (g_vret C hA hsz hr hl d_P_requirePlan_20 (by decide) (by decide) ⟨by omega, rfl, rfl, rfl⟩)
  · skip
    exact gx_throw C hA hsz hnt hl hst9 (cls := xISE) (names := EXN) (by decide +kernel) (by decide +kernel) kl_P_44 ci_IllegalStateException (gN_n_s188 C.2.1.2.1) (hat_48 C.1.2.2.2.2 C.2.1.2.1) hgd_48 d_P_requirePlan_10 d_P_requirePlan_13 d_P_requirePlan_14 d_P_requirePlan_16 d_P_requirePlan_19 (by decide) (by decide) (by decide) (by decide) (by decide) (by decide) ⟨by omega, rfl⟩
abbrev rm_P_isKind : Room := { frames := 0, cells := 0, slots := 0, locals := 0 }
set_option maxHeartbeats 4000000 in
set_option maxRecDepth 100000 in
theorem t_P_isKind (G : LO ad L) (x : Int) (hx : r32 x) (h0 : r32 (S 0 4)) : FM l y_P_isKind c_P_isKind 2 (some .boolean) rm_P_isKind D cd L (wd cd ad S f0) [.ref (ad 0), iv (x)] (some (iv (bi (0 ≤ x ∧ x < S 0 4 ∧ x < 4)))) (wd cd ad S f0) := by
  refine g_of (by decide) (Nat.le_of_ble_eq_true rfl) ?_
  intro p e s m args below meth c A sz hA hsz C hr hl hnm
  have C : gC p s m args c D CL (TY cd) A c_P_isKind "AlloyPlans" 2 := C
  change gW _ _ _ _ _ _ _ _ _ _ _ _ _ _ _ _ _ _ _ 0 [(0, .ref (ad 0)), (1, iv (x))] []
  have hx1 : -2147483648 ≤ x := hx.1
  have hx2 : x ≤ 2147483647 := hx.2
  have h01 : -2147483648 ≤ S 0 4 := h0.1
  have h02 : S 0 4 ≤ 2147483647 := h0.2
  refine g_iload_n C d_P_isKind_0 1 rfl rfl 1 rfl ?_
  refine g_if_lt C d_P_isKind_1 4 rfl (show r32 x from ⟨by omega, by omega⟩) 25 rfl (fun (w1 : x < 0) => ?_) (fun (w2 : ¬ x < 0) => ?_)
  · skip
    refine g_iconst C d_P_isKind_25 26 rfl ?_
    exact g_zret C hA hsz hr hl (Or.inl rfl) d_P_isKind_26 (by decide) (by decide) ⟨zi_f (by omega), rfl, rfl⟩
  · skip
    refine g_iload_n C d_P_isKind_4 5 rfl rfl 1 rfl ?_
    refine g_aload_n C d_P_isKind_5 6 rfl rfl 0 rfl ?_
    refine gt_P_kindCount C G d_P_isKind_6 9 rfl fl_P_37 ?_
    refine g_icmp_ge C d_P_isKind_9 12 rfl (show r32 x from ⟨by omega, by omega⟩) (show r32 (S 0 4) from ⟨by omega, by omega⟩) 25 rfl (fun (w3 : S 0 4 ≤ x) => ?_) (fun (w4 : ¬ S 0 4 ≤ x) => ?_)
    · skip
      refine g_iconst C d_P_isKind_25 26 rfl ?_
      exact g_zret C hA hsz hr hl (Or.inl rfl) d_P_isKind_26 (by decide) (by decide) ⟨zi_f (by omega), rfl, rfl⟩
    · skip
      refine g_iload_n C d_P_isKind_12 13 rfl rfl 1 rfl ?_
      refine g_aload_n C d_P_isKind_13 14 rfl rfl 0 rfl ?_
      refine gt_P_alloys C G d_P_isKind_14 17 rfl fl_P_18 ?_
      refine ln_4 C G d_P_isKind_17 18 rfl ?_
      refine g_icmp_ge C d_P_isKind_18 21 rfl (show r32 x from ⟨by omega, by omega⟩) ⟨by decide, by decide⟩ 25 rfl (fun (w5 : 4 ≤ x) => ?_) (fun (w6 : ¬ 4 ≤ x) => ?_)
      · skip
        refine g_iconst C d_P_isKind_25 26 rfl ?_
        exact g_zret C hA hsz hr hl (Or.inl rfl) d_P_isKind_26 (by decide) (by decide) ⟨zi_f (by omega), rfl, rfl⟩
      · skip
        refine g_iconst C d_P_isKind_21 22 rfl ?_
        refine g_goto C d_P_isKind_22 26 rfl ?_
        exact g_zret C hA hsz hr hl (Or.inr rfl) d_P_isKind_26 (by decide) (by decide) ⟨zi_t (by omega), rfl, rfl⟩
abbrev rm_N_forget : Room := { frames := 0, cells := 0, slots := 0, locals := 0 }
set_option maxHeartbeats 4000000 in
set_option maxRecDepth 100000 in
theorem t_N_forget (G : LO ad L)   : FM l y_N_forget c_N_forget 1 none rm_N_forget D cd L (wd cd ad S f0) [.ref (ad 5)] none (wd cd ad (u2 S 5 0 0) f0) := by
  refine g_of (by decide) (Nat.le_of_ble_eq_true rfl) ?_
  intro p e s m args below meth c A sz hA hsz C hr hl hnm
  have C : gC p s m args c D CL (TY cd) A c_N_forget "AlloyPlans$Plan" 1 := C
  change gW _ _ _ _ _ _ _ _ _ _ _ _ _ _ _ _ _ _ _ 0 [(0, .ref (ad 5))] []
  refine g_aload_n C d_N_forget_0 1 rfl rfl 0 rfl ?_
  refine g_iconst C d_N_forget_1 2 rfl ?_
  refine pt_N_stands C G (z := 0) d_N_forget_2 5 rfl fl_N_15 (Or.inl rfl) ?_
  exact g_vret C hA hsz hr hl d_N_forget_5 (by decide) (by decide) ⟨rfl, rfl, rfl⟩
abbrev rm_N_isTaken : Room := { frames := 0, cells := 0, slots := 0, locals := 0 }
set_option maxHeartbeats 4000000 in
set_option maxRecDepth 100000 in
theorem t_N_isTaken (G : LO ad L) (k : Nat) (hk : k < 4) (h6 : r32 (S 6 k)) : FM l y_N_isTaken c_N_isTaken 2 (some .boolean) rm_N_isTaken D cd L (wd cd ad S f0) [.ref (ad 5), iv ((k : Int))] (some (iv (bi (0 < S 6 k)))) (wd cd ad S f0) := by
  refine g_of (by decide) (Nat.le_of_ble_eq_true rfl) ?_
  intro p e s m args below meth c A sz hA hsz C hr hl hnm
  have C : gC p s m args c D CL (TY cd) A c_N_isTaken "AlloyPlans$Plan" 2 := C
  change gW _ _ _ _ _ _ _ _ _ _ _ _ _ _ _ _ _ _ _ 0 [(0, .ref (ad 5)), (1, iv ((k : Int)))] []
  have h61 : -2147483648 ≤ S 6 k := h6.1
  have h62 : S 6 k ≤ 2147483647 := h6.2
  refine g_aload_n C d_N_isTaken_0 1 rfl rfl 0 rfl ?_
  refine gt_N_taken C G d_N_isTaken_1 4 rfl fl_N_9 ?_
  refine g_iload_n C d_N_isTaken_4 5 rfl rfl 1 rfl ?_
  refine ld_6 C G d_N_isTaken_5 6 rfl k (by omega) rfl ?_
  refine g_if_le C d_N_isTaken_6 9 rfl (show r32 (S 6 k) from ⟨by omega, by omega⟩) 13 rfl (fun (w1 : S 6 k ≤ 0) => ?_) (fun (w2 : ¬ S 6 k ≤ 0) => ?_)
  · skip
    refine g_iconst C d_N_isTaken_13 14 rfl ?_
    exact g_zret C hA hsz hr hl (Or.inl rfl) d_N_isTaken_14 (by decide) (by decide) ⟨zi_f (by omega), rfl, rfl⟩
  · skip
    refine g_iconst C d_N_isTaken_9 10 rfl ?_
    refine g_goto C d_N_isTaken_10 14 rfl ?_
    exact g_zret C hA hsz hr hl (Or.inr rfl) d_N_isTaken_14 (by decide) (by decide) ⟨zi_t (by omega), rfl, rfl⟩
end M1
end
section
section M2
variable {l : Launch} {D : va_G} {cd : Nat → ClassId} {ad : Nat → Nat} {L : List Nat} {f f0 : Nat → va_E} {S : Nat → Nat → Int}
abbrev rm_E_heldAt : Room := { frames := 0, cells := 0, slots := 0, locals := 0 }
set_option maxHeartbeats 4000000 in
set_option maxRecDepth 100000 in
theorem t_E_heldAt (G : LO ad L) (n : Nat) (hn : n < 8) (h1 : r32 (S 1 0)) (h2 : r32 (S 2 n)) : FM l y_E_heldAt c_E_heldAt 2 (some .long) rm_E_heldAt D cd L (wd cd ad S f0) [.ref (ad 1), iv ((n : Int))] (some (jv (heldH S n))) (wd cd ad S f0) := by
  refine g_of (by decide) (Nat.le_of_ble_eq_true rfl) ?_
  intro p e s m args below meth c A sz hA hsz C hr hl hnm
  have C : gC p s m args c D CL (TY cd) A c_E_heldAt "AlloyPlans$Melt" 2 := C
  change gW _ _ _ _ _ _ _ _ _ _ _ _ _ _ _ _ _ _ _ 0 [(0, .ref (ad 1)), (1, iv ((n : Int)))] []
  obtain ⟨u0, v0⟩ := h1
  obtain ⟨u1, v1⟩ := h2
  refine g_ldc2 C (z := 1000) d_E_heldAt_0 3 rfl rfl kd_E_27 ?_
  refine g_aload_n C d_E_heldAt_3 4 rfl rfl 0 rfl ?_
  refine gt_E_kilos C G d_E_heldAt_4 7 rfl fl_E_9 ?_
  refine g_i2l C d_E_heldAt_7 8 rfl (show r32 (S 1 0) from ⟨by omega, by omega⟩) ?_
  refine g_lmul C d_E_heldAt_8 9 rfl ?_
  refine g_aload_n C d_E_heldAt_9 10 rfl rfl 0 rfl ?_
  refine gt_E_presentEnds C G d_E_heldAt_10 13 rfl fl_E_15 ?_
  refine g_iload_n C d_E_heldAt_13 14 rfl rfl 1 rfl ?_
  refine ld_2 C G d_E_heldAt_14 15 rfl n (by omega) rfl ?_
  refine g_i2l C d_E_heldAt_15 16 rfl (show r32 (S 2 n) from ⟨by omega, by omega⟩) ?_
  refine g_lmul C d_E_heldAt_16 17 rfl ?_
  exact g_lret C hA hsz hr hl d_E_heldAt_17 (by decide) (by decide) ⟨rfl, rfl, rfl⟩
abbrev rm_E_surplusOfHeat : Room := { frames := 2, cells := 0, slots := 0, locals := 44 }
set_option maxHeartbeats 4000000 in
set_option maxRecDepth 100000 in
theorem t_E_surplusOfHeat (G : LO ad L) (n : Nat) (hn : n < 8) (h1 : r32 (S 1 0)) (h2 : r32 (S 2 n)) (h3 : r32 (S 3 n)) : FM l y_E_surplusOfHeat c_E_surplusOfHeat 2 (some .long) rm_E_surplusOfHeat D cd L (wd cd ad S f0) [.ref (ad 1), iv ((n : Int))] (some (jv (surH S n))) (wd cd ad S f0) := by
  refine g_of (by decide) (Nat.le_of_ble_eq_true rfl) ?_
  intro p e s m args below meth c A sz hA hsz C hr hl hnm
  have C : gC p s m args c D CL (TY cd) A c_E_surplusOfHeat "AlloyPlans$Melt" 2 := C
  change gW _ _ _ _ _ _ _ _ _ _ _ _ _ _ _ _ _ _ _ 0 [(0, .ref (ad 1)), (1, iv ((n : Int)))] []
  obtain ⟨u0, v0⟩ := h1
  obtain ⟨u1, v1⟩ := h2
  obtain ⟨u2, v2⟩ := h3
  refine g_iload_n C d_E_surplusOfHeat_0 1 rfl rfl 1 rfl ?_
  refine g_aload_n C d_E_surplusOfHeat_1 2 rfl rfl 0 rfl ?_
  refine g_iload_n C d_E_surplusOfHeat_2 3 rfl rfl 1 rfl ?_
  refine fcV1 C (rest := [iv ((n : Int))]) d_E_surplusOfHeat_3 6 rfl (t_E_heldAt G (S := S) n (by omega) (show r32 (S 1 0) from ⟨by omega, by omega⟩) (show r32 (S 2 n) from ⟨by omega, by omega⟩)) rfl (G.1 1 (by decide)) (at_E G) ⟨ml_E_29, im_E_heldAt, se_E_heldAt, ci_E⟩ w_E_heldAt rfl 1 gy_E_heldAt rfl 0 rfl 0 rfl rfl rfl (Nat.le_of_ble_eq_true rfl) ?_
  refine g_ldc2 C (z := 1000) d_E_surplusOfHeat_6 9 rfl rfl kd_E_27 ?_
  refine g_aload_n C d_E_surplusOfHeat_9 10 rfl rfl 0 rfl ?_
  refine gt_E_kilos C G d_E_surplusOfHeat_10 13 rfl fl_E_9 ?_
  refine g_i2l C d_E_surplusOfHeat_13 14 rfl (show r32 (S 1 0) from ⟨by omega, by omega⟩) ?_
  refine g_lmul C d_E_surplusOfHeat_14 15 rfl ?_
  refine g_aload_n C d_E_surplusOfHeat_15 16 rfl rfl 0 rfl ?_
  refine gt_E_aimEnds C G d_E_surplusOfHeat_16 19 rfl fl_E_19 ?_
  refine g_iload_n C d_E_surplusOfHeat_19 20 rfl rfl 1 rfl ?_
  refine ld_3 C G d_E_surplusOfHeat_20 21 rfl n (by omega) rfl ?_
  refine g_i2l C d_E_surplusOfHeat_21 22 rfl (show r32 (S 3 n) from ⟨by omega, by omega⟩) ?_
  refine g_lmul C d_E_surplusOfHeat_22 23 rfl ?_
  refine fcN1 C (rest := []) d_E_surplusOfHeat_23 26 rfl (t_P_surplusAt ((n : Int)) (heldH S n) ((1000 * (S 1 0)) * (S 3 n)) (show r32 ((n : Int)) from ⟨by omega, by omega⟩)) (gN_n_E33 C.2.1.2.1) ⟨ci_P, sm_P_surplusAt⟩ w_P_surplusAt 3 gy_P_surplusAt rfl 0 rfl 0 rfl rfl rfl (Nat.le_of_ble_eq_true rfl) ?_
  exact g_lret C hA hsz hr hl d_E_surplusOfHeat_26 (by decide) (by decide) ⟨rfl, rfl, rfl⟩
abbrev rm_A_coolingOfStep : Room := { frames := 0, cells := 0, slots := 0, locals := 0 }
set_option maxHeartbeats 4000000 in
set_option maxRecDepth 100000 in
theorem t_A_coolingOfStep (G : LO ad L) (i : Nat) (hi : i < 4) : FM l y_A_coolingOfStep c_A_coolingOfStep 1 (some .int) rm_A_coolingOfStep D cd L (wd cd ad S f0) [.ref (ad (11 + i))] (some (iv (S (11 + i) 1 * S (11 + i) 4))) (wd cd ad S f0) := by
  refine g_of (by decide) (Nat.le_of_ble_eq_true rfl) ?_
  intro p e s m args below meth c A sz hA hsz C hr hl hnm
  have C : gC p s m args c D CL (TY cd) A c_A_coolingOfStep "AlloyPlans$Alloy" 1 := C
  change gW _ _ _ _ _ _ _ _ _ _ _ _ _ _ _ _ _ _ _ 0 [(0, .ref (ad (11 + i)))] []
  refine g_aload_n C d_A_coolingOfStep_0 1 rfl rfl 0 rfl ?_
  refine gt_A_kilos C G d_A_coolingOfStep_1 4 rfl i (by omega) fl_A_9 ?_
  refine g_aload_n C d_A_coolingOfStep_4 5 rfl rfl 0 rfl ?_
  refine gt_A_cooling C G d_A_coolingOfStep_5 8 rfl i (by omega) fl_A_26 ?_
  refine g_imul C d_A_coolingOfStep_8 9 rfl ?_
  exact g_iret C hA hsz hr hl d_A_coolingOfStep_9 (by decide) (by decide) ⟨rfl, rfl, rfl⟩
abbrev rm_A_heldInStepAt : Room := { frames := 0, cells := 0, slots := 0, locals := 0 }
set_option maxHeartbeats 4000000 in
set_option maxRecDepth 100000 in
theorem t_A_heldInStepAt (G : LO ad L) (i n : Nat) (hi : i < 4) (hn : n < 8) (h1 : r32 (S (11 + i) 1)) (h2 : r32 (S (15 + i) n)) (h3 : r32 (S (11 + i) 3)) : FM l y_A_heldInStepAt c_A_heldInStepAt 2 (some .long) rm_A_heldInStepAt D cd L (wd cd ad S f0) [.ref (ad (11 + i)), iv ((n : Int))] (some (jv (heldA S i n))) (wd cd ad S f0) := by
  refine g_of (by decide) (Nat.le_of_ble_eq_true rfl) ?_
  intro p e s m args below meth c A sz hA hsz C hr hl hnm
  have C : gC p s m args c D CL (TY cd) A c_A_heldInStepAt "AlloyPlans$Alloy" 2 := C
  change gW _ _ _ _ _ _ _ _ _ _ _ _ _ _ _ _ _ _ _ 0 [(0, .ref (ad (11 + i))), (1, iv ((n : Int)))] []
  obtain ⟨u0, v0⟩ := h1
  obtain ⟨u1, v1⟩ := h2
  obtain ⟨u2, v2⟩ := h3
  refine g_aload_n C d_A_heldInStepAt_0 1 rfl rfl 0 rfl ?_
  refine gt_A_kilos C G d_A_heldInStepAt_1 4 rfl i (by omega) fl_A_9 ?_
  refine g_i2l C d_A_heldInStepAt_4 5 rfl (show r32 (S (11 + i) 1) from ⟨by omega, by omega⟩) ?_
  refine g_aload_n C d_A_heldInStepAt_5 6 rfl rfl 0 rfl ?_
  refine gt_A_ends C G d_A_heldInStepAt_6 9 rfl i (by omega) fl_A_18 ?_
  refine g_iload_n C d_A_heldInStepAt_9 10 rfl rfl 1 rfl ?_
  refine ld_15 C G d_A_heldInStepAt_10 11 rfl i (by omega) n (by omega) rfl ?_
  refine g_i2l C d_A_heldInStepAt_11 12 rfl (show r32 (S (15 + i) n) from ⟨by omega, by omega⟩) ?_
  refine g_lmul C d_A_heldInStepAt_12 13 rfl ?_
  refine g_aload_n C d_A_heldInStepAt_13 14 rfl rfl 0 rfl ?_
  refine gt_A_thousandths C G d_A_heldInStepAt_14 17 rfl i (by omega) fl_A_15 ?_
  refine g_i2l C d_A_heldInStepAt_17 18 rfl (show r32 (S (11 + i) 3) from ⟨by omega, by omega⟩) ?_
  refine g_lmul C d_A_heldInStepAt_18 19 rfl ?_
  exact g_lret C hA hsz hr hl d_A_heldInStepAt_19 (by decide) (by decide) ⟨rfl, rfl, rfl⟩
abbrev rm_A_weighAgainst : Room := { frames := 2, cells := 0, slots := 0, locals := 44 }
set_option maxHeartbeats 4000000 in
set_option maxRecDepth 100000 in
theorem t_A_weighAgainst (G : LO ad L) (i : Nat) (hi : i < 4) (h1 : r32 (S (11 + i) 1)) (h2 : ∀ n, n < 8 → r32 (S (15 + i) n)) (h3 : r32 (S (11 + i) 3)) (h4 : ∀ n, n < 8 → r32 (S 3 n)) : FM l y_A_weighAgainst c_A_weighAgainst 3 none rm_A_weighAgainst D cd L (wd cd ad S f0) [.ref (ad (11 + i)), .ref (ad 3)] none (wd cd ad (uA S (19 + i) 8 (gainA S i)) f0) := by
  refine g_of (by decide) (Nat.le_of_ble_eq_true rfl) ?_
  intro p e s m args below meth c A sz hA hsz C hr hl hnm
  have C : gC p s m args c D CL (TY cd) A c_A_weighAgainst "AlloyPlans$Alloy" 3 := C
  change gW _ _ _ _ _ _ _ _ _ _ _ _ _ _ _ _ _ _ _ 0 [(0, .ref (ad (11 + i))), (1, .ref (ad 3))] []
  obtain ⟨u1, v1⟩ := h1
  obtain ⟨u3, v3⟩ := h3
  refine g_iconst C d_A_weighAgainst_0 1 rfl ?_
  refine g_istore_n C d_A_weighAgainst_1 2 rfl [(2, iv (0)), (0, .ref (ad (11 + i))), (1, .ref (ad 3))] rfl (by decide) rfl ?_
  have LP : ∀ (d n : Nat) (T : Nat → Nat → Int), n + d = 8 → T = uA S (19 + i) n (gainA S i) → gW p l e rm_A_weighAgainst s m args below meth c D CL A 3 (MQ below (gQ D CL L sz (fun r L' g => r = none ∧ L' = L ∧ g = (wd cd ad (uA S (19 + i) 8 (gainA S i)) f0))) args s rm_A_weighAgainst.cells rm_A_weighAgainst.slots (gA L sz)) 0 0 L (wd cd ad T f0) 2 [(2, iv ((n : Int))), (0, .ref (ad (11 + i))), (1, .ref (ad 3))] [] := by
    intro d
    induction d with
    | zero =>
      intro n T hn hT
      refine g_iload_n C d_A_weighAgainst_2 3 rfl rfl 0 rfl ?_
      refine g_aload_n C d_A_weighAgainst_3 4 rfl rfl 1 rfl ?_
      refine gt_A_gains C G d_A_weighAgainst_4 7 rfl i (by omega) fl_A_22 ?_
      refine ln_19 C G d_A_weighAgainst_7 8 rfl i (by omega) ?_
      refine g_icmp_ge C d_A_weighAgainst_8 11 rfl (show r32 ((n : Int)) from ⟨by omega, by omega⟩) ⟨by decide, by decide⟩ 52 rfl (fun (w1 : 8 ≤ (n : Int)) => ?_) (fun (w1 : ¬ 8 ≤ (n : Int)) => absurd w1 (by omega))
      exact g_vret C hA hsz hr hl d_A_weighAgainst_52 (by decide) (by decide) ⟨rfl, rfl, by rw [hT, show n = 8 by omega]⟩
    | succ d ih =>
      intro n T hn hT
      have e1 : T (11 + i) 1 = S (11 + i) 1 := by rw [hT, uA_ne (by omega)]
      have e3 : T (11 + i) 3 = S (11 + i) 3 := by rw [hT, uA_ne (by omega)]
      have e5 : T (15 + i) n = S (15 + i) n := by rw [hT, uA_ne (by omega)]
      have e7 : T 3 n = S 3 n := by rw [hT, uA_ne (by omega)]
      obtain ⟨u2, v2⟩ := h2 n (by omega)
      obtain ⟨u4, v4⟩ := h4 n (by omega)
      refine g_iload_n C d_A_weighAgainst_2 3 rfl rfl 0 rfl ?_
      refine g_aload_n C d_A_weighAgainst_3 4 rfl rfl 1 rfl ?_
      refine gt_A_gains C G d_A_weighAgainst_4 7 rfl i (by omega) fl_A_22 ?_
      refine ln_19 C G d_A_weighAgainst_7 8 rfl i (by omega) ?_
      refine g_icmp_ge C d_A_weighAgainst_8 11 rfl (show r32 ((n : Int)) from ⟨by omega, by omega⟩) ⟨by decide, by decide⟩ 52 rfl (fun (w2 : 8 ≤ (n : Int)) => absurd w2 (by omega)) (fun (w2 : ¬ 8 ≤ (n : Int)) => ?_)
      refine g_iload_n C d_A_weighAgainst_11 12 rfl rfl 0 rfl ?_
      refine g_aload_n C d_A_weighAgainst_12 13 rfl rfl 2 rfl ?_
      refine ln_3 C G d_A_weighAgainst_13 14 rfl ?_
      refine g_icmp_ge C d_A_weighAgainst_14 17 rfl (show r32 ((n : Int)) from ⟨by omega, by omega⟩) ⟨by decide, by decide⟩ 52 rfl (fun (w3 : 8 ≤ (n : Int)) => absurd w3 (by omega)) (fun (w3 : ¬ 8 ≤ (n : Int)) => ?_)
      refine g_aload_n C d_A_weighAgainst_17 18 rfl rfl 1 rfl ?_
      refine gt_A_gains C G d_A_weighAgainst_18 21 rfl i (by omega) fl_A_22 ?_
      refine g_iload_n C d_A_weighAgainst_21 22 rfl rfl 0 rfl ?_
      refine g_iload_n C d_A_weighAgainst_22 23 rfl rfl 0 rfl ?_
      refine g_aload_n C d_A_weighAgainst_23 24 rfl rfl 1 rfl ?_
      refine g_iload_n C d_A_weighAgainst_24 25 rfl rfl 0 rfl ?_
      refine fcV1 C (rest := [iv ((n : Int)), iv ((n : Int)), .ref (ad (19 + i))]) d_A_weighAgainst_25 28 rfl (t_A_heldInStepAt G (S := T) i n (by omega) (by omega) (show r32 (T (11 + i) 1) from ⟨by omega, by omega⟩) (show r32 (T (15 + i) n) from ⟨by omega, by omega⟩) (show r32 (T (11 + i) 3) from ⟨by omega, by omega⟩)) rfl (G.1 (11 + i) (by omega)) (at_A G i (by omega)) ⟨ml_A_29, im_A_heldInStepAt, se_A_heldInStepAt, ci_A⟩ w_A_heldInStepAt rfl 1 gy_A_heldInStepAt rfl 0 rfl 0 rfl rfl rfl (Nat.le_of_ble_eq_true rfl) ?_
      refine g_ldc2 C (z := 1000) d_A_weighAgainst_28 31 rfl rfl kd_A_33 ?_
      refine g_aload_n C d_A_weighAgainst_31 32 rfl rfl 1 rfl ?_
      refine gt_A_kilos C G d_A_weighAgainst_32 35 rfl i (by omega) fl_A_9 ?_
      refine g_i2l C d_A_weighAgainst_35 36 rfl (show r32 (T (11 + i) 1) from ⟨by omega, by omega⟩) ?_
      refine g_lmul C d_A_weighAgainst_36 37 rfl ?_
      refine g_aload_n C d_A_weighAgainst_37 38 rfl rfl 2 rfl ?_
      refine g_iload_n C d_A_weighAgainst_38 39 rfl rfl 0 rfl ?_
      refine ld_3 C G d_A_weighAgainst_39 40 rfl n (by omega) rfl ?_
      refine g_i2l C d_A_weighAgainst_40 41 rfl (show r32 (T 3 n) from ⟨by omega, by omega⟩) ?_
      refine g_lmul C d_A_weighAgainst_41 42 rfl ?_
      refine fcN1 C (rest := [iv ((n : Int)), .ref (ad (19 + i))]) d_A_weighAgainst_42 45 rfl (t_P_surplusAt ((n : Int)) (heldA T i n) ((1000 * (T (11 + i) 1)) * (T 3 n)) (show r32 ((n : Int)) from ⟨by omega, by omega⟩)) (gN_n_A35 C.2.1.2.1) ⟨ci_P, sm_P_surplusAt⟩ w_P_surplusAt 3 gy_P_surplusAt rfl 0 rfl 0 rfl rfl rfl (Nat.le_of_ble_eq_true rfl) ?_
      refine st_19 C G (x := if Int.tmod ((n : Int)) 2 = 0 then (heldA T i n) - ((1000 * (T (11 + i) 1)) * (T 3 n)) else ((1000 * (T (11 + i) 1)) * (T 3 n)) - (heldA T i n)) d_A_weighAgainst_45 46 rfl i (by omega) n (by omega) rfl ?_
      refine g_iinc C d_A_weighAgainst_46 49 rfl [(2, iv ((n : Int) + 1)), (0, .ref (ad (11 + i))), (1, .ref (ad 3))] 0 rfl (by decide) rfl ?_
      refine g_goto C d_A_weighAgainst_49 2 rfl ?_
      refine ih (n + 1) _ (by omega) ?_
      rw [← uA_s, ← hT]
      simp only [gainA, heldA, e1, e3, e5, e7]
  exact LP 8 0 _ rfl (uA_0 _ _ _).symm
abbrev rm_X_becomeHeat : Room := { frames := 3, cells := 0, slots := 0, locals := 65 }
set_option maxHeartbeats 4000000 in
set_option maxRecDepth 100000 in
theorem t_X_becomeHeat (G : LO ad L) (i : Nat) (x : Int) (hi : i < 5) (h1 : r32 (S 1 0)) (h2 : ∀ n, n < 8 → r32 (S 2 n)) (h3 : ∀ n, n < 8 → r32 (S 3 n)) : FM l y_X_becomeHeat c_X_becomeHeat 4 none rm_X_becomeHeat D cd L (wd cd ad S f0) [.ref (ad (23 + i)), .ref (ad 1), iv (x)] none (wd cd ad (uA (u2 (u2 (u2 S (23 + i) 0 0) (23 + i) 1 0) (23 + i) 2 x) (28 + i) 8 (surH S)) f0) := by
  refine g_of (by decide) (Nat.le_of_ble_eq_true rfl) ?_
  intro p e s m args below meth c A sz hA hsz C hr hl hnm
  have C : gC p s m args c D CL (TY cd) A c_X_becomeHeat "AlloyPlans$Mix" 4 := C
  change gW _ _ _ _ _ _ _ _ _ _ _ _ _ _ _ _ _ _ _ 0 [(0, .ref (ad (23 + i))), (1, .ref (ad 1)), (2, iv (x))] []
  obtain ⟨u1, v1⟩ := h1
  refine g_aload_n C d_X_becomeHeat_0 1 rfl rfl 0 rfl ?_
  refine g_iconst C d_X_becomeHeat_1 2 rfl ?_
  refine pt_X_cents C G (z := 0) d_X_becomeHeat_2 5 rfl i (by omega) fl_X_15 ?_
  refine g_aload_n C d_X_becomeHeat_5 6 rfl rfl 0 rfl ?_
  refine g_iconst C d_X_becomeHeat_6 7 rfl ?_
  refine pt_X_kinds C G (z := 0) d_X_becomeHeat_7 10 rfl i (by omega) fl_X_19 ?_
  refine g_aload_n C d_X_becomeHeat_10 11 rfl rfl 0 rfl ?_
  refine g_iload_n C d_X_becomeHeat_11 12 rfl rfl 2 rfl ?_
  refine pt_X_heatLeft C G (z := x) d_X_becomeHeat_12 15 rfl i (by omega) fl_X_22 ?_
  refine g_iconst C d_X_becomeHeat_15 16 rfl ?_
  refine g_istore_n C d_X_becomeHeat_16 17 rfl [(3, iv (0)), (0, .ref (ad (23 + i))), (1, .ref (ad 1)), (2, iv (x))] rfl (by decide) rfl ?_
  have LP : ∀ (d n : Nat) (T : Nat → Nat → Int), n + d = 8 → T = uA (u2 (u2 (u2 S (23 + i) 0 0) (23 + i) 1 0) (23 + i) 2 x) (28 + i) n (surH S) → gW p l e rm_X_becomeHeat s m args below meth c D CL A 4 (MQ below (gQ D CL L sz (fun r L' g => r = none ∧ L' = L ∧ g = (wd cd ad (uA (u2 (u2 (u2 S (23 + i) 0 0) (23 + i) 1 0) (23 + i) 2 x) (28 + i) 8 (surH S)) f0))) args s rm_X_becomeHeat.cells rm_X_becomeHeat.slots (gA L sz)) 0 0 L (wd cd ad T f0) 17 [(3, iv ((n : Int))), (0, .ref (ad (23 + i))), (1, .ref (ad 1)), (2, iv (x))] [] := by
    intro d
    induction d with
    | zero =>
      intro n T hn hT
      refine g_iload_n C d_X_becomeHeat_17 18 rfl rfl 0 rfl ?_
      refine g_aload_n C d_X_becomeHeat_18 19 rfl rfl 1 rfl ?_
      refine gt_X_surplus C G d_X_becomeHeat_19 22 rfl i (by omega) fl_X_9 ?_
      refine ln_28 C G d_X_becomeHeat_22 23 rfl i (by omega) ?_
      refine g_icmp_ge C d_X_becomeHeat_23 26 rfl (show r32 ((n : Int)) from ⟨by omega, by omega⟩) ⟨by decide, by decide⟩ 43 rfl (fun (w1 : 8 ≤ (n : Int)) => ?_) (fun (w1 : ¬ 8 ≤ (n : Int)) => absurd w1 (by omega))
      exact g_vret C hA hsz hr hl d_X_becomeHeat_43 (by decide) (by decide) ⟨rfl, rfl, by rw [hT, show n = 8 by omega]⟩
    | succ d ih =>
      intro n T hn hT
      have e1 : T 1 0 = S 1 0 := by rw [hT, uA_ne (by omega), u2_ne (by omega), u2_ne (by omega), u2_ne (by omega)]
      have e2 : T 2 n = S 2 n := by rw [hT, uA_ne (by omega), u2_ne (by omega), u2_ne (by omega), u2_ne (by omega)]
      have e3 : T 3 n = S 3 n := by rw [hT, uA_ne (by omega), u2_ne (by omega), u2_ne (by omega), u2_ne (by omega)]
      obtain ⟨u2, v2⟩ := h2 n (by omega)
      obtain ⟨u3, v3⟩ := h3 n (by omega)
      refine g_iload_n C d_X_becomeHeat_17 18 rfl rfl 0 rfl ?_
      refine g_aload_n C d_X_becomeHeat_18 19 rfl rfl 1 rfl ?_
      refine gt_X_surplus C G d_X_becomeHeat_19 22 rfl i (by omega) fl_X_9 ?_
      refine ln_28 C G d_X_becomeHeat_22 23 rfl i (by omega) ?_
      refine g_icmp_ge C d_X_becomeHeat_23 26 rfl (show r32 ((n : Int)) from ⟨by omega, by omega⟩) ⟨by decide, by decide⟩ 43 rfl (fun (w2 : 8 ≤ (n : Int)) => absurd w2 (by omega)) (fun (w2 : ¬ 8 ≤ (n : Int)) => ?_)
      refine g_aload_n C d_X_becomeHeat_26 27 rfl rfl 1 rfl ?_
      refine gt_X_surplus C G d_X_becomeHeat_27 30 rfl i (by omega) fl_X_9 ?_
      refine g_iload_n C d_X_becomeHeat_30 31 rfl rfl 0 rfl ?_
      refine g_aload_n C d_X_becomeHeat_31 32 rfl rfl 2 rfl ?_
      refine g_iload_n C d_X_becomeHeat_32 33 rfl rfl 0 rfl ?_
      refine fcV1 C (rest := [iv ((n : Int)), .ref (ad (28 + i))]) d_X_becomeHeat_33 36 rfl (t_E_surplusOfHeat G (S := T) n (by omega) (show r32 (T 1 0) from ⟨by omega, by omega⟩) (show r32 (T 2 n) from ⟨by omega, by omega⟩) (show r32 (T 3 n) from ⟨by omega, by omega⟩)) rfl (G.1 1 (by decide)) (at_E G) ⟨ml_X_25, im_E_surplusOfHeat, se_E_surplusOfHeat, ci_E⟩ w_E_surplusOfHeat rfl 1 gy_E_surplusOfHeat rfl 0 rfl 0 rfl rfl rfl (Nat.le_of_ble_eq_true rfl) ?_
      refine st_28 C G (x := surH T n) d_X_becomeHeat_36 37 rfl i (by omega) n (by omega) rfl ?_
      refine g_iinc C d_X_becomeHeat_37 40 rfl [(3, iv ((n : Int) + 1)), (0, .ref (ad (23 + i))), (1, .ref (ad 1)), (2, iv (x))] 0 rfl (by decide) rfl ?_
      refine g_goto C d_X_becomeHeat_40 17 rfl ?_
      refine ih (n + 1) _ (by omega) ?_
      rw [← uA_s, ← hT]
      simp only [surH, heldH, e1, e2, e3]
  exact LP 8 0 _ rfl (uA_0 _ _ _).symm
abbrev rm_X_takeStep : Room := { frames := 1, cells := 0, slots := 0, locals := 20 }
set_option maxHeartbeats 4000000 in
set_option maxRecDepth 100000 in
theorem t_X_takeStep (G : LO ad L) (i j : Nat) (x : Int) (hi : i < 5) (hj : j < 4) (hx : r32 x) : FM l y_X_takeStep c_X_takeStep 4 none rm_X_takeStep D cd L (wd cd ad S f0) [.ref (ad (23 + i)), .ref (ad (11 + j)), iv (x)] none (wd cd ad (uA (u2 (u2 (u2 S (23 + i) 0 (S (23 + i) 0 + S (11 + j) 0)) (23 + i) 1 (S (23 + i) 1 + (if x = 0 then 0 else 1))) (23 + i) 2 (S (23 + i) 2 - S (11 + j) 1 * S (11 + j) 4)) (28 + i) 8 (fun n => S (28 + i) n + S (19 + j) n)) f0) := by
  refine g_of (by decide) (Nat.le_of_ble_eq_true rfl) ?_
  intro p e s m args below meth c A sz hA hsz C hr hl hnm
  have C : gC p s m args c D CL (TY cd) A c_X_takeStep "AlloyPlans$Mix" 4 := C
  change gW _ _ _ _ _ _ _ _ _ _ _ _ _ _ _ _ _ _ _ 0 [(0, .ref (ad (23 + i))), (1, .ref (ad (11 + j))), (2, iv (x))] []
  obtain ⟨u0, v0⟩ := hx
  refine g_aload_n C d_X_takeStep_0 1 rfl rfl 0 rfl ?_
  refine g_dup C d_X_takeStep_1 2 rfl rfl ?_
  refine gt_X_cents C G d_X_takeStep_2 5 rfl i (by omega) fl_X_15 ?_
  refine g_aload_n C d_X_takeStep_5 6 rfl rfl 1 rfl ?_
  refine gt_A_cents C G d_X_takeStep_6 9 rfl j (by omega) fl_X_37 ?_
  refine g_iadd C d_X_takeStep_9 10 rfl ?_
  refine pt_X_cents C G (z := (S (23 + i) 0) + (S (11 + j) 0)) d_X_takeStep_10 13 rfl i (by omega) fl_X_15 ?_
  refine g_aload_n C d_X_takeStep_13 14 rfl rfl 0 rfl ?_
  refine g_dup C d_X_takeStep_14 15 rfl rfl ?_
  refine gt_X_kinds C G d_X_takeStep_15 18 rfl i (by omega) fl_X_19 ?_
  have J27 : ∀ zj : Int, zj = (if x = 0 then 0 else 1) → gW p l e rm_X_takeStep s m args below meth c D CL A 4 (MQ below (gQ D CL L sz (fun r L' g => r = none ∧ L' = L ∧ g = (wd cd ad (uA (u2 (u2 (u2 S (23 + i) 0 (S (23 + i) 0 + S (11 + j) 0)) (23 + i) 1 (S (23 + i) 1 + (if x = 0 then 0 else 1))) (23 + i) 2 (S (23 + i) 2 - S (11 + j) 1 * S (11 + j) 4)) (28 + i) 8 (fun n => S (28 + i) n + S (19 + j) n)) f0))) args s rm_X_takeStep.cells rm_X_takeStep.slots (gA L sz)) 0 0 L (wd cd ad (u2 S (23 + i) 0 ((S (23 + i) 0) + (S (11 + j) 0))) f0) 27 [(0, .ref (ad (23 + i))), (1, .ref (ad (11 + j))), (2, iv (x))] [iv zj, iv ((u2 S (23 + i) 0 ((S (23 + i) 0) + (S (11 + j) 0))) (23 + i) 1), .ref (ad (23 + i))] := by
    intro zj hzj
    subst hzj
    refine g_iadd C d_X_takeStep_27 28 rfl ?_
    refine pt_X_kinds C G (z := ((u2 S (23 + i) 0 ((S (23 + i) 0) + (S (11 + j) 0))) (23 + i) 1) + (if x = 0 then 0 else 1)) d_X_takeStep_28 31 rfl i (by omega) fl_X_19 ?_
    refine g_aload_n C d_X_takeStep_31 32 rfl rfl 0 rfl ?_
    refine g_dup C d_X_takeStep_32 33 rfl rfl ?_
    refine gt_X_heatLeft C G d_X_takeStep_33 36 rfl i (by omega) fl_X_22 ?_
    refine g_aload_n C d_X_takeStep_36 37 rfl rfl 1 rfl ?_
    refine fcV1 C (rest := [iv ((u2 (u2 S (23 + i) 0 ((S (23 + i) 0) + (S (11 + j) 0))) (23 + i) 1 (((u2 S (23 + i) 0 ((S (23 + i) 0) + (S (11 + j) 0))) (23 + i) 1) + (if x = 0 then 0 else 1))) (23 + i) 2), .ref (ad (23 + i))]) d_X_takeStep_37 40 rfl (t_A_coolingOfStep G (S := (u2 (u2 S (23 + i) 0 ((S (23 + i) 0) + (S (11 + j) 0))) (23 + i) 1 (((u2 S (23 + i) 0 ((S (23 + i) 0) + (S (11 + j) 0))) (23 + i) 1) + (if x = 0 then 0 else 1)))) j (by omega)) rfl (G.1 (11 + j) (by omega)) (at_A G j (by omega)) ⟨ml_X_40, im_A_coolingOfStep, se_A_coolingOfStep, ci_A⟩ w_A_coolingOfStep rfl 0 gy_A_coolingOfStep rfl 0 rfl 0 rfl rfl rfl (Nat.le_of_ble_eq_true rfl) ?_
    refine g_isub C d_X_takeStep_40 41 rfl ?_
    refine pt_X_heatLeft C G (z := ((u2 (u2 S (23 + i) 0 ((S (23 + i) 0) + (S (11 + j) 0))) (23 + i) 1 (((u2 S (23 + i) 0 ((S (23 + i) 0) + (S (11 + j) 0))) (23 + i) 1) + (if x = 0 then 0 else 1))) (23 + i) 2) - (((u2 (u2 S (23 + i) 0 ((S (23 + i) 0) + (S (11 + j) 0))) (23 + i) 1 (((u2 S (23 + i) 0 ((S (23 + i) 0) + (S (11 + j) 0))) (23 + i) 1) + (if x = 0 then 0 else 1))) (11 + j) 1) * ((u2 (u2 S (23 + i) 0 ((S (23 + i) 0) + (S (11 + j) 0))) (23 + i) 1 (((u2 S (23 + i) 0 ((S (23 + i) 0) + (S (11 + j) 0))) (23 + i) 1) + (if x = 0 then 0 else 1))) (11 + j) 4))) d_X_takeStep_41 44 rfl i (by omega) fl_X_22 ?_
    refine g_iconst C d_X_takeStep_44 45 rfl ?_
    refine g_istore_n C d_X_takeStep_45 46 rfl [(3, iv (0)), (0, .ref (ad (23 + i))), (1, .ref (ad (11 + j))), (2, iv (x))] rfl (by decide) rfl ?_
    have hS3 : (u2 (u2 (u2 S (23 + i) 0 ((S (23 + i) 0) + (S (11 + j) 0))) (23 + i) 1 (((u2 S (23 + i) 0 ((S (23 + i) 0) + (S (11 + j) 0))) (23 + i) 1) + (if x = 0 then 0 else 1))) (23 + i) 2 (((u2 (u2 S (23 + i) 0 ((S (23 + i) 0) + (S (11 + j) 0))) (23 + i) 1 (((u2 S (23 + i) 0 ((S (23 + i) 0) + (S (11 + j) 0))) (23 + i) 1) + (if x = 0 then 0 else 1))) (23 + i) 2) - (((u2 (u2 S (23 + i) 0 ((S (23 + i) 0) + (S (11 + j) 0))) (23 + i) 1 (((u2 S (23 + i) 0 ((S (23 + i) 0) + (S (11 + j) 0))) (23 + i) 1) + (if x = 0 then 0 else 1))) (11 + j) 1) * ((u2 (u2 S (23 + i) 0 ((S (23 + i) 0) + (S (11 + j) 0))) (23 + i) 1 (((u2 S (23 + i) 0 ((S (23 + i) 0) + (S (11 + j) 0))) (23 + i) 1) + (if x = 0 then 0 else 1))) (11 + j) 4)))) = (u2 (u2 (u2 S (23 + i) 0 (S (23 + i) 0 + S (11 + j) 0)) (23 + i) 1 (S (23 + i) 1 + (if x = 0 then 0 else 1))) (23 + i) 2 (S (23 + i) 2 - S (11 + j) 1 * S (11 + j) 4)) := by
      simp only [u2_j (show (1 : Nat) ≠ 0 by decide), u2_j (show (2 : Nat) ≠ 0 by decide), u2_j (show (2 : Nat) ≠ 1 by decide), u2_ne (show 11 + j ≠ 23 + i by omega)]
    have LP : ∀ (d n : Nat) (T : Nat → Nat → Int), n + d = 8 → T = uA (u2 (u2 (u2 S (23 + i) 0 (S (23 + i) 0 + S (11 + j) 0)) (23 + i) 1 (S (23 + i) 1 + (if x = 0 then 0 else 1))) (23 + i) 2 (S (23 + i) 2 - S (11 + j) 1 * S (11 + j) 4)) (28 + i) n (fun n => S (28 + i) n + S (19 + j) n) → gW p l e rm_X_takeStep s m args below meth c D CL A 4 (MQ below (gQ D CL L sz (fun r L' g => r = none ∧ L' = L ∧ g = (wd cd ad (uA (u2 (u2 (u2 S (23 + i) 0 (S (23 + i) 0 + S (11 + j) 0)) (23 + i) 1 (S (23 + i) 1 + (if x = 0 then 0 else 1))) (23 + i) 2 (S (23 + i) 2 - S (11 + j) 1 * S (11 + j) 4)) (28 + i) 8 (fun n => S (28 + i) n + S (19 + j) n)) f0))) args s rm_X_takeStep.cells rm_X_takeStep.slots (gA L sz)) 0 0 L (wd cd ad T f0) 46 [(3, iv ((n : Int))), (0, .ref (ad (23 + i))), (1, .ref (ad (11 + j))), (2, iv (x))] [] := by
      intro d
      induction d with
      | zero =>
        intro n T hn hT
        refine g_iload_n C d_X_takeStep_46 47 rfl rfl 0 rfl ?_
        refine g_aload_n C d_X_takeStep_47 48 rfl rfl 1 rfl ?_
        refine gt_X_surplus C G d_X_takeStep_48 51 rfl i (by omega) fl_X_9 ?_
        refine ln_28 C G d_X_takeStep_51 52 rfl i (by omega) ?_
        refine g_icmp_ge C d_X_takeStep_52 55 rfl (show r32 ((n : Int)) from ⟨by omega, by omega⟩) ⟨by decide, by decide⟩ 76 rfl (fun (w1 : 8 ≤ (n : Int)) => ?_) (fun (w1 : ¬ 8 ≤ (n : Int)) => absurd w1 (by omega))
        exact g_vret C hA hsz hr hl d_X_takeStep_76 (by decide) (by decide) ⟨rfl, rfl, by rw [hT, show n = 8 by omega]⟩
      | succ d ih =>
        intro n T hn hT
        have e1 : T (19 + j) n = S (19 + j) n := by rw [hT, uA_ne (by omega), u2_ne (by omega), u2_ne (by omega), u2_ne (by omega)]
        have e2 : T (28 + i) n = S (28 + i) n := by rw [hT, uA_ge (Nat.le_refl n), u2_ne (by omega), u2_ne (by omega), u2_ne (by omega)]
        refine g_iload_n C d_X_takeStep_46 47 rfl rfl 0 rfl ?_
        refine g_aload_n C d_X_takeStep_47 48 rfl rfl 1 rfl ?_
        refine gt_X_surplus C G d_X_takeStep_48 51 rfl i (by omega) fl_X_9 ?_
        refine ln_28 C G d_X_takeStep_51 52 rfl i (by omega) ?_
        refine g_icmp_ge C d_X_takeStep_52 55 rfl (show r32 ((n : Int)) from ⟨by omega, by omega⟩) ⟨by decide, by decide⟩ 76 rfl (fun (w2 : 8 ≤ (n : Int)) => absurd w2 (by omega)) (fun (w2 : ¬ 8 ≤ (n : Int)) => ?_)
        refine g_aload_n C d_X_takeStep_55 56 rfl rfl 1 rfl ?_
        refine gt_X_surplus C G d_X_takeStep_56 59 rfl i (by omega) fl_X_9 ?_
        refine g_iload_n C d_X_takeStep_59 60 rfl rfl 0 rfl ?_
        refine g_dup2_11 C d_X_takeStep_60 61 rfl rfl rfl ?_
        refine ld_28 C G d_X_takeStep_61 62 rfl i (by omega) n (by omega) rfl ?_
        refine g_aload_n C d_X_takeStep_62 63 rfl rfl 2 rfl ?_
        refine gt_A_gains C G d_X_takeStep_63 66 rfl j (by omega) fl_X_44 ?_
        refine g_iload_n C d_X_takeStep_66 67 rfl rfl 0 rfl ?_
        refine ld_19 C G d_X_takeStep_67 68 rfl j (by omega) n (by omega) rfl ?_
        refine g_ladd C d_X_takeStep_68 69 rfl ?_
        refine st_28 C G (x := (T (28 + i) n) + (T (19 + j) n)) d_X_takeStep_69 70 rfl i (by omega) n (by omega) rfl ?_
        refine g_iinc C d_X_takeStep_70 73 rfl [(3, iv ((n : Int) + 1)), (0, .ref (ad (23 + i))), (1, .ref (ad (11 + j))), (2, iv (x))] 0 rfl (by decide) rfl ?_
        refine g_goto C d_X_takeStep_73 46 rfl ?_
        refine ih (n + 1) _ (by omega) ?_
        rw [← uA_s, ← hT]
        simp only [e1, e2]
    exact LP 8 0 _ rfl (hS3.trans (uA_0 _ _ _).symm)
  refine g_iload_n C d_X_takeStep_18 19 rfl rfl 2 rfl ?_
  refine g_if_eq C d_X_takeStep_19 22 rfl (show r32 x from ⟨by omega, by omega⟩) 26 rfl (fun (w3 : x = 0) => ?_) (fun (w4 : ¬ x = 0) => ?_)
  · skip
    refine g_iconst C d_X_takeStep_26 27 rfl ?_
    exact J27 0 (by first | rw [if_pos (by omega)] | rw [if_neg (by omega)])
  · skip
    refine g_iconst C d_X_takeStep_22 23 rfl ?_
    refine g_goto C d_X_takeStep_23 27 rfl ?_
    exact J27 1 (by first | rw [if_pos (by omega)] | rw [if_neg (by omega)])
abbrev rm_X_becomeLike : Room := { frames := 1, cells := 0, slots := 0, locals := 40 }
set_option maxHeartbeats 4000000 in
set_option maxRecDepth 100000 in
theorem t_X_becomeLike (G : LO ad L) (i j : Nat) (hi : i < 5) (hj : j < 5) (hij : i ≠ j) : FM l y_X_becomeLike c_X_becomeLike 2 none rm_X_becomeLike D cd L (wd cd ad S f0) [.ref (ad (23 + i)), .ref (ad (23 + j))] none (wd cd ad (uA (u2 (u2 (u2 S (23 + i) 0 (S (23 + j) 0)) (23 + i) 1 (S (23 + j) 1)) (23 + i) 2 (S (23 + j) 2)) (28 + i) 8 (S (28 + j))) f0) := by
  refine g_of (by decide) (Nat.le_of_ble_eq_true rfl) ?_
  intro p e s m args below meth c A sz hA hsz C hr hl hnm
  have C : gC p s m args c D CL (TY cd) A c_X_becomeLike "AlloyPlans$Mix" 2 := C
  change gW _ _ _ _ _ _ _ _ _ _ _ _ _ _ _ _ _ _ _ 0 [(0, .ref (ad (23 + i))), (1, .ref (ad (23 + j)))] []
  refine g_aload_n C d_X_becomeLike_0 1 rfl rfl 0 rfl ?_
  refine g_aload_n C d_X_becomeLike_1 2 rfl rfl 1 rfl ?_
  refine gt_X_cents C G d_X_becomeLike_2 5 rfl j (by omega) fl_X_15 ?_
  refine pt_X_cents C G (z := S (23 + j) 0) d_X_becomeLike_5 8 rfl i (by omega) fl_X_15 ?_
  refine g_aload_n C d_X_becomeLike_8 9 rfl rfl 0 rfl ?_
  refine g_aload_n C d_X_becomeLike_9 10 rfl rfl 1 rfl ?_
  refine gt_X_kinds C G d_X_becomeLike_10 13 rfl j (by omega) fl_X_19 ?_
  refine pt_X_kinds C G (z := (u2 S (23 + i) 0 (S (23 + j) 0)) (23 + j) 1) d_X_becomeLike_13 16 rfl i (by omega) fl_X_19 ?_
  refine g_aload_n C d_X_becomeLike_16 17 rfl rfl 0 rfl ?_
  refine g_aload_n C d_X_becomeLike_17 18 rfl rfl 1 rfl ?_
  refine gt_X_heatLeft C G d_X_becomeLike_18 21 rfl j (by omega) fl_X_22 ?_
  refine pt_X_heatLeft C G (z := (u2 (u2 S (23 + i) 0 (S (23 + j) 0)) (23 + i) 1 ((u2 S (23 + i) 0 (S (23 + j) 0)) (23 + j) 1)) (23 + j) 2) d_X_becomeLike_21 24 rfl i (by omega) fl_X_22 ?_
  refine g_aload_n C d_X_becomeLike_24 25 rfl rfl 1 rfl ?_
  refine gt_X_surplus C G d_X_becomeLike_25 28 rfl j (by omega) fl_X_9 ?_
  refine g_iconst C d_X_becomeLike_28 29 rfl ?_
  refine g_aload_n C d_X_becomeLike_29 30 rfl rfl 0 rfl ?_
  refine gt_X_surplus C G d_X_becomeLike_30 33 rfl i (by omega) fl_X_9 ?_
  refine g_iconst C d_X_becomeLike_33 34 rfl ?_
  refine g_aload_n C d_X_becomeLike_34 35 rfl rfl 0 rfl ?_
  refine gt_X_surplus C G d_X_becomeLike_35 38 rfl i (by omega) fl_X_9 ?_
  refine ln_28 C G d_X_becomeLike_38 39 rfl i (by omega) ?_
  refine cp_28 C G d_X_becomeLike_39 42 rfl ⟨ml_X_31, wA_native, wA_static, ci_System⟩ i j (by omega) (by omega) (by decide) (by decide +kernel) ?_
  exact g_vret C hA hsz hr hl d_X_becomeLike_42 (by decide) (by decide) ⟨rfl, rfl, by simp only [u2_ne (show 23 + j ≠ 23 + i by omega), u2_ne (show 28 + j ≠ 23 + i by omega)]⟩
abbrev rm_X_countMet : Room := { frames := 0, cells := 0, slots := 0, locals := 0 }
set_option maxHeartbeats 4000000 in
set_option maxRecDepth 100000 in
theorem t_X_countMet (G : LO ad L) (i : Nat) (hi : i < 5) (hs : ∀ j, j < 8 → r64 (S (28 + i) j)) : FM l y_X_countMet c_X_countMet 2 (some .int) rm_X_countMet D cd L (wd cd ad S f0) [.ref (ad (23 + i))] (some (iv (cmet (S (28 + i))))) (wd cd ad S f0) := by
  refine g_of (by decide) (Nat.le_of_ble_eq_true rfl) ?_
  intro p e s m args below meth c A sz hA hsz C hr hl hnm
  have C : gC p s m args c D CL (TY cd) A c_X_countMet "AlloyPlans$Mix" 2 := C
  change gW _ _ _ _ _ _ _ _ _ _ _ _ _ _ _ _ _ _ _ 0 [(0, .ref (ad (23 + i)))] []
  obtain ⟨u0, v0⟩ := hs 0 (by decide)
  obtain ⟨u1, v1⟩ := hs 1 (by decide)
  obtain ⟨u2, v2⟩ := hs 2 (by decide)
  obtain ⟨u3, v3⟩ := hs 3 (by decide)
  obtain ⟨u4, v4⟩ := hs 4 (by decide)
  obtain ⟨u5, v5⟩ := hs 5 (by decide)
  obtain ⟨u6, v6⟩ := hs 6 (by decide)
  obtain ⟨u7, v7⟩ := hs 7 (by decide)
  refine g_iconst C d_X_countMet_0 1 rfl ?_
  refine g_istore_n C d_X_countMet_1 2 rfl [(1, iv (0)), (0, .ref (ad (23 + i)))] rfl (by decide) rfl ?_
  refine g_iload_n C d_X_countMet_2 3 rfl rfl 0 rfl ?_
  refine g_aload_n C d_X_countMet_3 4 rfl rfl 1 rfl ?_
  refine gt_X_surplus C G d_X_countMet_4 7 rfl i (by omega) fl_X_9 ?_
  refine ln_28 C G d_X_countMet_7 8 rfl i (by omega) ?_
  refine g_icmp_ge C d_X_countMet_8 11 rfl ⟨by decide, by decide⟩ ⟨by decide, by decide⟩ 32 rfl (fun (w1 : 8 ≤ (0 : Int)) => absurd w1 (by decide)) (fun (w1 : ¬ 8 ≤ (0 : Int)) => ?_)
  refine g_aload_n C d_X_countMet_11 12 rfl rfl 1 rfl ?_
  refine gt_X_surplus C G d_X_countMet_12 15 rfl i (by omega) fl_X_9 ?_
  refine g_iload_n C d_X_countMet_15 16 rfl rfl 0 rfl ?_
  refine ld_28 C G d_X_countMet_16 17 rfl i (by omega) 0 (by decide) rfl ?_
  refine g_lconst C (z := 0) d_X_countMet_17 18 rfl rfl ?_
  refine g_lcmp_ge C d_X_countMet_18 19 rfl 22 rfl (show r64 (S (28 + i) 0) from ⟨by omega, by omega⟩) ⟨by decide, by decide⟩ 26 rfl d_X_countMet_19 (fun (w2 : 0 ≤ S (28 + i) 0) => ?_) (fun (w3 : ¬ 0 ≤ S (28 + i) 0) => ?_)
  · skip
    refine g_iinc C d_X_countMet_26 29 rfl [(1, iv (1)), (0, .ref (ad (23 + i)))] 0 rfl (by decide) rfl ?_
    refine g_goto C d_X_countMet_29 2 rfl ?_
    refine g_iload_n C d_X_countMet_2 3 rfl rfl 0 rfl ?_
    refine g_aload_n C d_X_countMet_3 4 rfl rfl 1 rfl ?_
    refine gt_X_surplus C G d_X_countMet_4 7 rfl i (by omega) fl_X_9 ?_
    refine ln_28 C G d_X_countMet_7 8 rfl i (by omega) ?_
    refine g_icmp_ge C d_X_countMet_8 11 rfl ⟨by decide, by decide⟩ ⟨by decide, by decide⟩ 32 rfl (fun (w4 : 8 ≤ (1 : Int)) => absurd w4 (by decide)) (fun (w4 : ¬ 8 ≤ (1 : Int)) => ?_)
    refine g_aload_n C d_X_countMet_11 12 rfl rfl 1 rfl ?_
    refine gt_X_surplus C G d_X_countMet_12 15 rfl i (by omega) fl_X_9 ?_
    refine g_iload_n C d_X_countMet_15 16 rfl rfl 0 rfl ?_
    refine ld_28 C G d_X_countMet_16 17 rfl i (by omega) 1 (by decide) rfl ?_
    refine g_lconst C (z := 0) d_X_countMet_17 18 rfl rfl ?_
    refine g_lcmp_ge C d_X_countMet_18 19 rfl 22 rfl (show r64 (S (28 + i) 1) from ⟨by omega, by omega⟩) ⟨by decide, by decide⟩ 26 rfl d_X_countMet_19 (fun (w5 : 0 ≤ S (28 + i) 1) => ?_) (fun (w6 : ¬ 0 ≤ S (28 + i) 1) => ?_)
    · skip
      refine g_iinc C d_X_countMet_26 29 rfl [(1, iv (2)), (0, .ref (ad (23 + i)))] 0 rfl (by decide) rfl ?_
      refine g_goto C d_X_countMet_29 2 rfl ?_
      refine g_iload_n C d_X_countMet_2 3 rfl rfl 0 rfl ?_
      refine g_aload_n C d_X_countMet_3 4 rfl rfl 1 rfl ?_
      refine gt_X_surplus C G d_X_countMet_4 7 rfl i (by omega) fl_X_9 ?_
      refine ln_28 C G d_X_countMet_7 8 rfl i (by omega) ?_
      refine g_icmp_ge C d_X_countMet_8 11 rfl ⟨by decide, by decide⟩ ⟨by decide, by decide⟩ 32 rfl (fun (w7 : 8 ≤ (2 : Int)) => absurd w7 (by decide)) (fun (w7 : ¬ 8 ≤ (2 : Int)) => ?_)
      refine g_aload_n C d_X_countMet_11 12 rfl rfl 1 rfl ?_
      refine gt_X_surplus C G d_X_countMet_12 15 rfl i (by omega) fl_X_9 ?_
      refine g_iload_n C d_X_countMet_15 16 rfl rfl 0 rfl ?_
      refine ld_28 C G d_X_countMet_16 17 rfl i (by omega) 2 (by decide) rfl ?_
      refine g_lconst C (z := 0) d_X_countMet_17 18 rfl rfl ?_
      refine g_lcmp_ge C d_X_countMet_18 19 rfl 22 rfl (show r64 (S (28 + i) 2) from ⟨by omega, by omega⟩) ⟨by decide, by decide⟩ 26 rfl d_X_countMet_19 (fun (w8 : 0 ≤ S (28 + i) 2) => ?_) (fun (w9 : ¬ 0 ≤ S (28 + i) 2) => ?_)
      · skip
        refine g_iinc C d_X_countMet_26 29 rfl [(1, iv (3)), (0, .ref (ad (23 + i)))] 0 rfl (by decide) rfl ?_
        refine g_goto C d_X_countMet_29 2 rfl ?_
        refine g_iload_n C d_X_countMet_2 3 rfl rfl 0 rfl ?_
        refine g_aload_n C d_X_countMet_3 4 rfl rfl 1 rfl ?_
        refine gt_X_surplus C G d_X_countMet_4 7 rfl i (by omega) fl_X_9 ?_
        refine ln_28 C G d_X_countMet_7 8 rfl i (by omega) ?_
        refine g_icmp_ge C d_X_countMet_8 11 rfl ⟨by decide, by decide⟩ ⟨by decide, by decide⟩ 32 rfl (fun (w10 : 8 ≤ (3 : Int)) => absurd w10 (by decide)) (fun (w10 : ¬ 8 ≤ (3 : Int)) => ?_)
        refine g_aload_n C d_X_countMet_11 12 rfl rfl 1 rfl ?_
        refine gt_X_surplus C G d_X_countMet_12 15 rfl i (by omega) fl_X_9 ?_
        refine g_iload_n C d_X_countMet_15 16 rfl rfl 0 rfl ?_
        refine ld_28 C G d_X_countMet_16 17 rfl i (by omega) 3 (by decide) rfl ?_
        refine g_lconst C (z := 0) d_X_countMet_17 18 rfl rfl ?_
        refine g_lcmp_ge C d_X_countMet_18 19 rfl 22 rfl (show r64 (S (28 + i) 3) from ⟨by omega, by omega⟩) ⟨by decide, by decide⟩ 26 rfl d_X_countMet_19 (fun (w11 : 0 ≤ S (28 + i) 3) => ?_) (fun (w12 : ¬ 0 ≤ S (28 + i) 3) => ?_)
        · skip
          refine g_iinc C d_X_countMet_26 29 rfl [(1, iv (4)), (0, .ref (ad (23 + i)))] 0 rfl (by decide) rfl ?_
          refine g_goto C d_X_countMet_29 2 rfl ?_
          refine g_iload_n C d_X_countMet_2 3 rfl rfl 0 rfl ?_
          refine g_aload_n C d_X_countMet_3 4 rfl rfl 1 rfl ?_
          refine gt_X_surplus C G d_X_countMet_4 7 rfl i (by omega) fl_X_9 ?_
          refine ln_28 C G d_X_countMet_7 8 rfl i (by omega) ?_
          refine g_icmp_ge C d_X_countMet_8 11 rfl ⟨by decide, by decide⟩ ⟨by decide, by decide⟩ 32 rfl (fun (w13 : 8 ≤ (4 : Int)) => absurd w13 (by decide)) (fun (w13 : ¬ 8 ≤ (4 : Int)) => ?_)
          refine g_aload_n C d_X_countMet_11 12 rfl rfl 1 rfl ?_
          refine gt_X_surplus C G d_X_countMet_12 15 rfl i (by omega) fl_X_9 ?_
          refine g_iload_n C d_X_countMet_15 16 rfl rfl 0 rfl ?_
          refine ld_28 C G d_X_countMet_16 17 rfl i (by omega) 4 (by decide) rfl ?_
          refine g_lconst C (z := 0) d_X_countMet_17 18 rfl rfl ?_
          refine g_lcmp_ge C d_X_countMet_18 19 rfl 22 rfl (show r64 (S (28 + i) 4) from ⟨by omega, by omega⟩) ⟨by decide, by decide⟩ 26 rfl d_X_countMet_19 (fun (w14 : 0 ≤ S (28 + i) 4) => ?_) (fun (w15 : ¬ 0 ≤ S (28 + i) 4) => ?_)
          · skip
            refine g_iinc C d_X_countMet_26 29 rfl [(1, iv (5)), (0, .ref (ad (23 + i)))] 0 rfl (by decide) rfl ?_
            refine g_goto C d_X_countMet_29 2 rfl ?_
            refine g_iload_n C d_X_countMet_2 3 rfl rfl 0 rfl ?_
            refine g_aload_n C d_X_countMet_3 4 rfl rfl 1 rfl ?_
            refine gt_X_surplus C G d_X_countMet_4 7 rfl i (by omega) fl_X_9 ?_
            refine ln_28 C G d_X_countMet_7 8 rfl i (by omega) ?_
            refine g_icmp_ge C d_X_countMet_8 11 rfl ⟨by decide, by decide⟩ ⟨by decide, by decide⟩ 32 rfl (fun (w16 : 8 ≤ (5 : Int)) => absurd w16 (by decide)) (fun (w16 : ¬ 8 ≤ (5 : Int)) => ?_)
            refine g_aload_n C d_X_countMet_11 12 rfl rfl 1 rfl ?_
            refine gt_X_surplus C G d_X_countMet_12 15 rfl i (by omega) fl_X_9 ?_
            refine g_iload_n C d_X_countMet_15 16 rfl rfl 0 rfl ?_
            refine ld_28 C G d_X_countMet_16 17 rfl i (by omega) 5 (by decide) rfl ?_
            refine g_lconst C (z := 0) d_X_countMet_17 18 rfl rfl ?_
            refine g_lcmp_ge C d_X_countMet_18 19 rfl 22 rfl (show r64 (S (28 + i) 5) from ⟨by omega, by omega⟩) ⟨by decide, by decide⟩ 26 rfl d_X_countMet_19 (fun (w17 : 0 ≤ S (28 + i) 5) => ?_) (fun (w18 : ¬ 0 ≤ S (28 + i) 5) => ?_)
            · skip
              refine g_iinc C d_X_countMet_26 29 rfl [(1, iv (6)), (0, .ref (ad (23 + i)))] 0 rfl (by decide) rfl ?_
              refine g_goto C d_X_countMet_29 2 rfl ?_
              refine g_iload_n C d_X_countMet_2 3 rfl rfl 0 rfl ?_
              refine g_aload_n C d_X_countMet_3 4 rfl rfl 1 rfl ?_
              refine gt_X_surplus C G d_X_countMet_4 7 rfl i (by omega) fl_X_9 ?_
              refine ln_28 C G d_X_countMet_7 8 rfl i (by omega) ?_
              refine g_icmp_ge C d_X_countMet_8 11 rfl ⟨by decide, by decide⟩ ⟨by decide, by decide⟩ 32 rfl (fun (w19 : 8 ≤ (6 : Int)) => absurd w19 (by decide)) (fun (w19 : ¬ 8 ≤ (6 : Int)) => ?_)
              refine g_aload_n C d_X_countMet_11 12 rfl rfl 1 rfl ?_
              refine gt_X_surplus C G d_X_countMet_12 15 rfl i (by omega) fl_X_9 ?_
              refine g_iload_n C d_X_countMet_15 16 rfl rfl 0 rfl ?_
              refine ld_28 C G d_X_countMet_16 17 rfl i (by omega) 6 (by decide) rfl ?_
              refine g_lconst C (z := 0) d_X_countMet_17 18 rfl rfl ?_
              refine g_lcmp_ge C d_X_countMet_18 19 rfl 22 rfl (show r64 (S (28 + i) 6) from ⟨by omega, by omega⟩) ⟨by decide, by decide⟩ 26 rfl d_X_countMet_19 (fun (w20 : 0 ≤ S (28 + i) 6) => ?_) (fun (w21 : ¬ 0 ≤ S (28 + i) 6) => ?_)
              · skip
                refine g_iinc C d_X_countMet_26 29 rfl [(1, iv (7)), (0, .ref (ad (23 + i)))] 0 rfl (by decide) rfl ?_
                refine g_goto C d_X_countMet_29 2 rfl ?_
                refine g_iload_n C d_X_countMet_2 3 rfl rfl 0 rfl ?_
                refine g_aload_n C d_X_countMet_3 4 rfl rfl 1 rfl ?_
                refine gt_X_surplus C G d_X_countMet_4 7 rfl i (by omega) fl_X_9 ?_
                refine ln_28 C G d_X_countMet_7 8 rfl i (by omega) ?_
                refine g_icmp_ge C d_X_countMet_8 11 rfl ⟨by decide, by decide⟩ ⟨by decide, by decide⟩ 32 rfl (fun (w22 : 8 ≤ (7 : Int)) => absurd w22 (by decide)) (fun (w22 : ¬ 8 ≤ (7 : Int)) => ?_)
                refine g_aload_n C d_X_countMet_11 12 rfl rfl 1 rfl ?_
                refine gt_X_surplus C G d_X_countMet_12 15 rfl i (by omega) fl_X_9 ?_
                refine g_iload_n C d_X_countMet_15 16 rfl rfl 0 rfl ?_
                refine ld_28 C G d_X_countMet_16 17 rfl i (by omega) 7 (by decide) rfl ?_
                refine g_lconst C (z := 0) d_X_countMet_17 18 rfl rfl ?_
                refine g_lcmp_ge C d_X_countMet_18 19 rfl 22 rfl (show r64 (S (28 + i) 7) from ⟨by omega, by omega⟩) ⟨by decide, by decide⟩ 26 rfl d_X_countMet_19 (fun (w23 : 0 ≤ S (28 + i) 7) => ?_) (fun (w24 : ¬ 0 ≤ S (28 + i) 7) => ?_)
                · skip
                  refine g_iinc C d_X_countMet_26 29 rfl [(1, iv (8)), (0, .ref (ad (23 + i)))] 0 rfl (by decide) rfl ?_
                  refine g_goto C d_X_countMet_29 2 rfl ?_
                  refine g_iload_n C d_X_countMet_2 3 rfl rfl 0 rfl ?_
                  refine g_aload_n C d_X_countMet_3 4 rfl rfl 1 rfl ?_
                  refine gt_X_surplus C G d_X_countMet_4 7 rfl i (by omega) fl_X_9 ?_
                  refine ln_28 C G d_X_countMet_7 8 rfl i (by omega) ?_
                  refine g_icmp_ge C d_X_countMet_8 11 rfl ⟨by decide, by decide⟩ ⟨by decide, by decide⟩ 32 rfl (fun (w25 : (8 : Int) ≤ 8) => ?_) (fun (w25 : ¬ (8 : Int) ≤ 8) => absurd w25 (by decide))
                  refine g_iconst C d_X_countMet_32 33 rfl ?_
                  exact g_iret C hA hsz hr hl d_X_countMet_33 (by decide) (by decide) ⟨vi_e (by unfold cmet; rw [if_neg (by omega), if_neg (by omega), if_neg (by omega), if_neg (by omega), if_neg (by omega), if_neg (by omega), if_neg (by omega), if_neg (by omega)]), rfl, rfl⟩
                · skip
                  refine g_iload_n C d_X_countMet_22 23 rfl rfl 0 rfl ?_
                  refine g_iconst C d_X_countMet_23 24 rfl ?_
                  refine g_idiv C d_X_countMet_24 25 rfl ⟨by decide, by decide⟩ ⟨by decide, by decide⟩ (show 2 ≠ (0 : Int) by decide) ?_
                  exact g_iret C hA hsz hr hl d_X_countMet_25 (by decide) (by decide) ⟨vi_e (by unfold cmet; rw [if_neg (by omega), if_neg (by omega), if_neg (by omega), if_neg (by omega), if_neg (by omega), if_neg (by omega), if_neg (by omega), if_pos (by omega)]; rfl), rfl, rfl⟩
              · skip
                refine g_iload_n C d_X_countMet_22 23 rfl rfl 0 rfl ?_
                refine g_iconst C d_X_countMet_23 24 rfl ?_
                refine g_idiv C d_X_countMet_24 25 rfl ⟨by decide, by decide⟩ ⟨by decide, by decide⟩ (show 2 ≠ (0 : Int) by decide) ?_
                exact g_iret C hA hsz hr hl d_X_countMet_25 (by decide) (by decide) ⟨vi_e (by unfold cmet; rw [if_neg (by omega), if_neg (by omega), if_neg (by omega), if_neg (by omega), if_neg (by omega), if_neg (by omega), if_pos (by omega)]; rfl), rfl, rfl⟩
            · skip
              refine g_iload_n C d_X_countMet_22 23 rfl rfl 0 rfl ?_
              refine g_iconst C d_X_countMet_23 24 rfl ?_
              refine g_idiv C d_X_countMet_24 25 rfl ⟨by decide, by decide⟩ ⟨by decide, by decide⟩ (show 2 ≠ (0 : Int) by decide) ?_
              exact g_iret C hA hsz hr hl d_X_countMet_25 (by decide) (by decide) ⟨vi_e (by unfold cmet; rw [if_neg (by omega), if_neg (by omega), if_neg (by omega), if_neg (by omega), if_neg (by omega), if_pos (by omega)]; rfl), rfl, rfl⟩
          · skip
            refine g_iload_n C d_X_countMet_22 23 rfl rfl 0 rfl ?_
            refine g_iconst C d_X_countMet_23 24 rfl ?_
            refine g_idiv C d_X_countMet_24 25 rfl ⟨by decide, by decide⟩ ⟨by decide, by decide⟩ (show 2 ≠ (0 : Int) by decide) ?_
            exact g_iret C hA hsz hr hl d_X_countMet_25 (by decide) (by decide) ⟨vi_e (by unfold cmet; rw [if_neg (by omega), if_neg (by omega), if_neg (by omega), if_neg (by omega), if_pos (by omega)]; rfl), rfl, rfl⟩
        · skip
          refine g_iload_n C d_X_countMet_22 23 rfl rfl 0 rfl ?_
          refine g_iconst C d_X_countMet_23 24 rfl ?_
          refine g_idiv C d_X_countMet_24 25 rfl ⟨by decide, by decide⟩ ⟨by decide, by decide⟩ (show 2 ≠ (0 : Int) by decide) ?_
          exact g_iret C hA hsz hr hl d_X_countMet_25 (by decide) (by decide) ⟨vi_e (by unfold cmet; rw [if_neg (by omega), if_neg (by omega), if_neg (by omega), if_pos (by omega)]; rfl), rfl, rfl⟩
      · skip
        refine g_iload_n C d_X_countMet_22 23 rfl rfl 0 rfl ?_
        refine g_iconst C d_X_countMet_23 24 rfl ?_
        refine g_idiv C d_X_countMet_24 25 rfl ⟨by decide, by decide⟩ ⟨by decide, by decide⟩ (show 2 ≠ (0 : Int) by decide) ?_
        exact g_iret C hA hsz hr hl d_X_countMet_25 (by decide) (by decide) ⟨vi_e (by unfold cmet; rw [if_neg (by omega), if_neg (by omega), if_pos (by omega)]; rfl), rfl, rfl⟩
    · skip
      refine g_iload_n C d_X_countMet_22 23 rfl rfl 0 rfl ?_
      refine g_iconst C d_X_countMet_23 24 rfl ?_
      refine g_idiv C d_X_countMet_24 25 rfl ⟨by decide, by decide⟩ ⟨by decide, by decide⟩ (show 2 ≠ (0 : Int) by decide) ?_
      exact g_iret C hA hsz hr hl d_X_countMet_25 (by decide) (by decide) ⟨vi_e (by unfold cmet; rw [if_neg (by omega), if_pos (by omega)]; rfl), rfl, rfl⟩
  · skip
    refine g_iload_n C d_X_countMet_22 23 rfl rfl 0 rfl ?_
    refine g_iconst C d_X_countMet_23 24 rfl ?_
    refine g_idiv C d_X_countMet_24 25 rfl ⟨by decide, by decide⟩ ⟨by decide, by decide⟩ (show 2 ≠ (0 : Int) by decide) ?_
    exact g_iret C hA hsz hr hl d_X_countMet_25 (by decide) (by decide) ⟨vi_e (by unfold cmet; rw [if_pos (by omega)]; rfl), rfl, rfl⟩
abbrev rm_P_isAddedBefore : Room := { frames := 0, cells := 0, slots := 0, locals := 0 }
set_option maxHeartbeats 4000000 in
set_option maxRecDepth 100000 in
theorem t_P_isAddedBefore (G : LO ad L) (i j : Nat) (hi : i < 4) (hj : j < 4) (h1 : 0 ≤ S (11 + i) 4 ∧ S (11 + i) 4 ≤ 1000) (h2 : 0 ≤ S (11 + j) 4 ∧ S (11 + j) 4 ≤ 1000) : FM l y_P_isAddedBefore c_P_isAddedBefore 4 (some .boolean) rm_P_isAddedBefore D cd L (wd cd ad S f0) [.ref (ad 0), iv ((i : Int)), iv ((j : Int))] (some (iv (bi (befA S i j)))) (wd cd ad S f0) := by
  refine g_of (by decide) (Nat.le_of_ble_eq_true rfl) ?_
  intro p e s m args below meth c A sz hA hsz C hr hl hnm
  have C : gC p s m args c D CL (TY cd) A c_P_isAddedBefore "AlloyPlans" 4 := C
  change gW _ _ _ _ _ _ _ _ _ _ _ _ _ _ _ _ _ _ _ 0 [(0, .ref (ad 0)), (1, iv ((i : Int))), (2, iv ((j : Int)))] []
  obtain ⟨u0, v0⟩ := h1
  obtain ⟨u1, v1⟩ := h2
  refine g_aload_n C d_P_isAddedBefore_0 1 rfl rfl 0 rfl ?_
  refine gt_P_alloys C G d_P_isAddedBefore_1 4 rfl fl_P_18 ?_
  refine g_iload_n C d_P_isAddedBefore_4 5 rfl rfl 1 rfl ?_
  refine ld_4 C G d_P_isAddedBefore_5 6 rfl i (by omega) rfl ?_
  refine gt_A_cooling C G d_P_isAddedBefore_6 9 rfl i (by omega) fl_P_107 ?_
  refine g_aload_n C d_P_isAddedBefore_9 10 rfl rfl 0 rfl ?_
  refine gt_P_alloys C G d_P_isAddedBefore_10 13 rfl fl_P_18 ?_
  refine g_iload_n C d_P_isAddedBefore_13 14 rfl rfl 2 rfl ?_
  refine ld_4 C G d_P_isAddedBefore_14 15 rfl j (by omega) rfl ?_
  refine gt_A_cooling C G d_P_isAddedBefore_15 18 rfl j (by omega) fl_P_107 ?_
  refine g_isub C d_P_isAddedBefore_18 19 rfl ?_
  refine g_istore_n C d_P_isAddedBefore_19 20 rfl [(3, iv ((S (11 + i) 4) - (S (11 + j) 4))), (0, .ref (ad 0)), (1, iv ((i : Int))), (2, iv ((j : Int)))] rfl (by decide) rfl ?_
  refine g_iload_n C d_P_isAddedBefore_20 21 rfl rfl 0 rfl ?_
  refine g_if_gt C d_P_isAddedBefore_21 24 rfl (show r32 ((S (11 + i) 4) - (S (11 + j) 4)) from ⟨by omega, by omega⟩) 33 rfl (fun (w1 : 0 < (S (11 + i) 4) - (S (11 + j) 4)) => ?_) (fun (w2 : ¬ 0 < (S (11 + i) 4) - (S (11 + j) 4)) => ?_)
  · skip
    refine g_iconst C d_P_isAddedBefore_33 34 rfl ?_
    refine g_goto C d_P_isAddedBefore_34 38 rfl ?_
    exact g_zret C hA hsz hr hl (Or.inr rfl) d_P_isAddedBefore_38 (by decide) (by decide) ⟨zi_t (by unfold befA; omega), rfl, rfl⟩
  · skip
    refine g_iload_n C d_P_isAddedBefore_24 25 rfl rfl 0 rfl ?_
    refine g_if_ne C d_P_isAddedBefore_25 28 rfl (show r32 ((S (11 + i) 4) - (S (11 + j) 4)) from ⟨by omega, by omega⟩) 37 rfl (fun (w3 : ¬ (S (11 + i) 4) - (S (11 + j) 4) = 0) => ?_) (fun (w4 : (S (11 + i) 4) - (S (11 + j) 4) = 0) => ?_)
    · skip
      refine g_iconst C d_P_isAddedBefore_37 38 rfl ?_
      exact g_zret C hA hsz hr hl (Or.inl rfl) d_P_isAddedBefore_38 (by decide) (by decide) ⟨zi_f (by unfold befA; omega), rfl, rfl⟩
    · skip
      refine g_iload_n C d_P_isAddedBefore_28 29 rfl rfl 2 rfl ?_
      refine g_iload_n C d_P_isAddedBefore_29 30 rfl rfl 3 rfl ?_
      refine g_icmp_ge C d_P_isAddedBefore_30 33 rfl (show r32 ((i : Int)) from ⟨by omega, by omega⟩) (show r32 ((j : Int)) from ⟨by omega, by omega⟩) 37 rfl (fun (w5 : (j : Int) ≤ (i : Int)) => ?_) (fun (w6 : ¬ (j : Int) ≤ (i : Int)) => ?_)
      · skip
        refine g_iconst C d_P_isAddedBefore_37 38 rfl ?_
        exact g_zret C hA hsz hr hl (Or.inl rfl) d_P_isAddedBefore_38 (by decide) (by decide) ⟨zi_f (by unfold befA; omega), rfl, rfl⟩
      · skip
        refine g_iconst C d_P_isAddedBefore_33 34 rfl ?_
        refine g_goto C d_P_isAddedBefore_34 38 rfl ?_
        exact g_zret C hA hsz hr hl (Or.inr rfl) d_P_isAddedBefore_38 (by decide) (by decide) ⟨zi_t (by unfold befA; omega), rfl, rfl⟩
abbrev rm_P_wholeByPlan : Room := { frames := 0, cells := 0, slots := 0, locals := 0 }
set_option maxHeartbeats 4000000 in
set_option maxRecDepth 100000 in
theorem t_P_wholeByPlan (G : LO ad L)  (h1 : 0 ≤ S 1 0 ∧ S 1 0 ≤ 65536) (h2 : 0 ≤ S 5 2 ∧ S 5 2 ≤ 48000) : FM l y_P_wholeByPlan c_P_wholeByPlan 1 (some .long) rm_P_wholeByPlan D cd L (wd cd ad S f0) [.ref (ad 0)] (some (jv (1000 * (S 1 0 + S 5 2)))) (wd cd ad S f0) := by
  refine g_of (by decide) (Nat.le_of_ble_eq_true rfl) ?_
  intro p e s m args below meth c A sz hA hsz C hr hl hnm
  have C : gC p s m args c D CL (TY cd) A c_P_wholeByPlan "AlloyPlans" 1 := C
  change gW _ _ _ _ _ _ _ _ _ _ _ _ _ _ _ _ _ _ _ 0 [(0, .ref (ad 0))] []
  obtain ⟨u0, v0⟩ := h1
  obtain ⟨u1, v1⟩ := h2
  refine g_ldc2 C (z := 1000) d_P_wholeByPlan_0 3 rfl rfl kd_P_199 ?_
  refine g_aload_n C d_P_wholeByPlan_3 4 rfl rfl 0 rfl ?_
  refine gt_P_melt C G d_P_wholeByPlan_4 7 rfl fl_P_12 ?_
  refine gt_E_kilos C G d_P_wholeByPlan_7 10 rfl fl_P_60 ?_
  refine g_aload_n C d_P_wholeByPlan_10 11 rfl rfl 0 rfl ?_
  refine gt_P_plan C G d_P_wholeByPlan_11 14 rfl fl_P_26 ?_
  refine gt_N_kilos C G d_P_wholeByPlan_14 17 rfl fl_P_140 ?_
  refine g_iadd C d_P_wholeByPlan_17 18 rfl ?_
  refine g_i2l C d_P_wholeByPlan_18 19 rfl (show r32 ((S 1 0) + (S 5 2)) from ⟨by omega, by omega⟩) ?_
  refine g_lmul C d_P_wholeByPlan_19 20 rfl ?_
  exact g_lret C hA hsz hr hl d_P_wholeByPlan_20 (by decide) (by decide) ⟨rfl, rfl, rfl⟩
abbrev rm_P_tell_2 : Room := { frames := 1, cells := 0, slots := 0, locals := 20 }
set_option maxHeartbeats 4000000 in
set_option maxRecDepth 100000 in
theorem t_P_tell_2 (G : LO ad L) (k : Nat) (x y : Int) (hk : k < 4) : FM l y_P_tell c_P_tell 5 none rm_P_tell_2 D cd L (wd cd ad S f0) [.ref (ad 0), .ref (ad 2), iv ((k : Int)), iv (x), iv (y)] none (wd cd ad (u2 (u2 (u2 S 2 (2 * k) x) 2 (2 * k + 1) y) 5 0 0) f0) := by
  refine g_of (by decide) (Nat.le_of_ble_eq_true rfl) ?_
  intro p e s m args below meth c A sz hA hsz C hr hl hnm
  have C : gC p s m args c D CL (TY cd) A c_P_tell "AlloyPlans" 5 := C
  change gW _ _ _ _ _ _ _ _ _ _ _ _ _ _ _ _ _ _ _ 0 [(0, .ref (ad 0)), (1, .ref (ad 2)), (2, iv ((k : Int))), (3, iv (x)), (4, iv (y))] []
  refine g_aload_n C d_P_tell_0 1 rfl rfl 1 rfl ?_
  refine g_iconst C d_P_tell_1 2 rfl ?_
  refine g_iload_n C d_P_tell_2 3 rfl rfl 2 rfl ?_
  refine g_imul C d_P_tell_3 4 rfl ?_
  refine g_iload_n C d_P_tell_4 5 rfl rfl 3 rfl ?_
  refine st_2 C G (x := x) d_P_tell_5 6 rfl (2 * k) (by omega) (by omega) ?_
  refine g_aload_n C d_P_tell_6 7 rfl rfl 1 rfl ?_
  refine g_iconst C d_P_tell_7 8 rfl ?_
  refine g_iload_n C d_P_tell_8 9 rfl rfl 2 rfl ?_
  refine g_imul C d_P_tell_9 10 rfl ?_
  refine g_iconst C d_P_tell_10 11 rfl ?_
  refine g_iadd C d_P_tell_11 12 rfl ?_
  refine g_iload C d_P_tell_12 14 rfl 4 rfl ?_
  refine st_2 C G (x := y) d_P_tell_14 15 rfl (2 * k + 1) (by omega) (by omega) ?_
  refine g_aload_n C d_P_tell_15 16 rfl rfl 0 rfl ?_
  refine gt_P_plan C G d_P_tell_16 19 rfl fl_P_26 ?_
  refine fcV0 C (rest := []) d_P_tell_19 22 rfl (t_N_forget G (S := (u2 (u2 S 2 (2 * k) (x)) 2 (2 * k + 1) (y)))) rfl (G.1 5 (by decide)) (at_N G) ⟨ml_P_63, im_N_forget, se_N_forget, ci_N⟩ w_N_forget rfl 0 gy_N_forget rfl 0 rfl 0 rfl rfl rfl (Nat.le_of_ble_eq_true rfl) ?_
  exact g_vret C hA hsz hr hl d_P_tell_22 (by decide) (by decide) ⟨rfl, rfl, rfl⟩
abbrev rm_P_tell_3 : Room := { frames := 1, cells := 0, slots := 0, locals := 20 }
set_option maxHeartbeats 4000000 in
set_option maxRecDepth 100000 in
theorem t_P_tell_3 (G : LO ad L) (k : Nat) (x y : Int) (hk : k < 4) : FM l y_P_tell c_P_tell 5 none rm_P_tell_3 D cd L (wd cd ad S f0) [.ref (ad 0), .ref (ad 3), iv ((k : Int)), iv (x), iv (y)] none (wd cd ad (u2 (u2 (u2 S 3 (2 * k) x) 3 (2 * k + 1) y) 5 0 0) f0) := by
  refine g_of (by decide) (Nat.le_of_ble_eq_true rfl) ?_
  intro p e s m args below meth c A sz hA hsz C hr hl hnm
  have C : gC p s m args c D CL (TY cd) A c_P_tell "AlloyPlans" 5 := C
  change gW _ _ _ _ _ _ _ _ _ _ _ _ _ _ _ _ _ _ _ 0 [(0, .ref (ad 0)), (1, .ref (ad 3)), (2, iv ((k : Int))), (3, iv (x)), (4, iv (y))] []
  refine g_aload_n C d_P_tell_0 1 rfl rfl 1 rfl ?_
  refine g_iconst C d_P_tell_1 2 rfl ?_
  refine g_iload_n C d_P_tell_2 3 rfl rfl 2 rfl ?_
  refine g_imul C d_P_tell_3 4 rfl ?_
  refine g_iload_n C d_P_tell_4 5 rfl rfl 3 rfl ?_
  refine st_3 C G (x := x) d_P_tell_5 6 rfl (2 * k) (by omega) (by omega) ?_
  refine g_aload_n C d_P_tell_6 7 rfl rfl 1 rfl ?_
  refine g_iconst C d_P_tell_7 8 rfl ?_
  refine g_iload_n C d_P_tell_8 9 rfl rfl 2 rfl ?_
  refine g_imul C d_P_tell_9 10 rfl ?_
  refine g_iconst C d_P_tell_10 11 rfl ?_
  refine g_iadd C d_P_tell_11 12 rfl ?_
  refine g_iload C d_P_tell_12 14 rfl 4 rfl ?_
  refine st_3 C G (x := y) d_P_tell_14 15 rfl (2 * k + 1) (by omega) (by omega) ?_
  refine g_aload_n C d_P_tell_15 16 rfl rfl 0 rfl ?_
  refine gt_P_plan C G d_P_tell_16 19 rfl fl_P_26 ?_
  refine fcV0 C (rest := []) d_P_tell_19 22 rfl (t_N_forget G (S := (u2 (u2 S 3 (2 * k) (x)) 3 (2 * k + 1) (y)))) rfl (G.1 5 (by decide)) (at_N G) ⟨ml_P_63, im_N_forget, se_N_forget, ci_N⟩ w_N_forget rfl 0 gy_N_forget rfl 0 rfl 0 rfl rfl rfl (Nat.le_of_ble_eq_true rfl) ?_
  exact g_vret C hA hsz hr hl d_P_tell_22 (by decide) (by decide) ⟨rfl, rfl, rfl⟩
abbrev rm_P_tell_15 : Room := { frames := 1, cells := 0, slots := 0, locals := 20 }
set_option maxHeartbeats 4000000 in
set_option maxRecDepth 100000 in
theorem t_P_tell_15 (G : LO ad L) (i : Nat) (k : Nat) (x y : Int) (hi : i < 4) (hk : k < 4) : FM l y_P_tell c_P_tell 5 none rm_P_tell_15 D cd L (wd cd ad S f0) [.ref (ad 0), .ref (ad (15 + i)), iv ((k : Int)), iv (x), iv (y)] none (wd cd ad (u2 (u2 (u2 S (15 + i) (2 * k) x) (15 + i) (2 * k + 1) y) 5 0 0) f0) := by
  refine g_of (by decide) (Nat.le_of_ble_eq_true rfl) ?_
  intro p e s m args below meth c A sz hA hsz C hr hl hnm
  have C : gC p s m args c D CL (TY cd) A c_P_tell "AlloyPlans" 5 := C
  change gW _ _ _ _ _ _ _ _ _ _ _ _ _ _ _ _ _ _ _ 0 [(0, .ref (ad 0)), (1, .ref (ad (15 + i))), (2, iv ((k : Int))), (3, iv (x)), (4, iv (y))] []
  refine g_aload_n C d_P_tell_0 1 rfl rfl 1 rfl ?_
  refine g_iconst C d_P_tell_1 2 rfl ?_
  refine g_iload_n C d_P_tell_2 3 rfl rfl 2 rfl ?_
  refine g_imul C d_P_tell_3 4 rfl ?_
  refine g_iload_n C d_P_tell_4 5 rfl rfl 3 rfl ?_
  refine st_15 C G (x := x) d_P_tell_5 6 rfl i (by omega) (2 * k) (by omega) (by omega) ?_
  refine g_aload_n C d_P_tell_6 7 rfl rfl 1 rfl ?_
  refine g_iconst C d_P_tell_7 8 rfl ?_
  refine g_iload_n C d_P_tell_8 9 rfl rfl 2 rfl ?_
  refine g_imul C d_P_tell_9 10 rfl ?_
  refine g_iconst C d_P_tell_10 11 rfl ?_
  refine g_iadd C d_P_tell_11 12 rfl ?_
  refine g_iload C d_P_tell_12 14 rfl 4 rfl ?_
  refine st_15 C G (x := y) d_P_tell_14 15 rfl i (by omega) (2 * k + 1) (by omega) (by omega) ?_
  refine g_aload_n C d_P_tell_15 16 rfl rfl 0 rfl ?_
  refine gt_P_plan C G d_P_tell_16 19 rfl fl_P_26 ?_
  refine fcV0 C (rest := []) d_P_tell_19 22 rfl (t_N_forget G (S := (u2 (u2 S (15 + i) (2 * k) (x)) (15 + i) (2 * k + 1) (y)))) rfl (G.1 5 (by decide)) (at_N G) ⟨ml_P_63, im_N_forget, se_N_forget, ci_N⟩ w_N_forget rfl 0 gy_N_forget rfl 0 rfl 0 rfl rfl rfl (Nat.le_of_ble_eq_true rfl) ?_
  exact g_vret C hA hsz hr hl d_P_tell_22 (by decide) (by decide) ⟨rfl, rfl, rfl⟩
end M2
end
section
section M3
variable {l : Launch} {D : va_G} {cd : Nat → ClassId} {ad : Nat → Nat} {L : List Nat} {f f0 : Nat → va_E} {S : Nat → Nat → Int}
theorem g_sub {p : Program} {e : Env} {R : Room} {s : State} {m : MethodId} {args : Array Value} {below : List Frame} {meth : Method} {c : Code} {A : Nat → Prop} {nL : Nat} {Q : State → Prop} {cells slots pc : Nat} {lv : List (Nat × Value)} {st : List Value} (ks : List Nat) (lv' : List (Nat × Value)) (h : lv_pick lv ks = lv') (k : gW p l e R s m args below meth c D CL A nL Q cells slots L f pc lv' st) : gW p l e R s m args below meth c D CL A nL Q cells slots L f pc lv st := fun H locs ls h1 h2 h3 h4 => k H locs ls h1 h2 h3 (lv_sub h4 ks h)
def addP (S : Nat → Nat → Int) (k j : Nat) : Int := bi (j ≠ k ∧ 0 < S 6 j ∧ befA S j k)
def heldP (S : Nat → Nat → Int) (q n : Nat) : Int := heldH S q + sumN (fun j => S 6 j * heldA S j q) n
def eu : Nat → Int → Int → Int
  | 0, a, _ => a
  | n + 1, a, b => if b = 0 then a else eu n b (a.tmod b)
def setS (S : Nat → Nat → Int) (c k m q : Int) (n : Nat) : Nat → Nat → Int := fun k' => if k' = 5 then (fun j => if j = 1 then c else if j = 2 then k else if j = 3 then m else if j = 4 then q else S 5 j) else if k' = 6 then (fun j => if j < n then S 8 j else S 6 j) else S k'
theorem setS_0 (S : Nat → Nat → Int) : u2 (u2 (u2 (u2 S 5 1 0) 5 2 0) 5 3 0) 5 4 0 = setS S 0 0 0 0 0 := by
  funext k' j
  simp only [u2, setS]
  by_cases h5 : k' = 5
  · subst h5
    simp only [if_true, updI]
    by_cases a1 : j = 1
    · subst a1; simp
    · by_cases a2 : j = 2
      · subst a2; simp
      · by_cases a3 : j = 3
        · subst a3; simp
        · by_cases a4 : j = 4
          · subst a4; simp
          · simp [a1, a2, a3, a4]
  · simp only [h5, if_false]
    by_cases h6 : k' = 6
    · subst h6; simp
    · simp [h6]
theorem setS_s (S : Nat → Nat → Int) (c k m q c' k' m' q' : Int) (n : Nat) : u2 (u2 (u2 (u2 (u2 (setS S c k m q n) 6 n (S 8 n)) 5 1 c') 5 2 k') 5 3 m') 5 4 q' = setS S c' k' m' q' (n + 1) := by
  funext x j
  simp only [u2, setS]
  by_cases h5 : x = 5
  · subst h5
    simp only [if_true, updI]
    by_cases a1 : j = 1
    · subst a1; simp
    · by_cases a2 : j = 2
      · subst a2; simp
      · by_cases a3 : j = 3
        · subst a3; simp
        · by_cases a4 : j = 4
          · subst a4; simp
          · simp [a1, a2, a3, a4]
  · simp only [h5, if_false]
    by_cases h6 : x = 6
    · subst h6
      simp only [if_true, updI]
      by_cases h1 : j = n
      · subst h1; simp
      · by_cases h2 : j < n
        · simp [h1, h2, show j < n + 1 by omega]
        · simp [h1, h2, show ¬ j < n + 1 by omega]
    · simp [h6]
theorem setS_ne {S : Nat → Nat → Int} {c k m q : Int} {n x : Nat} (h5 : x ≠ 5) (h6 : x ≠ 6) : setS S c k m q n x = S x := by unfold setS; rw [if_neg h5, if_neg h6]
abbrev rm_P_countAddedBefore : Room := { frames := 1, cells := 0, slots := 0, locals := 23 }
set_option maxHeartbeats 4000000 in
set_option maxRecDepth 100000 in
theorem t_P_countAddedBefore (G : LO ad L) (k : Nat) (hk : k < 4) (h0 : 0 ≤ S 0 4 ∧ S 0 4 ≤ 4) (h6 : ∀ j, j < 4 → 0 ≤ S 6 j ∧ S 6 j ≤ 12) (hc : ∀ j, j < 4 → 0 ≤ S (11 + j) 4 ∧ S (11 + j) 4 ≤ 1000) : FM l y_P_countAddedBefore c_P_countAddedBefore 4 (some .int) rm_P_countAddedBefore D cd L (wd cd ad S f0) [.ref (ad 0), iv ((k : Int))] (some (iv (sumN (addP S k) (S 0 4).toNat))) (wd cd ad S f0) := by
  refine g_of (by decide) (Nat.le_of_ble_eq_true rfl) ?_
  intro p e s m args below meth c A sz hA hsz C hr hl hnm
  have C : gC p s m args c D CL (TY cd) A c_P_countAddedBefore "AlloyPlans" 4 := C
  change gW _ _ _ _ _ _ _ _ _ _ _ _ _ _ _ _ _ _ _ 0 [(0, .ref (ad 0)), (1, iv ((k : Int)))] []
  obtain ⟨u0, v0⟩ := h0
  obtain ⟨u9, v9⟩ := hc k hk
  refine g_iconst C d_P_countAddedBefore_0 1 rfl ?_
  refine g_istore_n C d_P_countAddedBefore_1 2 rfl [(2, iv (0)), (0, .ref (ad 0)), (1, iv ((k : Int)))] rfl (by decide) rfl ?_
  refine g_iconst C d_P_countAddedBefore_2 3 rfl ?_
  refine g_istore_n C d_P_countAddedBefore_3 4 rfl [(3, iv (0)), (2, iv (0)), (0, .ref (ad 0)), (1, iv ((k : Int)))] rfl (by decide) rfl ?_
  have LP : ∀ (d n : Nat) (x : Int), n + d = 4 → x = sumN (addP S k) n → (n : Int) ≤ S 0 4 → gW p l e rm_P_countAddedBefore s m args below meth c D CL A 4 (MQ below (gQ D CL L sz (fun r L' g => r = (some (iv (sumN (addP S k) (S 0 4).toNat))) ∧ L' = L ∧ g = (wd cd ad S f0))) args s rm_P_countAddedBefore.cells rm_P_countAddedBefore.slots (gA L sz)) 0 0 L (wd cd ad S f0) 4 [(3, iv ((n : Int))), (2, iv (x)), (0, .ref (ad 0)), (1, iv ((k : Int)))] [] := by
    intro d
    induction d with
    | zero =>
      intro n x hn hx hle
      have hx : x = sumN (addP S k) n := hx
      refine g_iload_n C d_P_countAddedBefore_4 5 rfl rfl 0 rfl ?_
      refine g_aload_n C d_P_countAddedBefore_5 6 rfl rfl 2 rfl ?_
      refine gt_P_kindCount C G d_P_countAddedBefore_6 9 rfl fl_P_37 ?_
      refine g_icmp_ge C d_P_countAddedBefore_9 12 rfl (show r32 ((n : Int)) from ⟨by omega, by omega⟩) (show r32 (S 0 4) from ⟨by omega, by omega⟩) 55 rfl (fun (w1 : S 0 4 ≤ (n : Int)) => ?_) (fun (w1 : ¬ S 0 4 ≤ (n : Int)) => absurd w1 (by omega))
      refine g_iload_n C d_P_countAddedBefore_55 56 rfl rfl 1 rfl ?_
      exact g_iret C hA hsz hr hl d_P_countAddedBefore_56 (by decide) (by decide) ⟨vi_e (by rw [hx, show n = (S 0 4).toNat by omega]), rfl, rfl⟩
    | succ d ih =>
      intro n x hn hx hle
      obtain ⟨u6, v6⟩ := h6 n (by omega)
      obtain ⟨u7, v7⟩ := hc n (by omega)
      refine g_iload_n C d_P_countAddedBefore_4 5 rfl rfl 0 rfl ?_
      refine g_aload_n C d_P_countAddedBefore_5 6 rfl rfl 2 rfl ?_
      refine gt_P_kindCount C G d_P_countAddedBefore_6 9 rfl fl_P_37 ?_
      refine g_icmp_ge C d_P_countAddedBefore_9 12 rfl (show r32 ((n : Int)) from ⟨by omega, by omega⟩) (show r32 (S 0 4) from ⟨by omega, by omega⟩) 55 rfl (fun (w2 : S 0 4 ≤ (n : Int)) => ?_) (fun (w3 : ¬ S 0 4 ≤ (n : Int)) => ?_)
      · skip
        refine g_iload_n C d_P_countAddedBefore_55 56 rfl rfl 1 rfl ?_
        exact g_iret C hA hsz hr hl d_P_countAddedBefore_56 (by decide) (by decide) ⟨vi_e (by rw [hx, show n = (S 0 4).toNat by omega]), rfl, rfl⟩
      · skip
        refine g_iload_n C d_P_countAddedBefore_12 13 rfl rfl 0 rfl ?_
        refine g_aload_n C d_P_countAddedBefore_13 14 rfl rfl 2 rfl ?_
        refine gt_P_alloys C G d_P_countAddedBefore_14 17 rfl fl_P_18 ?_
        refine ln_4 C G d_P_countAddedBefore_17 18 rfl ?_
        refine g_icmp_ge C d_P_countAddedBefore_18 21 rfl (show r32 ((n : Int)) from ⟨by omega, by omega⟩) ⟨by decide, by decide⟩ 55 rfl (fun (w4 : 4 ≤ (n : Int)) => absurd w4 (by omega)) (fun (w4 : ¬ 4 ≤ (n : Int)) => ?_)
        refine g_iload_n C d_P_countAddedBefore_21 22 rfl rfl 0 rfl ?_
        refine g_iload_n C d_P_countAddedBefore_22 23 rfl rfl 3 rfl ?_
        refine g_icmp_eq C d_P_countAddedBefore_23 26 rfl (show r32 ((n : Int)) from ⟨by omega, by omega⟩) (show r32 ((k : Int)) from ⟨by omega, by omega⟩) 49 rfl (fun (w5 : (n : Int) = (k : Int)) => ?_) (fun (w6 : ¬ (n : Int) = (k : Int)) => ?_)
        · skip
          refine g_iinc C d_P_countAddedBefore_49 52 rfl [(3, iv ((n : Int) + 1)), (2, iv (x)), (0, .ref (ad 0)), (1, iv ((k : Int)))] 0 rfl (by decide) rfl ?_
          refine g_goto C d_P_countAddedBefore_52 4 rfl ?_
          have hb : addP S k n = 0 := bi_neg (fun q => by first | exact absurd q.2.1 (by assumption) | exact absurd q.2.2 (by assumption) | (have := q.1; omega))
          exact ih (n + 1) _ (by omega) (show _ = sumN (addP S k) n + addP S k n by rw [← hx, hb] <;> omega) (by omega)
        · skip
          refine g_aload_n C d_P_countAddedBefore_26 27 rfl rfl 2 rfl ?_
          refine gt_P_plan C G d_P_countAddedBefore_27 30 rfl fl_P_26 ?_
          refine g_iload_n C d_P_countAddedBefore_30 31 rfl rfl 0 rfl ?_
          refine fcV1 C (rest := []) d_P_countAddedBefore_31 34 rfl (t_N_isTaken G (S := S) n (by omega) (show r32 (S 6 n) from ⟨by omega, by omega⟩)) rfl (G.1 5 (by decide)) (at_N G) ⟨ml_P_145, im_N_isTaken, se_N_isTaken, ci_N⟩ w_N_isTaken rfl 1 gy_N_isTaken rfl 0 rfl 0 rfl rfl rfl (Nat.le_of_ble_eq_true rfl) ?_
          refine g_if_eq C d_P_countAddedBefore_34 37 rfl (bi_r _) 49 rfl (fun (w7 : bi (0 < S 6 n) = 0) => ?_) (fun (w8 : ¬ bi (0 < S 6 n) = 0) => ?_)
          · skip
            have w7 : ¬ (0 < S 6 n) := bi_f w7
            refine g_iinc C d_P_countAddedBefore_49 52 rfl [(3, iv ((n : Int) + 1)), (2, iv (x)), (0, .ref (ad 0)), (1, iv ((k : Int)))] 0 rfl (by decide) rfl ?_
            refine g_goto C d_P_countAddedBefore_52 4 rfl ?_
            have hb : addP S k n = 0 := bi_neg (fun q => by first | exact absurd q.2.1 (by assumption) | exact absurd q.2.2 (by assumption) | (have := q.1; omega))
            exact ih (n + 1) _ (by omega) (show _ = sumN (addP S k) n + addP S k n by rw [← hx, hb] <;> omega) (by omega)
          · skip
            have w8 : (0 < S 6 n) := bi_t w8
            refine g_aload_n C d_P_countAddedBefore_37 38 rfl rfl 2 rfl ?_
            refine g_iload_n C d_P_countAddedBefore_38 39 rfl rfl 0 rfl ?_
            refine g_iload_n C d_P_countAddedBefore_39 40 rfl rfl 3 rfl ?_
            refine fcV1 C (rest := []) d_P_countAddedBefore_40 43 rfl (t_P_isAddedBefore G (S := S) n k (by omega) (by omega) ⟨by omega, by omega⟩ ⟨by omega, by omega⟩) rfl (G.1 0 (by decide)) (at_P G) ⟨ml_P_190, im_P_isAddedBefore, se_P_isAddedBefore, ci_P⟩ w_P_isAddedBefore rfl 2 gy_P_isAddedBefore rfl 0 rfl 0 rfl rfl rfl (Nat.le_of_ble_eq_true rfl) ?_
            refine g_if_eq C d_P_countAddedBefore_43 46 rfl (bi_r _) 49 rfl (fun (w9 : bi (befA S n k) = 0) => ?_) (fun (w10 : ¬ bi (befA S n k) = 0) => ?_)
            · skip
              have w9 : ¬ (befA S n k) := bi_f w9
              refine g_iinc C d_P_countAddedBefore_49 52 rfl [(3, iv ((n : Int) + 1)), (2, iv (x)), (0, .ref (ad 0)), (1, iv ((k : Int)))] 0 rfl (by decide) rfl ?_
              refine g_goto C d_P_countAddedBefore_52 4 rfl ?_
              have hb : addP S k n = 0 := bi_neg (fun q => by first | exact absurd q.2.1 (by assumption) | exact absurd q.2.2 (by assumption) | (have := q.1; omega))
              exact ih (n + 1) _ (by omega) (show _ = sumN (addP S k) n + addP S k n by rw [← hx, hb] <;> omega) (by omega)
            · skip
              have w10 : (befA S n k) := bi_t w10
              refine g_iinc C d_P_countAddedBefore_46 49 rfl [(2, iv (x + 1)), (3, iv ((n : Int))), (0, .ref (ad 0)), (1, iv ((k : Int)))] 1 rfl (by decide) rfl ?_
              refine g_iinc C d_P_countAddedBefore_49 52 rfl [(3, iv ((n : Int) + 1)), (2, iv (x + 1)), (0, .ref (ad 0)), (1, iv ((k : Int)))] 1 rfl (by decide) rfl ?_
              refine g_goto C d_P_countAddedBefore_52 4 rfl ?_
              have hb : addP S k n = 1 := bi_pos ⟨by omega, by assumption, by assumption⟩
              exact ih (n + 1) _ (by omega) (show _ = sumN (addP S k) n + addP S k n by rw [← hx, hb] <;> omega) (by omega)
  exact LP 4 0 0 rfl rfl u0
abbrev rm_P_heldByPlan : Room := { frames := 1, cells := 0, slots := 0, locals := 21 }
set_option maxHeartbeats 4000000 in
set_option maxRecDepth 100000 in
theorem t_P_heldByPlan (G : LO ad L) (q : Nat) (hq : q < 8) (h0 : 0 ≤ S 0 4 ∧ S 0 4 ≤ 4) (h1 : r32 (S 1 0)) (h2 : r32 (S 2 q)) (h6 : ∀ j, j < 4 → 0 ≤ S 6 j ∧ S 6 j ≤ 12) (ha : ∀ j, j < 4 → (r32 (S (11 + j) 1) ∧ r32 (S (15 + j) q) ∧ r32 (S (11 + j) 3))) : FM l y_P_heldByPlan c_P_heldByPlan 5 (some .long) rm_P_heldByPlan D cd L (wd cd ad S f0) [.ref (ad 0), iv ((q : Int))] (some (jv (heldP S q (S 0 4).toNat))) (wd cd ad S f0) := by
  refine g_of (by decide) (Nat.le_of_ble_eq_true rfl) ?_
  intro p e s m args below meth c A sz hA hsz C hr hl hnm
  have C : gC p s m args c D CL (TY cd) A c_P_heldByPlan "AlloyPlans" 5 := C
  change gW _ _ _ _ _ _ _ _ _ _ _ _ _ _ _ _ _ _ _ 0 [(0, .ref (ad 0)), (1, iv ((q : Int)))] []
  obtain ⟨u0, v0⟩ := h0
  obtain ⟨u1, v1⟩ := h1
  obtain ⟨u2, v2⟩ := h2
  refine g_aload_n C d_P_heldByPlan_0 1 rfl rfl 0 rfl ?_
  refine gt_P_melt C G d_P_heldByPlan_1 4 rfl fl_P_12 ?_
  refine g_iload_n C d_P_heldByPlan_4 5 rfl rfl 1 rfl ?_
  refine fcV1 C (rest := []) d_P_heldByPlan_5 8 rfl (t_E_heldAt G (S := S) q (by omega) (show r32 (S 1 0) from ⟨by omega, by omega⟩) (show r32 (S 2 q) from ⟨by omega, by omega⟩)) rfl (G.1 1 (by decide)) (at_E G) ⟨ml_P_193, im_E_heldAt, se_E_heldAt, ci_E⟩ w_E_heldAt rfl 1 gy_E_heldAt rfl 0 rfl 0 rfl rfl rfl (Nat.le_of_ble_eq_true rfl) ?_
  refine g_lstore_n C d_P_heldByPlan_8 9 rfl [(2, jv (heldH S q)), (0, .ref (ad 0)), (1, iv ((q : Int)))] rfl (by decide) rfl ?_
  refine g_iconst C d_P_heldByPlan_9 10 rfl ?_
  refine g_istore C d_P_heldByPlan_10 12 rfl [(4, iv (0)), (2, jv (heldH S q)), (0, .ref (ad 0)), (1, iv ((q : Int)))] (by decide) rfl ?_
  have LP : ∀ (d n : Nat) (x : Int), n + d = 4 → x = heldP S q n → (n : Int) ≤ S 0 4 → gW p l e rm_P_heldByPlan s m args below meth c D CL A 5 (MQ below (gQ D CL L sz (fun r L' g => r = (some (jv (heldP S q (S 0 4).toNat))) ∧ L' = L ∧ g = (wd cd ad S f0))) args s rm_P_heldByPlan.cells rm_P_heldByPlan.slots (gA L sz)) 0 0 L (wd cd ad S f0) 12 [(4, iv ((n : Int))), (2, jv (x)), (0, .ref (ad 0)), (1, iv ((q : Int)))] [] := by
    intro d
    induction d with
    | zero =>
      intro n x hn hx hle
      refine g_iload C d_P_heldByPlan_12 14 rfl 0 rfl ?_
      refine g_aload_n C d_P_heldByPlan_14 15 rfl rfl 2 rfl ?_
      refine gt_P_kindCount C G d_P_heldByPlan_15 18 rfl fl_P_37 ?_
      refine g_icmp_ge C d_P_heldByPlan_18 21 rfl (show r32 ((n : Int)) from ⟨by omega, by omega⟩) (show r32 (S 0 4) from ⟨by omega, by omega⟩) 63 rfl (fun (w1 : S 0 4 ≤ (n : Int)) => ?_) (fun (w1 : ¬ S 0 4 ≤ (n : Int)) => absurd w1 (by omega))
      refine g_lload_n C d_P_heldByPlan_63 64 rfl rfl 1 rfl ?_
      exact g_lret C hA hsz hr hl d_P_heldByPlan_64 (by decide) (by decide) ⟨vj_e (by rw [hx, show n = (S 0 4).toNat by omega]), rfl, rfl⟩
    | succ d ih =>
      intro n x hn hx hle
      obtain ⟨u6, v6⟩ := h6 n (by omega)
      obtain ⟨⟨u7, v7⟩, ⟨u8, v8⟩, u9, v9⟩ := ha n (by omega)
      refine g_iload C d_P_heldByPlan_12 14 rfl 0 rfl ?_
      refine g_aload_n C d_P_heldByPlan_14 15 rfl rfl 2 rfl ?_
      refine gt_P_kindCount C G d_P_heldByPlan_15 18 rfl fl_P_37 ?_
      refine g_icmp_ge C d_P_heldByPlan_18 21 rfl (show r32 ((n : Int)) from ⟨by omega, by omega⟩) (show r32 (S 0 4) from ⟨by omega, by omega⟩) 63 rfl (fun (w2 : S 0 4 ≤ (n : Int)) => ?_) (fun (w3 : ¬ S 0 4 ≤ (n : Int)) => ?_)
      · skip
        refine g_lload_n C d_P_heldByPlan_63 64 rfl rfl 1 rfl ?_
        exact g_lret C hA hsz hr hl d_P_heldByPlan_64 (by decide) (by decide) ⟨vj_e (by rw [hx, show n = (S 0 4).toNat by omega]), rfl, rfl⟩
      · skip
        refine g_iload C d_P_heldByPlan_21 23 rfl 0 rfl ?_
        refine g_aload_n C d_P_heldByPlan_23 24 rfl rfl 2 rfl ?_
        refine gt_P_alloys C G d_P_heldByPlan_24 27 rfl fl_P_18 ?_
        refine ln_4 C G d_P_heldByPlan_27 28 rfl ?_
        refine g_icmp_ge C d_P_heldByPlan_28 31 rfl (show r32 ((n : Int)) from ⟨by omega, by omega⟩) ⟨by decide, by decide⟩ 63 rfl (fun (w4 : 4 ≤ (n : Int)) => absurd w4 (by omega)) (fun (w4 : ¬ 4 ≤ (n : Int)) => ?_)
        refine g_lload_n C d_P_heldByPlan_31 32 rfl rfl 1 rfl ?_
        refine g_aload_n C d_P_heldByPlan_32 33 rfl rfl 2 rfl ?_
        refine gt_P_plan C G d_P_heldByPlan_33 36 rfl fl_P_26 ?_
        refine gt_N_taken C G d_P_heldByPlan_36 39 rfl fl_P_136 ?_
        refine g_iload C d_P_heldByPlan_39 41 rfl 0 rfl ?_
        refine ld_6 C G d_P_heldByPlan_41 42 rfl n (by omega) rfl ?_
        refine g_i2l C d_P_heldByPlan_42 43 rfl (show r32 (S 6 n) from ⟨by omega, by omega⟩) ?_
        refine g_aload_n C d_P_heldByPlan_43 44 rfl rfl 2 rfl ?_
        refine gt_P_alloys C G d_P_heldByPlan_44 47 rfl fl_P_18 ?_
        refine g_iload C d_P_heldByPlan_47 49 rfl 0 rfl ?_
        refine ld_4 C G d_P_heldByPlan_49 50 rfl n (by omega) rfl ?_
        refine g_iload_n C d_P_heldByPlan_50 51 rfl rfl 3 rfl ?_
        refine fcV1 C (rest := [jv (S 6 n), jv (x)]) d_P_heldByPlan_51 54 rfl (t_A_heldInStepAt G (S := S) n q (by omega) (by omega) (show r32 (S (11 + n) 1) from ⟨by omega, by omega⟩) (show r32 (S (15 + n) q) from ⟨by omega, by omega⟩) (show r32 (S (11 + n) 3) from ⟨by omega, by omega⟩)) rfl (G.1 (11 + n) (by omega)) (at_A G n (by omega)) ⟨ml_P_196, im_A_heldInStepAt, se_A_heldInStepAt, ci_A⟩ w_A_heldInStepAt rfl 1 gy_A_heldInStepAt rfl 0 rfl 0 rfl rfl rfl (Nat.le_of_ble_eq_true rfl) ?_
        refine g_lmul C d_P_heldByPlan_54 55 rfl ?_
        refine g_ladd C d_P_heldByPlan_55 56 rfl ?_
        refine g_lstore_n C d_P_heldByPlan_56 57 rfl [(2, jv (x + ((S 6 n) * (heldA S n q)))), (4, iv ((n : Int))), (0, .ref (ad 0)), (1, iv ((q : Int)))] rfl (by decide) rfl ?_
        refine g_iinc C d_P_heldByPlan_57 60 rfl [(4, iv ((n : Int) + 1)), (2, jv (x + ((S 6 n) * (heldA S n q)))), (0, .ref (ad 0)), (1, iv ((q : Int)))] 1 rfl (by decide) rfl ?_
        refine g_goto C d_P_heldByPlan_60 12 rfl ?_
        exact ih (n + 1) _ (by omega) (by rw [hx]; unfold heldP; simp only [sumN, Int.add_assoc]) (by omega)
  exact LP 4 0 _ rfl (by unfold heldP; simp only [sumN, Int.add_zero]) u0
abbrev rm_P_roundedByPlan : Room := { frames := 2, cells := 0, slots := 0, locals := 45 }
set_option maxHeartbeats 4000000 in
set_option maxRecDepth 100000 in
theorem t_P_roundedByPlan (G : LO ad L) (q : Nat) (hq : q < 8) (h0 : 0 ≤ S 0 4 ∧ S 0 4 ≤ 4) (h1 : 1 ≤ S 1 0 ∧ S 1 0 ≤ 65536) (h2 : r32 (S 2 q)) (h3 : 0 ≤ S 5 2 ∧ S 5 2 ≤ 48000) (h4 : 0 ≤ heldP S q (S 0 4).toNat ∧ heldP S q (S 0 4).toNat ≤ 1000000000000000) (h6 : ∀ j, j < 4 → 0 ≤ S 6 j ∧ S 6 j ≤ 12) (ha : ∀ j, j < 4 → (r32 (S (11 + j) 1) ∧ r32 (S (15 + j) q) ∧ r32 (S (11 + j) 3))) : FM l y_P_roundedByPlan c_P_roundedByPlan 6 (some .int) rm_P_roundedByPlan D cd L (wd cd ad S f0) [.ref (ad 0), iv ((q : Int))] (some (iv (if 0 < 1000 * (S 1 0 + S 5 2) then Int.tdiv (if Int.tmod (q : Int) 2 = 0 then heldP S q (S 0 4).toNat else heldP S q (S 0 4).toNat + 1000 * (S 1 0 + S 5 2) - 1) (1000 * (S 1 0 + S 5 2)) else 0))) (wd cd ad S f0) := by
  refine g_of (by decide) (Nat.le_of_ble_eq_true rfl) ?_
  intro p e s m args below meth c A sz hA hsz C hr hl hnm
  have C : gC p s m args c D CL (TY cd) A c_P_roundedByPlan "AlloyPlans" 6 := C
  change gW _ _ _ _ _ _ _ _ _ _ _ _ _ _ _ _ _ _ _ 0 [(0, .ref (ad 0)), (1, iv ((q : Int)))] []
  obtain ⟨u0, v0⟩ := h0
  obtain ⟨u1, v1⟩ := h1
  obtain ⟨u2, v2⟩ := h2
  obtain ⟨u3, v3⟩ := h3
  obtain ⟨u4, v4⟩ := h4
  refine g_aload_n C d_P_roundedByPlan_0 1 rfl rfl 0 rfl ?_
  refine g_iload_n C d_P_roundedByPlan_1 2 rfl rfl 1 rfl ?_
  refine fcV1 C (rest := []) d_P_roundedByPlan_2 5 rfl (t_P_heldByPlan G (S := S) q (by omega) ⟨by omega, by omega⟩ ⟨by omega, by omega⟩ (show r32 (S 2 q) from ⟨by omega, by omega⟩) h6 ha) rfl (G.1 0 (by decide)) (at_P G) ⟨ml_P_152, im_P_heldByPlan, se_P_heldByPlan, ci_P⟩ w_P_heldByPlan rfl 1 gy_P_heldByPlan rfl 0 rfl 0 rfl rfl rfl (Nat.le_of_ble_eq_true rfl) ?_
  refine g_lstore_n C d_P_roundedByPlan_5 6 rfl [(2, jv (heldP S q (S 0 4).toNat)), (0, .ref (ad 0)), (1, iv ((q : Int)))] rfl (by decide) rfl ?_
  refine g_aload_n C d_P_roundedByPlan_6 7 rfl rfl 1 rfl ?_
  refine fcV1 C (rest := []) d_P_roundedByPlan_7 10 rfl (t_P_wholeByPlan G (S := S) ⟨by omega, by omega⟩ ⟨by omega, by omega⟩) rfl (G.1 0 (by decide)) (at_P G) ⟨ml_P_156, im_P_wholeByPlan, se_P_wholeByPlan, ci_P⟩ w_P_wholeByPlan rfl 0 gy_P_wholeByPlan rfl 0 rfl 0 rfl rfl rfl (Nat.le_of_ble_eq_true rfl) ?_
  refine g_lstore C d_P_roundedByPlan_10 12 rfl [(4, jv (1000 * (S 1 0 + S 5 2))), (2, jv (heldP S q (S 0 4).toNat)), (0, .ref (ad 0)), (1, iv ((q : Int)))] (by decide) rfl ?_
  have hE : 0 ≤ (if Int.tmod (q : Int) 2 = 0 then heldP S q (S 0 4).toNat else heldP S q (S 0 4).toNat + 1000 * (S 1 0 + S 5 2) - 1) ∧ (if Int.tmod (q : Int) 2 = 0 then heldP S q (S 0 4).toNat else heldP S q (S 0 4).toNat + 1000 * (S 1 0 + S 5 2) - 1) ≤ 2000000000000000 := by split <;> omega
  obtain ⟨u5, v5⟩ := hE
  have JJ : ∀ zj : Int, zj = (if Int.tmod (q : Int) 2 = 0 then heldP S q (S 0 4).toNat else heldP S q (S 0 4).toNat + 1000 * (S 1 0 + S 5 2) - 1) → gW p l e rm_P_roundedByPlan s m args below meth c D CL A 6 (MQ below (gQ D CL L sz (fun r L' g => r = (some (iv (if 0 < 1000 * (S 1 0 + S 5 2) then Int.tdiv (if Int.tmod (q : Int) 2 = 0 then heldP S q (S 0 4).toNat else heldP S q (S 0 4).toNat + 1000 * (S 1 0 + S 5 2) - 1) (1000 * (S 1 0 + S 5 2)) else 0))) ∧ L' = L ∧ g = (wd cd ad S f0))) args s rm_P_roundedByPlan.cells rm_P_roundedByPlan.slots (gA L sz)) 0 0 L (wd cd ad S f0) 29 [(4, jv (1000 * (S 1 0 + S 5 2))), (2, jv (heldP S q (S 0 4).toNat)), (0, .ref (ad 0)), (1, iv ((q : Int)))] [jv zj] := by
    intro zj hzj
    subst hzj
    refine g_lload C d_P_roundedByPlan_29 31 rfl 0 rfl ?_
    refine fcS1 C (rest := []) d_P_roundedByPlan_31 34 rfl (t_P_quotient (if Int.tmod (q : Int) 2 = 0 then heldP S q (S 0 4).toNat else heldP S q (S 0 4).toNat + 1000 * (S 1 0 + S 5 2) - 1) (1000 * (S 1 0 + S 5 2)) (show r64 (if Int.tmod (q : Int) 2 = 0 then heldP S q (S 0 4).toNat else heldP S q (S 0 4).toNat + 1000 * (S 1 0 + S 5 2) - 1) from ⟨by omega, by omega⟩) (show r64 (1000 * (S 1 0 + S 5 2)) from ⟨by omega, by omega⟩)) ⟨ml_P_164, sm_P_quotient, ci_P⟩ w_P_quotient rfl 2 gy_P_quotient rfl 0 rfl 0 rfl rfl rfl (Nat.le_of_ble_eq_true rfl) ?_
    refine g_l2i C d_P_roundedByPlan_34 35 rfl ?_
    exact g_iret C hA hsz hr hl d_P_roundedByPlan_35 (by decide) (by decide) ⟨rfl, rfl, rfl⟩
  refine g_iload_n C d_P_roundedByPlan_12 13 rfl rfl 3 rfl ?_
  refine fcS1 C (rest := []) d_P_roundedByPlan_13 16 rfl (t_P_isLowEnd ((q : Int)) (show r32 ((q : Int)) from ⟨by omega, by omega⟩)) ⟨ml_P_201, sm_P_isLowEnd, ci_P⟩ w_P_isLowEnd rfl 1 gy_P_isLowEnd rfl 0 rfl 0 rfl rfl rfl (Nat.le_of_ble_eq_true rfl) ?_
  refine g_if_eq C d_P_roundedByPlan_16 19 rfl (bi_r _) 23 rfl (fun (w1 : bi (Int.tmod ((q : Int)) 2 = 0) = 0) => ?_) (fun (w2 : ¬ bi (Int.tmod ((q : Int)) 2 = 0) = 0) => ?_)
  · skip
    have w1 : ¬ (Int.tmod ((q : Int)) 2 = 0) := bi_f w1
    refine g_lload_n C d_P_roundedByPlan_23 24 rfl rfl 1 rfl ?_
    refine g_lload C d_P_roundedByPlan_24 26 rfl 0 rfl ?_
    refine g_ladd C d_P_roundedByPlan_26 27 rfl ?_
    refine g_lconst C (z := 1) d_P_roundedByPlan_27 28 rfl rfl ?_
    refine g_lsub C d_P_roundedByPlan_28 29 rfl ?_
    exact JJ (((heldP S q (S 0 4).toNat) + (1000 * (S 1 0 + S 5 2))) - 1) (by first | rw [if_pos (by omega)] | rw [if_neg (by omega)])
  · skip
    have w2 : (Int.tmod ((q : Int)) 2 = 0) := bi_t w2
    refine g_lload_n C d_P_roundedByPlan_19 20 rfl rfl 1 rfl ?_
    refine g_goto C d_P_roundedByPlan_20 29 rfl ?_
    exact JJ (heldP S q (S 0 4).toNat) (by first | rw [if_pos (by omega)] | rw [if_neg (by omega)])
abbrev rm_P_commonDivisor : Room := { frames := 0, cells := 0, slots := 0, locals := 0 }
set_option maxHeartbeats 4000000 in
set_option maxRecDepth 100000 in
theorem t_P_commonDivisor (a b : Int) (ha : 0 ≤ a ∧ a ≤ 4000000000000000000) (hb : 0 ≤ b ∧ b ≤ 4000000000000000000) : FM l y_P_commonDivisor c_P_commonDivisor 11 (some .long) rm_P_commonDivisor D cd L f [jv (a), jv (b)] (some (jv (eu 200 a b))) f := by
  refine g_of (by decide) (Nat.le_of_ble_eq_true rfl) ?_
  intro p e s m args below meth c A sz hA hsz C hr hl hnm
  have C : gC p s m args c D CL (TY cd) A c_P_commonDivisor "AlloyPlans" 11 := C
  change gW _ _ _ _ _ _ _ _ _ _ _ _ _ _ _ _ _ _ _ 0 [(0, jv (a)), (2, jv (b))] []
  obtain ⟨u0, v0⟩ := ha
  obtain ⟨u1, v1⟩ := hb
  refine g_lload_n C d_P_commonDivisor_0 1 rfl rfl 0 rfl ?_
  refine g_lstore C d_P_commonDivisor_1 3 rfl [(4, jv (a)), (0, jv (a)), (2, jv (b))] (by decide) rfl ?_
  refine g_lload_n C d_P_commonDivisor_3 4 rfl rfl 2 rfl ?_
  refine g_lstore C d_P_commonDivisor_4 6 rfl [(6, jv (b)), (4, jv (a)), (0, jv (a)), (2, jv (b))] (by decide) rfl ?_
  refine g_iconst C d_P_commonDivisor_6 7 rfl ?_
  refine g_istore C d_P_commonDivisor_7 9 rfl [(8, iv (0)), (6, jv (b)), (4, jv (a)), (0, jv (a)), (2, jv (b))] (by decide) rfl ?_
  have LP : ∀ (d n : Nat) (x y : Int), n + d = 200 → eu d x y = eu 200 a b → 0 ≤ x → x ≤ 4000000000000000000 → 0 ≤ y → y ≤ 4000000000000000000 → gW p l e rm_P_commonDivisor s m args below meth c D CL A 11 (MQ below (gQ D CL L sz (fun r L' g => r = (some (jv (eu 200 a b))) ∧ L' = L ∧ g = f)) args s rm_P_commonDivisor.cells rm_P_commonDivisor.slots (gA L sz)) 0 0 L f 9 [(8, iv ((n : Int))), (6, jv (y)), (4, jv (x)), (0, jv (a)), (2, jv (b))] [] := by
    intro d
    induction d with
    | zero =>
      intro n x y hn hx x0 x1 y0 y1
      refine g_iload C d_P_commonDivisor_9 11 rfl 0 rfl ?_
      refine g_sipush C d_P_commonDivisor_11 14 rfl rfl ?_
      refine g_icmp_ge C d_P_commonDivisor_14 17 rfl (show r32 ((n : Int)) from ⟨by omega, by omega⟩) ⟨by decide, by decide⟩ 45 rfl (fun (w1 : 200 ≤ (n : Int)) => ?_) (fun (w1 : ¬ 200 ≤ (n : Int)) => absurd w1 (by omega))
      refine g_lload C d_P_commonDivisor_45 47 rfl 2 rfl ?_
      exact g_lret C hA hsz hr hl d_P_commonDivisor_47 (by decide) (by decide) ⟨vj_e (by rw [← hx]; first | rfl | (show _ = if _ then _ else _; rw [if_pos (by omega)])), rfl, rfl⟩
    | succ d ih =>
      intro n x y hn hx x0 x1 y0 y1
      refine g_iload C d_P_commonDivisor_9 11 rfl 0 rfl ?_
      refine g_sipush C d_P_commonDivisor_11 14 rfl rfl ?_
      refine g_icmp_ge C d_P_commonDivisor_14 17 rfl (show r32 ((n : Int)) from ⟨by omega, by omega⟩) ⟨by decide, by decide⟩ 45 rfl (fun (w2 : 200 ≤ (n : Int)) => absurd w2 (by omega)) (fun (w2 : ¬ 200 ≤ (n : Int)) => ?_)
      refine g_lload C d_P_commonDivisor_17 19 rfl 1 rfl ?_
      refine g_lconst C (z := 0) d_P_commonDivisor_19 20 rfl rfl ?_
      refine g_lcmp_eq C d_P_commonDivisor_20 21 rfl 24 rfl (show r64 y from ⟨by omega, by omega⟩) ⟨by decide, by decide⟩ 45 rfl d_P_commonDivisor_21 (fun (w3 : y = 0) => ?_) (fun (w4 : ¬ y = 0) => ?_)
      · skip
        refine g_lload C d_P_commonDivisor_45 47 rfl 2 rfl ?_
        exact g_lret C hA hsz hr hl d_P_commonDivisor_47 (by decide) (by decide) ⟨vj_e (by rw [← hx]; first | rfl | (show _ = if _ then _ else _; rw [if_pos (by omega)])), rfl, rfl⟩
      · skip
        refine g_lload C d_P_commonDivisor_24 26 rfl 2 rfl ?_
        refine g_lload C d_P_commonDivisor_26 28 rfl 1 rfl ?_
        refine g_lrem C d_P_commonDivisor_28 29 rfl (show r64 x from ⟨by omega, by omega⟩) (show r64 y from ⟨by omega, by omega⟩) (show y ≠ (0 : Int) by omega) ?_
        refine g_lstore C d_P_commonDivisor_29 31 rfl [(9, jv (Int.tmod x y)), (8, iv ((n : Int))), (6, jv (y)), (4, jv (x)), (0, jv (a)), (2, jv (b))] (by decide) rfl ?_
        refine g_lload C d_P_commonDivisor_31 33 rfl 2 rfl ?_
        refine g_lstore C d_P_commonDivisor_33 35 rfl [(4, jv (y)), (9, jv (Int.tmod x y)), (8, iv ((n : Int))), (6, jv (y)), (0, jv (a)), (2, jv (b))] (by decide) rfl ?_
        refine g_lload C d_P_commonDivisor_35 37 rfl 1 rfl ?_
        refine g_lstore C d_P_commonDivisor_37 39 rfl [(6, jv (Int.tmod x y)), (4, jv (y)), (9, jv (Int.tmod x y)), (8, iv ((n : Int))), (0, jv (a)), (2, jv (b))] (by decide) rfl ?_
        refine g_iinc C d_P_commonDivisor_39 42 rfl [(8, iv ((n : Int) + 1)), (6, jv (Int.tmod x y)), (4, jv (y)), (9, jv (Int.tmod x y)), (0, jv (a)), (2, jv (b))] 3 rfl (by decide) rfl ?_
        refine g_goto C d_P_commonDivisor_42 9 rfl ?_
        have m1 := Int.tmod_nonneg y x0
        have m2 := Int.tmod_lt_of_pos x (show 0 < y by omega)
        refine g_sub [0, 1, 2, 4, 5] _ rfl ?_
        exact ih (n + 1) _ _ (by omega) (by rw [← hx]; show _ = if _ then _ else _; rw [if_neg (by omega)]) (by omega) (by omega) (by omega) (by omega)
  exact LP 200 0 a b rfl rfl u0 v0 u1 v1
def cS (S : Nat → Nat → Int) (n : Nat) : Int := sumN (fun j => S 8 j * S (11 + j) 0) n
def kS (S : Nat → Nat → Int) (n : Nat) : Int := sumN (fun j => S 8 j * S (11 + j) 1) n
def mS (S : Nat → Nat → Int) (n : Nat) : Int := sumN (fun j => bi (0 < S 8 j)) n
def qS (S : Nat → Nat → Int) (n : Nat) : Int := sumN (fun j => S 8 j * (S (11 + j) 1 * S (11 + j) 4)) n
abbrev rm_N_settle : Room := { frames := 1, cells := 0, slots := 0, locals := 20 }
set_option maxHeartbeats 4000000 in
set_option maxRecDepth 100000 in
theorem t_N_settle (G : LO ad L) (x : Int) (h0 : 0 ≤ x ∧ x ≤ 4) (h8 : ∀ j, j < 4 → 0 ≤ S 8 j ∧ S 8 j ≤ 12) : FM l y_N_settle c_N_settle 6 none rm_N_settle D cd L (wd cd ad S f0) [.ref (ad 5), .ref (ad 8), .ref (ad 4), iv (x)] none (wd cd ad (u2 (setS S (cS S x.toNat) (kS S x.toNat) (mS S x.toNat) (qS S x.toNat) x.toNat) 5 0 1) f0) := by
  refine g_of (by decide) (Nat.le_of_ble_eq_true rfl) ?_
  intro p e s m args below meth c A sz hA hsz C hr hl hnm
  have C : gC p s m args c D CL (TY cd) A c_N_settle "AlloyPlans$Plan" 6 := C
  change gW _ _ _ _ _ _ _ _ _ _ _ _ _ _ _ _ _ _ _ 0 [(0, .ref (ad 5)), (1, .ref (ad 8)), (2, .ref (ad 4)), (3, iv (x))] []
  obtain ⟨u0, v0⟩ := h0
  refine g_aload_n C d_N_settle_0 1 rfl rfl 0 rfl ?_
  refine g_iconst C d_N_settle_1 2 rfl ?_
  refine pt_N_cents C G (z := 0) d_N_settle_2 5 rfl fl_N_19 ?_
  refine g_aload_n C d_N_settle_5 6 rfl rfl 0 rfl ?_
  refine g_iconst C d_N_settle_6 7 rfl ?_
  refine pt_N_kilos C G (z := 0) d_N_settle_7 10 rfl fl_N_23 ?_
  refine g_aload_n C d_N_settle_10 11 rfl rfl 0 rfl ?_
  refine g_iconst C d_N_settle_11 12 rfl ?_
  refine pt_N_kinds C G (z := 0) d_N_settle_12 15 rfl fl_N_26 ?_
  refine g_aload_n C d_N_settle_15 16 rfl rfl 0 rfl ?_
  refine g_iconst C d_N_settle_16 17 rfl ?_
  refine pt_N_cooling C G (z := 0) d_N_settle_17 20 rfl fl_N_29 ?_
  refine g_iconst C d_N_settle_20 21 rfl ?_
  refine g_istore C d_N_settle_21 23 rfl [(4, iv (0)), (0, .ref (ad 5)), (1, .ref (ad 8)), (2, .ref (ad 4)), (3, iv (x))] (by decide) rfl ?_
  have hz0 : (u2 (u2 (u2 (u2 S 5 1 (0)) 5 2 (0)) 5 3 (0)) 5 4 (0)) = setS S (cS S 0) (kS S 0) (mS S 0) (qS S 0) 0 := setS_0 S
  have LP : ∀ (d n : Nat) (T : Nat → Nat → Int), n + d = 4 → T = setS S (cS S n) (kS S n) (mS S n) (qS S n) n → (n : Int) ≤ x → gW p l e rm_N_settle s m args below meth c D CL A 6 (MQ below (gQ D CL L sz (fun r L' g => r = none ∧ L' = L ∧ g = (wd cd ad (u2 (setS S (cS S x.toNat) (kS S x.toNat) (mS S x.toNat) (qS S x.toNat) x.toNat) 5 0 1) f0))) args s rm_N_settle.cells rm_N_settle.slots (gA L sz)) 0 0 L (wd cd ad T f0) 23 [(4, iv ((n : Int))), (0, .ref (ad 5)), (1, .ref (ad 8)), (2, .ref (ad 4)), (3, iv (x))] [] := by
    intro d
    induction d with
    | zero =>
      intro n T hn hT hle
      refine g_iload C d_N_settle_23 25 rfl 0 rfl ?_
      refine g_iload_n C d_N_settle_25 26 rfl rfl 4 rfl ?_
      refine g_icmp_ge C d_N_settle_26 29 rfl (show r32 ((n : Int)) from ⟨by omega, by omega⟩) (show r32 x from ⟨by omega, by omega⟩) 136 rfl (fun (w1 : x ≤ (n : Int)) => ?_) (fun (w1 : ¬ x ≤ (n : Int)) => absurd w1 (by omega))
      refine g_aload_n C d_N_settle_136 137 rfl rfl 1 rfl ?_
      refine g_iconst C d_N_settle_137 138 rfl ?_
      refine pt_N_stands C G (z := 1) d_N_settle_138 141 rfl fl_N_15 (Or.inr rfl) ?_
      exact g_vret C hA hsz hr hl d_N_settle_141 (by decide) (by decide) ⟨rfl, rfl, by rw [hT, show n = x.toNat by omega]⟩
    | succ d ih =>
      intro n T hn hT hle
      obtain ⟨u8, v8⟩ := h8 n (by omega)
      have e8 : T 8 n = S 8 n := by rw [hT]; rfl
      refine g_iload C d_N_settle_23 25 rfl 0 rfl ?_
      refine g_iload_n C d_N_settle_25 26 rfl rfl 4 rfl ?_
      refine g_icmp_ge C d_N_settle_26 29 rfl (show r32 ((n : Int)) from ⟨by omega, by omega⟩) (show r32 x from ⟨by omega, by omega⟩) 136 rfl (fun (w2 : x ≤ (n : Int)) => ?_) (fun (w3 : ¬ x ≤ (n : Int)) => ?_)
      · skip
        refine g_aload_n C d_N_settle_136 137 rfl rfl 1 rfl ?_
        refine g_iconst C d_N_settle_137 138 rfl ?_
        refine pt_N_stands C G (z := 1) d_N_settle_138 141 rfl fl_N_15 (Or.inr rfl) ?_
        exact g_vret C hA hsz hr hl d_N_settle_141 (by decide) (by decide) ⟨rfl, rfl, by rw [hT, show n = x.toNat by omega]⟩
      · skip
        refine g_iload C d_N_settle_29 31 rfl 0 rfl ?_
        refine g_aload_n C d_N_settle_31 32 rfl rfl 1 rfl ?_
        refine gt_N_taken C G d_N_settle_32 35 rfl fl_N_9 ?_
        refine ln_6 C G d_N_settle_35 36 rfl ?_
        refine g_icmp_ge C d_N_settle_36 39 rfl (show r32 ((n : Int)) from ⟨by omega, by omega⟩) ⟨by decide, by decide⟩ 136 rfl (fun (w4 : 4 ≤ (n : Int)) => absurd w4 (by omega)) (fun (w4 : ¬ 4 ≤ (n : Int)) => ?_)
        refine g_aload_n C d_N_settle_39 40 rfl rfl 2 rfl ?_
        refine g_iload C d_N_settle_40 42 rfl 0 rfl ?_
        refine ld_8 C G d_N_settle_42 43 rfl n (by omega) rfl ?_
        refine g_istore C d_N_settle_43 45 rfl [(5, iv (T 8 n)), (4, iv ((n : Int))), (0, .ref (ad 5)), (1, .ref (ad 8)), (2, .ref (ad 4)), (3, iv (x))] (by decide) rfl ?_
        refine g_aload_n C d_N_settle_45 46 rfl rfl 2 rfl ?_
        refine gt_N_taken C G d_N_settle_46 49 rfl fl_N_9 ?_
        refine g_iload C d_N_settle_49 51 rfl 1 rfl ?_
        refine g_iload C d_N_settle_51 53 rfl 0 rfl ?_
        refine st_6 C G (x := T 8 n) d_N_settle_53 54 rfl n (by omega) rfl ?_
        refine g_aload_n C d_N_settle_54 55 rfl rfl 2 rfl ?_
        refine g_dup C d_N_settle_55 56 rfl rfl ?_
        refine gt_N_cents C G d_N_settle_56 59 rfl fl_N_19 ?_
        refine g_iload C d_N_settle_59 61 rfl 0 rfl ?_
        refine g_aload_n C d_N_settle_61 62 rfl rfl 4 rfl ?_
        refine g_iload C d_N_settle_62 64 rfl 1 rfl ?_
        refine ld_4 C G d_N_settle_64 65 rfl n (by omega) rfl ?_
        refine gt_A_cents C G d_N_settle_65 68 rfl n (by omega) fl_N_32 ?_
        refine g_imul C d_N_settle_68 69 rfl ?_
        refine g_iadd C d_N_settle_69 70 rfl ?_
        refine pt_N_cents C G (z := (T 5 1) + ((T 8 n) * ((u2 T 6 n (T 8 n)) (11 + n) 0))) d_N_settle_70 73 rfl fl_N_19 ?_
        refine g_aload_n C d_N_settle_73 74 rfl rfl 2 rfl ?_
        refine g_dup C d_N_settle_74 75 rfl rfl ?_
        refine gt_N_kilos C G d_N_settle_75 78 rfl fl_N_23 ?_
        refine g_iload C d_N_settle_78 80 rfl 0 rfl ?_
        refine g_aload_n C d_N_settle_80 81 rfl rfl 4 rfl ?_
        refine g_iload C d_N_settle_81 83 rfl 1 rfl ?_
        refine ld_4 C G d_N_settle_83 84 rfl n (by omega) rfl ?_
        refine gt_A_kilos C G d_N_settle_84 87 rfl n (by omega) fl_N_35 ?_
        refine g_imul C d_N_settle_87 88 rfl ?_
        refine g_iadd C d_N_settle_88 89 rfl ?_
        refine pt_N_kilos C G (z := (T 5 2) + ((T 8 n) * ((u2 (u2 T 6 n (T 8 n)) 5 1 ((T 5 1) + ((T 8 n) * ((u2 T 6 n (T 8 n)) (11 + n) 0)))) (11 + n) 1))) d_N_settle_89 92 rfl fl_N_23 ?_
        refine g_aload_n C d_N_settle_92 93 rfl rfl 2 rfl ?_
        refine g_dup C d_N_settle_93 94 rfl rfl ?_
        refine gt_N_kinds C G d_N_settle_94 97 rfl fl_N_26 ?_
        have JK : ∀ zj : Int, zj = (bi (0 < S 8 n)) → gW p l e rm_N_settle s m args below meth c D CL A 6 (MQ below (gQ D CL L sz (fun r L' g => r = none ∧ L' = L ∧ g = (wd cd ad (u2 (setS S (cS S x.toNat) (kS S x.toNat) (mS S x.toNat) (qS S x.toNat) x.toNat) 5 0 1) f0))) args s rm_N_settle.cells rm_N_settle.slots (gA L sz)) 0 0 L (wd cd ad (u2 (u2 (u2 T 6 n (T 8 n)) 5 1 ((T 5 1) + ((T 8 n) * ((u2 T 6 n (T 8 n)) (11 + n) 0)))) 5 2 ((T 5 2) + ((T 8 n) * ((u2 (u2 T 6 n (T 8 n)) 5 1 ((T 5 1) + ((T 8 n) * ((u2 T 6 n (T 8 n)) (11 + n) 0)))) (11 + n) 1)))) f0) 107 [(5, iv (T 8 n)), (4, iv ((n : Int))), (0, .ref (ad 5)), (1, .ref (ad 8)), (2, .ref (ad 4)), (3, iv (x))] [iv zj, iv (T 5 3), .ref (ad 5)] := by
          intro zj hzj
          subst hzj
          refine g_iadd C d_N_settle_107 108 rfl ?_
          refine pt_N_kinds C G (z := (T 5 3) + (bi (0 < S 8 n))) d_N_settle_108 111 rfl fl_N_26 ?_
          refine g_aload_n C d_N_settle_111 112 rfl rfl 2 rfl ?_
          refine g_dup C d_N_settle_112 113 rfl rfl ?_
          refine gt_N_cooling C G d_N_settle_113 116 rfl fl_N_29 ?_
          refine g_iload C d_N_settle_116 118 rfl 0 rfl ?_
          refine g_aload_n C d_N_settle_118 119 rfl rfl 4 rfl ?_
          refine g_iload C d_N_settle_119 121 rfl 1 rfl ?_
          refine ld_4 C G d_N_settle_121 122 rfl n (by omega) rfl ?_
          refine fcV1 C (rest := [iv (T 8 n), iv (T 5 4), .ref (ad 5)]) d_N_settle_122 125 rfl (t_A_coolingOfStep G (S := (u2 (u2 (u2 (u2 T 6 n (T 8 n)) 5 1 ((T 5 1) + ((T 8 n) * ((u2 T 6 n (T 8 n)) (11 + n) 0)))) 5 2 ((T 5 2) + ((T 8 n) * ((u2 (u2 T 6 n (T 8 n)) 5 1 ((T 5 1) + ((T 8 n) * ((u2 T 6 n (T 8 n)) (11 + n) 0)))) (11 + n) 1)))) 5 3 ((T 5 3) + (bi (0 < S 8 n))))) n (by omega)) rfl (G.1 (11 + n) (by omega)) (at_A G n (by omega)) ⟨ml_N_36, im_A_coolingOfStep, se_A_coolingOfStep, ci_A⟩ w_A_coolingOfStep rfl 0 gy_A_coolingOfStep rfl 0 rfl 0 rfl rfl rfl (Nat.le_of_ble_eq_true rfl) ?_
          refine g_imul C d_N_settle_125 126 rfl ?_
          refine g_iadd C d_N_settle_126 127 rfl ?_
          refine pt_N_cooling C G (z := (T 5 4) + ((T 8 n) * (((u2 (u2 (u2 (u2 T 6 n (T 8 n)) 5 1 ((T 5 1) + ((T 8 n) * ((u2 T 6 n (T 8 n)) (11 + n) 0)))) 5 2 ((T 5 2) + ((T 8 n) * ((u2 (u2 T 6 n (T 8 n)) 5 1 ((T 5 1) + ((T 8 n) * ((u2 T 6 n (T 8 n)) (11 + n) 0)))) (11 + n) 1)))) 5 3 ((T 5 3) + (bi (0 < S 8 n)))) (11 + n) 1) * ((u2 (u2 (u2 (u2 T 6 n (T 8 n)) 5 1 ((T 5 1) + ((T 8 n) * ((u2 T 6 n (T 8 n)) (11 + n) 0)))) 5 2 ((T 5 2) + ((T 8 n) * ((u2 (u2 T 6 n (T 8 n)) 5 1 ((T 5 1) + ((T 8 n) * ((u2 T 6 n (T 8 n)) (11 + n) 0)))) (11 + n) 1)))) 5 3 ((T 5 3) + (bi (0 < S 8 n)))) (11 + n) 4)))) d_N_settle_127 130 rfl fl_N_29 ?_
          refine g_iinc C d_N_settle_130 133 rfl [(4, iv ((n : Int) + 1)), (5, iv (T 8 n)), (0, .ref (ad 5)), (1, .ref (ad 8)), (2, .ref (ad 4)), (3, iv (x))] 1 rfl (by decide) rfl ?_
          refine g_goto C d_N_settle_133 23 rfl ?_
          refine g_sub [0, 2, 3, 4, 5] _ rfl ?_
          refine ih (n + 1) _ (by omega) ?_ (by omega)
          refine Eq.trans ?_ (setS_s S (cS S n) (kS S n) (mS S n) (qS S n) (cS S (n + 1)) (kS S (n + 1)) (mS S (n + 1)) (qS S (n + 1)) n)
          subst hT
          have g0 : cS S (n + 1) = cS S n + S 8 n * S (11 + n) 0 := rfl
          have g1 : kS S (n + 1) = kS S n + S 8 n * S (11 + n) 1 := rfl
          have g2 : mS S (n + 1) = mS S n + bi (0 < S 8 n) := rfl
          have g3 : qS S (n + 1) = qS S n + S 8 n * (S (11 + n) 1 * S (11 + n) 4) := rfl
          rw [g0, g1, g2, g3]
          have e1 : setS S (cS S n) (kS S n) (mS S n) (qS S n) n 5 1 = cS S n := rfl
          have e2 : setS S (cS S n) (kS S n) (mS S n) (qS S n) n 5 2 = kS S n := rfl
          have e3 : setS S (cS S n) (kS S n) (mS S n) (qS S n) n 5 3 = mS S n := rfl
          have e4 : setS S (cS S n) (kS S n) (mS S n) (qS S n) n 5 4 = qS S n := rfl
          have ea : setS S (cS S n) (kS S n) (mS S n) (qS S n) n (11 + n) = S (11 + n) := setS_ne (by omega) (by omega)
          have e8 : setS S (cS S n) (kS S n) (mS S n) (qS S n) n 8 = S 8 := rfl
          simp only [u2_ne (show (11 + n : Nat) ≠ 6 by omega), u2_ne (show (11 + n : Nat) ≠ 5 by omega), u2_ne (show (5 : Nat) ≠ 6 by decide), u2_j (show (2 : Nat) ≠ 1 by decide), u2_j (show (3 : Nat) ≠ 1 by decide), u2_j (show (3 : Nat) ≠ 2 by decide), u2_j (show (4 : Nat) ≠ 1 by decide), u2_j (show (4 : Nat) ≠ 2 by decide), u2_j (show (4 : Nat) ≠ 3 by decide), ea, e1, e2, e3, e4, e8]
        refine g_iload C d_N_settle_97 99 rfl 0 rfl ?_
        refine g_if_le C d_N_settle_99 102 rfl (show r32 (T 8 n) from ⟨by omega, by omega⟩) 106 rfl (fun (w5 : T 8 n ≤ 0) => ?_) (fun (w6 : ¬ T 8 n ≤ 0) => ?_)
        · skip
          refine g_iconst C d_N_settle_106 107 rfl ?_
          exact JK 0 (by first | exact (bi_pos (by omega)).symm | exact (bi_neg (by omega)).symm)
        · skip
          refine g_iconst C d_N_settle_102 103 rfl ?_
          refine g_goto C d_N_settle_103 107 rfl ?_
          exact JK 1 (by first | exact (bi_pos (by omega)).symm | exact (bi_neg (by omega)).symm)
  exact LP 4 0 _ rfl hz0 u0
end M3
end
section
section M4
variable {l : Launch} {D : va_G} {cd : Nat → ClassId} {ad : Nat → Nat} {L : List Nat} {f f0 : Nat → va_E} {S : Nat → Nat → Int}
abbrev worth (S : Nat → Nat → Int) (i : Nat) : Prop := 0 ≤ S (23 + i) 2 ∧ (S 7 0 = 0 ∨ S (23 + i) 0 < S 7 3 ∨ (S (23 + i) 0 = S 7 3 ∧ S (23 + i) 1 < S 7 4))
def mxM (S : Nat → Nat → Int) (i : Nat) : Int := if S 7 1 < cmet (S (28 + i)) then cmet (S (28 + i)) else S 7 1
def judgeS (S : Nat → Nat → Int) (i : Nat) : Nat → Nat → Int := if cmet (S (28 + i)) < 4 then u2 S 7 1 (mxM S i) else uA (u2 (u2 (u2 (u2 S 7 1 (mxM S i)) 7 0 1) 7 3 (S (23 + i) 0)) 7 4 (S (23 + i) 1)) 8 4 (S 9)
def gS (S : Nat → Nat → Int) : Nat → (Nat → Nat → Int)
  | 0 => S
  | n + 1 => uA (gS S n) (19 + n) 8 (gainA (gS S n) n)
theorem gS_ne (S : Nat → Nat → Int) (n x : Nat) (h : x < 19 ∨ 19 + n ≤ x) : gS S n x = S x := by
  induction n with
  | zero => rfl
  | succ n ih =>
    show uA (gS S n) (19 + n) 8 (gainA (gS S n) n) x = S x
    rw [uA_ne (by omega)]
    exact ih (by omega)
def heatS (S : Nat → Nat → Int) (x : Int) : Nat → Nat → Int := uA (u2 (u2 (u2 S (23 + 0) 0 0) (23 + 0) 1 0) (23 + 0) 2 x) (28 + 0) 8 (surH S)
def beginS (S : Nat → Nat → Int) (x : Int) (n : Nat) : Nat → Nat → Int := heatS (gS (u2 (u2 S 7 0 0) 7 1 0) n) x
def tryL (rec : (Nat → Nat → Int) → (Nat → Nat → Int)) (k : Nat) : Nat → Nat → (Nat → Nat → Int) → (Nat → Nat → Int)
  | 0, _, S => S
  | d + 1, n, S => if worth (if n = 0 then S else takeS S (k + 1) k (bi (n = 1))) (k + 1) then tryL rec k d (n + 1) (rec (u2 (if n = 0 then S else takeS S (k + 1) k (bi (n = 1))) 9 k n)) else (if n = 0 then S else takeS S (k + 1) k (bi (n = 1)))
def tryS (kc : Int) : Nat → Nat → (Nat → Nat → Int) → (Nat → Nat → Int)
  | 0, k, S => judgeS S k
  | e + 1, k, S => if kc ≤ k then judgeS S k else tryL (tryS kc e (k + 1)) k ((S (11 + k) 2).toNat + 1) 0 (likeS S (k + 1) k)
theorem cmet_r (g : Nat → Int) : 0 ≤ cmet g ∧ cmet g ≤ 4 := by
  unfold cmet
  repeat' split
  all_goals omega
abbrev rm_S_isWorthTrying : Room := { frames := 0, cells := 0, slots := 0, locals := 0 }
set_option maxHeartbeats 4000000 in
set_option maxRecDepth 100000 in
theorem t_S_isWorthTrying (G : LO ad L) (i : Nat) (hi : i < 5) (h1 : r32 (S (23 + i) 2)) (h2 : S 7 0 = 0 ∨ S 7 0 = 1) (h3 : r32 (S (23 + i) 0)) (h4 : r32 (S 7 3)) (h5 : r32 (S (23 + i) 1)) (h6 : r32 (S 7 4)) : FM l y_S_isWorthTrying c_S_isWorthTrying 2 (some .boolean) rm_S_isWorthTrying D cd L (wd cd ad S f0) [.ref (ad 7), .ref (ad (23 + i))] (some (iv (bi (worth S i)))) (wd cd ad S f0) := by
  refine g_of (by decide) (Nat.le_of_ble_eq_true rfl) ?_
  intro p e s m args below meth c A sz hA hsz C hr hl hnm
  have C : gC p s m args c D CL (TY cd) A c_S_isWorthTrying "AlloyPlans$Search" 2 := C
  change gW _ _ _ _ _ _ _ _ _ _ _ _ _ _ _ _ _ _ _ 0 [(0, .ref (ad 7)), (1, .ref (ad (23 + i)))] []
  obtain ⟨u0, v0⟩ := h1
  obtain ⟨u1, v1⟩ := h3
  obtain ⟨u2, v2⟩ := h4
  obtain ⟨u3, v3⟩ := h5
  obtain ⟨u4, v4⟩ := h6
  refine g_aload_n C d_S_isWorthTrying_0 1 rfl rfl 1 rfl ?_
  refine gt_X_heatLeft C G d_S_isWorthTrying_1 4 rfl i (by omega) fl_S_70 ?_
  refine g_if_ge C d_S_isWorthTrying_4 7 rfl (show r32 (S (23 + i) 2) from ⟨by omega, by omega⟩) 9 rfl (fun (w1 : 0 ≤ S (23 + i) 2) => ?_) (fun (w2 : ¬ 0 ≤ S (23 + i) 2) => ?_)
  · skip
    refine g_aload_n C d_S_isWorthTrying_9 10 rfl rfl 0 rfl ?_
    refine gt_S_found C G d_S_isWorthTrying_10 13 rfl fl_S_25 ?_
    refine g_if_eq C d_S_isWorthTrying_13 16 rfl (show r32 (S 7 0) from ⟨by omega, by omega⟩) 49 rfl (fun (w3 : S 7 0 = 0) => ?_) (fun (w4 : ¬ S 7 0 = 0) => ?_)
    · skip
      refine g_iconst C d_S_isWorthTrying_49 50 rfl ?_
      refine g_goto C d_S_isWorthTrying_50 54 rfl ?_
      exact g_zret C hA hsz hr hl (Or.inr rfl) d_S_isWorthTrying_54 (by decide) (by decide) ⟨zi_t (by unfold worth; omega), rfl, rfl⟩
    · skip
      refine g_aload_n C d_S_isWorthTrying_16 17 rfl rfl 1 rfl ?_
      refine gt_X_cents C G d_S_isWorthTrying_17 20 rfl i (by omega) fl_S_73 ?_
      refine g_aload_n C d_S_isWorthTrying_20 21 rfl rfl 0 rfl ?_
      refine gt_S_bestCents C G d_S_isWorthTrying_21 24 rfl fl_S_76 ?_
      refine g_icmp_lt C d_S_isWorthTrying_24 27 rfl (show r32 (S (23 + i) 0) from ⟨by omega, by omega⟩) (show r32 (S 7 3) from ⟨by omega, by omega⟩) 49 rfl (fun (w5 : S (23 + i) 0 < S 7 3) => ?_) (fun (w6 : ¬ S (23 + i) 0 < S 7 3) => ?_)
      · skip
        refine g_iconst C d_S_isWorthTrying_49 50 rfl ?_
        refine g_goto C d_S_isWorthTrying_50 54 rfl ?_
        exact g_zret C hA hsz hr hl (Or.inr rfl) d_S_isWorthTrying_54 (by decide) (by decide) ⟨zi_t (by unfold worth; omega), rfl, rfl⟩
      · skip
        refine g_aload_n C d_S_isWorthTrying_27 28 rfl rfl 1 rfl ?_
        refine gt_X_cents C G d_S_isWorthTrying_28 31 rfl i (by omega) fl_S_73 ?_
        refine g_aload_n C d_S_isWorthTrying_31 32 rfl rfl 0 rfl ?_
        refine gt_S_bestCents C G d_S_isWorthTrying_32 35 rfl fl_S_76 ?_
        refine g_icmp_ne C d_S_isWorthTrying_35 38 rfl (show r32 (S (23 + i) 0) from ⟨by omega, by omega⟩) (show r32 (S 7 3) from ⟨by omega, by omega⟩) 53 rfl (fun (w7 : ¬ S (23 + i) 0 = S 7 3) => ?_) (fun (w8 : S (23 + i) 0 = S 7 3) => ?_)
        · skip
          refine g_iconst C d_S_isWorthTrying_53 54 rfl ?_
          exact g_zret C hA hsz hr hl (Or.inl rfl) d_S_isWorthTrying_54 (by decide) (by decide) ⟨zi_f (by unfold worth; omega), rfl, rfl⟩
        · skip
          refine g_aload_n C d_S_isWorthTrying_38 39 rfl rfl 1 rfl ?_
          refine gt_X_kinds C G d_S_isWorthTrying_39 42 rfl i (by omega) fl_S_79 ?_
          refine g_aload_n C d_S_isWorthTrying_42 43 rfl rfl 0 rfl ?_
          refine gt_S_bestKinds C G d_S_isWorthTrying_43 46 rfl fl_S_82 ?_
          refine g_icmp_ge C d_S_isWorthTrying_46 49 rfl (show r32 (S (23 + i) 1) from ⟨by omega, by omega⟩) (show r32 (S 7 4) from ⟨by omega, by omega⟩) 53 rfl (fun (w9 : S 7 4 ≤ S (23 + i) 1) => ?_) (fun (w10 : ¬ S 7 4 ≤ S (23 + i) 1) => ?_)
          · skip
            refine g_iconst C d_S_isWorthTrying_53 54 rfl ?_
            exact g_zret C hA hsz hr hl (Or.inl rfl) d_S_isWorthTrying_54 (by decide) (by decide) ⟨zi_f (by unfold worth; omega), rfl, rfl⟩
          · skip
            refine g_iconst C d_S_isWorthTrying_49 50 rfl ?_
            refine g_goto C d_S_isWorthTrying_50 54 rfl ?_
            exact g_zret C hA hsz hr hl (Or.inr rfl) d_S_isWorthTrying_54 (by decide) (by decide) ⟨zi_t (by unfold worth; omega), rfl, rfl⟩
  · skip
    refine g_iconst C d_S_isWorthTrying_7 8 rfl ?_
    exact g_zret C hA hsz hr hl (Or.inl rfl) d_S_isWorthTrying_8 (by decide) (by decide) ⟨zi_f (by unfold worth; omega), rfl, rfl⟩
abbrev rm_S_judge : Room := { frames := 1, cells := 0, slots := 0, locals := 40 }
set_option maxHeartbeats 4000000 in
set_option maxRecDepth 100000 in
theorem t_S_judge (G : LO ad L) (i : Nat) (hi : i < 5) (h1 : 0 ≤ S 7 1 ∧ S 7 1 ≤ 4) (hs : ∀ j, j < 8 → r64 (S (28 + i) j)) : FM l y_S_judge c_S_judge 3 none rm_S_judge D cd L (wd cd ad S f0) [.ref (ad 7), .ref (ad (23 + i))] none (wd cd ad (judgeS S i) f0) := by
  refine g_of (by decide) (Nat.le_of_ble_eq_true rfl) ?_
  intro p e s m args below meth c A sz hA hsz C hr hl hnm
  have C : gC p s m args c D CL (TY cd) A c_S_judge "AlloyPlans$Search" 3 := C
  change gW _ _ _ _ _ _ _ _ _ _ _ _ _ _ _ _ _ _ _ 0 [(0, .ref (ad 7)), (1, .ref (ad (23 + i)))] []
  obtain ⟨u0, v0⟩ := h1
  obtain ⟨u1, v1⟩ := cmet_r (S (28 + i))
  refine g_aload_n C d_S_judge_0 1 rfl rfl 1 rfl ?_
  refine fcV1 C (rest := []) d_S_judge_1 4 rfl (t_X_countMet G (S := S) i (by omega) (by first | assumption | omega)) rfl (G.1 (23 + i) (by omega)) (at_X G i (by omega)) ⟨ml_S_85, im_X_countMet, se_X_countMet, ci_X⟩ w_X_countMet rfl 0 gy_X_countMet rfl 0 rfl 0 rfl rfl rfl (Nat.le_of_ble_eq_true rfl) ?_
  refine g_istore_n C d_S_judge_4 5 rfl [(2, iv (cmet (S (28 + i)))), (0, .ref (ad 7)), (1, .ref (ad (23 + i)))] rfl (by decide) rfl ?_
  refine g_aload_n C d_S_judge_5 6 rfl rfl 1 rfl ?_
  refine g_aload_n C d_S_judge_6 7 rfl rfl 1 rfl ?_
  refine gt_S_mostMet C G d_S_judge_7 10 rfl fl_S_29 ?_
  refine g_iload_n C d_S_judge_10 11 rfl rfl 0 rfl ?_
  refine g_max C ⟨ml_S_89, wM_max_s, ci_Math, wM_max_c⟩ (by decide) (Nat.le_of_ble_eq_true rfl) (by decide) (by decide) (show r32 (S 7 1) from ⟨by omega, by omega⟩) (show r32 (cmet (S (28 + i))) from ⟨by omega, by omega⟩) d_S_judge_11 14 rfl ?_
  refine pt_S_mostMet C G (z := if S 7 1 < cmet (S (28 + i)) then cmet (S (28 + i)) else S 7 1) d_S_judge_14 17 rfl fl_S_29 ?_
  refine g_iload_n C d_S_judge_17 18 rfl rfl 0 rfl ?_
  refine g_iconst C d_S_judge_18 19 rfl ?_
  refine g_icmp_ge C d_S_judge_19 22 rfl (show r32 (cmet (S (28 + i))) from ⟨by omega, by omega⟩) ⟨by decide, by decide⟩ 23 rfl (fun (w1 : 4 ≤ cmet (S (28 + i))) => ?_) (fun (w2 : ¬ 4 ≤ cmet (S (28 + i))) => ?_)
  · skip
    refine g_aload_n C d_S_judge_23 24 rfl rfl 1 rfl ?_
    refine g_iconst C d_S_judge_24 25 rfl ?_
    refine pt_S_found C G (z := 1) d_S_judge_25 28 rfl fl_S_25 (Or.inr rfl) ?_
    refine g_aload_n C d_S_judge_28 29 rfl rfl 1 rfl ?_
    refine g_aload_n C d_S_judge_29 30 rfl rfl 2 rfl ?_
    refine gt_X_cents C G d_S_judge_30 33 rfl i (by omega) fl_S_73 ?_
    refine pt_S_bestCents C G (z := (u2 (u2 S 7 1 (if S 7 1 < cmet (S (28 + i)) then cmet (S (28 + i)) else S 7 1)) 7 0 (1)) (23 + i) 0) d_S_judge_33 36 rfl fl_S_76 ?_
    refine g_aload_n C d_S_judge_36 37 rfl rfl 1 rfl ?_
    refine g_aload_n C d_S_judge_37 38 rfl rfl 2 rfl ?_
    refine gt_X_kinds C G d_S_judge_38 41 rfl i (by omega) fl_S_79 ?_
    refine pt_S_bestKinds C G (z := (u2 (u2 (u2 S 7 1 (if S 7 1 < cmet (S (28 + i)) then cmet (S (28 + i)) else S 7 1)) 7 0 (1)) 7 3 ((u2 (u2 S 7 1 (if S 7 1 < cmet (S (28 + i)) then cmet (S (28 + i)) else S 7 1)) 7 0 (1)) (23 + i) 0)) (23 + i) 1) d_S_judge_41 44 rfl fl_S_82 ?_
    refine g_aload_n C d_S_judge_44 45 rfl rfl 1 rfl ?_
    refine gt_S_tried C G d_S_judge_45 48 rfl fl_S_15 ?_
    refine g_iconst C d_S_judge_48 49 rfl ?_
    refine g_aload_n C d_S_judge_49 50 rfl rfl 1 rfl ?_
    refine gt_S_best C G d_S_judge_50 53 rfl fl_S_9 ?_
    refine g_iconst C d_S_judge_53 54 rfl ?_
    refine g_aload_n C d_S_judge_54 55 rfl rfl 1 rfl ?_
    refine gt_S_best C G d_S_judge_55 58 rfl fl_S_9 ?_
    refine ln_8 C G d_S_judge_58 59 rfl ?_
    refine cp_8 C G d_S_judge_59 62 rfl ⟨ml_S_95, wA_native, wA_static, ci_System⟩ (by decide) (by decide +kernel) ?_
    exact g_vret C hA hsz hr hl d_S_judge_62 (by decide) (by decide) ⟨rfl, rfl, by rw [show judgeS S i = uA (u2 (u2 (u2 (u2 S 7 1 (mxM S i)) 7 0 1) 7 3 (S (23 + i) 0)) 7 4 (S (23 + i) 1)) 8 4 (S 9) from if_neg (by omega)]; unfold mxM; simp only [u2_ne (show (23 + i : Nat) ≠ 7 by omega), u2_ne (show (9 : Nat) ≠ 7 by decide)]⟩
  · skip
    exact g_vret C hA hsz hr hl d_S_judge_22 (by decide) (by decide) ⟨rfl, rfl, by rw [show judgeS S i = u2 S 7 1 (mxM S i) from if_pos (by omega)]; rfl⟩
abbrev rm_S_begin : Room := { frames := 4, cells := 0, slots := 0, locals := 88 }
set_option maxHeartbeats 4000000 in
set_option maxRecDepth 100000 in
theorem t_S_begin (G : LO ad L) (x y : Int) (h0 : 0 ≤ x ∧ x ≤ 4) (h1 : r32 (S 1 0)) (h2 : ∀ m, m < 8 → r32 (S 2 m)) (h3 : ∀ m, m < 8 → r32 (S 3 m)) (ha : ∀ j, j < 4 → (r32 (S (11 + j) 1) ∧ r32 (S (11 + j) 3) ∧ ∀ m, m < 8 → r32 (S (15 + j) m))) : FM l y_S_begin c_S_begin 6 none rm_S_begin D cd L (wd cd ad S f0) [.ref (ad 7), .ref (ad 1), .ref (ad 4), iv (x), iv (y)] none (wd cd ad (beginS S y x.toNat) f0) := by
  refine g_of (by decide) (Nat.le_of_ble_eq_true rfl) ?_
  intro p e s m args below meth c A sz hA hsz C hr hl hnm
  have C : gC p s m args c D CL (TY cd) A c_S_begin "AlloyPlans$Search" 6 := C
  change gW _ _ _ _ _ _ _ _ _ _ _ _ _ _ _ _ _ _ _ 0 [(0, .ref (ad 7)), (1, .ref (ad 1)), (2, .ref (ad 4)), (3, iv (x)), (4, iv (y))] []
  obtain ⟨u0, v0⟩ := h0
  obtain ⟨u1, v1⟩ := h1
  refine g_aload_n C d_S_begin_0 1 rfl rfl 0 rfl ?_
  refine g_iconst C d_S_begin_1 2 rfl ?_
  refine pt_S_found C G (z := 0) d_S_begin_2 5 rfl fl_S_25 (Or.inl rfl) ?_
  refine g_aload_n C d_S_begin_5 6 rfl rfl 0 rfl ?_
  refine g_iconst C d_S_begin_6 7 rfl ?_
  refine pt_S_mostMet C G (z := 0) d_S_begin_7 10 rfl fl_S_29 ?_
  refine g_iconst C d_S_begin_10 11 rfl ?_
  refine g_istore C d_S_begin_11 13 rfl [(5, iv (0)), (0, .ref (ad 7)), (1, .ref (ad 1)), (2, .ref (ad 4)), (3, iv (x)), (4, iv (y))] (by decide) rfl ?_
  have LP : ∀ (d n : Nat) (T : Nat → Nat → Int), n + d = 4 → T = gS (u2 (u2 S 7 0 0) 7 1 0) n → (n : Int) ≤ x → gW p l e rm_S_begin s m args below meth c D CL A 6 (MQ below (gQ D CL L sz (fun r L' g => r = none ∧ L' = L ∧ g = (wd cd ad (beginS S y x.toNat) f0))) args s rm_S_begin.cells rm_S_begin.slots (gA L sz)) 0 0 L (wd cd ad T f0) 13 [(5, iv ((n : Int))), (0, .ref (ad 7)), (1, .ref (ad 1)), (2, .ref (ad 4)), (3, iv (x)), (4, iv (y))] [] := by
    intro d
    induction d with
    | zero =>
      intro n T hn hT hle
      have e1 : T 1 = S 1 := by rw [hT, gS_ne _ _ _ (by omega), u2_ne (by omega), u2_ne (by omega)]
      have e2 : T 2 = S 2 := by rw [hT, gS_ne _ _ _ (by omega), u2_ne (by omega), u2_ne (by omega)]
      have e3 : T 3 = S 3 := by rw [hT, gS_ne _ _ _ (by omega), u2_ne (by omega), u2_ne (by omega)]
      have f1 : T 1 0 = S 1 0 := by rw [e1]
      have g2 : ∀ m, m < 8 → r32 (T 2 m) := fun m hm => by rw [e2]; exact h2 m hm
      have g3 : ∀ m, m < 8 → r32 (T 3 m) := fun m hm => by rw [e3]; exact h3 m hm
      refine g_iload C d_S_begin_13 15 rfl 0 rfl ?_
      refine g_iload_n C d_S_begin_15 16 rfl rfl 4 rfl ?_
      refine g_icmp_ge C d_S_begin_16 19 rfl (show r32 ((n : Int)) from ⟨by omega, by omega⟩) (show r32 x from ⟨by omega, by omega⟩) 43 rfl (fun (w1 : x ≤ (n : Int)) => ?_) (fun (w1 : ¬ x ≤ (n : Int)) => absurd w1 (by omega))
      refine g_aload_n C d_S_begin_43 44 rfl rfl 1 rfl ?_
      refine gt_S_mixes C G d_S_begin_44 47 rfl fl_S_20 ?_
      refine g_iconst C d_S_begin_47 48 rfl ?_
      refine ld_10 C G d_S_begin_48 49 rfl 0 (by decide) rfl ?_
      refine g_aload_n C d_S_begin_49 50 rfl rfl 2 rfl ?_
      refine g_iload C d_S_begin_50 52 rfl 5 rfl ?_
      refine fcV0 C (rest := []) d_S_begin_52 55 rfl (t_X_becomeHeat G (S := T) 0 y (by decide) (show r32 (T 1 0) from ⟨by omega, by omega⟩) g2 g3) rfl (G.1 (23 + 0) (by omega)) (at_X G 0 (by decide)) ⟨ml_S_44, im_X_becomeHeat, se_X_becomeHeat, ci_X⟩ w_X_becomeHeat rfl 2 gy_X_becomeHeat rfl 0 rfl 0 rfl rfl rfl (Nat.le_of_ble_eq_true rfl) ?_
      exact g_vret C hA hsz hr hl d_S_begin_55 (by decide) (by decide) ⟨rfl, rfl, by rw [hT, show n = x.toNat by omega]; rfl⟩
    | succ d ih =>
      intro n T hn hT hle
      have e1 : T 1 = S 1 := by rw [hT, gS_ne _ _ _ (by omega), u2_ne (by omega), u2_ne (by omega)]
      have e2 : T 2 = S 2 := by rw [hT, gS_ne _ _ _ (by omega), u2_ne (by omega), u2_ne (by omega)]
      have e3 : T 3 = S 3 := by rw [hT, gS_ne _ _ _ (by omega), u2_ne (by omega), u2_ne (by omega)]
      have f1 : T 1 0 = S 1 0 := by rw [e1]
      have g2 : ∀ m, m < 8 → r32 (T 2 m) := fun m hm => by rw [e2]; exact h2 m hm
      have g3 : ∀ m, m < 8 → r32 (T 3 m) := fun m hm => by rw [e3]; exact h3 m hm
      have e11 : T (11 + n) = S (11 + n) := by rw [hT, gS_ne _ _ _ (by omega), u2_ne (by omega), u2_ne (by omega)]
      have e15 : T (15 + n) = S (15 + n) := by rw [hT, gS_ne _ _ _ (by omega), u2_ne (by omega), u2_ne (by omega)]
      have g15 : ∀ m, m < 8 → r32 (T (15 + n) m) := fun m hm => by rw [e15]; exact (ha n (by omega)).2.2 m hm
      obtain ⟨⟨u4, v4⟩, ⟨u5, v5⟩, -⟩ := ha n (by omega)
      have f4 : T (11 + n) 1 = S (11 + n) 1 := by rw [e11]
      have f5 : T (11 + n) 3 = S (11 + n) 3 := by rw [e11]
      refine g_iload C d_S_begin_13 15 rfl 0 rfl ?_
      refine g_iload_n C d_S_begin_15 16 rfl rfl 4 rfl ?_
      refine g_icmp_ge C d_S_begin_16 19 rfl (show r32 ((n : Int)) from ⟨by omega, by omega⟩) (show r32 x from ⟨by omega, by omega⟩) 43 rfl (fun (w2 : x ≤ (n : Int)) => ?_) (fun (w3 : ¬ x ≤ (n : Int)) => ?_)
      · skip
        refine g_aload_n C d_S_begin_43 44 rfl rfl 1 rfl ?_
        refine gt_S_mixes C G d_S_begin_44 47 rfl fl_S_20 ?_
        refine g_iconst C d_S_begin_47 48 rfl ?_
        refine ld_10 C G d_S_begin_48 49 rfl 0 (by decide) rfl ?_
        refine g_aload_n C d_S_begin_49 50 rfl rfl 2 rfl ?_
        refine g_iload C d_S_begin_50 52 rfl 5 rfl ?_
        refine fcV0 C (rest := []) d_S_begin_52 55 rfl (t_X_becomeHeat G (S := T) 0 y (by decide) (show r32 (T 1 0) from ⟨by omega, by omega⟩) g2 g3) rfl (G.1 (23 + 0) (by omega)) (at_X G 0 (by decide)) ⟨ml_S_44, im_X_becomeHeat, se_X_becomeHeat, ci_X⟩ w_X_becomeHeat rfl 2 gy_X_becomeHeat rfl 0 rfl 0 rfl rfl rfl (Nat.le_of_ble_eq_true rfl) ?_
        exact g_vret C hA hsz hr hl d_S_begin_55 (by decide) (by decide) ⟨rfl, rfl, by rw [hT, show n = x.toNat by omega]; rfl⟩
      · skip
        refine g_iload C d_S_begin_19 21 rfl 0 rfl ?_
        refine g_aload_n C d_S_begin_21 22 rfl rfl 3 rfl ?_
        refine ln_4 C G d_S_begin_22 23 rfl ?_
        refine g_icmp_ge C d_S_begin_23 26 rfl (show r32 ((n : Int)) from ⟨by omega, by omega⟩) ⟨by decide, by decide⟩ 43 rfl (fun (w4 : 4 ≤ (n : Int)) => absurd w4 (by omega)) (fun (w4 : ¬ 4 ≤ (n : Int)) => ?_)
        refine g_aload_n C d_S_begin_26 27 rfl rfl 3 rfl ?_
        refine g_iload C d_S_begin_27 29 rfl 0 rfl ?_
        refine ld_4 C G d_S_begin_29 30 rfl n (by omega) rfl ?_
        refine g_aload_n C d_S_begin_30 31 rfl rfl 2 rfl ?_
        refine gt_E_aimEnds C G d_S_begin_31 34 rfl fl_S_33 ?_
        refine fcV0 C (rest := []) d_S_begin_34 37 rfl (t_A_weighAgainst G (S := T) n (by omega) (show r32 (T (11 + n) 1) from ⟨by omega, by omega⟩) g15 (show r32 (T (11 + n) 3) from ⟨by omega, by omega⟩) g3) rfl (G.1 (11 + n) (by omega)) (at_A G n (by omega)) ⟨ml_S_38, im_A_weighAgainst, se_A_weighAgainst, ci_A⟩ w_A_weighAgainst rfl 1 gy_A_weighAgainst rfl 0 rfl 0 rfl rfl rfl (Nat.le_of_ble_eq_true rfl) ?_
        refine g_iinc C d_S_begin_37 40 rfl [(5, iv ((n : Int) + 1)), (0, .ref (ad 7)), (1, .ref (ad 1)), (2, .ref (ad 4)), (3, iv (x)), (4, iv (y))] 0 rfl (by decide) rfl ?_
        refine g_goto C d_S_begin_40 13 rfl ?_
        exact ih (n + 1) _ (by omega) (by rw [hT]; rfl) (by omega)
  exact LP 4 0 _ rfl rfl u0
end M4
end
section
/-! what the search keeps: pure rows -/
section PRES
variable {S T : Nat → Nat → Int} {i j k n x : Nat} {b : Int}
theorem takeS_ne (h1 : x ≠ 23 + i) (h2 : x ≠ 28 + i) : takeS T i j b x = T x := by unfold takeS; rw [uA_ne h2, u2_ne h1, u2_ne h1, u2_ne h1]
theorem likeS_ne (h1 : x ≠ 23 + i) (h2 : x ≠ 28 + i) : likeS T i j x = T x := by unfold likeS; rw [uA_ne h2, u2_ne h1, u2_ne h1, u2_ne h1]
theorem takeS_0 : takeS T i j b (23 + i) 0 = T (23 + i) 0 + T (11 + j) 0 := by unfold takeS; rw [uA_ne (by omega), u2_j (by decide), u2_j (by decide), u2_eq]
theorem takeS_1 : takeS T i j b (23 + i) 1 = T (23 + i) 1 + (if b = 0 then 0 else 1) := by unfold takeS; rw [uA_ne (by omega), u2_j (by decide), u2_eq]
theorem takeS_2 : takeS T i j b (23 + i) 2 = T (23 + i) 2 - T (11 + j) 1 * T (11 + j) 4 := by unfold takeS; rw [uA_ne (by omega), u2_eq]
theorem takeS_s (hn : n < 8) : takeS T i j b (28 + i) n = T (28 + i) n + T (19 + j) n := by unfold takeS; rw [uA_lt hn]
theorem likeS_0 : likeS T i j (23 + i) 0 = T (23 + j) 0 := by unfold likeS; rw [uA_ne (by omega), u2_j (by decide), u2_j (by decide), u2_eq]
theorem likeS_1 : likeS T i j (23 + i) 1 = T (23 + j) 1 := by unfold likeS; rw [uA_ne (by omega), u2_j (by decide), u2_eq]
theorem likeS_2 : likeS T i j (23 + i) 2 = T (23 + j) 2 := by unfold likeS; rw [uA_ne (by omega), u2_eq]
theorem likeS_s (hn : n < 8) : likeS T i j (28 + i) n = T (28 + j) n := by unfold likeS; rw [uA_lt hn]
def RD (S : Nat → Nat → Int) : Prop := ∀ j, j < 4 → (0 ≤ S (11 + j) 0 ∧ S (11 + j) 0 ≤ 100000) ∧ (1 ≤ S (11 + j) 1 ∧ S (11 + j) 1 ≤ 1000) ∧ (0 ≤ S (11 + j) 2 ∧ S (11 + j) 2 ≤ 12) ∧ (0 ≤ S (11 + j) 4 ∧ S (11 + j) 4 ≤ 1000) ∧ ∀ n, n < 8 → -100000000000 ≤ S (19 + j) n ∧ S (19 + j) n ≤ 100000000000
def RS (S : Nat → Nat → Int) : Prop := (S 7 0 = 0 ∨ S 7 0 = 1) ∧ (0 ≤ S 7 1 ∧ S 7 1 ≤ 4) ∧ (0 ≤ S 7 3 ∧ S 7 3 ≤ 10000000) ∧ (0 ≤ S 7 4 ∧ S 7 4 ≤ 10) ∧ (∀ j, j < 4 → 0 ≤ S 9 j ∧ S 9 j ≤ 12) ∧ ∀ j, j < 4 → 0 ≤ S 8 j ∧ S 8 j ≤ 12
def RM (S : Nat → Nat → Int) (i : Nat) : Prop := (0 ≤ S (23 + i) 0 ∧ S (23 + i) 0 ≤ (i : Int) * 1300000) ∧ (0 ≤ S (23 + i) 1 ∧ S (23 + i) 1 ≤ (i : Int)) ∧ (0 ≤ S (23 + i) 2 ∧ S (23 + i) 2 ≤ 100000000) ∧ ∀ n, n < 8 → -7000000000000 - (i : Int) * 1300000000000 ≤ S (28 + i) n ∧ S (28 + i) n ≤ 7000000000000 + (i : Int) * 1300000000000
/-- T is as S but for the search's own cells and the mixes above k -/
def FR (k : Nat) (S T : Nat → Nat → Int) : Prop := (∀ x, x ≠ 7 → x ≠ 8 → x ≠ 9 → ¬ (24 + k ≤ x ∧ x ≤ 27) → ¬ (29 + k ≤ x ∧ x ≤ 32) → T x = S x) ∧ ∀ j, j < k → T 9 j = S 9 j
def IV (k n : Nat) (T : Nat → Nat → Int) : Prop := RS T ∧ (0 ≤ T (23 + (k + 1)) 0 ∧ T (23 + (k + 1)) 0 ≤ (k : Int) * 1300000 + (n : Int) * 100000) ∧ (0 ≤ T (23 + (k + 1)) 1 ∧ T (23 + (k + 1)) 1 ≤ (k : Int) + 1 ∧ (n ≤ 1 → T (23 + (k + 1)) 1 ≤ (k : Int))) ∧ (0 ≤ T (23 + (k + 1)) 2 ∧ T (23 + (k + 1)) 2 ≤ 100000000) ∧ ∀ m, m < 8 → -7000000000000 - (k : Int) * 1300000000000 - (n : Int) * 100000000000 ≤ T (28 + (k + 1)) m ∧ T (28 + (k + 1)) m ≤ 7000000000000 + (k : Int) * 1300000000000 + (n : Int) * 100000000000
def IW (k n : Nat) (T : Nat → Nat → Int) : Prop := RS T ∧ (0 ≤ T (23 + (k + 1)) 0 ∧ T (23 + (k + 1)) 0 ≤ (k : Int) * 1300000 + (n : Int) * 100000 + 100000) ∧ (0 ≤ T (23 + (k + 1)) 1 ∧ T (23 + (k + 1)) 1 ≤ (k : Int) + 1 ∧ (n = 0 → T (23 + (k + 1)) 1 ≤ (k : Int))) ∧ (-1000000 ≤ T (23 + (k + 1)) 2 ∧ T (23 + (k + 1)) 2 ≤ 100000000) ∧ ∀ m, m < 8 → -7000000000000 - (k : Int) * 1300000000000 - (n : Int) * 100000000000 - 100000000000 ≤ T (28 + (k + 1)) m ∧ T (28 + (k + 1)) m ≤ 7000000000000 + (k : Int) * 1300000000000 + (n : Int) * 100000000000 + 100000000000
def stepS (T : Nat → Nat → Int) (k n : Nat) : Nat → Nat → Int := if n = 0 then T else takeS T (k + 1) k (bi (n = 1))
theorem RS_of (h7 : T 7 = S 7) (h8 : T 8 = S 8) (h9 : T 9 = S 9) (h : RS S) : RS T := by
  unfold RS at h ⊢
  rw [h7, h8, h9]
  exact h
theorem RD_of (h : RD S) (hx : ∀ x, 11 ≤ x → x ≤ 22 → T x = S x) : RD T := fun j hj => by
  have e1 := hx (11 + j) (by omega) (by omega)
  have e2 := hx (19 + j) (by omega) (by omega)
  rw [e1, e2]
  exact h j hj
theorem FR_refl : FR k S S := ⟨fun _ _ _ _ _ _ => rfl, fun _ _ => rfl⟩
theorem FR_trans {U : Nat → Nat → Int} (h1 : FR k S T) (h2 : FR k T U) : FR k S U := ⟨fun x a b c d e => (h2.1 x a b c d e).trans (h1.1 x a b c d e), fun j hj => (h2.2 j hj).trans (h1.2 j hj)⟩
theorem FR_up (h : FR (k + 1) S T) : FR k S T := ⟨fun x a b c d e => h.1 x a b c (by omega) (by omega), fun j hj => h.2 j (by omega)⟩
theorem FR_RD (h : FR k S T) (hS : RD S) : RD T := RD_of hS (fun x h1 h2 => h.1 x (by omega) (by omega) (by omega) (by omega) (by omega))
theorem iv_like (hk : k < 4) (h1 : RS S) (h2 : RM S k) : IV k 0 (likeS S (k + 1) k) ∧ FR k S (likeS S (k + 1) k) := by
  obtain ⟨⟨a0, b0⟩, ⟨a1, b1⟩, ⟨a2, b2⟩, hs⟩ := h2
  refine ⟨⟨RS_of (likeS_ne (by omega) (by omega)) (likeS_ne (by omega) (by omega)) (likeS_ne (by omega) (by omega)) h1, ?_, ?_, ?_, ?_⟩, ?_, ?_⟩
  · rw [likeS_0]; omega
  · rw [likeS_1]; omega
  · rw [likeS_2]; omega
  · intro m hm
    rw [likeS_s hm]
    have := hs m hm
    omega
  · intro x c7 c8 c9 ha hb
    exact likeS_ne (by omega) (by omega)
  · intro j hj
    rw [likeS_ne (by omega) (by omega)]
theorem cool_r {a b : Int} (h1 : 1 ≤ a ∧ a ≤ 1000) (h2 : 0 ≤ b ∧ b ≤ 1000) : 0 ≤ a * b ∧ a * b ≤ 1000000 := by
  refine ⟨Int.mul_nonneg (by omega) (by omega), ?_⟩
  calc a * b ≤ 1000 * b := Int.mul_le_mul_of_nonneg_right h1.2 h2.1
    _ ≤ 1000 * 1000 := Int.mul_le_mul_of_nonneg_left h2.2 (by decide)
    _ = 1000000 := by decide
theorem iv_step (hk : k < 4) (h : IV k n T) (hD : RD T) : IW k n (stepS T k n) ∧ (∀ x, x ≠ 23 + (k + 1) → x ≠ 28 + (k + 1) → stepS T k n x = T x) := by
  obtain ⟨h1, ⟨a0, b0⟩, ⟨a1, b1, c1⟩, ⟨a2, b2⟩, hs⟩ := h
  obtain ⟨⟨d0, e0⟩, d1, -, d4, hg⟩ := hD k hk
  unfold stepS
  by_cases hn : n = 0
  · rw [if_pos hn]
    refine ⟨⟨h1, ⟨a0, by omega⟩, ⟨a1, b1, fun _ => c1 (by omega)⟩, ⟨by omega, b2⟩, fun m hm => ?_⟩, fun _ _ _ => rfl⟩
    have := hs m hm
    omega
  · rw [if_neg hn]
    refine ⟨⟨RS_of (takeS_ne (by omega) (by omega)) (takeS_ne (by omega) (by omega)) (takeS_ne (by omega) (by omega)) h1, ?_, ?_, ?_, ?_⟩, fun x hx hy => takeS_ne hx hy⟩
    · rw [takeS_0]; omega
    · rw [takeS_1]
      by_cases hb : n = 1
      · have := c1 (by omega)
        rw [bi_pos hb, if_neg (by decide)]
        omega
      · rw [bi_neg hb, if_pos rfl]
        omega
    · have := cool_r d1 d4
      rw [takeS_2]; omega
    · intro m hm
      have q1 := hs m hm
      have q2 := hg m hm
      rw [takeS_s hm]
      omega
theorem iw_rec (hk : k < 4) (hn : n ≤ 12) (h : IW k n T) (hw : 0 ≤ T (23 + (k + 1)) 2) : RS (u2 T 9 k (n : Int)) ∧ RM (u2 T 9 k (n : Int)) (k + 1) := by
  obtain ⟨⟨r0, r1, r3, r4, r9, r8⟩, ⟨a0, b0⟩, ⟨a1, b1, c1⟩, ⟨a2, b2⟩, hs⟩ := h
  refine ⟨⟨r0, r1, r3, r4, fun j hj => ?_, r8⟩, ?_⟩
  · by_cases hjk : j = k
    · subst hjk
      rw [u2_eq]
      omega
    · rw [u2_j hjk]
      exact r9 j hj
  · unfold RM
    rw [u2_ne (show 23 + (k + 1) ≠ 9 by omega), u2_ne (show 28 + (k + 1) ≠ 9 by omega)]
    refine ⟨⟨a0, by omega⟩, ⟨a1, by omega⟩, ⟨hw, b2⟩, fun m hm => ?_⟩
    have := hs m hm
    omega
theorem iv_next {U : Nat → Nat → Int} (hk : k < 4) (h : IW k n T) (hw : 0 ≤ T (23 + (k + 1)) 2) (hF : FR (k + 1) (u2 T 9 k (n : Int)) U) (hU : RS U) : IV k (n + 1) U := by
  obtain ⟨-, ⟨a0, b0⟩, ⟨a1, b1, c1⟩, ⟨a2, b2⟩, hs⟩ := h
  have e3 : U (23 + (k + 1)) = T (23 + (k + 1)) := (hF.1 _ (by omega) (by omega) (by omega) (by omega) (by omega)).trans (u2_ne (by omega))
  have e8 : U (28 + (k + 1)) = T (28 + (k + 1)) := (hF.1 _ (by omega) (by omega) (by omega) (by omega) (by omega)).trans (u2_ne (by omega))
  refine ⟨hU, ?_, ?_, ?_, ?_⟩
  · rw [e3]; omega
  · rw [e3]; exact ⟨a1, b1, fun hh => c1 (by omega)⟩
  · rw [e3]; omega
  · intro m hm
    have := hs m hm
    rw [e8]; omega
theorem iv_fr {U : Nat → Nat → Int} (hk : k < 4) (h : ∀ x, x ≠ 23 + (k + 1) → x ≠ 28 + (k + 1) → U x = T x) : FR k T (u2 U 9 k (n : Int)) := by
  refine ⟨fun x a b c d e => ?_, fun j hj => ?_⟩
  · rw [u2_ne c]
    exact h x (by omega) (by omega)
  · rw [u2_j (by omega), h 9 (by omega) (by omega)]
theorem judge_ok (hk : k ≤ 4) (h1 : RS S) (h2 : RM S k) : FR k S (judgeS S k) ∧ RS (judgeS S k) := by
  obtain ⟨r0, r1, r3, r4, r9, r8⟩ := h1
  obtain ⟨⟨a0, b0⟩, ⟨a1, b1⟩, -, -⟩ := h2
  have hc := cmet_r (S (28 + k))
  have hm : 0 ≤ mxM S k ∧ mxM S k ≤ 4 := by unfold mxM; split <;> omega
  unfold judgeS
  split
  · refine ⟨⟨fun x c7 c8 c9 _ _ => u2_ne c7, fun j hj => rfl⟩, r0, hm, r3, r4, r9, r8⟩
  · refine ⟨⟨fun x c7 c8 c9 _ _ => by rw [uA_ne c8, u2_ne c7, u2_ne c7, u2_ne c7, u2_ne c7], fun j hj => rfl⟩, Or.inr rfl, hm, ⟨a0, ?_⟩, ⟨a1, ?_⟩, r9, fun j hj => ?_⟩
    · show S (23 + k) 0 ≤ 10000000
      omega
    · show S (23 + k) 1 ≤ 10
      omega
    · rw [uA_lt hj]
      exact r9 j hj
theorem tryL_ok {rec : (Nat → Nat → Int) → (Nat → Nat → Int)} (hk : k < 4) (hrec : ∀ S, RD S → RS S → RM S (k + 1) → FR (k + 1) S (rec S) ∧ RS (rec S)) :
    ∀ (d n : Nat) (T : Nat → Nat → Int), n + d ≤ 13 → RD T → IV k n T → FR k T (tryL rec k d n T) ∧ RS (tryL rec k d n T) := by
  intro d
  induction d with
  | zero => intro n T hn hD hI; exact ⟨FR_refl, hI.1⟩
  | succ d ih =>
    intro n T hn hD hI
    obtain ⟨hW, hx⟩ := iv_step hk hI hD
    show FR k T (if worth (stepS T k n) (k + 1) then tryL rec k d (n + 1) (rec (u2 (stepS T k n) 9 k n)) else stepS T k n) ∧ RS (if worth (stepS T k n) (k + 1) then tryL rec k d (n + 1) (rec (u2 (stepS T k n) 9 k n)) else stepS T k n)
    by_cases hw : worth (stepS T k n) (k + 1)
    · rw [if_pos hw]
      obtain ⟨q1, q2⟩ := iw_rec hk (by omega) hW hw.1
      have q3 : FR k T (u2 (stepS T k n) 9 k (n : Int)) := iv_fr hk hx
      obtain ⟨q4, q5⟩ := hrec _ (FR_RD q3 hD) q1 q2
      have q6 := iv_next hk hW hw.1 q4 q5
      have q7 := FR_trans q3 (FR_up q4)
      obtain ⟨q8, q9⟩ := ih (n + 1) _ (by omega) (FR_RD q7 hD) q6
      exact ⟨FR_trans q7 q8, q9⟩
    · rw [if_neg hw]
      exact ⟨⟨fun x _ _ _ d e => hx x (by omega) (by omega), fun j hj => by rw [hx 9 (by omega) (by omega)]⟩, hW.1⟩
theorem tryS_ok (kc : Int) : ∀ (e k : Nat) (S : Nat → Nat → Int), k + e = 4 → RD S → RS S → RM S k → FR k S (tryS kc e k S) ∧ RS (tryS kc e k S) := by
  intro e
  induction e with
  | zero => intro k S hk hD h1 h2; exact judge_ok (by omega) h1 h2
  | succ e ih =>
    intro k S hk hD h1 h2
    show FR k S (if kc ≤ k then judgeS S k else tryL (tryS kc e (k + 1)) k ((S (11 + k) 2).toNat + 1) 0 (likeS S (k + 1) k)) ∧ RS (if kc ≤ k then judgeS S k else tryL (tryS kc e (k + 1)) k ((S (11 + k) 2).toNat + 1) 0 (likeS S (k + 1) k))
    by_cases hc : kc ≤ k
    · rw [if_pos hc]
      exact judge_ok (by omega) h1 h2
    · rw [if_neg hc]
      obtain ⟨q1, q2⟩ := iv_like (by omega) h1 h2
      have hm := (hD k (by omega)).2.2.1
      obtain ⟨q3, q4⟩ := tryL_ok (by omega) (fun S a b c => ih (k + 1) S (by omega) a b c) ((S (11 + k) 2).toNat + 1) 0 _ (by omega) (FR_RD q2 hD) q1
      exact ⟨FR_trans q2 q3, q4⟩
end PRES
end
section
section M5
variable {l : Launch} {D : va_G} {cd : Nat → ClassId} {ad : Nat → Nat} {L : List Nat} {f f0 : Nat → va_E} {S : Nat → Nat → Int}
abbrev rmT (e : Nat) : Room := { frames := 12 + e, cells := 0, slots := 0, locals := 300 + 40 * e }
theorem gR_i {rm R : Room} {maxL cells slots : Nat} (h1 : rm.frames + 1 ≤ R.frames) (h2 : 8 + (maxL + 11) + rm.locals ≤ R.locals) (h3 : cells + rm.cells ≤ R.cells) (h4 : slots + rm.slots ≤ R.slots) : gR rm R maxL cells slots = true := by
  simp only [gR, Bool.and_eq_true, decide_eq_true_eq]
  exact ⟨⟨⟨h1, h2⟩, h3⟩, h4⟩
set_option maxHeartbeats 8000000 in
set_option maxRecDepth 100000 in
theorem t_S_tryKindsFrom (G : LO ad L) (kc : Int) : ∀ (e k : Nat) (S : Nat → Nat → Int), k + e = 4 → 0 ≤ kc ∧ kc ≤ 4 → RD S → RS S → RM S k → FM l y_S_tryKindsFrom c_S_tryKindsFrom 7 none (rmT e) D cd L (wd cd ad S f0) [.ref (ad 7), iv (k : Int), .ref (ad 4), iv kc] none (wd cd ad (tryS kc e k S) f0) := by
  intro e
  induction e with
  | zero =>
    intro k S hke hkc hD hS hM
    refine g_of (by decide) (Nat.le_of_ble_eq_true rfl) ?_
    intro p e9 s m args below meth c A sz hA hsz C hr hl hnm
    have C : gC p s m args c D CL (TY cd) A c_S_tryKindsFrom "AlloyPlans$Search" 7 := C
    change gW _ _ _ _ _ _ _ _ _ _ _ _ _ _ _ _ _ _ _ 0 [(0, .ref (ad 7)), (1, iv ((k : Int))), (2, .ref (ad 4)), (3, iv (kc))] []
    obtain ⟨kc0, kc4⟩ := hkc
    have h71 := hS.2.1
    have hs := hM.2.2.2
    refine g_iload_n C d_S_tryKindsFrom_0 1 rfl rfl 1 rfl ?_
    refine g_iload_n C d_S_tryKindsFrom_1 2 rfl rfl 3 rfl ?_
    refine g_icmp_ge C d_S_tryKindsFrom_2 5 rfl (show r32 ((k : Int)) from ⟨by omega, by omega⟩) (show r32 kc from ⟨by omega, by omega⟩) 20 rfl (fun (w1 : kc ≤ (k : Int)) => ?_) (fun (w1 : ¬ kc ≤ (k : Int)) => absurd w1 (by omega))
    refine g_aload_n C d_S_tryKindsFrom_20 21 rfl rfl 0 rfl ?_
    refine g_aload_n C d_S_tryKindsFrom_21 22 rfl rfl 0 rfl ?_
    refine gt_S_mixes C G d_S_tryKindsFrom_22 25 rfl fl_S_20 ?_
    refine g_iload_n C d_S_tryKindsFrom_25 26 rfl rfl 1 rfl ?_
    refine ld_10 C G d_S_tryKindsFrom_26 27 rfl k (by omega) rfl ?_
    refine fcV0 C (rest := []) d_S_tryKindsFrom_27 30 rfl (t_S_judge G (S := S) k (by omega) h71 (fun j9 hj9 => by have := hs j9 hj9; exact ⟨by omega, by omega⟩)) rfl (G.1 7 (by decide)) (at_S G) ⟨ml_S_48, im_S_judge, se_S_judge, ci_S⟩ w_S_judge rfl 1 gy_S_judge rfl 0 rfl 0 rfl (gR_i (Nat.le_trans (show rm_S_judge.frames + 1 ≤ 12 by decide) (Nat.le_add_right _ _)) (Nat.le_trans (show 8 + (3 + 11) + rm_S_judge.locals ≤ 300 by decide) (Nat.le_add_right _ _)) (Nat.le_refl 0) (Nat.le_refl 0)) rfl (Nat.le_of_ble_eq_true rfl) ?_
    exact g_vret C hA hsz hr hl d_S_tryKindsFrom_30 (Nat.zero_le _) (Nat.zero_le _) ⟨rfl, rfl, rfl⟩
  | succ e ihE =>
    intro k S hke hkc hD hS hM
    refine g_of (by decide) (Nat.le_of_ble_eq_true rfl) ?_
    intro p e9 s m args below meth c A sz hA hsz C hr hl hnm
    have C : gC p s m args c D CL (TY cd) A c_S_tryKindsFrom "AlloyPlans$Search" 7 := C
    change gW _ _ _ _ _ _ _ _ _ _ _ _ _ _ _ _ _ _ _ 0 [(0, .ref (ad 7)), (1, iv ((k : Int))), (2, .ref (ad 4)), (3, iv (kc))] []
    obtain ⟨kc0, kc4⟩ := hkc
    have h71 := hS.2.1
    have hs := hM.2.2.2
    refine g_iload_n C d_S_tryKindsFrom_0 1 rfl rfl 1 rfl ?_
    refine g_iload_n C d_S_tryKindsFrom_1 2 rfl rfl 3 rfl ?_
    refine g_icmp_ge C d_S_tryKindsFrom_2 5 rfl (show r32 ((k : Int)) from ⟨by omega, by omega⟩) (show r32 kc from ⟨by omega, by omega⟩) 20 rfl (fun (w1 : kc ≤ (k : Int)) => ?_) (fun (w2 : ¬ kc ≤ (k : Int)) => ?_)
    · skip
      refine g_aload_n C d_S_tryKindsFrom_20 21 rfl rfl 0 rfl ?_
      refine g_aload_n C d_S_tryKindsFrom_21 22 rfl rfl 0 rfl ?_
      refine gt_S_mixes C G d_S_tryKindsFrom_22 25 rfl fl_S_20 ?_
      refine g_iload_n C d_S_tryKindsFrom_25 26 rfl rfl 1 rfl ?_
      refine ld_10 C G d_S_tryKindsFrom_26 27 rfl k (by omega) rfl ?_
      refine fcV0 C (rest := []) d_S_tryKindsFrom_27 30 rfl (t_S_judge G (S := S) k (by omega) h71 (fun j9 hj9 => by have := hs j9 hj9; exact ⟨by omega, by omega⟩)) rfl (G.1 7 (by decide)) (at_S G) ⟨ml_S_48, im_S_judge, se_S_judge, ci_S⟩ w_S_judge rfl 1 gy_S_judge rfl 0 rfl 0 rfl (gR_i (Nat.le_trans (show rm_S_judge.frames + 1 ≤ 12 by decide) (Nat.le_add_right _ _)) (Nat.le_trans (show 8 + (3 + 11) + rm_S_judge.locals ≤ 300 by decide) (Nat.le_add_right _ _)) (Nat.le_refl 0) (Nat.le_refl 0)) rfl (Nat.le_of_ble_eq_true rfl) ?_
      exact g_vret C hA hsz hr hl d_S_tryKindsFrom_30 (Nat.zero_le _) (Nat.zero_le _) ⟨rfl, rfl, by rw [show tryS kc (e + 1) k S = judgeS S k from if_pos (by omega)]⟩
    · skip
      refine g_iload_n C d_S_tryKindsFrom_5 6 rfl rfl 1 rfl ?_
      refine g_aload_n C d_S_tryKindsFrom_6 7 rfl rfl 2 rfl ?_
      refine ln_4 C G d_S_tryKindsFrom_7 8 rfl ?_
      refine g_icmp_ge C d_S_tryKindsFrom_8 11 rfl (show r32 ((k : Int)) from ⟨by omega, by omega⟩) ⟨by decide, by decide⟩ 20 rfl (fun (w3 : 4 ≤ (k : Int)) => absurd w3 (by omega)) (fun (w3 : ¬ 4 ≤ (k : Int)) => ?_)
      refine g_iload_n C d_S_tryKindsFrom_11 12 rfl rfl 1 rfl ?_
      refine g_aload_n C d_S_tryKindsFrom_12 13 rfl rfl 0 rfl ?_
      refine gt_S_tried C G d_S_tryKindsFrom_13 16 rfl fl_S_15 ?_
      refine ln_9 C G d_S_tryKindsFrom_16 17 rfl ?_
      refine g_icmp_lt C d_S_tryKindsFrom_17 20 rfl (show r32 ((k : Int)) from ⟨by omega, by omega⟩) ⟨by decide, by decide⟩ 31 rfl (fun (w4 : (k : Int) < 4) => ?_) (fun (w4 : ¬ (k : Int) < 4) => absurd w4 (by omega))
      refine g_aload_n C d_S_tryKindsFrom_31 32 rfl rfl 2 rfl ?_
      refine g_iload_n C d_S_tryKindsFrom_32 33 rfl rfl 1 rfl ?_
      refine ld_4 C G d_S_tryKindsFrom_33 34 rfl k (by omega) rfl ?_
      refine g_astore C d_S_tryKindsFrom_34 36 rfl [(4, .ref (ad (11 + k))), (0, .ref (ad 7)), (1, iv ((k : Int))), (2, .ref (ad 4)), (3, iv (kc))] (by decide) rfl ?_
      refine g_aload_n C d_S_tryKindsFrom_36 37 rfl rfl 1 rfl ?_
      refine gt_S_mixes C G d_S_tryKindsFrom_37 40 rfl fl_S_20 ?_
      refine g_iload_n C d_S_tryKindsFrom_40 41 rfl rfl 2 rfl ?_
      refine g_iconst C d_S_tryKindsFrom_41 42 rfl ?_
      refine g_iadd C d_S_tryKindsFrom_42 43 rfl ?_
      refine ld_10 C G d_S_tryKindsFrom_43 44 rfl (k + 1) (by omega) rfl ?_
      refine g_astore C d_S_tryKindsFrom_44 46 rfl [(5, .ref (ad (23 + (k + 1)))), (4, .ref (ad (11 + k))), (0, .ref (ad 7)), (1, iv ((k : Int))), (2, .ref (ad 4)), (3, iv (kc))] (by decide) rfl ?_
      refine g_aload C d_S_tryKindsFrom_46 48 rfl 0 rfl ?_
      refine g_aload_n C d_S_tryKindsFrom_48 49 rfl rfl 2 rfl ?_
      refine gt_S_mixes C G d_S_tryKindsFrom_49 52 rfl fl_S_20 ?_
      refine g_iload_n C d_S_tryKindsFrom_52 53 rfl rfl 3 rfl ?_
      refine ld_10 C G d_S_tryKindsFrom_53 54 rfl k (by omega) rfl ?_
      refine fcV0 C (rest := []) d_S_tryKindsFrom_54 57 rfl (t_X_becomeLike G (S := S) (k + 1) k (by omega) (by omega) (by omega)) rfl (G.1 (23 + (k + 1)) (by omega)) (at_X G (k + 1) (by omega)) ⟨ml_S_52, im_X_becomeLike, se_X_becomeLike, ci_X⟩ w_X_becomeLike rfl 1 gy_X_becomeLike rfl 0 rfl 0 rfl (gR_i (Nat.le_trans (show rm_X_becomeLike.frames + 1 ≤ 12 by decide) (Nat.le_add_right _ _)) (Nat.le_trans (show 8 + (2 + 11) + rm_X_becomeLike.locals ≤ 300 by decide) (Nat.le_add_right _ _)) (Nat.le_refl 0) (Nat.le_refl 0)) rfl (Nat.le_of_ble_eq_true rfl) ?_
      refine g_iconst C d_S_tryKindsFrom_57 58 rfl ?_
      refine g_istore C d_S_tryKindsFrom_58 60 rfl [(6, iv (0)), (5, .ref (ad (23 + (k + 1)))), (4, .ref (ad (11 + k))), (0, .ref (ad 7)), (1, iv ((k : Int))), (2, .ref (ad 4)), (3, iv (kc))] (by decide) rfl ?_
      obtain ⟨l1, l2⟩ := iv_like (by omega) hS hM
      have hm0 := (hD k (by omega)).2.2.1
      have LP : ∀ (d n : Nat) (T : Nat → Nat → Int), n + d = (S (11 + k) 2).toNat + 1 → tryL (tryS kc e (k + 1)) k d n T = tryS kc (e + 1) k S → IV k n T → FR k S T → gW p l e9 (rmT (e + 1)) s m args below meth c D CL A 7 (MQ below (gQ D CL L sz (fun r L' g => r = none ∧ L' = L ∧ g = (wd cd ad (tryS kc (e + 1) k S) f0))) args s (rmT (e + 1)).cells (rmT (e + 1)).slots (gA L sz)) 0 0 L (wd cd ad T f0) 60 [(6, iv ((n : Int))), (5, .ref (ad (23 + (k + 1)))), (4, .ref (ad (11 + k))), (0, .ref (ad 7)), (1, iv ((k : Int))), (2, .ref (ad 4)), (3, iv (kc))] [] := by
        intro d
        induction d with
        | zero =>
          intro n T hn hR hI hF
          have hDT := FR_RD hF hD
          have eM : T (11 + k) 2 = S (11 + k) 2 := by rw [hF.1 (11 + k) (by omega) (by omega) (by omega) (by omega) (by omega)]
          refine g_iload C d_S_tryKindsFrom_60 62 rfl 0 rfl ?_
          refine g_aload C d_S_tryKindsFrom_62 64 rfl 2 rfl ?_
          refine gt_A_mostSteps C G d_S_tryKindsFrom_64 67 rfl k (by omega) fl_S_55 ?_
          refine g_icmp_gt C d_S_tryKindsFrom_67 70 rfl (show r32 ((n : Int)) from ⟨by omega, by omega⟩) (show r32 (T (11 + k) 2) from ⟨by omega, by omega⟩) 126 rfl (fun (w5 : T (11 + k) 2 < (n : Int)) => ?_) (fun (w5 : ¬ T (11 + k) 2 < (n : Int)) => absurd w5 (by omega))
          exact g_vret C hA hsz hr hl d_S_tryKindsFrom_126 (Nat.zero_le _) (Nat.zero_le _) ⟨rfl, rfl, by rw [← hR]; rfl⟩
        | succ d ih =>
          intro n T hn hR hI hF
          have hDT := FR_RD hF hD
          have eM : T (11 + k) 2 = S (11 + k) 2 := by rw [hF.1 (11 + k) (by omega) (by omega) (by omega) (by omega) (by omega)]
          refine g_iload C d_S_tryKindsFrom_60 62 rfl 0 rfl ?_
          refine g_aload C d_S_tryKindsFrom_62 64 rfl 2 rfl ?_
          refine gt_A_mostSteps C G d_S_tryKindsFrom_64 67 rfl k (by omega) fl_S_55 ?_
          refine g_icmp_gt C d_S_tryKindsFrom_67 70 rfl (show r32 ((n : Int)) from ⟨by omega, by omega⟩) (show r32 (T (11 + k) 2) from ⟨by omega, by omega⟩) 126 rfl (fun (w6 : T (11 + k) 2 < (n : Int)) => absurd w6 (by omega)) (fun (w6 : ¬ T (11 + k) 2 < (n : Int)) => ?_)
          have J93 : ∀ T1 : Nat → Nat → Int, T1 = stepS T k n → gW p l e9 (rmT (e + 1)) s m args below meth c D CL A 7 (MQ below (gQ D CL L sz (fun r L' g => r = none ∧ L' = L ∧ g = (wd cd ad (tryS kc (e + 1) k S) f0))) args s (rmT (e + 1)).cells (rmT (e + 1)).slots (gA L sz)) 0 0 L (wd cd ad T1 f0) 93 [(6, iv ((n : Int))), (5, .ref (ad (23 + (k + 1)))), (4, .ref (ad (11 + k))), (0, .ref (ad 7)), (1, iv ((k : Int))), (2, .ref (ad 4)), (3, iv (kc))] [] := by
            intro T1 hT1
            obtain ⟨hW, hx⟩ := iv_step (by omega) hI hDT
            rw [← hT1] at hW hx
            have hW' := hW
            obtain ⟨⟨r0, r1, r3, r4, r9, r8⟩, ⟨a0, b0⟩, ⟨a1, b1, c1⟩, ⟨a2, b2⟩, hs1⟩ := hW
            refine g_aload_n C d_S_tryKindsFrom_93 94 rfl rfl 3 rfl ?_
            refine g_aload C d_S_tryKindsFrom_94 96 rfl 1 rfl ?_
            refine fcV1 C (rest := []) d_S_tryKindsFrom_96 99 rfl (t_S_isWorthTrying G (S := T1) (k + 1) (by omega) ⟨by omega, by omega⟩ (by omega) ⟨by omega, by omega⟩ ⟨by omega, by omega⟩ ⟨by omega, by omega⟩ ⟨by omega, by omega⟩) rfl (G.1 7 (by decide)) (at_S G) ⟨ml_S_62, im_S_isWorthTrying, se_S_isWorthTrying, ci_S⟩ w_S_isWorthTrying rfl 1 gy_S_isWorthTrying rfl 0 rfl 0 rfl (gR_i (Nat.le_trans (show rm_S_isWorthTrying.frames + 1 ≤ 12 by decide) (Nat.le_add_right _ _)) (Nat.le_trans (show 8 + (2 + 11) + rm_S_isWorthTrying.locals ≤ 300 by decide) (Nat.le_add_right _ _)) (Nat.le_refl 0) (Nat.le_refl 0)) rfl (Nat.le_of_ble_eq_true rfl) ?_
            refine g_if_ne C d_S_tryKindsFrom_99 102 rfl (bi_r _) 103 rfl (fun (w7 : ¬ bi (worth T1 (k + 1)) = 0) => ?_) (fun (w8 : bi (worth T1 (k + 1)) = 0) => ?_)
            · skip
              have w7 : (worth T1 (k + 1)) := bi_t w7
              have hyw : worth T1 (k + 1) := by assumption
              obtain ⟨q1, q2⟩ := iw_rec (n := n) (by omega) (by omega) hW' hyw.1
              have q3 : FR k T (u2 T1 9 k (n : Int)) := iv_fr (by omega) hx
              have q4 := tryS_ok kc e (k + 1) _ (by omega) (FR_RD q3 hDT) q1 q2
              refine g_aload_n C d_S_tryKindsFrom_103 104 rfl rfl 3 rfl ?_
              refine gt_S_tried C G d_S_tryKindsFrom_104 107 rfl fl_S_15 ?_
              refine g_iload_n C d_S_tryKindsFrom_107 108 rfl rfl 4 rfl ?_
              refine g_iload C d_S_tryKindsFrom_108 110 rfl 0 rfl ?_
              refine st_9 C G (x := (n : Int)) d_S_tryKindsFrom_110 111 rfl k (by omega) rfl ?_
              refine g_aload_n C d_S_tryKindsFrom_111 112 rfl rfl 3 rfl ?_
              refine g_iload_n C d_S_tryKindsFrom_112 113 rfl rfl 4 rfl ?_
              refine g_iconst C d_S_tryKindsFrom_113 114 rfl ?_
              refine g_iadd C d_S_tryKindsFrom_114 115 rfl ?_
              refine g_aload_n C d_S_tryKindsFrom_115 116 rfl rfl 5 rfl ?_
              refine g_iload_n C d_S_tryKindsFrom_116 117 rfl rfl 6 rfl ?_
              refine fcV0 C (rest := []) d_S_tryKindsFrom_117 120 rfl (ihE (k + 1) (u2 T1 9 k ((n : Int))) (by omega) ⟨kc0, kc4⟩ (FR_RD q3 hDT) q1 q2) rfl (G.1 7 (by decide)) (at_S G) ⟨ml_S_66, im_S_tryKindsFrom, se_S_tryKindsFrom, ci_S⟩ w_S_tryKindsFrom rfl 3 gy_S_tryKindsFrom rfl 0 rfl 0 rfl (gR_i (Nat.le_refl _) (by show 8 + (7 + 11) + (300 + 40 * e) ≤ 300 + 40 * (e + 1); omega) (Nat.le_refl 0) (Nat.le_refl 0)) rfl (Nat.le_of_ble_eq_true rfl) ?_
              refine g_iinc C d_S_tryKindsFrom_120 123 rfl [(6, iv ((n : Int) + 1)), (5, .ref (ad (23 + (k + 1)))), (4, .ref (ad (11 + k))), (0, .ref (ad 7)), (1, iv ((k : Int))), (2, .ref (ad 4)), (3, iv (kc))] 0 rfl (by decide) rfl ?_
              refine g_goto C d_S_tryKindsFrom_123 60 rfl ?_
              exact ih (n + 1) _ (by omega) (by rw [← hR]; show _ = if worth (stepS T k n) (k + 1) then tryL (tryS kc e (k + 1)) k d (n + 1) (tryS kc e (k + 1) (u2 (stepS T k n) 9 k n)) else stepS T k n; rw [← hT1, if_pos hyw]) (iv_next (by omega) hW' hyw.1 q4.1 q4.2) (FR_trans hF (FR_trans q3 (FR_up q4.1)))
            · skip
              have w8 : ¬ (worth T1 (k + 1)) := bi_f w8
              have hnw : ¬ worth T1 (k + 1) := by assumption
              exact g_vret C hA hsz hr hl d_S_tryKindsFrom_102 (Nat.zero_le _) (Nat.zero_le _) ⟨rfl, rfl, by rw [← hR]; show wd cd ad T1 f0 = wd cd ad (if worth (stepS T k n) (k + 1) then _ else stepS T k n) f0; rw [← hT1, if_neg hnw]⟩
          refine g_iload C d_S_tryKindsFrom_70 72 rfl 0 rfl ?_
          refine g_if_le C d_S_tryKindsFrom_72 75 rfl (show r32 ((n : Int)) from ⟨by omega, by omega⟩) 93 rfl (fun (w9 : (n : Int) ≤ 0) => ?_) (fun (w10 : ¬ (n : Int) ≤ 0) => ?_)
          · skip
            exact J93 _ (show stepS T k n = _ from if_pos (by omega)).symm
          · skip
            refine g_aload C d_S_tryKindsFrom_75 77 rfl 1 rfl ?_
            refine g_aload C d_S_tryKindsFrom_77 79 rfl 2 rfl ?_
            have J90 : ∀ z : Int, z = bi (n = 1) → gW p l e9 (rmT (e + 1)) s m args below meth c D CL A 7 (MQ below (gQ D CL L sz (fun r L' g => r = none ∧ L' = L ∧ g = (wd cd ad (tryS kc (e + 1) k S) f0))) args s (rmT (e + 1)).cells (rmT (e + 1)).slots (gA L sz)) 0 0 L (wd cd ad T f0) 90 [(6, iv ((n : Int))), (5, .ref (ad (23 + (k + 1)))), (4, .ref (ad (11 + k))), (0, .ref (ad 7)), (1, iv ((k : Int))), (2, .ref (ad 4)), (3, iv (kc))] [iv z, .ref (ad (11 + k)), .ref (ad (23 + (k + 1)))] := by
              intro z hz
              subst hz
              refine fcV0 C (rest := []) d_S_tryKindsFrom_90 93 rfl (t_X_takeStep G (S := T) (k + 1) k (bi (n = 1)) (by omega) (by omega) (bi_r _)) rfl (G.1 (23 + (k + 1)) (by omega)) (at_X G (k + 1) (by omega)) ⟨ml_S_58, im_X_takeStep, se_X_takeStep, ci_X⟩ w_X_takeStep rfl 2 gy_X_takeStep rfl 0 rfl 0 rfl (gR_i (Nat.le_trans (show rm_X_takeStep.frames + 1 ≤ 12 by decide) (Nat.le_add_right _ _)) (Nat.le_trans (show 8 + (4 + 11) + rm_X_takeStep.locals ≤ 300 by decide) (Nat.le_add_right _ _)) (Nat.le_refl 0) (Nat.le_refl 0)) rfl (Nat.le_of_ble_eq_true rfl) ?_
              exact J93 _ (show stepS T k n = _ from if_neg (by omega)).symm
            refine g_iload C d_S_tryKindsFrom_79 81 rfl 0 rfl ?_
            refine g_iconst C d_S_tryKindsFrom_81 82 rfl ?_
            refine g_icmp_ne C d_S_tryKindsFrom_82 85 rfl (show r32 ((n : Int)) from ⟨by omega, by omega⟩) ⟨by decide, by decide⟩ 89 rfl (fun (w11 : ¬ (n : Int) = 1) => ?_) (fun (w12 : (n : Int) = 1) => ?_)
            · skip
              refine g_iconst C d_S_tryKindsFrom_89 90 rfl ?_
              exact J90 0 (by first | exact (bi_pos (by omega)).symm | exact (bi_neg (by omega)).symm)
            · skip
              refine g_iconst C d_S_tryKindsFrom_85 86 rfl ?_
              refine g_goto C d_S_tryKindsFrom_86 90 rfl ?_
              exact J90 1 (by first | exact (bi_pos (by omega)).symm | exact (bi_neg (by omega)).symm)
      exact LP ((S (11 + k) 2).toNat + 1) 0 _ (by omega) (show tryS kc (e + 1) k S = _ from if_neg (by omega)).symm l1 l2
end M5
end
section
section INV
theorem g_tin {p : Program} {l : Launch} {e : Env} {R : Room} {s : State} {m : MethodId} {args : Array Value} {below : List Frame} {meth : Method} {c : Code} {D : va_G} {cl : List vw_C} {A : Nat → Prop} {nL : Nat} {Q : State → Prop} {cells slots : Nat} {L : List Nat} {f : Nat → va_E} {pc : Nat} {lv : List (Nat × Value)} {st : List Value} {cc : ByteArray} {own : String} {tys : List (ClassId × FieldType)} (C : gC p s m args c D cl tys A cc own nL) {dflt lo hi : Int} {offs : Array Int} {len : Nat} {z off : Int} (hd : decode cc pc = .ok (.tableswitch dflt lo hi offs, len)) (hz : r32 z) (h1 : lo ≤ z) (h2 : z ≤ hi) (ho : offs[(z - lo).toNat]? = some off) (tgt : Nat) (ht : (pc : Int) + off = (tgt : Int)) (k : gW p l e R s m args below meth c D cl A nL Q cells slots L f tgt lv st) : gW p l e R s m args below meth c D cl A nL Q cells slots L f pc lv (iv z :: st) :=
  fun H locs ls g1 g2 g3 g4 => lv_tableIn C.1.1 C.1.2.1 hd (by rw [iv_T hz]; omega) (by rw [iv_T hz]; omega) (by rw [iv_T hz]; exact ho) ht (k H locs ls g1 g2 g3 g4)
theorem g_tout {p : Program} {l : Launch} {e : Env} {R : Room} {s : State} {m : MethodId} {args : Array Value} {below : List Frame} {meth : Method} {c : Code} {D : va_G} {cl : List vw_C} {A : Nat → Prop} {nL : Nat} {Q : State → Prop} {cells slots : Nat} {L : List Nat} {f : Nat → va_E} {pc : Nat} {lv : List (Nat × Value)} {st : List Value} {cc : ByteArray} {own : String} {tys : List (ClassId × FieldType)} (C : gC p s m args c D cl tys A cc own nL) {dflt lo hi : Int} {offs : Array Int} {len : Nat} {z : Int} (hd : decode cc pc = .ok (.tableswitch dflt lo hi offs, len)) (hz : r32 z) (h : z < lo ∨ hi < z) (tgt : Nat) (ht : (pc : Int) + dflt = (tgt : Int)) (k : gW p l e R s m args below meth c D cl A nL Q cells slots L f tgt lv st) : gW p l e R s m args below meth c D cl A nL Q cells slots L f pc lv (iv z :: st) :=
  fun H locs ls g1 g2 g3 g4 => lv_tableOut C.1.1 C.1.2.1 hd (by rw [iv_T hz]; exact h) ht (k H locs ls g1 g2 g3 g4)
/-- what holds of the class's numbers behind N calls -/
def IC (N : Nat) (S : Nat → Nat → Int) : Prop := (0 ≤ S 0 4 ∧ S 0 4 ≤ 4) ∧ (1 ≤ S 1 0 ∧ S 1 0 ≤ 65536) ∧ (0 ≤ S 1 1 ∧ S 1 1 ≤ (N : Int)) ∧ (0 ≤ S 1 2 ∧ S 1 2 ≤ (N : Int) * 4800000) ∧ (∀ n, n < 8 → 0 ≤ S 2 n ∧ S 2 n ≤ 100000) ∧ (∀ n, n < 8 → 0 ≤ S 3 n ∧ S 3 n ≤ 100000) ∧ (S 5 0 = 0 ∨ S 5 0 = 1) ∧ (0 ≤ S 5 1 ∧ S 5 1 ≤ 4800000) ∧ (0 ≤ S 5 2 ∧ S 5 2 ≤ 48000) ∧ (0 ≤ S 5 3 ∧ S 5 3 ≤ 4) ∧ (0 ≤ S 5 4 ∧ S 5 4 ≤ 48000000) ∧ (∀ j, j < 4 → 0 ≤ S 6 j ∧ S 6 j ≤ 12) ∧ RS S ∧ RD S ∧ ∀ j, j < 4 → (0 ≤ S (11 + j) 3 ∧ S (11 + j) 3 ≤ 1000) ∧ ∀ n, n < 8 → 0 ≤ S (15 + j) n ∧ S (15 + j) n ≤ 100000
end INV
end
section
section M6
variable {l : Launch} {D : va_G} {cd : Nat → ClassId} {ad : Nat → Nat} {L : List Nat} {f f0 : Nat → va_E} {S : Nat → Nat → Int}
abbrev rm_P_heat : Room := { frames := 7, cells := 1, slots := 6, locals := 102 }
set_option maxHeartbeats 4000000 in
set_option maxRecDepth 100000 in
theorem t_P_heat (hst9 : l.stackTraces = false) (G : LO ad L) (N : Nat) (x : Int) (hI : IC N S) (hN : N ≤ 1000) (hx : r32 x) : FX l y_P_heat c_P_heat 2 none rm_P_heat D cd L (wd cd ad S f0) [.ref (ad 0), iv (x)] (¬ 0 < S 1 1 ∧ 1 ≤ x ∧ x ≤ 65536) none (wd cd ad (u2 (u2 S 1 0 x) 5 0 0) f0) (fun E => (E = xISE ∧ (0 < S 1 1)) ∨ (E = xIAE ∧ (¬ 0 < S 1 1 ∧ ¬ (1 ≤ x ∧ x ≤ 65536)))) := by
  refine gx_of (by decide) (Nat.le_of_ble_eq_true rfl) ?_
  intro p e s m args below meth c A sz hA hsz C hr hl hnt
  have C : gC p s m args c D CL (TY cd) A c_P_heat "AlloyPlans" 2 := C
  change gW _ _ _ _ _ _ _ _ _ _ _ _ _ _ _ _ _ _ _ 0 [(0, .ref (ad 0)), (1, iv (x))] []
  obtain ⟨⟨i0, j0⟩, ⟨i1, j1⟩, ⟨i2, j2⟩, ⟨i3, j3⟩, hpr, ham, i5, ⟨i6, j6⟩, ⟨i7, j7⟩, ⟨i8, j8⟩, ⟨i9, j9⟩, h6, hRS, hRD, hal⟩ := id hI
  have hx1 : -2147483648 ≤ x := hx.1
  have hx2 : x ≤ 2147483647 := hx.2
  refine g_aload_n C d_P_heat_0 1 rfl rfl 0 rfl ?_
  refine gt_P_melt C G d_P_heat_1 4 rfl fl_P_12 ?_
  refine gt_E_additions C G d_P_heat_4 7 rfl fl_P_41 ?_
  refine g_if_le C d_P_heat_7 10 rfl (show r32 (S 1 1) from ⟨by omega, by omega⟩) 20 rfl (fun (w1 : S 1 1 ≤ 0) => ?_) (fun (w2 : ¬ S 1 1 ≤ 0) => ?_)
  · skip
    refine g_iload_n C d_P_heat_20 21 rfl rfl 1 rfl ?_
    refine g_iconst C d_P_heat_21 22 rfl ?_
    refine g_ldc C (z := 65536) d_P_heat_22 24 rfl rfl kc_P_51 ?_
    refine fcS1 C (rest := []) d_P_heat_24 27 rfl (t_P_isWithin x 1 65536 (show r32 x from ⟨by omega, by omega⟩) ⟨by decide, by decide⟩ ⟨by decide, by decide⟩) ⟨ml_P_52, sm_P_isWithin, ci_P⟩ w_P_isWithin rfl 3 gy_P_isWithin rfl 0 rfl 0 rfl rfl rfl (Nat.le_of_ble_eq_true rfl) ?_
    refine fxS0 C hA hsz hnt hl (rest := []) d_P_heat_27 30 rfl (t_P_requireRange hst9 (bi (1 ≤ x ∧ x ≤ 65536)) (bi_r _)) ⟨ml_P_56, sm_P_requireRange, ci_P⟩ w_P_requireRange rfl 1 gy_P_requireRange rfl 1 rfl 6 rfl rfl rfl (Nat.le_of_ble_eq_true rfl) (fun E q => Or.inr ⟨q.2, by have q3 := bi_f q.1; omega⟩) (by decide) (by decide) (fun hk3 => ?_)
    have hk3 : 1 ≤ x ∧ x ≤ 65536 := bi_t hk3
    refine g_aload_n C d_P_heat_30 31 rfl rfl 0 rfl ?_
    refine gt_P_melt C G d_P_heat_31 34 rfl fl_P_12 ?_
    refine g_iload_n C d_P_heat_34 35 rfl rfl 1 rfl ?_
    refine pt_E_kilos C G (z := x) d_P_heat_35 38 rfl fl_P_60 ?_
    refine g_aload_n C d_P_heat_38 39 rfl rfl 0 rfl ?_
    refine gt_P_plan C G d_P_heat_39 42 rfl fl_P_26 ?_
    refine fcV0 C (rest := []) d_P_heat_42 45 rfl (t_N_forget G (S := (u2 S 1 0 (x)))) rfl (G.1 5 (by decide)) (at_N G) ⟨ml_P_63, im_N_forget, se_N_forget, ci_N⟩ w_N_forget rfl 0 gy_N_forget rfl 1 rfl 6 rfl rfl rfl (Nat.le_of_ble_eq_true rfl) ?_
    exact gx_ret (g_vret C hA hsz hr hl d_P_heat_45 (by decide) (by decide) ⟨by omega, rfl, rfl, rfl⟩)
  · skip
    exact gx_throw C hA hsz hnt hl hst9 (cls := xISE) (names := EXN) (by decide +kernel) (by decide +kernel) kl_P_44 ci_IllegalStateException (gN_n_s46 C.2.1.2.1) (hat_48 C.1.2.2.2.2 C.2.1.2.1) hgd_48 d_P_heat_10 d_P_heat_13 d_P_heat_14 d_P_heat_16 d_P_heat_19 (by decide) (by decide) (by decide) (by decide) (by decide) (by decide) (Or.inl ⟨rfl, by omega⟩)
abbrev rm_P_present : Room := { frames := 7, cells := 2, slots := 12, locals := 102 }
set_option maxHeartbeats 4000000 in
set_option maxRecDepth 100000 in
theorem t_P_present (hst9 : l.stackTraces = false) (G : LO ad L) (N : Nat) (x y z : Int) (hI : IC N S) (hN : N ≤ 1000) (hx : r32 x) (hy : r32 y) (hz : r32 z) : FX l y_P_present c_P_present 4 none rm_P_present D cd L (wd cd ad S f0) [.ref (ad 0), iv (x), iv (y), iv (z)] ((0 ≤ x ∧ x ≤ 3) ∧ (0 ≤ y ∧ y ≤ z ∧ z ≤ 100000)) none (wd cd ad (u2 (u2 (u2 S 2 (2 * x.toNat) y) 2 (2 * x.toNat + 1) z) 5 0 0) f0) (fun E => (E = xIOB ∧ (¬ (0 ≤ x ∧ x ≤ 3))) ∨ (E = xIAE ∧ ((0 ≤ x ∧ x ≤ 3) ∧ ¬ (0 ≤ y ∧ y ≤ z ∧ z ≤ 100000)))) := by
  refine gx_of (by decide) (Nat.le_of_ble_eq_true rfl) ?_
  intro p e s m args below meth c A sz hA hsz C hr hl hnt
  have C : gC p s m args c D CL (TY cd) A c_P_present "AlloyPlans" 4 := C
  change gW _ _ _ _ _ _ _ _ _ _ _ _ _ _ _ _ _ _ _ 0 [(0, .ref (ad 0)), (1, iv (x)), (2, iv (y)), (3, iv (z))] []
  obtain ⟨⟨i0, j0⟩, ⟨i1, j1⟩, ⟨i2, j2⟩, ⟨i3, j3⟩, hpr, ham, i5, ⟨i6, j6⟩, ⟨i7, j7⟩, ⟨i8, j8⟩, ⟨i9, j9⟩, h6, hRS, hRD, hal⟩ := id hI
  have hx1 : -2147483648 ≤ x := hx.1
  have hx2 : x ≤ 2147483647 := hx.2
  have hy1 : -2147483648 ≤ y := hy.1
  have hy2 : y ≤ 2147483647 := hy.2
  have hz1 : -2147483648 ≤ z := hz.1
  have hz2 : z ≤ 2147483647 := hz.2
  refine g_iload_n C d_P_present_0 1 rfl rfl 1 rfl ?_
  refine g_iconst C d_P_present_1 2 rfl ?_
  refine g_iconst C d_P_present_2 3 rfl ?_
  refine fcS1 C (rest := []) d_P_present_3 6 rfl (t_P_isWithin x 0 3 (show r32 x from ⟨by omega, by omega⟩) ⟨by decide, by decide⟩ ⟨by decide, by decide⟩) ⟨ml_P_52, sm_P_isWithin, ci_P⟩ w_P_isWithin rfl 3 gy_P_isWithin rfl 0 rfl 0 rfl rfl rfl (Nat.le_of_ble_eq_true rfl) ?_
  refine fxS0 C hA hsz hnt hl (rest := []) d_P_present_6 9 rfl (t_P_requireIndex hst9 (bi (0 ≤ x ∧ x ≤ 3)) (bi_r _)) ⟨ml_P_66, sm_P_requireIndex, ci_P⟩ w_P_requireIndex rfl 1 gy_P_requireIndex rfl 1 rfl 6 rfl rfl rfl (Nat.le_of_ble_eq_true rfl) (fun E q => Or.inl ⟨q.2, by have q3 := bi_f q.1; omega⟩) (by decide) (by decide) (fun hk1 => ?_)
  have hk1 : 0 ≤ x ∧ x ≤ 3 := bi_t hk1
  obtain ⟨k, hk⟩ : ∃ k : Nat, x = (k : Int) := ⟨Int.toNat x, by omega⟩
  subst hk
  refine g_iload_n C d_P_present_9 10 rfl rfl 2 rfl ?_
  refine g_iload_n C d_P_present_10 11 rfl rfl 3 rfl ?_
  refine fcS1 C (rest := []) d_P_present_11 14 rfl (t_P_isSpan y z (show r32 y from ⟨by omega, by omega⟩) (show r32 z from ⟨by omega, by omega⟩)) ⟨ml_P_69, sm_P_isSpan, ci_P⟩ w_P_isSpan rfl 2 gy_P_isSpan rfl 1 rfl 6 rfl rfl rfl (Nat.le_of_ble_eq_true rfl) ?_
  refine fxS0 C hA hsz hnt hl (rest := []) d_P_present_14 17 rfl (t_P_requireRange hst9 (bi (0 ≤ y ∧ y ≤ z ∧ z ≤ 100000)) (bi_r _)) ⟨ml_P_56, sm_P_requireRange, ci_P⟩ w_P_requireRange rfl 1 gy_P_requireRange rfl 2 rfl 12 rfl rfl rfl (Nat.le_of_ble_eq_true rfl) (fun E q => Or.inr ⟨q.2, by have q3 := bi_f q.1; omega⟩) (by decide) (by decide) (fun hk2 => ?_)
  have hk2 : 0 ≤ y ∧ y ≤ z ∧ z ≤ 100000 := bi_t hk2
  refine g_aload_n C d_P_present_17 18 rfl rfl 0 rfl ?_
  refine g_aload_n C d_P_present_18 19 rfl rfl 0 rfl ?_
  refine gt_P_melt C G d_P_present_19 22 rfl fl_P_12 ?_
  refine gt_E_presentEnds C G d_P_present_22 25 rfl fl_P_73 ?_
  refine g_iload_n C d_P_present_25 26 rfl rfl 1 rfl ?_
  refine g_iload_n C d_P_present_26 27 rfl rfl 2 rfl ?_
  refine g_iload_n C d_P_present_27 28 rfl rfl 3 rfl ?_
  refine fcV0 C (rest := []) d_P_present_28 31 rfl (t_P_tell_2 G (S := S) k y z (by omega)) rfl (G.1 0 (by decide)) (at_P G) ⟨ml_P_77, im_P_tell, se_P_tell, ci_P⟩ w_P_tell rfl 4 gy_P_tell rfl 2 rfl 12 rfl rfl rfl (Nat.le_of_ble_eq_true rfl) ?_
  exact gx_ret (g_vret C hA hsz hr hl d_P_present_31 (by decide) (by decide) ⟨by omega, rfl, rfl, rfl⟩)
abbrev rm_P_aim : Room := { frames := 7, cells := 2, slots := 12, locals := 102 }
set_option maxHeartbeats 4000000 in
set_option maxRecDepth 100000 in
theorem t_P_aim (hst9 : l.stackTraces = false) (G : LO ad L) (N : Nat) (x y z : Int) (hI : IC N S) (hN : N ≤ 1000) (hx : r32 x) (hy : r32 y) (hz : r32 z) : FX l y_P_aim c_P_aim 4 none rm_P_aim D cd L (wd cd ad S f0) [.ref (ad 0), iv (x), iv (y), iv (z)] ((0 ≤ x ∧ x ≤ 3) ∧ (0 ≤ y ∧ y ≤ z ∧ z ≤ 100000)) none (wd cd ad (u2 (u2 (u2 S 3 (2 * x.toNat) y) 3 (2 * x.toNat + 1) z) 5 0 0) f0) (fun E => (E = xIOB ∧ (¬ (0 ≤ x ∧ x ≤ 3))) ∨ (E = xIAE ∧ ((0 ≤ x ∧ x ≤ 3) ∧ ¬ (0 ≤ y ∧ y ≤ z ∧ z ≤ 100000)))) := by
  refine gx_of (by decide) (Nat.le_of_ble_eq_true rfl) ?_
  intro p e s m args below meth c A sz hA hsz C hr hl hnt
  have C : gC p s m args c D CL (TY cd) A c_P_aim "AlloyPlans" 4 := C
  change gW _ _ _ _ _ _ _ _ _ _ _ _ _ _ _ _ _ _ _ 0 [(0, .ref (ad 0)), (1, iv (x)), (2, iv (y)), (3, iv (z))] []
  obtain ⟨⟨i0, j0⟩, ⟨i1, j1⟩, ⟨i2, j2⟩, ⟨i3, j3⟩, hpr, ham, i5, ⟨i6, j6⟩, ⟨i7, j7⟩, ⟨i8, j8⟩, ⟨i9, j9⟩, h6, hRS, hRD, hal⟩ := id hI
  have hx1 : -2147483648 ≤ x := hx.1
  have hx2 : x ≤ 2147483647 := hx.2
  have hy1 : -2147483648 ≤ y := hy.1
  have hy2 : y ≤ 2147483647 := hy.2
  have hz1 : -2147483648 ≤ z := hz.1
  have hz2 : z ≤ 2147483647 := hz.2
  refine g_iload_n C d_P_aim_0 1 rfl rfl 1 rfl ?_
  refine g_iconst C d_P_aim_1 2 rfl ?_
  refine g_iconst C d_P_aim_2 3 rfl ?_
  refine fcS1 C (rest := []) d_P_aim_3 6 rfl (t_P_isWithin x 0 3 (show r32 x from ⟨by omega, by omega⟩) ⟨by decide, by decide⟩ ⟨by decide, by decide⟩) ⟨ml_P_52, sm_P_isWithin, ci_P⟩ w_P_isWithin rfl 3 gy_P_isWithin rfl 0 rfl 0 rfl rfl rfl (Nat.le_of_ble_eq_true rfl) ?_
  refine fxS0 C hA hsz hnt hl (rest := []) d_P_aim_6 9 rfl (t_P_requireIndex hst9 (bi (0 ≤ x ∧ x ≤ 3)) (bi_r _)) ⟨ml_P_66, sm_P_requireIndex, ci_P⟩ w_P_requireIndex rfl 1 gy_P_requireIndex rfl 1 rfl 6 rfl rfl rfl (Nat.le_of_ble_eq_true rfl) (fun E q => Or.inl ⟨q.2, by have q3 := bi_f q.1; omega⟩) (by decide) (by decide) (fun hk1 => ?_)
  have hk1 : 0 ≤ x ∧ x ≤ 3 := bi_t hk1
  obtain ⟨k, hk⟩ : ∃ k : Nat, x = (k : Int) := ⟨Int.toNat x, by omega⟩
  subst hk
  refine g_iload_n C d_P_aim_9 10 rfl rfl 2 rfl ?_
  refine g_iload_n C d_P_aim_10 11 rfl rfl 3 rfl ?_
  refine fcS1 C (rest := []) d_P_aim_11 14 rfl (t_P_isSpan y z (show r32 y from ⟨by omega, by omega⟩) (show r32 z from ⟨by omega, by omega⟩)) ⟨ml_P_69, sm_P_isSpan, ci_P⟩ w_P_isSpan rfl 2 gy_P_isSpan rfl 1 rfl 6 rfl rfl rfl (Nat.le_of_ble_eq_true rfl) ?_
  refine fxS0 C hA hsz hnt hl (rest := []) d_P_aim_14 17 rfl (t_P_requireRange hst9 (bi (0 ≤ y ∧ y ≤ z ∧ z ≤ 100000)) (bi_r _)) ⟨ml_P_56, sm_P_requireRange, ci_P⟩ w_P_requireRange rfl 1 gy_P_requireRange rfl 2 rfl 12 rfl rfl rfl (Nat.le_of_ble_eq_true rfl) (fun E q => Or.inr ⟨q.2, by have q3 := bi_f q.1; omega⟩) (by decide) (by decide) (fun hk2 => ?_)
  have hk2 : 0 ≤ y ∧ y ≤ z ∧ z ≤ 100000 := bi_t hk2
  refine g_aload_n C d_P_aim_17 18 rfl rfl 0 rfl ?_
  refine g_aload_n C d_P_aim_18 19 rfl rfl 0 rfl ?_
  refine gt_P_melt C G d_P_aim_19 22 rfl fl_P_12 ?_
  refine gt_E_aimEnds C G d_P_aim_22 25 rfl fl_P_81 ?_
  refine g_iload_n C d_P_aim_25 26 rfl rfl 1 rfl ?_
  refine g_iload_n C d_P_aim_26 27 rfl rfl 2 rfl ?_
  refine g_iload_n C d_P_aim_27 28 rfl rfl 3 rfl ?_
  refine fcV0 C (rest := []) d_P_aim_28 31 rfl (t_P_tell_3 G (S := S) k y z (by omega)) rfl (G.1 0 (by decide)) (at_P G) ⟨ml_P_77, im_P_tell, se_P_tell, ci_P⟩ w_P_tell rfl 4 gy_P_tell rfl 2 rfl 12 rfl rfl rfl (Nat.le_of_ble_eq_true rfl) ?_
  exact gx_ret (g_vret C hA hsz hr hl d_P_aim_31 (by decide) (by decide) ⟨by omega, rfl, rfl, rfl⟩)
abbrev rm_P_kind : Room := { frames := 7, cells := 2, slots := 12, locals := 102 }
set_option maxHeartbeats 4000000 in
set_option maxRecDepth 100000 in
theorem t_P_kind (hst9 : l.stackTraces = false) (G : LO ad L) (N : Nat) (x y z : Int) (hI : IC N S) (hN : N ≤ 1000) (hx : r32 x) (hy : r32 y) (hz : r32 z) : FX l y_P_kind c_P_kind 5 (some .int) rm_P_kind D cd L (wd cd ad S f0) [.ref (ad 0), iv (x), iv (y), iv (z)] (((0 ≤ x ∧ x ≤ 100000) ∧ (1 ≤ y ∧ y ≤ 1000) ∧ (0 ≤ z ∧ z ≤ 12)) ∧ S 0 4 < 4) (some (iv (S 0 4))) (wd cd ad (u2 (u2 (u2 (u2 (u2 S (11 + (S 0 4).toNat) 0 x) (11 + (S 0 4).toNat) 1 y) (11 + (S 0 4).toNat) 2 z) 0 4 (S 0 4 + 1)) 5 0 0) f0) (fun E => (E = xIAE ∧ (¬ ((0 ≤ x ∧ x ≤ 100000) ∧ (1 ≤ y ∧ y ≤ 1000) ∧ (0 ≤ z ∧ z ≤ 12)))) ∨ (E = xUOE ∧ (((0 ≤ x ∧ x ≤ 100000) ∧ (1 ≤ y ∧ y ≤ 1000) ∧ (0 ≤ z ∧ z ≤ 12)) ∧ ¬ S 0 4 < 4))) := by
  refine gx_of (by decide) (Nat.le_of_ble_eq_true rfl) ?_
  intro p e s m args below meth c A sz hA hsz C hr hl hnt
  have C : gC p s m args c D CL (TY cd) A c_P_kind "AlloyPlans" 5 := C
  change gW _ _ _ _ _ _ _ _ _ _ _ _ _ _ _ _ _ _ _ 0 [(0, .ref (ad 0)), (1, iv (x)), (2, iv (y)), (3, iv (z))] []
  obtain ⟨⟨i0, j0⟩, ⟨i1, j1⟩, ⟨i2, j2⟩, ⟨i3, j3⟩, hpr, ham, i5, ⟨i6, j6⟩, ⟨i7, j7⟩, ⟨i8, j8⟩, ⟨i9, j9⟩, h6, hRS, hRD, hal⟩ := id hI
  have hx1 : -2147483648 ≤ x := hx.1
  have hx2 : x ≤ 2147483647 := hx.2
  have hy1 : -2147483648 ≤ y := hy.1
  have hy2 : y ≤ 2147483647 := hy.2
  have hz1 : -2147483648 ≤ z := hz.1
  have hz2 : z ≤ 2147483647 := hz.2
  have JR : ∀ zj : Int, zj = (bi ((0 ≤ x ∧ x ≤ 100000) ∧ (1 ≤ y ∧ y ≤ 1000) ∧ (0 ≤ z ∧ z ≤ 12))) → gW p l e rm_P_kind s m args below meth c D CL A 5 (vx_MQ below (gQ D CL L sz (fun r L' g => (((0 ≤ x ∧ x ≤ 100000) ∧ (1 ≤ y ∧ y ≤ 1000) ∧ (0 ≤ z ∧ z ≤ 12)) ∧ S 0 4 < 4) ∧ r = (some (iv (S 0 4))) ∧ L' = L ∧ g = (wd cd ad (u2 (u2 (u2 (u2 (u2 S (11 + (S 0 4).toNat) 0 x) (11 + (S 0 4).toNat) 1 y) (11 + (S 0 4).toNat) 2 z) 0 4 (S 0 4 + 1)) 5 0 0) f0))) (gQx D CL L (wd cd ad S f0) sz (fun E => (E = xIAE ∧ (¬ ((0 ≤ x ∧ x ≤ 100000) ∧ (1 ≤ y ∧ y ≤ 1000) ∧ (0 ≤ z ∧ z ≤ 12)))) ∨ (E = xUOE ∧ (((0 ≤ x ∧ x ≤ 100000) ∧ (1 ≤ y ∧ y ≤ 1000) ∧ (0 ≤ z ∧ z ≤ 12)) ∧ ¬ S 0 4 < 4)))) args s rm_P_kind.cells rm_P_kind.slots (gA L sz)) 0 0 L (wd cd ad S f0) 36 [(0, .ref (ad 0)), (1, iv (x)), (2, iv (y)), (3, iv (z))] [iv zj] := by
    intro zj hzj
    subst hzj
    refine fxS0 C hA hsz hnt hl (rest := []) d_P_kind_36 39 rfl (t_P_requireRange hst9 (bi ((0 ≤ x ∧ x ≤ 100000) ∧ (1 ≤ y ∧ y ≤ 1000) ∧ (0 ≤ z ∧ z ≤ 12))) (bi_r _)) ⟨ml_P_56, sm_P_requireRange, ci_P⟩ w_P_requireRange rfl 1 gy_P_requireRange rfl 1 rfl 6 rfl rfl rfl (Nat.le_of_ble_eq_true rfl) (fun E q => Or.inl ⟨q.2, by have q3 := bi_f q.1; omega⟩) (by decide) (by decide) (fun hk1 => ?_)
    have hk1 : (0 ≤ x ∧ x ≤ 100000) ∧ (1 ≤ y ∧ y ≤ 1000) ∧ (0 ≤ z ∧ z ≤ 12) := bi_t hk1
    refine g_aload_n C d_P_kind_39 40 rfl rfl 0 rfl ?_
    refine gt_P_kindCount C G d_P_kind_40 43 rfl fl_P_37 ?_
    refine g_aload_n C d_P_kind_43 44 rfl rfl 0 rfl ?_
    refine gt_P_alloys C G d_P_kind_44 47 rfl fl_P_18 ?_
    refine ln_4 C G d_P_kind_47 48 rfl ?_
    refine g_icmp_lt C d_P_kind_48 51 rfl (show r32 (S 0 4) from ⟨by omega, by omega⟩) ⟨by decide, by decide⟩ 61 rfl (fun (w2 : S 0 4 < 4) => ?_) (fun (w3 : ¬ S 0 4 < 4) => ?_)
    · skip
      refine g_aload_n C d_P_kind_61 62 rfl rfl 0 rfl ?_
      refine gt_P_kindCount C G d_P_kind_62 65 rfl fl_P_37 ?_
      refine g_istore C d_P_kind_65 67 rfl [(4, iv (S 0 4)), (0, .ref (ad 0)), (1, iv (x)), (2, iv (y)), (3, iv (z))] (by decide) rfl ?_
      refine g_aload_n C d_P_kind_67 68 rfl rfl 1 rfl ?_
      refine gt_P_alloys C G d_P_kind_68 71 rfl fl_P_18 ?_
      refine g_iload C d_P_kind_71 73 rfl 0 rfl ?_
      refine ld_4 C G d_P_kind_73 74 rfl ((S 0 4).toNat) (by omega) (by omega) ?_
      refine g_iload_n C d_P_kind_74 75 rfl rfl 2 rfl ?_
      refine pt_A_cents C G (z := x) d_P_kind_75 78 rfl ((S 0 4).toNat) (by omega) fl_P_90 ?_
      refine g_aload_n C d_P_kind_78 79 rfl rfl 1 rfl ?_
      refine gt_P_alloys C G d_P_kind_79 82 rfl fl_P_18 ?_
      refine g_iload C d_P_kind_82 84 rfl 0 rfl ?_
      refine ld_4 C G d_P_kind_84 85 rfl ((S 0 4).toNat) (by omega) (by omega) ?_
      refine g_iload_n C d_P_kind_85 86 rfl rfl 3 rfl ?_
      refine pt_A_kilos C G (z := y) d_P_kind_86 89 rfl ((S 0 4).toNat) (by omega) fl_P_93 ?_
      refine g_aload_n C d_P_kind_89 90 rfl rfl 1 rfl ?_
      refine gt_P_alloys C G d_P_kind_90 93 rfl fl_P_18 ?_
      refine g_iload C d_P_kind_93 95 rfl 0 rfl ?_
      refine ld_4 C G d_P_kind_95 96 rfl ((S 0 4).toNat) (by omega) (by omega) ?_
      refine g_iload_n C d_P_kind_96 97 rfl rfl 4 rfl ?_
      refine pt_A_mostSteps C G (z := z) d_P_kind_97 100 rfl ((S 0 4).toNat) (by omega) fl_P_94 ?_
      refine g_aload_n C d_P_kind_100 101 rfl rfl 1 rfl ?_
      refine g_iload C d_P_kind_101 103 rfl 0 rfl ?_
      refine g_iconst C d_P_kind_103 104 rfl ?_
      refine g_iadd C d_P_kind_104 105 rfl ?_
      refine pt_P_kindCount C G (z := (S 0 4) + 1) d_P_kind_105 108 rfl fl_P_37 ?_
      refine g_aload_n C d_P_kind_108 109 rfl rfl 1 rfl ?_
      refine gt_P_plan C G d_P_kind_109 112 rfl fl_P_26 ?_
      refine fcV0 C (rest := []) d_P_kind_112 115 rfl (t_N_forget G (S := (u2 (u2 (u2 (u2 S (11 + ((S 0 4).toNat)) 0 (x)) (11 + ((S 0 4).toNat)) 1 (y)) (11 + ((S 0 4).toNat)) 2 (z)) 0 4 ((S 0 4) + 1)))) rfl (G.1 5 (by decide)) (at_N G) ⟨ml_P_63, im_N_forget, se_N_forget, ci_N⟩ w_N_forget rfl 0 gy_N_forget rfl 1 rfl 6 rfl rfl rfl (Nat.le_of_ble_eq_true rfl) ?_
      refine g_iload C d_P_kind_115 117 rfl 0 rfl ?_
      exact gx_ret (g_iret C hA hsz hr hl d_P_kind_117 (by decide) (by decide) ⟨by omega, rfl, rfl, rfl⟩)
    · skip
      exact gx_throw C hA hsz hnt hl hst9 (cls := xUOE) (names := EXN) (by decide +kernel) (by decide +kernel) kl_P_85 ci_UnsupportedOperationException (gN_n_s87 C.2.1.2.1) (hat_89 C.1.2.2.2.2 C.2.1.2.1) hgd_89 d_P_kind_51 d_P_kind_54 d_P_kind_55 d_P_kind_57 d_P_kind_60 (by decide) (by decide) (by decide) (by decide) (by decide) (by decide) (Or.inr ⟨rfl, by omega⟩)
  refine g_iload_n C d_P_kind_0 1 rfl rfl 1 rfl ?_
  refine g_iconst C d_P_kind_1 2 rfl ?_
  refine g_ldc C (z := 100000) d_P_kind_2 4 rfl rfl kc_P_84 ?_
  refine fcS1 C (rest := []) d_P_kind_4 7 rfl (t_P_isWithin x 0 100000 (show r32 x from ⟨by omega, by omega⟩) ⟨by decide, by decide⟩ ⟨by decide, by decide⟩) ⟨ml_P_52, sm_P_isWithin, ci_P⟩ w_P_isWithin rfl 3 gy_P_isWithin rfl 0 rfl 0 rfl rfl rfl (Nat.le_of_ble_eq_true rfl) ?_
  refine g_if_eq C d_P_kind_7 10 rfl (bi_r _) 35 rfl (fun (w4 : bi (0 ≤ x ∧ x ≤ 100000) = 0) => ?_) (fun (w5 : ¬ bi (0 ≤ x ∧ x ≤ 100000) = 0) => ?_)
  · skip
    have w4 : ¬ (0 ≤ x ∧ x ≤ 100000) := bi_f w4
    refine g_iconst C d_P_kind_35 36 rfl ?_
    exact JR 0 (by first | exact (bi_pos (by omega)).symm | exact (bi_neg (by omega)).symm)
  · skip
    have w5 : (0 ≤ x ∧ x ≤ 100000) := bi_t w5
    refine g_iload_n C d_P_kind_10 11 rfl rfl 2 rfl ?_
    refine g_iconst C d_P_kind_11 12 rfl ?_
    refine g_sipush C d_P_kind_12 15 rfl rfl ?_
    refine fcS1 C (rest := []) d_P_kind_15 18 rfl (t_P_isWithin y 1 1000 (show r32 y from ⟨by omega, by omega⟩) ⟨by decide, by decide⟩ ⟨by decide, by decide⟩) ⟨ml_P_52, sm_P_isWithin, ci_P⟩ w_P_isWithin rfl 3 gy_P_isWithin rfl 0 rfl 0 rfl rfl rfl (Nat.le_of_ble_eq_true rfl) ?_
    refine g_if_eq C d_P_kind_18 21 rfl (bi_r _) 35 rfl (fun (w6 : bi (1 ≤ y ∧ y ≤ 1000) = 0) => ?_) (fun (w7 : ¬ bi (1 ≤ y ∧ y ≤ 1000) = 0) => ?_)
    · skip
      have w6 : ¬ (1 ≤ y ∧ y ≤ 1000) := bi_f w6
      refine g_iconst C d_P_kind_35 36 rfl ?_
      exact JR 0 (by first | exact (bi_pos (by omega)).symm | exact (bi_neg (by omega)).symm)
    · skip
      have w7 : (1 ≤ y ∧ y ≤ 1000) := bi_t w7
      refine g_iload_n C d_P_kind_21 22 rfl rfl 3 rfl ?_
      refine g_iconst C d_P_kind_22 23 rfl ?_
      refine g_bipush C d_P_kind_23 25 rfl rfl ?_
      refine fcS1 C (rest := []) d_P_kind_25 28 rfl (t_P_isWithin z 0 12 (show r32 z from ⟨by omega, by omega⟩) ⟨by decide, by decide⟩ ⟨by decide, by decide⟩) ⟨ml_P_52, sm_P_isWithin, ci_P⟩ w_P_isWithin rfl 3 gy_P_isWithin rfl 0 rfl 0 rfl rfl rfl (Nat.le_of_ble_eq_true rfl) ?_
      refine g_if_eq C d_P_kind_28 31 rfl (bi_r _) 35 rfl (fun (w8 : bi (0 ≤ z ∧ z ≤ 12) = 0) => ?_) (fun (w9 : ¬ bi (0 ≤ z ∧ z ≤ 12) = 0) => ?_)
      · skip
        have w8 : ¬ (0 ≤ z ∧ z ≤ 12) := bi_f w8
        refine g_iconst C d_P_kind_35 36 rfl ?_
        exact JR 0 (by first | exact (bi_pos (by omega)).symm | exact (bi_neg (by omega)).symm)
      · skip
        have w9 : (0 ≤ z ∧ z ≤ 12) := bi_t w9
        refine g_iconst C d_P_kind_31 32 rfl ?_
        refine g_goto C d_P_kind_32 36 rfl ?_
        exact JR 1 (by first | exact (bi_pos (by omega)).symm | exact (bi_neg (by omega)).symm)
abbrev rm_P_heatAt : Room := { frames := 7, cells := 1, slots := 6, locals := 102 }
set_option maxHeartbeats 4000000 in
set_option maxRecDepth 100000 in
theorem t_P_heatAt (hst9 : l.stackTraces = false) (G : LO ad L) (N : Nat) (x : Int) (hI : IC N S) (hN : N ≤ 1000) (hx : r32 x) : FX l y_P_heatAt c_P_heatAt 2 (some .long) rm_P_heatAt D cd L (wd cd ad S f0) [.ref (ad 0), iv (x)] (0 ≤ x ∧ x ≤ 9) (some (jv (if x = 0 then S 1 0 else if x = 9 then S 1 2 else S 2 (x - 1).toNat))) (wd cd ad S f0) (fun E => (E = xIOB ∧ (¬ (0 ≤ x ∧ x ≤ 9)))) := by
  refine gx_of (by decide) (Nat.le_of_ble_eq_true rfl) ?_
  intro p e s m args below meth c A sz hA hsz C hr hl hnt
  have C : gC p s m args c D CL (TY cd) A c_P_heatAt "AlloyPlans" 2 := C
  change gW _ _ _ _ _ _ _ _ _ _ _ _ _ _ _ _ _ _ _ 0 [(0, .ref (ad 0)), (1, iv (x))] []
  obtain ⟨⟨i0, j0⟩, ⟨i1, j1⟩, ⟨i2, j2⟩, ⟨i3, j3⟩, hpr, ham, i5, ⟨i6, j6⟩, ⟨i7, j7⟩, ⟨i8, j8⟩, ⟨i9, j9⟩, h6, hRS, hRD, hal⟩ := id hI
  have hx1 : -2147483648 ≤ x := hx.1
  have hx2 : x ≤ 2147483647 := hx.2
  refine g_iload_n C d_P_heatAt_0 1 rfl rfl 1 rfl ?_
  refine g_iconst C d_P_heatAt_1 2 rfl ?_
  refine g_bipush C d_P_heatAt_2 4 rfl rfl ?_
  refine fcS1 C (rest := []) d_P_heatAt_4 7 rfl (t_P_isWithin x 0 9 (show r32 x from ⟨by omega, by omega⟩) ⟨by decide, by decide⟩ ⟨by decide, by decide⟩) ⟨ml_P_52, sm_P_isWithin, ci_P⟩ w_P_isWithin rfl 3 gy_P_isWithin rfl 0 rfl 0 rfl rfl rfl (Nat.le_of_ble_eq_true rfl) ?_
  refine fxS0 C hA hsz hnt hl (rest := []) d_P_heatAt_7 10 rfl (t_P_requireIndex hst9 (bi (0 ≤ x ∧ x ≤ 9)) (bi_r _)) ⟨ml_P_66, sm_P_requireIndex, ci_P⟩ w_P_requireIndex rfl 1 gy_P_requireIndex rfl 1 rfl 6 rfl rfl rfl (Nat.le_of_ble_eq_true rfl) (fun E q => ⟨q.2, by have q3 := bi_f q.1; omega⟩) (by decide) (by decide) (fun hk1 => ?_)
  have hk1 : 0 ≤ x ∧ x ≤ 9 := bi_t hk1
  refine g_iload_n C d_P_heatAt_10 11 rfl rfl 1 rfl ?_
  refine g_if_ne C d_P_heatAt_11 14 rfl (show r32 x from ⟨by omega, by omega⟩) 23 rfl (fun (w2 : ¬ x = 0) => ?_) (fun (w3 : x = 0) => ?_)
  · skip
    refine g_iload_n C d_P_heatAt_23 24 rfl rfl 1 rfl ?_
    refine g_bipush C d_P_heatAt_24 26 rfl rfl ?_
    refine g_icmp_ne C d_P_heatAt_26 29 rfl (show r32 x from ⟨by omega, by omega⟩) ⟨by decide, by decide⟩ 37 rfl (fun (w4 : ¬ x = 9) => ?_) (fun (w5 : x = 9) => ?_)
    · skip
      obtain ⟨i4, j4⟩ := hpr (x - 1).toNat (by omega)
      refine g_aload_n C d_P_heatAt_37 38 rfl rfl 0 rfl ?_
      refine gt_P_melt C G d_P_heatAt_38 41 rfl fl_P_12 ?_
      refine gt_E_presentEnds C G d_P_heatAt_41 44 rfl fl_P_73 ?_
      refine g_iload_n C d_P_heatAt_44 45 rfl rfl 1 rfl ?_
      refine g_iconst C d_P_heatAt_45 46 rfl ?_
      refine g_isub C d_P_heatAt_46 47 rfl ?_
      refine ld_2 C G d_P_heatAt_47 48 rfl ((x - 1).toNat) (by omega) (by omega) ?_
      refine g_i2l C d_P_heatAt_48 49 rfl (show r32 (S 2 ((x - 1).toNat)) from ⟨by omega, by omega⟩) ?_
      exact gx_ret (g_lret C hA hsz hr hl d_P_heatAt_49 (by decide) (by decide) ⟨by omega, vj_e (by rw [if_neg (by omega), if_neg (by omega)]), rfl, rfl⟩)
    · skip
      refine g_aload_n C d_P_heatAt_29 30 rfl rfl 0 rfl ?_
      refine gt_P_melt C G d_P_heatAt_30 33 rfl fl_P_12 ?_
      refine gt_E_cents C G d_P_heatAt_33 36 rfl fl_P_172 ?_
      exact gx_ret (g_lret C hA hsz hr hl d_P_heatAt_36 (by decide) (by decide) ⟨by omega, vj_e (by rw [if_neg (by omega), if_pos (by omega)]), rfl, rfl⟩)
  · skip
    refine g_aload_n C d_P_heatAt_14 15 rfl rfl 0 rfl ?_
    refine gt_P_melt C G d_P_heatAt_15 18 rfl fl_P_12 ?_
    refine gt_E_kilos C G d_P_heatAt_18 21 rfl fl_P_60 ?_
    refine g_i2l C d_P_heatAt_21 22 rfl (show r32 (S 1 0) from ⟨by omega, by omega⟩) ?_
    exact gx_ret (g_lret C hA hsz hr hl d_P_heatAt_22 (by decide) (by decide) ⟨by omega, vj_e (by rw [if_pos (by omega)]), rfl, rfl⟩)
abbrev rm_P_steps : Room := { frames := 7, cells := 2, slots := 12, locals := 102 }
set_option maxHeartbeats 4000000 in
set_option maxRecDepth 100000 in
theorem t_P_steps (hst9 : l.stackTraces = false) (G : LO ad L) (N : Nat) (x : Int) (hI : IC N S) (hN : N ≤ 1000) (hx : r32 x) : FX l y_P_steps c_P_steps 2 (some .int) rm_P_steps D cd L (wd cd ad S f0) [.ref (ad 0), iv (x)] ((0 ≤ x ∧ x < S 0 4) ∧ ¬ S 5 0 = 0) (some (iv (S 6 x.toNat))) (wd cd ad S f0) (fun E => (E = xIOB ∧ (¬ (0 ≤ x ∧ x < S 0 4))) ∨ (E = xISE ∧ ((0 ≤ x ∧ x < S 0 4) ∧ S 5 0 = 0))) := by
  refine gx_of (by decide) (Nat.le_of_ble_eq_true rfl) ?_
  intro p e s m args below meth c A sz hA hsz C hr hl hnt
  have C : gC p s m args c D CL (TY cd) A c_P_steps "AlloyPlans" 2 := C
  change gW _ _ _ _ _ _ _ _ _ _ _ _ _ _ _ _ _ _ _ 0 [(0, .ref (ad 0)), (1, iv (x))] []
  obtain ⟨⟨i0, j0⟩, ⟨i1, j1⟩, ⟨i2, j2⟩, ⟨i3, j3⟩, hpr, ham, i5, ⟨i6, j6⟩, ⟨i7, j7⟩, ⟨i8, j8⟩, ⟨i9, j9⟩, h6, hRS, hRD, hal⟩ := id hI
  have hx1 : -2147483648 ≤ x := hx.1
  have hx2 : x ≤ 2147483647 := hx.2
  refine g_aload_n C d_P_steps_0 1 rfl rfl 0 rfl ?_
  refine g_iload_n C d_P_steps_1 2 rfl rfl 1 rfl ?_
  refine fcV1 C (rest := []) d_P_steps_2 5 rfl (t_P_isKind G (S := S) x (show r32 x from ⟨by omega, by omega⟩) (show r32 (S 0 4) from ⟨by omega, by omega⟩)) rfl (G.1 0 (by decide)) (at_P G) ⟨ml_P_97, im_P_isKind, se_P_isKind, ci_P⟩ w_P_isKind rfl 1 gy_P_isKind rfl 0 rfl 0 rfl rfl rfl (Nat.le_of_ble_eq_true rfl) ?_
  refine fxS0 C hA hsz hnt hl (rest := []) d_P_steps_5 8 rfl (t_P_requireIndex hst9 (bi (0 ≤ x ∧ x < S 0 4 ∧ x < 4)) (bi_r _)) ⟨ml_P_66, sm_P_requireIndex, ci_P⟩ w_P_requireIndex rfl 1 gy_P_requireIndex rfl 1 rfl 6 rfl rfl rfl (Nat.le_of_ble_eq_true rfl) (fun E q => Or.inl ⟨q.2, by have q3 := bi_f q.1; omega⟩) (by decide) (by decide) (fun hk1 => ?_)
  have hk1 : 0 ≤ x ∧ x < S 0 4 ∧ x < 4 := bi_t hk1
  obtain ⟨k, hk⟩ : ∃ k : Nat, x = (k : Int) := ⟨Int.toNat x, by omega⟩
  subst hk
  refine g_aload_n C d_P_steps_8 9 rfl rfl 0 rfl ?_
  refine fxV0 C hA hsz hnt hl (rest := []) d_P_steps_9 12 rfl (t_P_requirePlan hst9 G (S := S) (show r32 (S 5 0) from ⟨by omega, by omega⟩)) rfl (G.1 0 (by decide)) (at_P G) ⟨ml_P_133, im_P_requirePlan, se_P_requirePlan, ci_P⟩ w_P_requirePlan rfl 0 gy_P_requirePlan rfl 2 rfl 12 rfl rfl rfl (Nat.le_of_ble_eq_true rfl) (fun E q => Or.inr ⟨q.2, by have q3 := q.1; omega⟩) (by decide) (by decide) (fun hk2 => ?_)
  have hk2 : ¬ S 5 0 = 0 := hk2
  refine g_aload_n C d_P_steps_12 13 rfl rfl 0 rfl ?_
  refine gt_P_plan C G d_P_steps_13 16 rfl fl_P_26 ?_
  refine gt_N_taken C G d_P_steps_16 19 rfl fl_P_136 ?_
  refine g_iload_n C d_P_steps_19 20 rfl rfl 1 rfl ?_
  refine ld_6 C G d_P_steps_20 21 rfl k (by omega) rfl ?_
  exact gx_ret (g_iret C hA hsz hr hl d_P_steps_21 (by decide) (by decide) ⟨by omega, rfl, rfl, rfl⟩)
abbrev rm_P_planned : Room := { frames := 7, cells := 2, slots := 12, locals := 102 }
set_option maxHeartbeats 4000000 in
set_option maxRecDepth 100000 in
theorem t_P_planned (hst9 : l.stackTraces = false) (G : LO ad L) (N : Nat) (x : Int) (hI : IC N S) (hN : N ≤ 1000) (hx : r32 x) : FX l y_P_planned c_P_planned 2 (some .int) rm_P_planned D cd L (wd cd ad S f0) [.ref (ad 0), iv (x)] ((0 ≤ x ∧ x ≤ 3) ∧ ¬ S 5 0 = 0) (some (iv (if x = 0 then S 5 1 else if x = 1 then S 5 2 else if x = 2 then S 5 3 else S 5 4))) (wd cd ad S f0) (fun E => (E = xIOB ∧ (¬ (0 ≤ x ∧ x ≤ 3))) ∨ (E = xISE ∧ ((0 ≤ x ∧ x ≤ 3) ∧ S 5 0 = 0))) := by
  refine gx_of (by decide) (Nat.le_of_ble_eq_true rfl) ?_
  intro p e s m args below meth c A sz hA hsz C hr hl hnt
  have C : gC p s m args c D CL (TY cd) A c_P_planned "AlloyPlans" 2 := C
  change gW _ _ _ _ _ _ _ _ _ _ _ _ _ _ _ _ _ _ _ 0 [(0, .ref (ad 0)), (1, iv (x))] []
  obtain ⟨⟨i0, j0⟩, ⟨i1, j1⟩, ⟨i2, j2⟩, ⟨i3, j3⟩, hpr, ham, i5, ⟨i6, j6⟩, ⟨i7, j7⟩, ⟨i8, j8⟩, ⟨i9, j9⟩, h6, hRS, hRD, hal⟩ := id hI
  have hx1 : -2147483648 ≤ x := hx.1
  have hx2 : x ≤ 2147483647 := hx.2
  refine g_iload_n C d_P_planned_0 1 rfl rfl 1 rfl ?_
  refine g_iconst C d_P_planned_1 2 rfl ?_
  refine g_iconst C d_P_planned_2 3 rfl ?_
  refine fcS1 C (rest := []) d_P_planned_3 6 rfl (t_P_isWithin x 0 3 (show r32 x from ⟨by omega, by omega⟩) ⟨by decide, by decide⟩ ⟨by decide, by decide⟩) ⟨ml_P_52, sm_P_isWithin, ci_P⟩ w_P_isWithin rfl 3 gy_P_isWithin rfl 0 rfl 0 rfl rfl rfl (Nat.le_of_ble_eq_true rfl) ?_
  refine fxS0 C hA hsz hnt hl (rest := []) d_P_planned_6 9 rfl (t_P_requireIndex hst9 (bi (0 ≤ x ∧ x ≤ 3)) (bi_r _)) ⟨ml_P_66, sm_P_requireIndex, ci_P⟩ w_P_requireIndex rfl 1 gy_P_requireIndex rfl 1 rfl 6 rfl rfl rfl (Nat.le_of_ble_eq_true rfl) (fun E q => Or.inl ⟨q.2, by have q3 := bi_f q.1; omega⟩) (by decide) (by decide) (fun hk1 => ?_)
  have hk1 : 0 ≤ x ∧ x ≤ 3 := bi_t hk1
  refine g_aload_n C d_P_planned_9 10 rfl rfl 0 rfl ?_
  refine fxV0 C hA hsz hnt hl (rest := []) d_P_planned_10 13 rfl (t_P_requirePlan hst9 G (S := S) (show r32 (S 5 0) from ⟨by omega, by omega⟩)) rfl (G.1 0 (by decide)) (at_P G) ⟨ml_P_133, im_P_requirePlan, se_P_requirePlan, ci_P⟩ w_P_requirePlan rfl 0 gy_P_requirePlan rfl 2 rfl 12 rfl rfl rfl (Nat.le_of_ble_eq_true rfl) (fun E q => Or.inr ⟨q.2, by have q3 := q.1; omega⟩) (by decide) (by decide) (fun hk2 => ?_)
  have hk2 : ¬ S 5 0 = 0 := hk2
  refine g_iload_n C d_P_planned_13 14 rfl rfl 1 rfl ?_
  rcases (show x = 0 ∨ x = 1 ∨ x = 2 ∨ (x < 0 ∨ 2 < x) by omega) with hc3 | hc4 | hc5 | hc6
  · skip
    refine g_tin C d_P_planned_14 (z := x) ⟨by omega, by omega⟩ (by omega) (by omega) (by rw [hc3]; rfl) 40 rfl ?_
    refine g_aload_n C d_P_planned_40 41 rfl rfl 0 rfl ?_
    refine gt_P_plan C G d_P_planned_41 44 rfl fl_P_26 ?_
    refine gt_N_cents C G d_P_planned_44 47 rfl fl_P_139 ?_
    exact gx_ret (g_iret C hA hsz hr hl d_P_planned_47 (by decide) (by decide) ⟨by omega, vi_e (by rw [if_pos (by omega)]), rfl, rfl⟩)
  · skip
    refine g_tin C d_P_planned_14 (z := x) ⟨by omega, by omega⟩ (by omega) (by omega) (by rw [hc4]; rfl) 48 rfl ?_
    refine g_aload_n C d_P_planned_48 49 rfl rfl 0 rfl ?_
    refine gt_P_plan C G d_P_planned_49 52 rfl fl_P_26 ?_
    refine gt_N_kilos C G d_P_planned_52 55 rfl fl_P_140 ?_
    exact gx_ret (g_iret C hA hsz hr hl d_P_planned_55 (by decide) (by decide) ⟨by omega, vi_e (by rw [if_neg (by omega), if_pos (by omega)]), rfl, rfl⟩)
  · skip
    refine g_tin C d_P_planned_14 (z := x) ⟨by omega, by omega⟩ (by omega) (by omega) (by rw [hc5]; rfl) 56 rfl ?_
    refine g_aload_n C d_P_planned_56 57 rfl rfl 0 rfl ?_
    refine gt_P_plan C G d_P_planned_57 60 rfl fl_P_26 ?_
    refine gt_N_kinds C G d_P_planned_60 63 rfl fl_P_141 ?_
    exact gx_ret (g_iret C hA hsz hr hl d_P_planned_63 (by decide) (by decide) ⟨by omega, vi_e (by rw [if_neg (by omega), if_neg (by omega), if_pos (by omega)]), rfl, rfl⟩)
  · skip
    refine g_tout C d_P_planned_14 (z := x) ⟨by omega, by omega⟩ hc6 64 rfl ?_
    refine g_aload_n C d_P_planned_64 65 rfl rfl 0 rfl ?_
    refine gt_P_plan C G d_P_planned_65 68 rfl fl_P_26 ?_
    refine gt_N_cooling C G d_P_planned_68 71 rfl fl_P_144 ?_
    exact gx_ret (g_iret C hA hsz hr hl d_P_planned_71 (by decide) (by decide) ⟨by omega, vi_e (by rw [if_neg (by omega), if_neg (by omega), if_neg (by omega)]), rfl, rfl⟩)
abbrev rm_P_holds : Room := { frames := 7, cells := 2, slots := 12, locals := 102 }
set_option maxHeartbeats 4000000 in
set_option maxRecDepth 100000 in
theorem t_P_holds (hst9 : l.stackTraces = false) (G : LO ad L) (N : Nat) (x y z u : Int) (hI : IC N S) (hN : N ≤ 1000) (hx : r32 x) (hy : r32 y) (hz : r32 z) (hu : r32 u) : FX l y_P_holds c_P_holds 5 none rm_P_holds D cd L (wd cd ad S f0) [.ref (ad 0), iv (x), iv (y), iv (z), iv (u)] (((0 ≤ x ∧ x < S 0 4) ∧ (0 ≤ y ∧ y ≤ 3)) ∧ (0 ≤ z ∧ z ≤ u ∧ u ≤ 100000)) none (wd cd ad (u2 (u2 (u2 S (15 + x.toNat) (2 * y.toNat) z) (15 + x.toNat) (2 * y.toNat + 1) u) 5 0 0) f0) (fun E => (E = xIOB ∧ (¬ ((0 ≤ x ∧ x < S 0 4) ∧ (0 ≤ y ∧ y ≤ 3)))) ∨ (E = xIAE ∧ (((0 ≤ x ∧ x < S 0 4) ∧ (0 ≤ y ∧ y ≤ 3)) ∧ ¬ (0 ≤ z ∧ z ≤ u ∧ u ≤ 100000)))) := by
  refine gx_of (by decide) (Nat.le_of_ble_eq_true rfl) ?_
  intro p e s m args below meth c A sz hA hsz C hr hl hnt
  have C : gC p s m args c D CL (TY cd) A c_P_holds "AlloyPlans" 5 := C
  change gW _ _ _ _ _ _ _ _ _ _ _ _ _ _ _ _ _ _ _ 0 [(0, .ref (ad 0)), (1, iv (x)), (2, iv (y)), (3, iv (z)), (4, iv (u))] []
  obtain ⟨⟨i0, j0⟩, ⟨i1, j1⟩, ⟨i2, j2⟩, ⟨i3, j3⟩, hpr, ham, i5, ⟨i6, j6⟩, ⟨i7, j7⟩, ⟨i8, j8⟩, ⟨i9, j9⟩, h6, hRS, hRD, hal⟩ := id hI
  have hx1 : -2147483648 ≤ x := hx.1
  have hx2 : x ≤ 2147483647 := hx.2
  have hy1 : -2147483648 ≤ y := hy.1
  have hy2 : y ≤ 2147483647 := hy.2
  have hz1 : -2147483648 ≤ z := hz.1
  have hz2 : z ≤ 2147483647 := hz.2
  have hu1 : -2147483648 ≤ u := hu.1
  have hu2 : u ≤ 2147483647 := hu.2
  have JR : ∀ zj : Int, zj = (bi ((0 ≤ x ∧ x < S 0 4) ∧ (0 ≤ y ∧ y ≤ 3))) → gW p l e rm_P_holds s m args below meth c D CL A 5 (vx_MQ below (gQ D CL L sz (fun r L' g => (((0 ≤ x ∧ x < S 0 4) ∧ (0 ≤ y ∧ y ≤ 3)) ∧ (0 ≤ z ∧ z ≤ u ∧ u ≤ 100000)) ∧ r = none ∧ L' = L ∧ g = (wd cd ad (u2 (u2 (u2 S (15 + x.toNat) (2 * y.toNat) z) (15 + x.toNat) (2 * y.toNat + 1) u) 5 0 0) f0))) (gQx D CL L (wd cd ad S f0) sz (fun E => (E = xIOB ∧ (¬ ((0 ≤ x ∧ x < S 0 4) ∧ (0 ≤ y ∧ y ≤ 3)))) ∨ (E = xIAE ∧ (((0 ≤ x ∧ x < S 0 4) ∧ (0 ≤ y ∧ y ≤ 3)) ∧ ¬ (0 ≤ z ∧ z ≤ u ∧ u ≤ 100000))))) args s rm_P_holds.cells rm_P_holds.slots (gA L sz)) 0 0 L (wd cd ad S f0) 22 [(0, .ref (ad 0)), (1, iv (x)), (2, iv (y)), (3, iv (z)), (4, iv (u))] [iv zj] := by
    intro zj hzj
    subst hzj
    refine fxS0 C hA hsz hnt hl (rest := []) d_P_holds_22 25 rfl (t_P_requireIndex hst9 (bi ((0 ≤ x ∧ x < S 0 4) ∧ (0 ≤ y ∧ y ≤ 3))) (bi_r _)) ⟨ml_P_66, sm_P_requireIndex, ci_P⟩ w_P_requireIndex rfl 1 gy_P_requireIndex rfl 1 rfl 6 rfl rfl rfl (Nat.le_of_ble_eq_true rfl) (fun E q => Or.inl ⟨q.2, by have q3 := bi_f q.1; omega⟩) (by decide) (by decide) (fun hk1 => ?_)
    have hk1 : (0 ≤ x ∧ x < S 0 4) ∧ (0 ≤ y ∧ y ≤ 3) := bi_t hk1
    obtain ⟨k, hk⟩ : ∃ k : Nat, x = (k : Int) := ⟨Int.toNat x, by omega⟩
    subst hk
    obtain ⟨n, hn⟩ : ∃ n : Nat, y = (n : Int) := ⟨Int.toNat y, by omega⟩
    subst hn
    refine g_iload_n C d_P_holds_25 26 rfl rfl 3 rfl ?_
    refine g_iload C d_P_holds_26 28 rfl 4 rfl ?_
    refine fcS1 C (rest := []) d_P_holds_28 31 rfl (t_P_isSpan z u (show r32 z from ⟨by omega, by omega⟩) (show r32 u from ⟨by omega, by omega⟩)) ⟨ml_P_69, sm_P_isSpan, ci_P⟩ w_P_isSpan rfl 2 gy_P_isSpan rfl 1 rfl 6 rfl rfl rfl (Nat.le_of_ble_eq_true rfl) ?_
    refine fxS0 C hA hsz hnt hl (rest := []) d_P_holds_31 34 rfl (t_P_requireRange hst9 (bi (0 ≤ z ∧ z ≤ u ∧ u ≤ 100000)) (bi_r _)) ⟨ml_P_56, sm_P_requireRange, ci_P⟩ w_P_requireRange rfl 1 gy_P_requireRange rfl 2 rfl 12 rfl rfl rfl (Nat.le_of_ble_eq_true rfl) (fun E q => Or.inr ⟨q.2, by have q3 := bi_f q.1; omega⟩) (by decide) (by decide) (fun hk2 => ?_)
    have hk2 : 0 ≤ z ∧ z ≤ u ∧ u ≤ 100000 := bi_t hk2
    refine g_aload_n C d_P_holds_34 35 rfl rfl 0 rfl ?_
    refine g_aload_n C d_P_holds_35 36 rfl rfl 0 rfl ?_
    refine gt_P_alloys C G d_P_holds_36 39 rfl fl_P_18 ?_
    refine g_iload_n C d_P_holds_39 40 rfl rfl 1 rfl ?_
    refine ld_4 C G d_P_holds_40 41 rfl k (by omega) rfl ?_
    refine gt_A_ends C G d_P_holds_41 44 rfl k (by omega) fl_P_101 ?_
    refine g_iload_n C d_P_holds_44 45 rfl rfl 2 rfl ?_
    refine g_iload_n C d_P_holds_45 46 rfl rfl 3 rfl ?_
    refine g_iload C d_P_holds_46 48 rfl 4 rfl ?_
    refine fcV0 C (rest := []) d_P_holds_48 51 rfl (t_P_tell_15 G (S := S) k n z u (by omega) (by omega)) rfl (G.1 0 (by decide)) (at_P G) ⟨ml_P_77, im_P_tell, se_P_tell, ci_P⟩ w_P_tell rfl 4 gy_P_tell rfl 2 rfl 12 rfl rfl rfl (Nat.le_of_ble_eq_true rfl) ?_
    exact gx_ret (g_vret C hA hsz hr hl d_P_holds_51 (by decide) (by decide) ⟨by omega, rfl, rfl, rfl⟩)
  refine g_aload_n C d_P_holds_0 1 rfl rfl 0 rfl ?_
  refine g_iload_n C d_P_holds_1 2 rfl rfl 1 rfl ?_
  refine fcV1 C (rest := []) d_P_holds_2 5 rfl (t_P_isKind G (S := S) x (show r32 x from ⟨by omega, by omega⟩) (show r32 (S 0 4) from ⟨by omega, by omega⟩)) rfl (G.1 0 (by decide)) (at_P G) ⟨ml_P_97, im_P_isKind, se_P_isKind, ci_P⟩ w_P_isKind rfl 1 gy_P_isKind rfl 0 rfl 0 rfl rfl rfl (Nat.le_of_ble_eq_true rfl) ?_
  refine g_if_eq C d_P_holds_5 8 rfl (bi_r _) 21 rfl (fun (w3 : bi (0 ≤ x ∧ x < S 0 4 ∧ x < 4) = 0) => ?_) (fun (w4 : ¬ bi (0 ≤ x ∧ x < S 0 4 ∧ x < 4) = 0) => ?_)
  · skip
    have w3 : ¬ (0 ≤ x ∧ x < S 0 4 ∧ x < 4) := bi_f w3
    refine g_iconst C d_P_holds_21 22 rfl ?_
    exact JR 0 (by first | exact (bi_pos (by omega)).symm | exact (bi_neg (by omega)).symm)
  · skip
    have w4 : (0 ≤ x ∧ x < S 0 4 ∧ x < 4) := bi_t w4
    refine g_iload_n C d_P_holds_8 9 rfl rfl 2 rfl ?_
    refine g_iconst C d_P_holds_9 10 rfl ?_
    refine g_iconst C d_P_holds_10 11 rfl ?_
    refine fcS1 C (rest := []) d_P_holds_11 14 rfl (t_P_isWithin y 0 3 (show r32 y from ⟨by omega, by omega⟩) ⟨by decide, by decide⟩ ⟨by decide, by decide⟩) ⟨ml_P_52, sm_P_isWithin, ci_P⟩ w_P_isWithin rfl 3 gy_P_isWithin rfl 0 rfl 0 rfl rfl rfl (Nat.le_of_ble_eq_true rfl) ?_
    refine g_if_eq C d_P_holds_14 17 rfl (bi_r _) 21 rfl (fun (w5 : bi (0 ≤ y ∧ y ≤ 3) = 0) => ?_) (fun (w6 : ¬ bi (0 ≤ y ∧ y ≤ 3) = 0) => ?_)
    · skip
      have w5 : ¬ (0 ≤ y ∧ y ≤ 3) := bi_f w5
      refine g_iconst C d_P_holds_21 22 rfl ?_
      exact JR 0 (by first | exact (bi_pos (by omega)).symm | exact (bi_neg (by omega)).symm)
    · skip
      have w6 : (0 ≤ y ∧ y ≤ 3) := bi_t w6
      refine g_iconst C d_P_holds_17 18 rfl ?_
      refine g_goto C d_P_holds_18 22 rfl ?_
      exact JR 1 (by first | exact (bi_pos (by omega)).symm | exact (bi_neg (by omega)).symm)
abbrev rm_P_yields : Room := { frames := 7, cells := 2, slots := 12, locals := 102 }
set_option maxHeartbeats 4000000 in
set_option maxRecDepth 100000 in
theorem t_P_yields (hst9 : l.stackTraces = false) (G : LO ad L) (N : Nat) (x y z : Int) (hI : IC N S) (hN : N ≤ 1000) (hx : r32 x) (hy : r32 y) (hz : r32 z) : FX l y_P_yields c_P_yields 4 none rm_P_yields D cd L (wd cd ad S f0) [.ref (ad 0), iv (x), iv (y), iv (z)] ((0 ≤ x ∧ x < S 0 4) ∧ ((0 ≤ y ∧ y ≤ 1000) ∧ (0 ≤ z ∧ z ≤ 1000))) none (wd cd ad (u2 (u2 (u2 S (11 + x.toNat) 3 y) (11 + x.toNat) 4 z) 5 0 0) f0) (fun E => (E = xIOB ∧ (¬ (0 ≤ x ∧ x < S 0 4))) ∨ (E = xIAE ∧ ((0 ≤ x ∧ x < S 0 4) ∧ ¬ ((0 ≤ y ∧ y ≤ 1000) ∧ (0 ≤ z ∧ z ≤ 1000))))) := by
  refine gx_of (by decide) (Nat.le_of_ble_eq_true rfl) ?_
  intro p e s m args below meth c A sz hA hsz C hr hl hnt
  have C : gC p s m args c D CL (TY cd) A c_P_yields "AlloyPlans" 4 := C
  change gW _ _ _ _ _ _ _ _ _ _ _ _ _ _ _ _ _ _ _ 0 [(0, .ref (ad 0)), (1, iv (x)), (2, iv (y)), (3, iv (z))] []
  obtain ⟨⟨i0, j0⟩, ⟨i1, j1⟩, ⟨i2, j2⟩, ⟨i3, j3⟩, hpr, ham, i5, ⟨i6, j6⟩, ⟨i7, j7⟩, ⟨i8, j8⟩, ⟨i9, j9⟩, h6, hRS, hRD, hal⟩ := id hI
  have hx1 : -2147483648 ≤ x := hx.1
  have hx2 : x ≤ 2147483647 := hx.2
  have hy1 : -2147483648 ≤ y := hy.1
  have hy2 : y ≤ 2147483647 := hy.2
  have hz1 : -2147483648 ≤ z := hz.1
  have hz2 : z ≤ 2147483647 := hz.2
  refine g_aload_n C d_P_yields_0 1 rfl rfl 0 rfl ?_
  refine g_iload_n C d_P_yields_1 2 rfl rfl 1 rfl ?_
  refine fcV1 C (rest := []) d_P_yields_2 5 rfl (t_P_isKind G (S := S) x (show r32 x from ⟨by omega, by omega⟩) (show r32 (S 0 4) from ⟨by omega, by omega⟩)) rfl (G.1 0 (by decide)) (at_P G) ⟨ml_P_97, im_P_isKind, se_P_isKind, ci_P⟩ w_P_isKind rfl 1 gy_P_isKind rfl 0 rfl 0 rfl rfl rfl (Nat.le_of_ble_eq_true rfl) ?_
  refine fxS0 C hA hsz hnt hl (rest := []) d_P_yields_5 8 rfl (t_P_requireIndex hst9 (bi (0 ≤ x ∧ x < S 0 4 ∧ x < 4)) (bi_r _)) ⟨ml_P_66, sm_P_requireIndex, ci_P⟩ w_P_requireIndex rfl 1 gy_P_requireIndex rfl 1 rfl 6 rfl rfl rfl (Nat.le_of_ble_eq_true rfl) (fun E q => Or.inl ⟨q.2, by have q3 := bi_f q.1; omega⟩) (by decide) (by decide) (fun hk1 => ?_)
  have hk1 : 0 ≤ x ∧ x < S 0 4 ∧ x < 4 := bi_t hk1
  have JR : ∀ zj : Int, zj = (bi ((0 ≤ y ∧ y ≤ 1000) ∧ (0 ≤ z ∧ z ≤ 1000))) → gW p l e rm_P_yields s m args below meth c D CL A 4 (vx_MQ below (gQ D CL L sz (fun r L' g => ((0 ≤ x ∧ x < S 0 4) ∧ ((0 ≤ y ∧ y ≤ 1000) ∧ (0 ≤ z ∧ z ≤ 1000))) ∧ r = none ∧ L' = L ∧ g = (wd cd ad (u2 (u2 (u2 S (11 + x.toNat) 3 y) (11 + x.toNat) 4 z) 5 0 0) f0))) (gQx D CL L (wd cd ad S f0) sz (fun E => (E = xIOB ∧ (¬ (0 ≤ x ∧ x < S 0 4))) ∨ (E = xIAE ∧ ((0 ≤ x ∧ x < S 0 4) ∧ ¬ ((0 ≤ y ∧ y ≤ 1000) ∧ (0 ≤ z ∧ z ≤ 1000)))))) args s rm_P_yields.cells rm_P_yields.slots (gA L sz)) 1 6 L (wd cd ad S f0) 35 [(0, .ref (ad 0)), (1, iv (x)), (2, iv (y)), (3, iv (z))] [iv zj] := by
    intro zj hzj
    subst hzj
    refine fxS0 C hA hsz hnt hl (rest := []) d_P_yields_35 38 rfl (t_P_requireRange hst9 (bi ((0 ≤ y ∧ y ≤ 1000) ∧ (0 ≤ z ∧ z ≤ 1000))) (bi_r _)) ⟨ml_P_56, sm_P_requireRange, ci_P⟩ w_P_requireRange rfl 1 gy_P_requireRange rfl 2 rfl 12 rfl rfl rfl (Nat.le_of_ble_eq_true rfl) (fun E q => Or.inr ⟨q.2, by have q3 := bi_f q.1; omega⟩) (by decide) (by decide) (fun hk2 => ?_)
    have hk2 : (0 ≤ y ∧ y ≤ 1000) ∧ (0 ≤ z ∧ z ≤ 1000) := bi_t hk2
    obtain ⟨k, hk⟩ : ∃ k : Nat, x = (k : Int) := ⟨Int.toNat x, by omega⟩
    subst hk
    refine g_aload_n C d_P_yields_38 39 rfl rfl 0 rfl ?_
    refine gt_P_alloys C G d_P_yields_39 42 rfl fl_P_18 ?_
    refine g_iload_n C d_P_yields_42 43 rfl rfl 1 rfl ?_
    refine ld_4 C G d_P_yields_43 44 rfl k (by omega) rfl ?_
    refine g_iload_n C d_P_yields_44 45 rfl rfl 2 rfl ?_
    refine pt_A_thousandths C G (z := y) d_P_yields_45 48 rfl k (by omega) fl_P_104 ?_
    refine g_aload_n C d_P_yields_48 49 rfl rfl 0 rfl ?_
    refine gt_P_alloys C G d_P_yields_49 52 rfl fl_P_18 ?_
    refine g_iload_n C d_P_yields_52 53 rfl rfl 1 rfl ?_
    refine ld_4 C G d_P_yields_53 54 rfl k (by omega) rfl ?_
    refine g_iload_n C d_P_yields_54 55 rfl rfl 3 rfl ?_
    refine pt_A_cooling C G (z := z) d_P_yields_55 58 rfl k (by omega) fl_P_107 ?_
    refine g_aload_n C d_P_yields_58 59 rfl rfl 0 rfl ?_
    refine gt_P_plan C G d_P_yields_59 62 rfl fl_P_26 ?_
    refine fcV0 C (rest := []) d_P_yields_62 65 rfl (t_N_forget G (S := (u2 (u2 S (11 + k) 3 (y)) (11 + k) 4 (z)))) rfl (G.1 5 (by decide)) (at_N G) ⟨ml_P_63, im_N_forget, se_N_forget, ci_N⟩ w_N_forget rfl 0 gy_N_forget rfl 2 rfl 12 rfl rfl rfl (Nat.le_of_ble_eq_true rfl) ?_
    exact gx_ret (g_vret C hA hsz hr hl d_P_yields_65 (by decide) (by decide) ⟨by omega, rfl, rfl, rfl⟩)
  refine g_iload_n C d_P_yields_8 9 rfl rfl 2 rfl ?_
  refine g_iconst C d_P_yields_9 10 rfl ?_
  refine g_sipush C d_P_yields_10 13 rfl rfl ?_
  refine fcS1 C (rest := []) d_P_yields_13 16 rfl (t_P_isWithin y 0 1000 (show r32 y from ⟨by omega, by omega⟩) ⟨by decide, by decide⟩ ⟨by decide, by decide⟩) ⟨ml_P_52, sm_P_isWithin, ci_P⟩ w_P_isWithin rfl 3 gy_P_isWithin rfl 1 rfl 6 rfl rfl rfl (Nat.le_of_ble_eq_true rfl) ?_
  refine g_if_eq C d_P_yields_16 19 rfl (bi_r _) 34 rfl (fun (w3 : bi (0 ≤ y ∧ y ≤ 1000) = 0) => ?_) (fun (w4 : ¬ bi (0 ≤ y ∧ y ≤ 1000) = 0) => ?_)
  · skip
    have w3 : ¬ (0 ≤ y ∧ y ≤ 1000) := bi_f w3
    refine g_iconst C d_P_yields_34 35 rfl ?_
    exact JR 0 (by first | exact (bi_pos (by omega)).symm | exact (bi_neg (by omega)).symm)
  · skip
    have w4 : (0 ≤ y ∧ y ≤ 1000) := bi_t w4
    refine g_iload_n C d_P_yields_19 20 rfl rfl 3 rfl ?_
    refine g_iconst C d_P_yields_20 21 rfl ?_
    refine g_sipush C d_P_yields_21 24 rfl rfl ?_
    refine fcS1 C (rest := []) d_P_yields_24 27 rfl (t_P_isWithin z 0 1000 (show r32 z from ⟨by omega, by omega⟩) ⟨by decide, by decide⟩ ⟨by decide, by decide⟩) ⟨ml_P_52, sm_P_isWithin, ci_P⟩ w_P_isWithin rfl 3 gy_P_isWithin rfl 1 rfl 6 rfl rfl rfl (Nat.le_of_ble_eq_true rfl) ?_
    refine g_if_eq C d_P_yields_27 30 rfl (bi_r _) 34 rfl (fun (w5 : bi (0 ≤ z ∧ z ≤ 1000) = 0) => ?_) (fun (w6 : ¬ bi (0 ≤ z ∧ z ≤ 1000) = 0) => ?_)
    · skip
      have w5 : ¬ (0 ≤ z ∧ z ≤ 1000) := bi_f w5
      refine g_iconst C d_P_yields_34 35 rfl ?_
      exact JR 0 (by first | exact (bi_pos (by omega)).symm | exact (bi_neg (by omega)).symm)
    · skip
      have w6 : (0 ≤ z ∧ z ≤ 1000) := bi_t w6
      refine g_iconst C d_P_yields_30 31 rfl ?_
      refine g_goto C d_P_yields_31 35 rfl ?_
      exact JR 1 (by first | exact (bi_pos (by omega)).symm | exact (bi_neg (by omega)).symm)
end M6
end
section
/-! bounds of what is held, of the search's start, of Euclid's way: pure rows -/
section BND
variable {S T : Nat → Nat → Int} {N n q : Nat}
theorem mul_r {a b A B : Int} (ha : 0 ≤ a ∧ a ≤ A) (hb : 0 ≤ b ∧ b ≤ B) : 0 ≤ a * b ∧ a * b ≤ A * B := by
  refine ⟨Int.mul_nonneg ha.1 hb.1, ?_⟩
  calc a * b ≤ A * b := Int.mul_le_mul_of_nonneg_right ha.2 hb.1
    _ ≤ A * B := Int.mul_le_mul_of_nonneg_left hb.2 (by omega)
theorem sumN_r {g : Nat → Int} {M : Int} (n : Nat) (h : ∀ j, j < n → 0 ≤ g j ∧ g j ≤ M) : 0 ≤ sumN g n ∧ sumN g n ≤ (n : Int) * M := by
  induction n with
  | zero => exact ⟨Int.le_refl 0, by simp [sumN]⟩
  | succ n ih =>
    have h1 := ih (fun j hj => h j (by omega))
    have h2 := h n (by omega)
    have e : ((n + 1 : Nat) : Int) * M = (n : Int) * M + M := by rw [Int.natCast_add, Int.add_mul]; simp
    show 0 ≤ sumN g n + g n ∧ sumN g n + g n ≤ ((n + 1 : Nat) : Int) * M
    rw [e]
    omega
theorem sumN_congr {g h : Nat → Int} (n : Nat) (e : ∀ j, j < n → g j = h j) : sumN g n = sumN h n := by
  induction n with
  | zero => rfl
  | succ n ih =>
    show sumN g n + g n = sumN h n + h n
    rw [ih (fun j hj => e j (by omega)), e n (by omega)]
theorem heldH_r (h1 : 1 ≤ S 1 0 ∧ S 1 0 ≤ 65536) (h2 : 0 ≤ S 2 q ∧ S 2 q ≤ 100000) : 0 ≤ heldH S q ∧ heldH S q ≤ 6553600000000 := by
  have a := mul_r (A := 1000) (B := 65536) ⟨by decide, Int.le_refl 1000⟩ (show 0 ≤ S 1 0 ∧ S 1 0 ≤ 65536 by omega)
  have b := mul_r a h2
  unfold heldH
  omega
theorem heldA_r {j : Nat} (h1 : 1 ≤ S (11 + j) 1 ∧ S (11 + j) 1 ≤ 1000) (h2 : 0 ≤ S (15 + j) q ∧ S (15 + j) q ≤ 100000) (h3 : 0 ≤ S (11 + j) 3 ∧ S (11 + j) 3 ≤ 1000) : 0 ≤ heldA S j q ∧ heldA S j q ≤ 100000000000 := by
  have a := mul_r (show 0 ≤ S (11 + j) 1 ∧ S (11 + j) 1 ≤ 1000 by omega) h2
  have b := mul_r a h3
  unfold heldA
  omega
theorem heldP_r (hq : q < 8) (hn : n ≤ 4) (hI : IC N S) : 0 ≤ heldP S q n ∧ heldP S q n ≤ 12000000000000 := by
  obtain ⟨-, h1, -, -, hpr, -, -, -, -, -, -, h6, -, hRD, hal⟩ := hI
  have a := heldH_r h1 (hpr q hq)
  have b := sumN_r (g := fun j => S 6 j * heldA S j q) (M := 1200000000000) n (fun j hj => by
    have c := mul_r (h6 j (by omega)) (heldA_r (q := q) (hRD j (by omega)).2.1 ((hal j (by omega)).2 q hq) (hal j (by omega)).1)
    omega)
  unfold heldP
  omega
theorem eu_r : ∀ (n : Nat) (a b : Int), 0 ≤ a ∧ a ≤ 4000000000000000000 → 0 ≤ b ∧ b ≤ 4000000000000000000 → 0 ≤ eu n a b ∧ eu n a b ≤ 4000000000000000000 := by
  intro n
  induction n with
  | zero => intro a b ha hb; exact ha
  | succ n ih =>
    intro a b ha hb
    show 0 ≤ (if b = 0 then a else eu n b (a.tmod b)) ∧ (if b = 0 then a else eu n b (a.tmod b)) ≤ 4000000000000000000
    split
    · exact ha
    · have m1 := Int.tmod_nonneg b ha.1
      have m2 := Int.tmod_lt_of_pos a (show 0 < b by omega)
      exact ih b _ hb ⟨m1, by omega⟩
theorem asked_r {a b A : Int} (ha : 0 ≤ a ∧ a ≤ A) (hb : 0 ≤ b ∧ b ≤ 100000) : 0 ≤ 1000 * a * b ∧ 1000 * a * b ≤ 1000 * A * 100000 := mul_r (mul_r (A := 1000) (B := A) ⟨by decide, Int.le_refl 1000⟩ ha) hb
theorem gainA_r {j : Nat} (h1 : 1 ≤ S (11 + j) 1 ∧ S (11 + j) 1 ≤ 1000) (h2 : 0 ≤ S (15 + j) q ∧ S (15 + j) q ≤ 100000) (h3 : 0 ≤ S (11 + j) 3 ∧ S (11 + j) 3 ≤ 1000) (h4 : 0 ≤ S 3 q ∧ S 3 q ≤ 100000) : -100000000000 ≤ gainA S j q ∧ gainA S j q ≤ 100000000000 := by
  have a := heldA_r (q := q) h1 h2 h3
  have b := asked_r (A := 1000) (show 0 ≤ S (11 + j) 1 ∧ S (11 + j) 1 ≤ 1000 by omega) h4
  unfold gainA
  split <;> omega
theorem surH_r (h1 : 1 ≤ S 1 0 ∧ S 1 0 ≤ 65536) (h2 : 0 ≤ S 2 q ∧ S 2 q ≤ 100000) (h3 : 0 ≤ S 3 q ∧ S 3 q ≤ 100000) : -7000000000000 ≤ surH S q ∧ surH S q ≤ 7000000000000 := by
  have a := heldH_r h1 h2
  have b := asked_r (A := 65536) (show 0 ≤ S 1 0 ∧ S 1 0 ≤ 65536 by omega) h3
  unfold surH
  split <;> omega
theorem gS_at (S : Nat → Nat → Int) (n j m : Nat) (hj : j < n) (hm : m < 8) : gS S n (19 + j) m = gainA (gS S j) j m := by
  induction n with
  | zero => omega
  | succ n ih =>
    show uA (gS S n) (19 + n) 8 (gainA (gS S n) n) (19 + j) m = _
    by_cases h : j = n
    · subst h
      rw [uA_lt hm]
    · rw [uA_ne (by omega)]
      exact ih (by omega)
theorem gainA_gS (S : Nat → Nat → Int) (n j m : Nat) (hj : j < 4) : gainA (gS S n) j m = gainA S j m := by
  unfold gainA heldA
  rw [gS_ne S n (11 + j) (by omega), gS_ne S n (15 + j) (by omega), gS_ne S n 3 (by omega)]
theorem heatS_ne {x : Int} {y : Nat} (h1 : y ≠ 23) (h2 : y ≠ 28) : heatS S x y = S y := by
  unfold heatS
  rw [uA_ne h2, u2_ne h1, u2_ne h1, u2_ne h1]
/-- the search's start -/
theorem begin_ok {x : Int} (hI : IC N S) (hx : 0 ≤ x ∧ x ≤ 100000000) (hn : n ≤ 4) : RD (beginS (u2 S 5 0 0) x n) ∧ RS (beginS (u2 S 5 0 0) x n) ∧ RM (beginS (u2 S 5 0 0) x n) 0 := by
  obtain ⟨-, h1, -, -, hpr, ham, -, -, -, -, -, h6, hRS, hRD, hal⟩ := hI
  obtain ⟨-, -, r3, r4, r9, r8⟩ := hRS
  unfold beginS
  refine ⟨fun j hj => ?_, ⟨Or.inl ?_, ?_, ?_, ?_, ?_, ?_⟩, ?_⟩
  · obtain ⟨d0, d1, d2, d4, dg⟩ := hRD j hj
    have e1 : heatS (gS (u2 (u2 (u2 S 5 0 0) 7 0 0) 7 1 0) n) x (11 + j) = S (11 + j) := by rw [heatS_ne (by omega) (by omega), gS_ne _ _ _ (by omega), u2_ne (by omega), u2_ne (by omega), u2_ne (by omega)]
    rw [e1, heatS_ne (show 19 + j ≠ 23 by omega) (show 19 + j ≠ 28 by omega)]
    refine ⟨d0, d1, d2, d4, fun m hm => ?_⟩
    by_cases hjn : j < n
    · rw [gS_at _ _ _ _ hjn hm, gainA_gS _ _ _ _ hj]
      have e2 : gainA (u2 (u2 (u2 S 5 0 0) 7 0 0) 7 1 0) j m = gainA S j m := by
        unfold gainA heldA
        rw [u2_ne (show 11 + j ≠ 7 by omega), u2_ne (show 11 + j ≠ 7 by omega), u2_ne (show 11 + j ≠ 5 by omega), u2_ne (show 15 + j ≠ 7 by omega), u2_ne (show 15 + j ≠ 7 by omega), u2_ne (show 15 + j ≠ 5 by omega)]
        rfl
      rw [e2]
      exact gainA_r d1 ((hal j hj).2 m hm) (hal j hj).1 (ham m hm)
    · rw [gS_ne _ _ _ (by omega), u2_ne (by omega), u2_ne (by omega), u2_ne (by omega)]
      exact dg m hm
  · rw [heatS_ne (by decide) (by decide), gS_ne _ _ _ (by omega)]; rfl
  · rw [heatS_ne (by decide) (by decide), gS_ne _ _ _ (by omega)]; exact ⟨Int.le_refl 0, show (0 : Int) ≤ 4 by decide⟩
  · rw [heatS_ne (by decide) (by decide), gS_ne _ _ _ (by omega)]; exact r3
  · rw [heatS_ne (by decide) (by decide), gS_ne _ _ _ (by omega)]; exact r4
  · intro j hj
    rw [heatS_ne (by decide) (by decide), gS_ne _ _ _ (by omega)]; exact r9 j hj
  · intro j hj
    rw [heatS_ne (by decide) (by decide), gS_ne _ _ _ (by omega)]; exact r8 j hj
  · refine ⟨⟨Int.le_refl 0, Int.le_refl 0⟩, ⟨Int.le_refl 0, Int.le_refl 0⟩, hx, fun m hm => ?_⟩
    have e1 : heatS (gS (u2 (u2 (u2 S 5 0 0) 7 0 0) 7 1 0) n) x (28 + 0) m = surH (gS (u2 (u2 (u2 S 5 0 0) 7 0 0) 7 1 0) n) m := by unfold heatS; rw [uA_lt hm]
    have e2 : surH (gS (u2 (u2 (u2 S 5 0 0) 7 0 0) 7 1 0) n) m = surH S m := by
      unfold surH heldH
      rw [gS_ne _ _ 1 (by omega), gS_ne _ _ 2 (by omega), gS_ne _ _ 3 (by omega)]
      rfl
    rw [e1, e2]
    have := surH_r h1 (hpr m hm) (ham m hm)
    simp only [Int.natCast_zero, Int.zero_mul, Int.sub_zero, Int.add_zero]
    omega
end BND
end
section
section M7
variable {l : Launch} {D : va_G} {cd : Nat → ClassId} {ad : Nat → Nat} {L : List Nat} {f f0 : Nat → va_E} {S : Nat → Nat → Int}
def trS (S : Nat → Nat → Int) (x : Int) : Nat → Nat → Int := tryS (S 0 4) 4 0 (beginS (u2 S 5 0 0) x (S 0 4).toNat)
def setP (T : Nat → Nat → Int) (k : Nat) : Nat → Nat → Int := u2 (setS T (cS T k) (kS T k) (mS T k) (qS T k) k) 5 0 1
def runS (S : Nat → Nat → Int) (x : Int) : Nat → Nat → Int := if trS S x 7 0 = 0 then trS S x else setP (trS S x) (S 0 4).toNat
def ordL (S : Nat → Nat → Int) (x : Int) : Nat → Nat → Int
  | 0, _ => -1
  | d + 1, n => if 0 < S 6 n ∧ sumN (addP S n) (S 0 4).toNat = x then (n : Int) else ordL S x d (n + 1)
def whP (S : Nat → Nat → Int) : Int := 1000 * (S 1 0 + S 5 2)
def hpl (S : Nat → Nat → Int) (q : Nat) : Int := heldP S q (S 0 4).toNat
def rndP (S : Nat → Nat → Int) (q : Nat) : Int := if 0 < 1000 * (S 1 0 + S 5 2) then Int.tdiv (if Int.tmod (q : Int) 2 = 0 then heldP S q (S 0 4).toNat else heldP S q (S 0 4).toNat + 1000 * (S 1 0 + S 5 2) - 1) (1000 * (S 1 0 + S 5 2)) else 0
theorem heldP_2 {S T : Nat → Nat → Int} {q n : Nat} (h : ∀ x, x ≠ 2 → T x = S x) (h2 : T 2 q = S 2 q) : heldP T q n = heldP S q n := by
  unfold heldP heldH heldA
  rw [h 1 (by decide), h2, h 6 (by decide)]
  congr 1
  exact sumN_congr n (fun j _ => by show S 6 j * (T (11 + j) 1 * T (15 + j) q * T (11 + j) 3) = S 6 j * (S (11 + j) 1 * S (15 + j) q * S (11 + j) 3); rw [h (11 + j) (by omega), h (15 + j) (by omega)])
abbrev rm_P_run : Room := { frames := 17, cells := 1, slots := 6, locals := 486 }
set_option maxHeartbeats 4000000 in
set_option maxRecDepth 100000 in
theorem t_P_run (hst9 : l.stackTraces = false) (G : LO ad L) (N : Nat) (x : Int) (hI : IC N S) (hN : N ≤ 1000) (hx : r32 x) : FX l y_P_run c_P_run 2 (some .int) rm_P_run D cd L (wd cd ad S f0) [.ref (ad 0), iv (x)] (0 ≤ x ∧ x ≤ 100000000) (some (iv (if trS S x 7 0 = 0 then 1 + trS S x 7 1 else 0))) (wd cd ad (runS S x) f0) (fun E => (E = xIAE ∧ (¬ (0 ≤ x ∧ x ≤ 100000000)))) := by
  refine gx_of (by decide) (Nat.le_of_ble_eq_true rfl) ?_
  intro p e s m args below meth c A sz hA hsz C hr hl hnt
  have C : gC p s m args c D CL (TY cd) A c_P_run "AlloyPlans" 2 := C
  change gW _ _ _ _ _ _ _ _ _ _ _ _ _ _ _ _ _ _ _ 0 [(0, .ref (ad 0)), (1, iv (x))] []
  obtain ⟨⟨i0, j0⟩, ⟨i1, j1⟩, ⟨i2, j2⟩, ⟨i3, j3⟩, hpr, ham, i5, ⟨i6, j6⟩, ⟨i7, j7⟩, ⟨i8, j8⟩, ⟨i9, j9⟩, h6, hRS, hRD, hal⟩ := id hI
  have hx1 : -2147483648 ≤ x := hx.1
  have hx2 : x ≤ 2147483647 := hx.2
  refine g_iload_n C d_P_run_0 1 rfl rfl 1 rfl ?_
  refine g_iconst C d_P_run_1 2 rfl ?_
  refine g_ldc C (z := 100000000) d_P_run_2 4 rfl rfl kc_P_110 ?_
  refine fcS1 C (rest := []) d_P_run_4 7 rfl (t_P_isWithin x 0 100000000 (show r32 x from ⟨by omega, by omega⟩) ⟨by decide, by decide⟩ ⟨by decide, by decide⟩) ⟨ml_P_52, sm_P_isWithin, ci_P⟩ w_P_isWithin rfl 3 gy_P_isWithin rfl 0 rfl 0 rfl rfl rfl (Nat.le_of_ble_eq_true rfl) ?_
  refine fxS0 C hA hsz hnt hl (rest := []) d_P_run_7 10 rfl (t_P_requireRange hst9 (bi (0 ≤ x ∧ x ≤ 100000000)) (bi_r _)) ⟨ml_P_56, sm_P_requireRange, ci_P⟩ w_P_requireRange rfl 1 gy_P_requireRange rfl 1 rfl 6 rfl rfl rfl (Nat.le_of_ble_eq_true rfl) (fun E q => ⟨q.2, by have q3 := bi_f q.1; omega⟩) (by decide) (by decide) (fun hk1 => ?_)
  have hk1 : 0 ≤ x ∧ x ≤ 100000000 := bi_t hk1
  refine g_aload_n C d_P_run_10 11 rfl rfl 0 rfl ?_
  refine gt_P_plan C G d_P_run_11 14 rfl fl_P_26 ?_
  refine fcV0 C (rest := []) d_P_run_14 17 rfl (t_N_forget G (S := S)) rfl (G.1 5 (by decide)) (at_N G) ⟨ml_P_63, im_N_forget, se_N_forget, ci_N⟩ w_N_forget rfl 0 gy_N_forget rfl 1 rfl 6 rfl rfl rfl (Nat.le_of_ble_eq_true rfl) ?_
  refine g_aload_n C d_P_run_17 18 rfl rfl 0 rfl ?_
  refine gt_P_search C G d_P_run_18 21 rfl fl_P_33 ?_
  refine g_aload_n C d_P_run_21 22 rfl rfl 0 rfl ?_
  refine gt_P_melt C G d_P_run_22 25 rfl fl_P_12 ?_
  refine g_aload_n C d_P_run_25 26 rfl rfl 0 rfl ?_
  refine gt_P_alloys C G d_P_run_26 29 rfl fl_P_18 ?_
  refine g_aload_n C d_P_run_29 30 rfl rfl 0 rfl ?_
  refine gt_P_kindCount C G d_P_run_30 33 rfl fl_P_37 ?_
  refine g_iload_n C d_P_run_33 34 rfl rfl 1 rfl ?_
  have hb := begin_ok (n := (S 0 4).toNat) hI (show 0 ≤ x ∧ x ≤ 100000000 by omega) (by omega)
  have ht := tryS_ok (S 0 4) 4 0 _ rfl hb.1 hb.2.1 hb.2.2
  refine fcV0 C (rest := []) d_P_run_34 37 rfl (t_S_begin G (S := (u2 S 5 0 0)) (S 0 4) x ⟨by omega, by omega⟩ ⟨by show -2147483648 ≤ S 1 0; omega, by show S 1 0 ≤ 2147483647; omega⟩ (fun m9 h9 => by have := hpr m9 h9; exact ⟨by show -2147483648 ≤ S 2 m9; omega, by show S 2 m9 ≤ 2147483647; omega⟩) (fun m9 h9 => by have := ham m9 h9; exact ⟨by show -2147483648 ≤ S 3 m9; omega, by show S 3 m9 ≤ 2147483647; omega⟩) (fun j9 h9 => by rw [u2_ne (show 11 + j9 ≠ 5 by omega), u2_ne (show 15 + j9 ≠ 5 by omega)]; have a9 := (hRD j9 h9).2.1; have b9 := hal j9 h9; exact ⟨⟨by omega, by omega⟩, ⟨by omega, by omega⟩, fun m9 hm9 => by have c9 := b9.2 m9 hm9; exact ⟨by omega, by omega⟩⟩)) rfl (G.1 7 (by decide)) (at_S G) ⟨ml_P_111, im_S_begin, se_S_begin, ci_S⟩ w_S_begin rfl 4 gy_S_begin rfl 1 rfl 6 rfl rfl rfl (Nat.le_of_ble_eq_true rfl) ?_
  obtain ⟨B, hB⟩ : ∃ B, B = beginS (u2 S 5 0 0) x (S 0 4).toNat := ⟨_, rfl⟩
  have eB : B 0 4 = S 0 4 := by rw [hB]; unfold beginS; rw [heatS_ne (by decide) (by decide), gS_ne _ _ _ (by omega)]; rfl
  rw [← hB] at hb ht
  refine (congrArg (fun z => gW p l e rm_P_run s m args below meth c D CL A 2 (vx_MQ below (gQ D CL L sz (fun r L' g => (0 ≤ x ∧ x ≤ 100000000) ∧ r = (some (iv (if trS S x 7 0 = 0 then 1 + trS S x 7 1 else 0))) ∧ L' = L ∧ g = (wd cd ad (runS S x) f0))) (gQx D CL L (wd cd ad S f0) sz (fun E => (E = xIAE ∧ (¬ (0 ≤ x ∧ x ≤ 100000000))))) args s rm_P_run.cells rm_P_run.slots (gA L sz)) 1 6 L (wd cd ad z f0) 37 [(0, .ref (ad 0)), (1, iv (x))] []) hB).mp ?_
  refine g_aload_n C d_P_run_37 38 rfl rfl 0 rfl ?_
  refine gt_P_search C G d_P_run_38 41 rfl fl_P_33 ?_
  refine g_iconst C d_P_run_41 42 rfl ?_
  refine g_aload_n C d_P_run_42 43 rfl rfl 0 rfl ?_
  refine gt_P_alloys C G d_P_run_43 46 rfl fl_P_18 ?_
  refine g_aload_n C d_P_run_46 47 rfl rfl 0 rfl ?_
  refine gt_P_kindCount C G d_P_run_47 50 rfl fl_P_37 ?_
  refine fcV0 C (rest := []) d_P_run_50 53 rfl (t_S_tryKindsFrom G (B 0 4) 4 0 B rfl ⟨by omega, by omega⟩ hb.1 hb.2.1 hb.2.2) rfl (G.1 7 (by decide)) (at_S G) ⟨ml_P_115, im_S_tryKindsFrom, se_S_tryKindsFrom, ci_S⟩ w_S_tryKindsFrom rfl 3 gy_S_tryKindsFrom rfl 1 rfl 6 rfl rfl rfl (Nat.le_of_ble_eq_true rfl) ?_
  obtain ⟨T, hT⟩ : ∃ T, T = trS S x := ⟨_, rfl⟩
  have hT2 : T = tryS (B 0 4) 4 0 B := by rw [hT, eB, hB]; rfl
  have hF : FR 0 B T := by rw [hT2, eB]; exact ht.1
  have hR : RS T := by rw [hT2, eB]; exact ht.2
  obtain ⟨r0, r1, r3, r4, r9, r8⟩ := hR
  have e0 : T 0 4 = S 0 4 := by rw [hF.1 0 (by decide) (by decide) (by decide) (by decide) (by decide)]; exact eB
  refine (congrArg (fun z => gW p l e rm_P_run s m args below meth c D CL A 2 (vx_MQ below (gQ D CL L sz (fun r L' g => (0 ≤ x ∧ x ≤ 100000000) ∧ r = (some (iv (if trS S x 7 0 = 0 then 1 + trS S x 7 1 else 0))) ∧ L' = L ∧ g = (wd cd ad (runS S x) f0))) (gQx D CL L (wd cd ad S f0) sz (fun E => (E = xIAE ∧ (¬ (0 ≤ x ∧ x ≤ 100000000))))) args s rm_P_run.cells rm_P_run.slots (gA L sz)) 1 6 L (wd cd ad z f0) 53 [(0, .ref (ad 0)), (1, iv (x))] []) hT2).mp ?_
  refine g_aload_n C d_P_run_53 54 rfl rfl 0 rfl ?_
  refine gt_P_search C G d_P_run_54 57 rfl fl_P_33 ?_
  refine gt_S_found C G d_P_run_57 60 rfl fl_P_119 ?_
  refine g_if_ne C d_P_run_60 63 rfl (show r32 (T 7 0) from ⟨by omega, by omega⟩) 73 rfl (fun (w2 : ¬ T 7 0 = 0) => ?_) (fun (w3 : T 7 0 = 0) => ?_)
  · skip
    refine g_aload_n C d_P_run_73 74 rfl rfl 0 rfl ?_
    refine gt_P_plan C G d_P_run_74 77 rfl fl_P_26 ?_
    refine g_aload_n C d_P_run_77 78 rfl rfl 0 rfl ?_
    refine gt_P_search C G d_P_run_78 81 rfl fl_P_33 ?_
    refine gt_S_best C G d_P_run_81 84 rfl fl_P_126 ?_
    refine g_aload_n C d_P_run_84 85 rfl rfl 0 rfl ?_
    refine gt_P_alloys C G d_P_run_85 88 rfl fl_P_18 ?_
    refine g_aload_n C d_P_run_88 89 rfl rfl 0 rfl ?_
    refine gt_P_kindCount C G d_P_run_89 92 rfl fl_P_37 ?_
    refine fcV0 C (rest := []) d_P_run_92 95 rfl (t_N_settle G (S := T) (T 0 4) ⟨by omega, by omega⟩ r8) rfl (G.1 5 (by decide)) (at_N G) ⟨ml_P_129, im_N_settle, se_N_settle, ci_N⟩ w_N_settle rfl 3 gy_N_settle rfl 1 rfl 6 rfl rfl rfl (Nat.le_of_ble_eq_true rfl) ?_
    refine g_iconst C d_P_run_95 96 rfl ?_
    exact gx_ret (g_iret C hA hsz hr hl d_P_run_96 (by decide) (by decide) ⟨by omega, vi_e (by rw [← hT, if_neg (by omega)]), rfl, by rw [show runS S x = setP (trS S x) (S 0 4).toNat from if_neg (by rw [← hT]; omega), ← hT, e0]; rfl⟩)
  · skip
    refine g_iconst C d_P_run_63 64 rfl ?_
    refine g_aload_n C d_P_run_64 65 rfl rfl 0 rfl ?_
    refine gt_P_search C G d_P_run_65 68 rfl fl_P_33 ?_
    refine gt_S_mostMet C G d_P_run_68 71 rfl fl_P_123 ?_
    refine g_iadd C d_P_run_71 72 rfl ?_
    exact gx_ret (g_iret C hA hsz hr hl d_P_run_72 (by decide) (by decide) ⟨by omega, vi_e (by rw [← hT, if_pos (by omega)]), rfl, by rw [show runS S x = trS S x from if_pos (by rw [← hT]; omega), ← hT]⟩)
abbrev rm_P_order : Room := { frames := 7, cells := 2, slots := 12, locals := 102 }
set_option maxHeartbeats 4000000 in
set_option maxRecDepth 100000 in
theorem t_P_order (hst9 : l.stackTraces = false) (G : LO ad L) (N : Nat) (x : Int) (hI : IC N S) (hN : N ≤ 1000) (hx : r32 x) : FX l y_P_order c_P_order 3 (some .int) rm_P_order D cd L (wd cd ad S f0) [.ref (ad 0), iv (x)] (0 ≤ x ∧ ¬ S 5 0 = 0) (some (iv (ordL S x (S 0 4).toNat 0))) (wd cd ad S f0) (fun E => (E = xIOB ∧ (¬ 0 ≤ x)) ∨ (E = xISE ∧ (0 ≤ x ∧ S 5 0 = 0))) := by
  refine gx_of (by decide) (Nat.le_of_ble_eq_true rfl) ?_
  intro p e s m args below meth c A sz hA hsz C hr hl hnt
  have C : gC p s m args c D CL (TY cd) A c_P_order "AlloyPlans" 3 := C
  change gW _ _ _ _ _ _ _ _ _ _ _ _ _ _ _ _ _ _ _ 0 [(0, .ref (ad 0)), (1, iv (x))] []
  obtain ⟨⟨i0, j0⟩, ⟨i1, j1⟩, ⟨i2, j2⟩, ⟨i3, j3⟩, hpr, ham, i5, ⟨i6, j6⟩, ⟨i7, j7⟩, ⟨i8, j8⟩, ⟨i9, j9⟩, h6, hRS, hRD, hal⟩ := id hI
  have hx1 : -2147483648 ≤ x := hx.1
  have hx2 : x ≤ 2147483647 := hx.2
  have hc : ∀ j, j < 4 → 0 ≤ S (11 + j) 4 ∧ S (11 + j) 4 ≤ 1000 := fun j hj => (hRD j hj).2.2.2.1
  have JR : ∀ zj : Int, zj = (bi (0 ≤ x)) → gW p l e rm_P_order s m args below meth c D CL A 3 (vx_MQ below (gQ D CL L sz (fun r L' g => (0 ≤ x ∧ ¬ S 5 0 = 0) ∧ r = (some (iv (ordL S x (S 0 4).toNat 0))) ∧ L' = L ∧ g = (wd cd ad S f0))) (gQx D CL L (wd cd ad S f0) sz (fun E => (E = xIOB ∧ (¬ 0 ≤ x)) ∨ (E = xISE ∧ (0 ≤ x ∧ S 5 0 = 0)))) args s rm_P_order.cells rm_P_order.slots (gA L sz)) 0 0 L (wd cd ad S f0) 9 [(0, .ref (ad 0)), (1, iv (x))] [iv zj] := by
    intro zj hzj
    subst hzj
    refine fxS0 C hA hsz hnt hl (rest := []) d_P_order_9 12 rfl (t_P_requireIndex hst9 (bi (0 ≤ x)) (bi_r _)) ⟨ml_P_66, sm_P_requireIndex, ci_P⟩ w_P_requireIndex rfl 1 gy_P_requireIndex rfl 1 rfl 6 rfl rfl rfl (Nat.le_of_ble_eq_true rfl) (fun E q => Or.inl ⟨q.2, by have q3 := bi_f q.1; omega⟩) (by decide) (by decide) (fun hk1 => ?_)
    have hk1 : 0 ≤ x := bi_t hk1
    refine g_aload_n C d_P_order_12 13 rfl rfl 0 rfl ?_
    refine fxV0 C hA hsz hnt hl (rest := []) d_P_order_13 16 rfl (t_P_requirePlan hst9 G (S := S) (show r32 (S 5 0) from ⟨by omega, by omega⟩)) rfl (G.1 0 (by decide)) (at_P G) ⟨ml_P_133, im_P_requirePlan, se_P_requirePlan, ci_P⟩ w_P_requirePlan rfl 0 gy_P_requirePlan rfl 2 rfl 12 rfl rfl rfl (Nat.le_of_ble_eq_true rfl) (fun E q => Or.inr ⟨q.2, by have q3 := q.1; omega⟩) (by decide) (by decide) (fun hk2 => ?_)
    have hk2 : ¬ S 5 0 = 0 := hk2
    refine g_iconst C d_P_order_16 17 rfl ?_
    refine g_istore_n C d_P_order_17 18 rfl [(2, iv (0)), (0, .ref (ad 0)), (1, iv (x))] rfl (by decide) rfl ?_
    have LP : ∀ (d n : Nat) , n + d = (S 0 4).toNat → ordL S x d n = ordL S x (S 0 4).toNat 0 → gW p l e rm_P_order s m args below meth c D CL A 3 (vx_MQ below (gQ D CL L sz (fun r L' g => (0 ≤ x ∧ ¬ S 5 0 = 0) ∧ r = (some (iv (ordL S x (S 0 4).toNat 0))) ∧ L' = L ∧ g = (wd cd ad S f0))) (gQx D CL L (wd cd ad S f0) sz (fun E => (E = xIOB ∧ (¬ 0 ≤ x)) ∨ (E = xISE ∧ (0 ≤ x ∧ S 5 0 = 0)))) args s rm_P_order.cells rm_P_order.slots (gA L sz)) 2 12 L (wd cd ad S f0) 18 [(2, iv ((n : Int))), (0, .ref (ad 0)), (1, iv (x))] [] := by
      intro d
      induction d with
      | zero =>
        intro n  hn hR
        refine g_iload_n C d_P_order_18 19 rfl rfl 0 rfl ?_
        refine g_aload_n C d_P_order_19 20 rfl rfl 1 rfl ?_
        refine gt_P_kindCount C G d_P_order_20 23 rfl fl_P_37 ?_
        refine g_icmp_ge C d_P_order_23 26 rfl (show r32 ((n : Int)) from ⟨by omega, by omega⟩) (show r32 (S 0 4) from ⟨by omega, by omega⟩) 63 rfl (fun (w3 : S 0 4 ≤ (n : Int)) => ?_) (fun (w3 : ¬ S 0 4 ≤ (n : Int)) => absurd w3 (by omega))
        refine g_iconst C d_P_order_63 64 rfl ?_
        exact gx_ret (g_iret C hA hsz hr hl d_P_order_64 (by decide) (by decide) ⟨by omega, vi_e (by rw [← hR]; rfl), rfl, rfl⟩)
      | succ d ih =>
        intro n  hn hR
        obtain ⟨u6, v6⟩ := h6 n (by omega)
        have hcnt := sumN_r (g := addP S n) (M := 1) (S 0 4).toNat (fun j _ => by rcases bi_01 (j ≠ n ∧ 0 < S 6 j ∧ befA S j n) with q | q <;> unfold addP <;> rw [q] <;> decide)
        refine g_iload_n C d_P_order_18 19 rfl rfl 0 rfl ?_
        refine g_aload_n C d_P_order_19 20 rfl rfl 1 rfl ?_
        refine gt_P_kindCount C G d_P_order_20 23 rfl fl_P_37 ?_
        refine g_icmp_ge C d_P_order_23 26 rfl (show r32 ((n : Int)) from ⟨by omega, by omega⟩) (show r32 (S 0 4) from ⟨by omega, by omega⟩) 63 rfl (fun (w4 : S 0 4 ≤ (n : Int)) => absurd w4 (by omega)) (fun (w4 : ¬ S 0 4 ≤ (n : Int)) => ?_)
        refine g_iload_n C d_P_order_26 27 rfl rfl 0 rfl ?_
        refine g_aload_n C d_P_order_27 28 rfl rfl 1 rfl ?_
        refine gt_P_alloys C G d_P_order_28 31 rfl fl_P_18 ?_
        refine ln_4 C G d_P_order_31 32 rfl ?_
        refine g_icmp_ge C d_P_order_32 35 rfl (show r32 ((n : Int)) from ⟨by omega, by omega⟩) ⟨by decide, by decide⟩ 63 rfl (fun (w5 : 4 ≤ (n : Int)) => absurd w5 (by omega)) (fun (w5 : ¬ 4 ≤ (n : Int)) => ?_)
        refine g_aload_n C d_P_order_35 36 rfl rfl 1 rfl ?_
        refine gt_P_plan C G d_P_order_36 39 rfl fl_P_26 ?_
        refine g_iload_n C d_P_order_39 40 rfl rfl 0 rfl ?_
        refine fcV1 C (rest := []) d_P_order_40 43 rfl (t_N_isTaken G (S := S) n (by omega) (show r32 (S 6 n) from ⟨by omega, by omega⟩)) rfl (G.1 5 (by decide)) (at_N G) ⟨ml_P_145, im_N_isTaken, se_N_isTaken, ci_N⟩ w_N_isTaken rfl 1 gy_N_isTaken rfl 2 rfl 12 rfl rfl rfl (Nat.le_of_ble_eq_true rfl) ?_
        refine g_if_eq C d_P_order_43 46 rfl (bi_r _) 57 rfl (fun (w6 : bi (0 < S 6 n) = 0) => ?_) (fun (w7 : ¬ bi (0 < S 6 n) = 0) => ?_)
        · skip
          have w6 : ¬ (0 < S 6 n) := bi_f w6
          refine g_iinc C d_P_order_57 60 rfl [(2, iv ((n : Int) + 1)), (0, .ref (ad 0)), (1, iv (x))] 0 rfl (by decide) rfl ?_
          refine g_goto C d_P_order_60 18 rfl ?_
          exact ih (n + 1) (by omega) (by rw [← hR]; show _ = if _ then _ else _; rw [if_neg (fun q => by first | exact absurd q.1 (by assumption) | exact absurd q.2 (by assumption))])
        · skip
          have w7 : (0 < S 6 n) := bi_t w7
          refine g_aload_n C d_P_order_46 47 rfl rfl 1 rfl ?_
          refine g_iload_n C d_P_order_47 48 rfl rfl 0 rfl ?_
          refine fcV1 C (rest := []) d_P_order_48 51 rfl (t_P_countAddedBefore G (S := S) n (by omega) ⟨by omega, by omega⟩ h6 hc) rfl (G.1 0 (by decide)) (at_P G) ⟨ml_P_148, im_P_countAddedBefore, se_P_countAddedBefore, ci_P⟩ w_P_countAddedBefore rfl 1 gy_P_countAddedBefore rfl 2 rfl 12 rfl rfl rfl (Nat.le_of_ble_eq_true rfl) ?_
          refine g_iload_n C d_P_order_51 52 rfl rfl 2 rfl ?_
          refine g_icmp_ne C d_P_order_52 55 rfl (show r32 (sumN (addP S n) (S 0 4).toNat) from ⟨by omega, by omega⟩) (show r32 x from ⟨by omega, by omega⟩) 57 rfl (fun (w8 : ¬ sumN (addP S n) (S 0 4).toNat = x) => ?_) (fun (w9 : sumN (addP S n) (S 0 4).toNat = x) => ?_)
          · skip
            refine g_iinc C d_P_order_57 60 rfl [(2, iv ((n : Int) + 1)), (0, .ref (ad 0)), (1, iv (x))] 0 rfl (by decide) rfl ?_
            refine g_goto C d_P_order_60 18 rfl ?_
            exact ih (n + 1) (by omega) (by rw [← hR]; show _ = if _ then _ else _; rw [if_neg (fun q => by first | exact absurd q.1 (by assumption) | exact absurd q.2 (by assumption))])
          · skip
            refine g_iload_n C d_P_order_55 56 rfl rfl 0 rfl ?_
            exact gx_ret (g_iret C hA hsz hr hl d_P_order_56 (by decide) (by decide) ⟨by omega, vi_e (by rw [← hR]; show _ = if _ then _ else _; rw [if_pos ⟨by assumption, by omega⟩]), rfl, rfl⟩)
    exact LP (S 0 4).toNat 0 (by omega) rfl
  refine g_iload_n C d_P_order_0 1 rfl rfl 1 rfl ?_
  refine g_if_lt C d_P_order_1 4 rfl (show r32 x from ⟨by omega, by omega⟩) 8 rfl (fun (w10 : x < 0) => ?_) (fun (w11 : ¬ x < 0) => ?_)
  · skip
    refine g_iconst C d_P_order_8 9 rfl ?_
    exact JR 0 (by first | exact (bi_pos (by omega)).symm | exact (bi_neg (by omega)).symm)
  · skip
    refine g_iconst C d_P_order_4 5 rfl ?_
    refine g_goto C d_P_order_5 9 rfl ?_
    exact JR 1 (by first | exact (bi_pos (by omega)).symm | exact (bi_neg (by omega)).symm)
abbrev rm_P_after : Room := { frames := 7, cells := 2, slots := 12, locals := 102 }
set_option maxHeartbeats 4000000 in
set_option maxRecDepth 100000 in
theorem t_P_after (hst9 : l.stackTraces = false) (G : LO ad L) (N : Nat) (x y z : Int) (hI : IC N S) (hN : N ≤ 1000) (hx : r32 x) (hy : r32 y) (hz : r32 z) : FX l y_P_after c_P_after 8 (some .long) rm_P_after D cd L (wd cd ad S f0) [.ref (ad 0), iv (x), iv (y), iv (z)] (((0 ≤ x ∧ x ≤ 3) ∧ (0 ≤ y ∧ y ≤ 1) ∧ (0 ≤ z ∧ z ≤ 1)) ∧ ¬ S 5 0 = 0) (some (jv (if 0 < eu 200 (heldP S (2 * x.toNat + y.toNat) (S 0 4).toNat) (1000 * (S 1 0 + S 5 2)) then Int.tdiv (if z = 0 then heldP S (2 * x.toNat + y.toNat) (S 0 4).toNat else 1000 * (S 1 0 + S 5 2)) (eu 200 (heldP S (2 * x.toNat + y.toNat) (S 0 4).toNat) (1000 * (S 1 0 + S 5 2))) else 0))) (wd cd ad S f0) (fun E => (E = xIOB ∧ (¬ ((0 ≤ x ∧ x ≤ 3) ∧ (0 ≤ y ∧ y ≤ 1) ∧ (0 ≤ z ∧ z ≤ 1)))) ∨ (E = xISE ∧ (((0 ≤ x ∧ x ≤ 3) ∧ (0 ≤ y ∧ y ≤ 1) ∧ (0 ≤ z ∧ z ≤ 1)) ∧ S 5 0 = 0))) := by
  refine gx_of (by decide) (Nat.le_of_ble_eq_true rfl) ?_
  intro p e s m args below meth c A sz hA hsz C hr hl hnt
  have C : gC p s m args c D CL (TY cd) A c_P_after "AlloyPlans" 8 := C
  change gW _ _ _ _ _ _ _ _ _ _ _ _ _ _ _ _ _ _ _ 0 [(0, .ref (ad 0)), (1, iv (x)), (2, iv (y)), (3, iv (z))] []
  obtain ⟨⟨i0, j0⟩, ⟨i1, j1⟩, ⟨i2, j2⟩, ⟨i3, j3⟩, hpr, ham, i5, ⟨i6, j6⟩, ⟨i7, j7⟩, ⟨i8, j8⟩, ⟨i9, j9⟩, h6, hRS, hRD, hal⟩ := id hI
  have hx1 : -2147483648 ≤ x := hx.1
  have hx2 : x ≤ 2147483647 := hx.2
  have hy1 : -2147483648 ≤ y := hy.1
  have hy2 : y ≤ 2147483647 := hy.2
  have hz1 : -2147483648 ≤ z := hz.1
  have hz2 : z ≤ 2147483647 := hz.2
  have JR : ∀ zj : Int, zj = (bi ((0 ≤ x ∧ x ≤ 3) ∧ (0 ≤ y ∧ y ≤ 1) ∧ (0 ≤ z ∧ z ≤ 1))) → gW p l e rm_P_after s m args below meth c D CL A 8 (vx_MQ below (gQ D CL L sz (fun r L' g => (((0 ≤ x ∧ x ≤ 3) ∧ (0 ≤ y ∧ y ≤ 1) ∧ (0 ≤ z ∧ z ≤ 1)) ∧ ¬ S 5 0 = 0) ∧ r = (some (jv (if 0 < eu 200 (heldP S (2 * x.toNat + y.toNat) (S 0 4).toNat) (1000 * (S 1 0 + S 5 2)) then Int.tdiv (if z = 0 then heldP S (2 * x.toNat + y.toNat) (S 0 4).toNat else 1000 * (S 1 0 + S 5 2)) (eu 200 (heldP S (2 * x.toNat + y.toNat) (S 0 4).toNat) (1000 * (S 1 0 + S 5 2))) else 0))) ∧ L' = L ∧ g = (wd cd ad S f0))) (gQx D CL L (wd cd ad S f0) sz (fun E => (E = xIOB ∧ (¬ ((0 ≤ x ∧ x ≤ 3) ∧ (0 ≤ y ∧ y ≤ 1) ∧ (0 ≤ z ∧ z ≤ 1)))) ∨ (E = xISE ∧ (((0 ≤ x ∧ x ≤ 3) ∧ (0 ≤ y ∧ y ≤ 1) ∧ (0 ≤ z ∧ z ≤ 1)) ∧ S 5 0 = 0)))) args s rm_P_after.cells rm_P_after.slots (gA L sz)) 0 0 L (wd cd ad S f0) 32 [(0, .ref (ad 0)), (1, iv (x)), (2, iv (y)), (3, iv (z))] [iv zj] := by
    intro zj hzj
    subst hzj
    refine fxS0 C hA hsz hnt hl (rest := []) d_P_after_32 35 rfl (t_P_requireIndex hst9 (bi ((0 ≤ x ∧ x ≤ 3) ∧ (0 ≤ y ∧ y ≤ 1) ∧ (0 ≤ z ∧ z ≤ 1))) (bi_r _)) ⟨ml_P_66, sm_P_requireIndex, ci_P⟩ w_P_requireIndex rfl 1 gy_P_requireIndex rfl 1 rfl 6 rfl rfl rfl (Nat.le_of_ble_eq_true rfl) (fun E q => Or.inl ⟨q.2, by have q3 := bi_f q.1; omega⟩) (by decide) (by decide) (fun hk1 => ?_)
    have hk1 : (0 ≤ x ∧ x ≤ 3) ∧ (0 ≤ y ∧ y ≤ 1) ∧ (0 ≤ z ∧ z ≤ 1) := bi_t hk1
    refine g_aload_n C d_P_after_35 36 rfl rfl 0 rfl ?_
    refine fxV0 C hA hsz hnt hl (rest := []) d_P_after_36 39 rfl (t_P_requirePlan hst9 G (S := S) (show r32 (S 5 0) from ⟨by omega, by omega⟩)) rfl (G.1 0 (by decide)) (at_P G) ⟨ml_P_133, im_P_requirePlan, se_P_requirePlan, ci_P⟩ w_P_requirePlan rfl 0 gy_P_requirePlan rfl 2 rfl 12 rfl rfl rfl (Nat.le_of_ble_eq_true rfl) (fun E q => Or.inr ⟨q.2, by have q3 := q.1; omega⟩) (by decide) (by decide) (fun hk2 => ?_)
    have hk2 : ¬ S 5 0 = 0 := hk2
    obtain ⟨k, hk⟩ : ∃ k : Nat, x = (k : Int) := ⟨Int.toNat x, by omega⟩
    subst hk
    obtain ⟨n, hn⟩ : ∃ n : Nat, y = (n : Int) := ⟨Int.toNat y, by omega⟩
    subst hn
    have hh := heldP_r (q := 2 * k + n) (n := (S 0 4).toNat) (by omega) (by omega) hI
    obtain ⟨i4, j4⟩ := hpr (2 * k + n) (by omega)
    have ha : ∀ j, j < 4 → (r32 (S (11 + j) 1) ∧ r32 (S (15 + j) (2 * k + n)) ∧ r32 (S (11 + j) 3)) := fun j9 h9 => by have a9 := (hRD j9 h9).2.1; have b9 := hal j9 h9; have c9 := b9.2 (2 * k + n) (by omega); exact ⟨⟨by omega, by omega⟩, ⟨by omega, by omega⟩, ⟨by omega, by omega⟩⟩
    refine g_aload_n C d_P_after_39 40 rfl rfl 0 rfl ?_
    refine g_iconst C d_P_after_40 41 rfl ?_
    refine g_iload_n C d_P_after_41 42 rfl rfl 1 rfl ?_
    refine g_imul C d_P_after_42 43 rfl ?_
    refine g_iload_n C d_P_after_43 44 rfl rfl 2 rfl ?_
    refine g_iadd C d_P_after_44 45 rfl ?_
    refine fcV1 C (rest := []) d_P_after_45 48 rfl (t_P_heldByPlan G (S := S) (2 * k + n) (by omega) ⟨by omega, by omega⟩ ⟨by omega, by omega⟩ (show r32 (S 2 (2 * k + n)) from ⟨by omega, by omega⟩) h6 ha) rfl (G.1 0 (by decide)) (at_P G) ⟨ml_P_152, im_P_heldByPlan, se_P_heldByPlan, ci_P⟩ w_P_heldByPlan rfl 1 gy_P_heldByPlan rfl 2 rfl 12 rfl rfl rfl (Nat.le_of_ble_eq_true rfl) ?_
    refine g_lstore C d_P_after_48 50 rfl [(4, jv (heldP S (2 * k + n) (S 0 4).toNat)), (0, .ref (ad 0)), (1, iv ((k : Int))), (2, iv ((n : Int))), (3, iv (z))] (by decide) rfl ?_
    refine g_aload_n C d_P_after_50 51 rfl rfl 1 rfl ?_
    refine fcV1 C (rest := []) d_P_after_51 54 rfl (t_P_wholeByPlan G (S := S) ⟨by omega, by omega⟩ ⟨by omega, by omega⟩) rfl (G.1 0 (by decide)) (at_P G) ⟨ml_P_156, im_P_wholeByPlan, se_P_wholeByPlan, ci_P⟩ w_P_wholeByPlan rfl 0 gy_P_wholeByPlan rfl 2 rfl 12 rfl rfl rfl (Nat.le_of_ble_eq_true rfl) ?_
    refine g_lstore C d_P_after_54 56 rfl [(6, jv (1000 * (S 1 0 + S 5 2))), (4, jv (heldP S (2 * k + n) (S 0 4).toNat)), (0, .ref (ad 0)), (1, iv ((k : Int))), (2, iv ((n : Int))), (3, iv (z))] (by decide) rfl ?_
    have hE : 0 ≤ (if z = 0 then heldP S (2 * k + n) (S 0 4).toNat else 1000 * (S 1 0 + S 5 2)) ∧ (if z = 0 then heldP S (2 * k + n) (S 0 4).toNat else 1000 * (S 1 0 + S 5 2)) ≤ 2000000000000000 := by split <;> omega
    obtain ⟨u5, v5⟩ := hE
    have JJ : ∀ zj : Int, zj = (if z = 0 then heldP S (2 * k + n) (S 0 4).toNat else 1000 * (S 1 0 + S 5 2)) → gW p l e rm_P_after s m args below meth c D CL A 8 (vx_MQ below (gQ D CL L sz (fun r L' g => (((0 ≤ (k : Int) ∧ (k : Int) ≤ 3) ∧ (0 ≤ (n : Int) ∧ (n : Int) ≤ 1) ∧ (0 ≤ z ∧ z ≤ 1)) ∧ ¬ S 5 0 = 0) ∧ r = (some (jv (if 0 < eu 200 (heldP S (2 * (k : Int).toNat + (n : Int).toNat) (S 0 4).toNat) (1000 * (S 1 0 + S 5 2)) then Int.tdiv (if z = 0 then heldP S (2 * (k : Int).toNat + (n : Int).toNat) (S 0 4).toNat else 1000 * (S 1 0 + S 5 2)) (eu 200 (heldP S (2 * (k : Int).toNat + (n : Int).toNat) (S 0 4).toNat) (1000 * (S 1 0 + S 5 2))) else 0))) ∧ L' = L ∧ g = (wd cd ad S f0))) (gQx D CL L (wd cd ad S f0) sz (fun E => (E = xIOB ∧ (¬ ((0 ≤ (k : Int) ∧ (k : Int) ≤ 3) ∧ (0 ≤ (n : Int) ∧ (n : Int) ≤ 1) ∧ (0 ≤ z ∧ z ≤ 1)))) ∨ (E = xISE ∧ (((0 ≤ (k : Int) ∧ (k : Int) ≤ 3) ∧ (0 ≤ (n : Int) ∧ (n : Int) ≤ 1) ∧ (0 ≤ z ∧ z ≤ 1)) ∧ S 5 0 = 0)))) args s rm_P_after.cells rm_P_after.slots (gA L sz)) 2 12 L (wd cd ad S f0) 67 [(6, jv (1000 * (S 1 0 + S 5 2))), (4, jv (heldP S (2 * k + n) (S 0 4).toNat)), (0, .ref (ad 0)), (1, iv ((k : Int))), (2, iv ((n : Int))), (3, iv (z))] [jv zj] := by
      intro zj hzj
      subst hzj
      refine g_lload C d_P_after_67 69 rfl 1 rfl ?_
      refine g_lload C d_P_after_69 71 rfl 0 rfl ?_
      refine fcS1 C (rest := [jv (if z = 0 then heldP S (2 * k + n) (S 0 4).toNat else 1000 * (S 1 0 + S 5 2))]) d_P_after_71 74 rfl (t_P_commonDivisor (heldP S (2 * k + n) (S 0 4).toNat) (1000 * (S 1 0 + S 5 2)) ⟨by omega, by omega⟩ ⟨by omega, by omega⟩) ⟨ml_P_160, sm_P_commonDivisor, ci_P⟩ w_P_commonDivisor rfl 2 gy_P_commonDivisor rfl 2 rfl 12 rfl rfl rfl (Nat.le_of_ble_eq_true rfl) ?_
      have heu := eu_r 200 (heldP S (2 * k + n) (S 0 4).toNat) (1000 * (S 1 0 + S 5 2)) ⟨by omega, by omega⟩ ⟨by omega, by omega⟩
      refine fcS1 C (rest := []) d_P_after_74 77 rfl (t_P_quotient (if z = 0 then heldP S (2 * k + n) (S 0 4).toNat else 1000 * (S 1 0 + S 5 2)) (eu 200 (heldP S (2 * k + n) (S 0 4).toNat) (1000 * (S 1 0 + S 5 2))) (show r64 (if z = 0 then heldP S (2 * k + n) (S 0 4).toNat else 1000 * (S 1 0 + S 5 2)) from ⟨by omega, by omega⟩) (show r64 (eu 200 (heldP S (2 * k + n) (S 0 4).toNat) (1000 * (S 1 0 + S 5 2))) from ⟨by omega, by omega⟩)) ⟨ml_P_164, sm_P_quotient, ci_P⟩ w_P_quotient rfl 2 gy_P_quotient rfl 2 rfl 12 rfl rfl rfl (Nat.le_of_ble_eq_true rfl) ?_
      exact gx_ret (g_lret C hA hsz hr hl d_P_after_77 (by decide) (by decide) ⟨by omega, rfl, rfl, rfl⟩)
    refine g_iload_n C d_P_after_56 57 rfl rfl 5 rfl ?_
    refine g_if_ne C d_P_after_57 60 rfl (show r32 z from ⟨by omega, by omega⟩) 65 rfl (fun (w3 : ¬ z = 0) => ?_) (fun (w4 : z = 0) => ?_)
    · skip
      refine g_lload C d_P_after_65 67 rfl 0 rfl ?_
      exact JJ (1000 * (S 1 0 + S 5 2)) (by first | rw [if_pos (by omega)] | rw [if_neg (by omega)])
    · skip
      refine g_lload C d_P_after_60 62 rfl 1 rfl ?_
      refine g_goto C d_P_after_62 67 rfl ?_
      exact JJ (heldP S (2 * k + n) (S 0 4).toNat) (by first | rw [if_pos (by omega)] | rw [if_neg (by omega)])
  refine g_iload_n C d_P_after_0 1 rfl rfl 1 rfl ?_
  refine g_iconst C d_P_after_1 2 rfl ?_
  refine g_iconst C d_P_after_2 3 rfl ?_
  refine fcS1 C (rest := []) d_P_after_3 6 rfl (t_P_isWithin x 0 3 (show r32 x from ⟨by omega, by omega⟩) ⟨by decide, by decide⟩ ⟨by decide, by decide⟩) ⟨ml_P_52, sm_P_isWithin, ci_P⟩ w_P_isWithin rfl 3 gy_P_isWithin rfl 0 rfl 0 rfl rfl rfl (Nat.le_of_ble_eq_true rfl) ?_
  refine g_if_eq C d_P_after_6 9 rfl (bi_r _) 31 rfl (fun (w5 : bi (0 ≤ x ∧ x ≤ 3) = 0) => ?_) (fun (w6 : ¬ bi (0 ≤ x ∧ x ≤ 3) = 0) => ?_)
  · skip
    have w5 : ¬ (0 ≤ x ∧ x ≤ 3) := bi_f w5
    refine g_iconst C d_P_after_31 32 rfl ?_
    exact JR 0 (by first | exact (bi_pos (by omega)).symm | exact (bi_neg (by omega)).symm)
  · skip
    have w6 : (0 ≤ x ∧ x ≤ 3) := bi_t w6
    refine g_iload_n C d_P_after_9 10 rfl rfl 2 rfl ?_
    refine g_iconst C d_P_after_10 11 rfl ?_
    refine g_iconst C d_P_after_11 12 rfl ?_
    refine fcS1 C (rest := []) d_P_after_12 15 rfl (t_P_isWithin y 0 1 (show r32 y from ⟨by omega, by omega⟩) ⟨by decide, by decide⟩ ⟨by decide, by decide⟩) ⟨ml_P_52, sm_P_isWithin, ci_P⟩ w_P_isWithin rfl 3 gy_P_isWithin rfl 0 rfl 0 rfl rfl rfl (Nat.le_of_ble_eq_true rfl) ?_
    refine g_if_eq C d_P_after_15 18 rfl (bi_r _) 31 rfl (fun (w7 : bi (0 ≤ y ∧ y ≤ 1) = 0) => ?_) (fun (w8 : ¬ bi (0 ≤ y ∧ y ≤ 1) = 0) => ?_)
    · skip
      have w7 : ¬ (0 ≤ y ∧ y ≤ 1) := bi_f w7
      refine g_iconst C d_P_after_31 32 rfl ?_
      exact JR 0 (by first | exact (bi_pos (by omega)).symm | exact (bi_neg (by omega)).symm)
    · skip
      have w8 : (0 ≤ y ∧ y ≤ 1) := bi_t w8
      refine g_iload_n C d_P_after_18 19 rfl rfl 3 rfl ?_
      refine g_iconst C d_P_after_19 20 rfl ?_
      refine g_iconst C d_P_after_20 21 rfl ?_
      refine fcS1 C (rest := []) d_P_after_21 24 rfl (t_P_isWithin z 0 1 (show r32 z from ⟨by omega, by omega⟩) ⟨by decide, by decide⟩ ⟨by decide, by decide⟩) ⟨ml_P_52, sm_P_isWithin, ci_P⟩ w_P_isWithin rfl 3 gy_P_isWithin rfl 0 rfl 0 rfl rfl rfl (Nat.le_of_ble_eq_true rfl) ?_
      refine g_if_eq C d_P_after_24 27 rfl (bi_r _) 31 rfl (fun (w9 : bi (0 ≤ z ∧ z ≤ 1) = 0) => ?_) (fun (w10 : ¬ bi (0 ≤ z ∧ z ≤ 1) = 0) => ?_)
      · skip
        have w9 : ¬ (0 ≤ z ∧ z ≤ 1) := bi_f w9
        refine g_iconst C d_P_after_31 32 rfl ?_
        exact JR 0 (by first | exact (bi_pos (by omega)).symm | exact (bi_neg (by omega)).symm)
      · skip
        have w10 : (0 ≤ z ∧ z ≤ 1) := bi_t w10
        refine g_iconst C d_P_after_27 28 rfl ?_
        refine g_goto C d_P_after_28 32 rfl ?_
        exact JR 1 (by first | exact (bi_pos (by omega)).symm | exact (bi_neg (by omega)).symm)
abbrev rm_P_add : Room := { frames := 7, cells := 2, slots := 12, locals := 102 }
set_option maxHeartbeats 4000000 in
set_option maxRecDepth 100000 in
theorem t_P_add (hst9 : l.stackTraces = false) (G : LO ad L) (N : Nat)  (hI : IC N S) (hN : N ≤ 1000)  : FX l y_P_add c_P_add 2 (some .int) rm_P_add D cd L (wd cd ad S f0) [.ref (ad 0)] (¬ S 5 0 = 0 ∧ S 1 0 + S 5 2 ≤ 65536) (some (iv (S 1 1 + 1 - 1))) (wd cd ad (u2 (u2 (u2 (u2 (uA S 2 8 (rndP S)) 1 0 (S 1 0 + S 5 2)) 1 2 (S 1 2 + S 5 1)) 1 1 (S 1 1 + 1)) 5 0 0) f0) (fun E => (E = xISE ∧ (S 5 0 = 0)) ∨ (E = xUOE ∧ (¬ S 5 0 = 0 ∧ ¬ S 1 0 + S 5 2 ≤ 65536))) := by
  refine gx_of (by decide) (Nat.le_of_ble_eq_true rfl) ?_
  intro p e s m args below meth c A sz hA hsz C hr hl hnt
  have C : gC p s m args c D CL (TY cd) A c_P_add "AlloyPlans" 2 := C
  change gW _ _ _ _ _ _ _ _ _ _ _ _ _ _ _ _ _ _ _ 0 [(0, .ref (ad 0))] []
  obtain ⟨⟨i0, j0⟩, ⟨i1, j1⟩, ⟨i2, j2⟩, ⟨i3, j3⟩, hpr, ham, i5, ⟨i6, j6⟩, ⟨i7, j7⟩, ⟨i8, j8⟩, ⟨i9, j9⟩, h6, hRS, hRD, hal⟩ := id hI
  refine g_aload_n C d_P_add_0 1 rfl rfl 0 rfl ?_
  refine fxV0 C hA hsz hnt hl (rest := []) d_P_add_1 4 rfl (t_P_requirePlan hst9 G (S := S) (show r32 (S 5 0) from ⟨by omega, by omega⟩)) rfl (G.1 0 (by decide)) (at_P G) ⟨ml_P_133, im_P_requirePlan, se_P_requirePlan, ci_P⟩ w_P_requirePlan rfl 0 gy_P_requirePlan rfl 1 rfl 6 rfl rfl rfl (Nat.le_of_ble_eq_true rfl) (fun E q => Or.inl ⟨q.2, by have q3 := q.1; omega⟩) (by decide) (by decide) (fun hk1 => ?_)
  have hk1 : ¬ S 5 0 = 0 := hk1
  refine g_aload_n C d_P_add_4 5 rfl rfl 0 rfl ?_
  refine gt_P_melt C G d_P_add_5 8 rfl fl_P_12 ?_
  refine gt_E_kilos C G d_P_add_8 11 rfl fl_P_60 ?_
  refine g_aload_n C d_P_add_11 12 rfl rfl 0 rfl ?_
  refine gt_P_plan C G d_P_add_12 15 rfl fl_P_26 ?_
  refine gt_N_kilos C G d_P_add_15 18 rfl fl_P_140 ?_
  refine g_iadd C d_P_add_18 19 rfl ?_
  refine g_ldc C (z := 65536) d_P_add_19 21 rfl rfl kc_P_51 ?_
  refine g_icmp_le C d_P_add_21 24 rfl (show r32 ((S 1 0) + (S 5 2)) from ⟨by omega, by omega⟩) ⟨by decide, by decide⟩ 34 rfl (fun (w2 : (S 1 0) + (S 5 2) ≤ 65536) => ?_) (fun (w3 : ¬ (S 1 0) + (S 5 2) ≤ 65536) => ?_)
  · skip
    refine g_iconst C d_P_add_34 35 rfl ?_
    refine g_istore_n C d_P_add_35 36 rfl [(1, iv (0)), (0, .ref (ad 0))] rfl (by decide) rfl ?_
    have LP : ∀ (d n : Nat) (T : Nat → Nat → Int), n + d = 8 → T = uA S 2 n (rndP S) → gW p l e rm_P_add s m args below meth c D CL A 2 (vx_MQ below (gQ D CL L sz (fun r L' g => (¬ S 5 0 = 0 ∧ S 1 0 + S 5 2 ≤ 65536) ∧ r = (some (iv (S 1 1 + 1 - 1))) ∧ L' = L ∧ g = (wd cd ad (u2 (u2 (u2 (u2 (uA S 2 8 (rndP S)) 1 0 (S 1 0 + S 5 2)) 1 2 (S 1 2 + S 5 1)) 1 1 (S 1 1 + 1)) 5 0 0) f0))) (gQx D CL L (wd cd ad S f0) sz (fun E => (E = xISE ∧ (S 5 0 = 0)) ∨ (E = xUOE ∧ (¬ S 5 0 = 0 ∧ ¬ S 1 0 + S 5 2 ≤ 65536)))) args s rm_P_add.cells rm_P_add.slots (gA L sz)) 1 6 L (wd cd ad T f0) 36 [(1, iv ((n : Int))), (0, .ref (ad 0))] [] := by
      intro d
      induction d with
      | zero =>
        intro n T hn hT
        have ne2 : ∀ x, x ≠ 2 → T x = S x := fun x hx => by rw [hT]; exact uA_ne hx
        have e04 : T 0 4 = S 0 4 := by rw [ne2 0 (by decide)]
        have e10 : T 1 0 = S 1 0 := by rw [ne2 1 (by decide)]
        have e52 : T 5 2 = S 5 2 := by rw [ne2 5 (by decide)]
        have e51 : T 5 1 = S 5 1 := by rw [ne2 5 (by decide)]
        have e12 : T 1 2 = S 1 2 := by rw [ne2 1 (by decide)]
        have e11 : T 1 1 = S 1 1 := by rw [ne2 1 (by decide)]
        refine g_iload_n C d_P_add_36 37 rfl rfl 0 rfl ?_
        refine g_aload_n C d_P_add_37 38 rfl rfl 1 rfl ?_
        refine gt_P_melt C G d_P_add_38 41 rfl fl_P_12 ?_
        refine gt_E_presentEnds C G d_P_add_41 44 rfl fl_P_73 ?_
        refine ln_2 C G d_P_add_44 45 rfl ?_
        refine g_icmp_ge C d_P_add_45 48 rfl (show r32 ((n : Int)) from ⟨by omega, by omega⟩) ⟨by decide, by decide⟩ 68 rfl (fun (w4 : 8 ≤ (n : Int)) => ?_) (fun (w4 : ¬ 8 ≤ (n : Int)) => absurd w4 (by omega))
        refine g_aload_n C d_P_add_68 69 rfl rfl 1 rfl ?_
        refine gt_P_melt C G d_P_add_69 72 rfl fl_P_12 ?_
        refine g_dup C d_P_add_72 73 rfl rfl ?_
        refine gt_E_kilos C G d_P_add_73 76 rfl fl_P_60 ?_
        refine g_aload_n C d_P_add_76 77 rfl rfl 1 rfl ?_
        refine gt_P_plan C G d_P_add_77 80 rfl fl_P_26 ?_
        refine gt_N_kilos C G d_P_add_80 83 rfl fl_P_140 ?_
        refine g_iadd C d_P_add_83 84 rfl ?_
        refine pt_E_kilos C G (z := (T 1 0) + (T 5 2)) d_P_add_84 87 rfl fl_P_60 ?_
        refine g_aload_n C d_P_add_87 88 rfl rfl 1 rfl ?_
        refine gt_P_melt C G d_P_add_88 91 rfl fl_P_12 ?_
        refine g_dup C d_P_add_91 92 rfl rfl ?_
        refine gt_E_cents C G d_P_add_92 95 rfl fl_P_172 ?_
        refine g_aload_n C d_P_add_95 96 rfl rfl 1 rfl ?_
        refine gt_P_plan C G d_P_add_96 99 rfl fl_P_26 ?_
        refine gt_N_cents C G d_P_add_99 102 rfl fl_P_139 ?_
        refine g_i2l C d_P_add_102 103 rfl (show r32 (T 5 1) from ⟨by omega, by omega⟩) ?_
        refine g_ladd C d_P_add_103 104 rfl ?_
        refine pt_E_cents C G (z := (T 1 2) + (T 5 1)) d_P_add_104 107 rfl fl_P_172 ?_
        refine g_aload_n C d_P_add_107 108 rfl rfl 1 rfl ?_
        refine gt_P_melt C G d_P_add_108 111 rfl fl_P_12 ?_
        refine g_dup C d_P_add_111 112 rfl rfl ?_
        refine gt_E_additions C G d_P_add_112 115 rfl fl_P_41 ?_
        refine g_iconst C d_P_add_115 116 rfl ?_
        refine g_iadd C d_P_add_116 117 rfl ?_
        refine pt_E_additions C G (z := (T 1 1) + 1) d_P_add_117 120 rfl fl_P_41 ?_
        refine g_aload_n C d_P_add_120 121 rfl rfl 1 rfl ?_
        refine gt_P_plan C G d_P_add_121 124 rfl fl_P_26 ?_
        refine fcV0 C (rest := []) d_P_add_124 127 rfl (t_N_forget G (S := (u2 (u2 (u2 T 1 0 ((T 1 0) + (T 5 2))) 1 2 ((T 1 2) + (T 5 1))) 1 1 ((T 1 1) + 1)))) rfl (G.1 5 (by decide)) (at_N G) ⟨ml_P_63, im_N_forget, se_N_forget, ci_N⟩ w_N_forget rfl 0 gy_N_forget rfl 1 rfl 6 rfl rfl rfl (Nat.le_of_ble_eq_true rfl) ?_
        refine g_aload_n C d_P_add_127 128 rfl rfl 1 rfl ?_
        refine gt_P_melt C G d_P_add_128 131 rfl fl_P_12 ?_
        refine gt_E_additions C G d_P_add_131 134 rfl fl_P_41 ?_
        refine g_iconst C d_P_add_134 135 rfl ?_
        refine g_isub C d_P_add_135 136 rfl ?_
        exact gx_ret (g_iret C hA hsz hr hl d_P_add_136 (by decide) (by decide) ⟨by omega, vi_e (show T 1 1 + 1 - 1 = S 1 1 + 1 - 1 by omega), rfl, by show wd cd ad (u2 (u2 (u2 (u2 T 1 0 (T 1 0 + T 5 2)) 1 2 (T 1 2 + T 5 1)) 1 1 (T 1 1 + 1)) 5 0 0) f0 = _; rw [e10, e52, e12, e51, e11, hT, show n = 8 by omega]⟩)
      | succ d ih =>
        intro n T hn hT
        have ne2 : ∀ x, x ≠ 2 → T x = S x := fun x hx => by rw [hT]; exact uA_ne hx
        have e04 : T 0 4 = S 0 4 := by rw [ne2 0 (by decide)]
        have e10 : T 1 0 = S 1 0 := by rw [ne2 1 (by decide)]
        have e52 : T 5 2 = S 5 2 := by rw [ne2 5 (by decide)]
        have e2n : T 2 n = S 2 n := by rw [hT]; exact uA_ge (Nat.le_refl n)
        have ehp : heldP T n (T 0 4).toNat = heldP S n (S 0 4).toNat := by rw [e04]; exact heldP_2 ne2 e2n
        have hh := heldP_r (q := n) (n := (S 0 4).toNat) (by omega) (by omega) hI
        obtain ⟨i4, j4⟩ := hpr n (by omega)
        have g6 : ∀ j, j < 4 → 0 ≤ T 6 j ∧ T 6 j ≤ 12 := fun j hj => by rw [ne2 6 (by decide)]; exact h6 j hj
        have ga : ∀ j, j < 4 → (r32 (T (11 + j) 1) ∧ r32 (T (15 + j) n) ∧ r32 (T (11 + j) 3)) := fun j9 h9 => by rw [ne2 (11 + j9) (by omega), ne2 (15 + j9) (by omega)]; have a9 := (hRD j9 h9).2.1; have b9 := hal j9 h9; have c9 := b9.2 n (by omega); exact ⟨⟨by omega, by omega⟩, ⟨by omega, by omega⟩, ⟨by omega, by omega⟩⟩
        refine g_iload_n C d_P_add_36 37 rfl rfl 0 rfl ?_
        refine g_aload_n C d_P_add_37 38 rfl rfl 1 rfl ?_
        refine gt_P_melt C G d_P_add_38 41 rfl fl_P_12 ?_
        refine gt_E_presentEnds C G d_P_add_41 44 rfl fl_P_73 ?_
        refine ln_2 C G d_P_add_44 45 rfl ?_
        refine g_icmp_ge C d_P_add_45 48 rfl (show r32 ((n : Int)) from ⟨by omega, by omega⟩) ⟨by decide, by decide⟩ 68 rfl (fun (w5 : 8 ≤ (n : Int)) => absurd w5 (by omega)) (fun (w5 : ¬ 8 ≤ (n : Int)) => ?_)
        refine g_aload_n C d_P_add_48 49 rfl rfl 1 rfl ?_
        refine gt_P_melt C G d_P_add_49 52 rfl fl_P_12 ?_
        refine gt_E_presentEnds C G d_P_add_52 55 rfl fl_P_73 ?_
        refine g_iload_n C d_P_add_55 56 rfl rfl 0 rfl ?_
        refine g_aload_n C d_P_add_56 57 rfl rfl 1 rfl ?_
        refine g_iload_n C d_P_add_57 58 rfl rfl 0 rfl ?_
        refine fcV1 C (rest := [iv ((n : Int)), .ref (ad 2)]) d_P_add_58 61 rfl (t_P_roundedByPlan G (S := T) n (by omega) ⟨by omega, by omega⟩ ⟨by omega, by omega⟩ ⟨by omega, by omega⟩ ⟨by omega, by omega⟩ ⟨by omega, by omega⟩ g6 ga) rfl (G.1 0 (by decide)) (at_P G) ⟨ml_P_169, im_P_roundedByPlan, se_P_roundedByPlan, ci_P⟩ w_P_roundedByPlan rfl 1 gy_P_roundedByPlan rfl 1 rfl 6 rfl rfl rfl (Nat.le_of_ble_eq_true rfl) ?_
        refine st_2 C G (x := rndP T n) d_P_add_61 62 rfl n (by omega) rfl ?_
        refine g_iinc C d_P_add_62 65 rfl [(1, iv ((n : Int) + 1)), (0, .ref (ad 0))] 0 rfl (by decide) rfl ?_
        refine g_goto C d_P_add_65 36 rfl ?_
        refine ih (n + 1) _ (by omega) ?_
        rw [← uA_s, ← hT]
        have er : rndP T n = rndP S n := by unfold rndP; rw [ehp, e10, e52]
        rw [← er]
    exact LP 8 0 _ rfl (uA_0 _ _ _).symm
  · skip
    exact gx_throw C hA hsz hnt hl hst9 (cls := xUOE) (names := EXN) (by decide +kernel) (by decide +kernel) kl_P_85 ci_UnsupportedOperationException (gN_n_s167 C.2.1.2.1) (hat_89 C.1.2.2.2.2 C.2.1.2.1) hgd_89 d_P_add_24 d_P_add_27 d_P_add_28 d_P_add_30 d_P_add_33 (by decide) (by decide) (by decide) (by decide) (by decide) (by decide) (Or.inr ⟨rfl, by omega⟩)
end M7
end
