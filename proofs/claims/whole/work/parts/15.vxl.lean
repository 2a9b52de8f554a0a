section GX
variable {p : Program} {l : Launch} {e : Env} {R : Room} {s : State} {m : MethodId} {args : Array Value} {below : List Frame} {meth : Method} {c : Code} {D : va_G} {cl : List vw_C} {A : Nat → Prop} {nL : Nat} {Q : State → Prop} {cells slots : Nat} {L : List Nat} {f : Nat → va_E} {pc : Nat} {lv : List (Nat × Value)} {st : List Value} {cc : ByteArray} {own : String} {tys : List (ClassId × FieldType)}
variable {H : Heap} {locs : List Loc} {ls : Array Slot} {mc ms sz : Nat} {a9 : Array Value} {st0 rest As : List Value}
variable {y : MethodName} {b : ByteArray} {maxL : Nat} {ret : Option FieldType} {rm : Room} {post : Option Value → List Nat → (Nat → va_E) → Prop} {px px0 : String → Prop}
/-- thrown: the world is as it was -/
def gQx (D : va_G) (cl : List vw_C) (L : List Nat) (f : Nat → va_E) (sz : Nat) (px : String → Prop) : String → State → State → Prop := fun E st t => px E ∧ va_P D cl (va_pl L f) t.heap ∧ va_F (gA L sz) st t
def gXM (l : Launch) (y : MethodName) (b : ByteArray) (maxL : Nat) (ret : Option FieldType) (rm : Room) (D : va_G) (cl : List vw_C) (tys : List (ClassId × FieldType)) (L : List Nat) (f : Nat → va_E) (av : List Value) (post : Option Value → List Nat → (Nat → va_E) → Prop) (px : String → Prop) : Prop :=
  ∀ sz : Nat, vx_Met l y (Cond.code y b maxL ret :: TB) rm (va_Pc av (gPre D cl tys L f sz)) (gQ D cl L sz post) (gQx D cl L f sz px) rm.cells rm.slots (gA L sz)
theorem w_callx (C : gC p s m args c D cl tys A cc own nL) (hr : vx_Run p l e R s m args below meth c H locs cells slots mc ms (F0 m pc ls st0) rest (gQ D cl L H.size post a9) (gQx D cl L f H.size px) (gA L H.size)) (h2 : va_D A (va_pl L f)) (h3 : va_S A s.heap H locs)
    (kk : ∀ (r : Option Value) (L' : List Nat) (f' : Nat → va_E) (H1 : Heap) (locs1 : List Loc), post r L' f' → va_P D cl (va_pl L' f') H1 → va_D A (va_pl L' f') → va_S A s.heap H1 locs1 → W p l e R s m args below meth c H1 locs1 (cells + mc) (slots + ms) Q (F0 m (pc + 3) ls (r.toList ++ rest)))
    (kx : ∀ (E : String) (ce : Cell) (q9 : Addr) (H1 : Heap) (locs1 : List Loc), px E → va_P D cl (va_pl L f) H1 → va_D A (va_pl L f) → va_S A s.heap H1 locs1 → H1[q9]? = some ce → ce.vm = .none → s.vm.findClass E = some ce.cls → vx_W p l e R s m args below meth c H1 locs1 (cells + mc) (slots + ms) Q (F0 m pc ls rest) q9) : W p l e R s m args below meth c H locs cells slots Q (F0 m pc ls st0) := by
  intro T hT X
  have hs := gA_sub C.2.2 h2 h3
  rcases hr T hT X with ⟨v, st₀, t, T', L9, h0, X', hL, e1, e2, ⟨⟨r, L', f', hv, hp, hb, hd⟩, hz, hk⟩, st⟩ | ⟨q, st₀, t, T', L9, E, ce, h0, X', hL, e1, e2, ⟨hp, hb, hz, hk⟩, hce, hcv, hcl, st⟩
  · cases hv
    rw [h0] at hz hk
    obtain ⟨t2, a1, b1⟩ := kk v L' f' T'.heap (locs ++ L9) hp (by rw [e1]; exact hb) (hd.weaken (fun _ q _ h => hs q.1 h))
      ⟨Nat.le_trans h3.1 (by rw [e1]; exact hz), fun q q1 q2 => by rw [e1, hk q (Nat.lt_of_lt_of_le q1 h3.1) (fun z => q2 (hs q z))]; exact h3.2.1 q q1 q2, fun q hq => by
        rcases List.mem_append.mp hq with h | h
        · exact h3.2.2 q h
        · exact hs _ (hL q h)⟩ T' rfl X'
    exact ⟨t2, st t2 a1, b1⟩
  · rw [h0] at hz hk
    obtain ⟨t2, a1, b1⟩ := kx E ce q T'.heap (locs ++ L9) hp (by rw [e1]; exact hb) h2
      ⟨Nat.le_trans h3.1 (by rw [e1]; exact hz), fun q q1 q2 => by rw [e1, hk q (Nat.lt_of_lt_of_le q1 h3.1) (fun z => q2 (hs q z))]; exact h3.2.1 q q1 q2, fun q hq => by
        rcases List.mem_append.mp hq with h | h
        · exact h3.2.2 q h
        · exact hs _ (hL q h)⟩ (by rw [e1]; exact hce) hcv hcl T' rfl X'
    exact ⟨t2, st.trans a1, b1⟩
theorem gx_ret {Qc : Array Value → State → Outcome → State → Prop} {XC : String → State → State → Prop} {free : Addr → Prop} (k : gW p l e R s m args below meth c D cl A nL (MQ below Qc args s mc ms free) cells slots L f pc lv st) : gW p l e R s m args below meth c D cl A nL (vx_MQ below Qc XC args s mc ms free) cells slots L f pc lv st :=
  fun H locs ls h1 h2 h3 h4 => vx_ret (k H locs ls h1 h2 h3 h4)
/-- a call in a body that lets through what is thrown; the world is still the one of the entry -/
theorem gx_callS (C : gC p s m args c D cl tys A cc own nL) (hA : A = gA L sz) (hsz : s.heap.size = sz) (hnt : ∀ x ∈ c.exceptionTable.toList, False) (hlk : meth.locks = false) (M : gXM l y b maxL ret rm D cl tys L f As post px) {ix : Nat} (hd : decode cc pc = .ok (.invokestatic ix, 3)) (pc' : Nat) (hp : pc + 3 = pc') (hw : gwS own ix y) (hcode : Cond.code y b maxL ret ∈ TB) (hown : y.cls = own) (n : Nat) (hy : gY y n = true) (hlen : As.length = n) (hR : gR rm R maxL cells slots = true)
    (hst : st0 = As.reverse ++ rest) (hrest : (rest.map fun v => v.category).sum ≤ 8) (hpx : ∀ E, px E → px0 E) (hc : cells + rm.cells ≤ mc) (hs : slots + rm.slots ≤ ms) {Qc : Array Value → State → Outcome → State → Prop}
    (k : ∀ r L' f', post r L' f' → gW p l e R s m args below meth c D cl A nL (vx_MQ below Qc (gQx D cl L f sz px0) args s mc ms (gA L sz)) (cells + rm.cells) (slots + rm.slots) L' f' pc' lv (r.toList ++ rest)) : gW p l e R s m args below meth c D cl A nL (vx_MQ below Qc (gQx D cl L f sz px0) args s mc ms (gA L sz)) cells slots L f pc lv st0 := by
  subst hp
  intro H locs ls h1 h2 h3 h4
  have hG : GoodIn TB (wsS own ix y (Cond.code y b maxL ret :: TB)) := tb_in (fun w h => by
    simp only [wsS, List.mem_append, List.mem_cons, List.not_mem_nil, or_false] at h
    rcases h with (rfl | rfl | rfl) | rfl | h
    · exact hw.1
    · exact hw.2.1
    · exact hw.2.2
    · exact hcode
    · exact h)
  have hr := gR_ok hR
  refine w_callx C (a9 := As.toArray) (post := post) (px := px) (f := f) (vx_runS (As := As) (rest := rest) C.1 (M H.size) (cwS n C.1.2.2.2.2 hG rfl rfl rfl ⟨hown, gY_ok hy⟩ hr.1) ⟨gPre_blind, fun U hU hW => ⟨rfl, gPre_of C h1 h2 h3 hU hW⟩⟩ rfl hlen h4.1 hst (lv_room hrest) hd hr.2) h2 h3 (fun r L' f' H1 locs1 hp g1 g2 g3 => k r L' f' hp H1 locs1 ls g1 g2 g3 h4) (fun E ce q9 H1 locs1 hp g1 g2 g3 q1 q2 q3 => ?_)
  subst hA
  exact vx_out (fun x hx => (hnt x hx).elim) hlk q1 q2 q3 (fun t ht hal => ⟨hpx E hp, by rw [ht]; exact g1, g3.F ht⟩) g3.2.2 hc hs
theorem gx_callV (C : gC p s m args c D cl tys A cc own nL) (hA : A = gA L sz) (hsz : s.heap.size = sz) (hnt : ∀ x ∈ c.exceptionTable.toList, False) (hlk : meth.locks = false) {cn : String} {T : u_T} {N ci a : Nat} {fs : List Value} (M : gXM l y b maxL ret rm D cl tys L f (.ref a :: As) post px) (hc0 : cl[ci]? = some (cn, T, N)) (ha : a ∈ L) (he : f a = .inr (ci, fs)) {ix : Nat} (hd : decode cc pc = .ok (.invokevirtual ix, 3)) (pc' : Nat) (hp : pc + 3 = pc') (hw : gwV own ix cn y) (hcode : Cond.code y b maxL ret ∈ TB) (hown : y.cls = cn) (n : Nat) (hy : gY y n = true) (hlen : As.length = n) (hR : gR rm R maxL cells slots = true)
    (hst : st0 = As.reverse ++ .ref a :: rest) (hrest : (rest.map fun v => v.category).sum ≤ 8) (hpx : ∀ E, px E → px0 E) (hc : cells + rm.cells ≤ mc) (hs : slots + rm.slots ≤ ms) {Qc : Array Value → State → Outcome → State → Prop}
    (k : ∀ r L' f', post r L' f' → gW p l e R s m args below meth c D cl A nL (vx_MQ below Qc (gQx D cl L f sz px0) args s mc ms (gA L sz)) (cells + rm.cells) (slots + rm.slots) L' f' pc' lv (r.toList ++ rest)) : gW p l e R s m args below meth c D cl A nL (vx_MQ below Qc (gQx D cl L f sz px0) args s mc ms (gA L sz)) cells slots L f pc lv st0 := by
  subst hp
  intro H locs ls h1 h2 h3 h4
  have hG : GoodIn TB (wsV own ix cn y (Cond.code y b maxL ret :: TB)) := tb_in (fun w h => by
    simp only [wsV, List.mem_append, List.mem_cons, List.not_mem_nil, or_false] at h
    rcases h with (rfl | rfl | rfl | rfl) | rfl | h
    · exact hw.1
    · exact hw.2.1
    · exact hw.2.2.1
    · exact hw.2.2.2
    · exact hcode
    · exact h)
  have hr := gR_ok hR
  refine w_callx C (a9 := (Value.ref a :: As).toArray) (post := post) (px := px) (f := f) (vx_runV (As := As) (rest := rest) C.1 (M H.size) (cwV n C.1.2.2.2.2 hG rfl rfl rfl ⟨hown, gY_ok hy⟩ hr.1) ⟨gPre_blind, va_recv C.2.1.1 (pl_one h1 ha he) hc0 (q0 := 0) rfl, fun U hU hW => ⟨rfl, gPre_of C h1 h2 h3 hU hW⟩⟩ rfl hlen h4.1 hst (lv_room hrest) hd hr.2) h2 h3 (fun r L' f' H1 locs1 hp g1 g2 g3 => k r L' f' hp H1 locs1 ls g1 g2 g3 h4) (fun E ce q9 H1 locs1 hp g1 g2 g3 q1 q2 q3 => ?_)
  subst hA
  exact vx_out (fun x hx => (hnt x hx).elim) hlk q1 q2 q3 (fun t ht hal => ⟨hpx E hp, by rw [ht]; exact g1, g3.F ht⟩) g3.2.2 hc hs
/-- throw new E("text"), as the last thing of a body whose world is still the one of the entry -/
theorem gx_throw (C : gC p s m args c D cl tys A cc own nL) (hA : A = gA L sz) (hsz : s.heap.size = sz) (hnt : ∀ x ∈ c.exceptionTable.toList, False) (hlk : meth.locks = false) (hl : l.stackTraces = false) {cls text : String} {names : List String} {ik is ic : Nat} (hcls : Bundle.fit cls = true) (hnames : ∀ n ∈ names, Bundle.fit n = true)
    (hk : Cond.classLink own ik cls ∈ TB) (hini : Cond.initialized cls ∈ TB) (hstr : ∃ sa : Nat, vk_R own is text sa s) (hat : ∀ w ∈ vx_atS own ic cls names, w.before args s = true) (hgood : ∀ w ∈ Cond.classLink own ik cls :: Cond.initialized cls :: vx_atS own ic cls names, vx_ot w = true)
    (d0 : decode cc pc = .ok (.new ik, 3)) (d3 : decode cc (pc + 3) = .ok (.dup, 1)) (d4 : decode cc (pc + 4) = .ok (.ldc is, 2)) (d6 : decode cc (pc + 6) = .ok (.invokespecial ic, 3)) (d9 : decode cc (pc + 9) = .ok (.athrow, 1))
    (hRf : names.length + 3 < R.frames) (hRl : (st.map fun v => v.category).sum + (13 * (names.length + 1) + 43) ≤ R.locals) (hRc : cells + 1 ≤ R.cells) (hRs : slots + 6 ≤ R.slots) (hc : cells + 1 ≤ mc) (hs : slots + 6 ≤ ms) (hpx : px cls) {Qc : Array Value → State → Outcome → State → Prop} :
    gW p l e R s m args below meth c D cl A nL (vx_MQ below Qc (gQx D cl L f sz px) args s mc ms (gA L sz)) cells slots L f pc lv st := by
  intro H locs ls h1 h2 h3 h4
  obtain ⟨sa, hsa⟩ := hstr
  subst hA
  refine vx_throwS (names := names) C.1.1 C.1.2.1 hl C.1.2.2.2.1 hcls hnames (C.1.2.2.2.2 _ hk) (C.1.2.2.2.2 _ hini) hsa hat hgood C.2.1.2.2.1 C.2.1.2.2.2 h3 (h4.1.trans C.1.2.2.1.symm) d0 d3 d4 d6 d9 (fun x hx => (hnt x hx).elim) hRf hRl hRc hRs hlk (fun t hal hz hq => ⟨hpx, h1.kept (fun k q hk => hq q.1 ((h1 k q hk).lt)), Nat.le_trans h3.1 hz, fun q q1 q2 => ?_⟩) h3.2.2 hc hs
  rw [hq q (Nat.lt_of_lt_of_le q1 h3.1)]
  exact h3.2.1 q q1 q2
def gXB (l : Launch) (y : MethodName) (b : ByteArray) (maxL : Nat) (ret : Option FieldType) (rm : Room) (D : va_G) (cl : List vw_C) (tys : List (ClassId × FieldType)) (L : List Nat) (f : Nat → va_E) (av : List Value) (post : Option Value → List Nat → (Nat → va_E) → Prop) (px : String → Prop) : Prop :=
  ∀ (p : Program) (e : Env) (s : State) (m : MethodId) (args : Array Value) (below : List Frame) (meth : Method) (c : Code) (A : Nat → Prop) (sz : Nat), A = gA L sz → s.heap.size = sz → gC p s m args c D cl tys A b y.cls maxL → meth.sig.returnType = ret → meth.locks = false → (∀ x ∈ c.exceptionTable.toList, False) →
    gW p l e rm s m args below meth c D cl A maxL (vx_MQ below (gQ D cl L sz post) (gQx D cl L f sz px) args s rm.cells rm.slots (gA L sz)) 0 0 L f 0 (lv_args 0 av) []
theorem gx_of {av : List Value} (hy : plainName y.cls = true) (hn : (lg_sl av).length ≤ maxL) (body : gXB l y b maxL ret rm D cl tys L f av post px) : gXM l y b maxL ret rm D cl tys L f av post px := by
  intro sz
  refine vx_ofW (cc := b) (maxL := maxL) (ret := ret) hy rfl ?_
  intro p e s m args below meth c s₁ B hml hnt hv
  obtain ⟨rfl, hsz, hP, hD0, hE⟩ := hv
  have hts := atoms_spec (ws := Cond.code y b maxL ret :: TB) B.pre
  have hown : s.vm.findClass y.cls = some m.cls := findClass_of_methodNamed B.named
  have hl := lv_entry av (n := maxL) hn
  have C : gC p s m av.toArray c D cl tys (gA L sz) b y.cls maxL := ⟨⟨B.exec, B.bytes, hml, hown, fun w h => hts w (List.mem_cons_of_mem _ h)⟩, hE, fun q h => Or.inr (by rw [← hsz]; exact h)⟩
  have K := body p e s m av.toArray below meth c (gA L sz) sz rfl hsz C B.returns B.notSynchronized hnt
  rw [lg_entry_eq]
  exact K s.heap [] _ hP (pl_D hD0 (fun q hq => Or.inl hq)) va_S.rf hl
end GX
