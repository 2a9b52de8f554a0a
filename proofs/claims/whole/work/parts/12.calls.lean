section GK
variable {p : Program} {l : Launch} {e : Env} {R : Room} {s : State} {m : MethodId} {args : Array Value} {below : List Frame} {meth : Method} {c : Code} {D : va_G} {cl : List vw_C} {A : Nat → Prop} {nL : Nat} {Q : State → Prop} {cells slots : Nat} {L : List Nat} {f : Nat → va_E} {pc : Nat} {lv : List (Nat × Value)} {st : List Value} {cc : ByteArray} {own : String} {tys : List (ClassId × FieldType)}
variable {H : Heap} {locs : List Loc} {ls : Array Slot} {mc ms : Nat} {a9 : Array Value} {st0 rest As : List Value}
/-- what a method answers and leaves -/
def gQ (D : va_G) (cl : List vw_C) (L : List Nat) (sz : Nat) (post : Option Value → List Nat → (Nat → va_E) → Prop) : Array Value → State → Outcome → State → Prop := fun _ st oc t =>
  (∃ (r : Option Value) (L' : List Nat) (f' : Nat → va_E), oc = .returned r ∧ post r L' f' ∧ va_P D cl (va_pl L' f') t.heap ∧ va_D (gA L sz) (va_pl L' f')) ∧ va_F (gA L sz) st t
def gPre (D : va_G) (cl : List vw_C) (tys : List (ClassId × FieldType)) (L : List Nat) (f : Nat → va_E) (sz : Nat) (U : State) : Prop :=
  U.heap.size = sz ∧ va_P D cl (va_pl L f) U.heap ∧ va_D (fun _ => True) (va_pl L f) ∧ gE D cl tys (gA L sz) U
def gMet (l : Launch) (y : MethodName) (b : ByteArray) (maxL : Nat) (ret : Option FieldType) (rm : Room) (D : va_G) (cl : List vw_C) (tys : List (ClassId × FieldType)) (L : List Nat) (f : Nat → va_E) (av : List Value) (post : Option Value → List Nat → (Nat → va_E) → Prop) : Prop :=
  ∀ sz : Nat, Met l y (Cond.code y b maxL ret :: TB) rm (va_Pc av (gPre D cl tys L f sz)) (gQ D cl L sz post) rm.cells rm.slots (gA L sz)
theorem gPre_blind {av : List Value} {sz : Nat} : FrameBlind (va_Pc av (gPre D cl tys L f sz)) := fun a U g mk q => by
  obtain ⟨q0, q1, q2, q3, q4⟩ := q
  exact ⟨q0, q1, q2, q3, gE_same (U := U) (V := U.calling g mk a) rfl rfl q4⟩
theorem gA_sub (hA : ∀ q, s.heap.size ≤ q → A q) (h2 : va_D A (va_pl L f)) (h3 : va_S A s.heap H locs) : ∀ q, gA L H.size q → A q := fun q h => by
  rcases h with h | h
  · exact pl_DA h2 h
  · exact hA q (Nat.le_trans h3.1 h)
theorem gPre_of (C : gC p s m args c D cl tys A cc own nL) (h1 : va_P D cl (va_pl L f) H) (h2 : va_D A (va_pl L f)) (h3 : va_S A s.heap H locs) {U : State} (hU : U.heap = H) (hW : s.WarmedH U.vm) : gPre D cl tys L f H.size U :=
  ⟨by rw [hU], by rw [hU]; exact h1, pl_D h2 (fun _ _ => trivial), gE_call C.2.1 h3 (gA_sub C.2.2 h2 h3) hU hW⟩
theorem w_call (C : gC p s m args c D cl tys A cc own nL) {post : Option Value → List Nat → (Nat → va_E) → Prop} (hr : va_Run p l e R s m args below meth c H locs cells slots mc ms (F0 m pc ls st0) rest (gQ D cl L H.size post a9) (gA L H.size)) (h2 : va_D A (va_pl L f)) (h3 : va_S A s.heap H locs)
    (kk : ∀ (r : Option Value) (L' : List Nat) (f' : Nat → va_E) (H1 : Heap) (locs1 : List Loc), post r L' f' → va_P D cl (va_pl L' f') H1 → va_D A (va_pl L' f') → va_S A s.heap H1 locs1 → W p l e R s m args below meth c H1 locs1 (cells + mc) (slots + ms) Q (F0 m (pc + 3) ls (r.toList ++ rest))) : W p l e R s m args below meth c H locs cells slots Q (F0 m pc ls st0) := by
  intro T hT X
  obtain ⟨v, st₀, t, T', L9, h0, X', hL, e1, e2, ⟨⟨r, L', f', hv, hp, hb, hd⟩, hz, hk⟩, st⟩ := hr T hT X
  cases hv
  rw [h0] at hz hk
  have hs := gA_sub C.2.2 h2 h3
  obtain ⟨t2, a1, b1⟩ := kk v L' f' T'.heap (locs ++ L9) hp (by rw [e1]; exact hb) (hd.weaken (fun _ q _ h => hs q.1 h))
    ⟨Nat.le_trans h3.1 (by rw [e1]; exact hz), fun q q1 q2 => by rw [e1, hk q (Nat.lt_of_lt_of_le q1 h3.1) (fun z => q2 (hs q z))]; exact h3.2.1 q q1 q2, fun q hq => by
      rcases List.mem_append.mp hq with h | h
      · exact h3.2.2 q h
      · exact hs _ (hL q h)⟩ T' rfl X'
  exact ⟨t2, st t2 a1, b1⟩
def gR (rm R : Room) (maxL cells slots : Nat) : Bool := decide (rm.frames + 1 ≤ R.frames) && decide (8 + (maxL + 11) + rm.locals ≤ R.locals) && decide (cells + rm.cells ≤ R.cells) && decide (slots + rm.slots ≤ R.slots)
theorem gR_ok {rm R : Room} {maxL cells slots : Nat} (h : gR rm R maxL cells slots = true) : (rm.frames + 1 ≤ R.frames ∧ 8 + (maxL + 11) + rm.locals ≤ R.locals) ∧ cells + rm.cells ≤ R.cells ∧ slots + rm.slots ≤ R.slots := by
  simp only [gR, Bool.and_eq_true, decide_eq_true_eq] at h
  exact ⟨⟨h.1.1.1, h.1.1.2⟩, h.1.2, h.2⟩
def gY (y : MethodName) (n : Nat) : Bool := decide (y.cls ≠ "java/lang/invoke/MethodHandle") && decide (y.cls ≠ "java/lang/invoke/VarHandle") && decide ((parseMethodDescriptor y.desc).map (fun d => d.parameters.length) = some n)
theorem gY_ok {y : MethodName} {n : Nat} (h : gY y n = true) : y.cls ≠ "java/lang/invoke/MethodHandle" ∧ y.cls ≠ "java/lang/invoke/VarHandle" ∧ (parseMethodDescriptor y.desc).map (fun d => d.parameters.length) = some n := by
  simp only [gY, Bool.and_eq_true, decide_eq_true_eq] at h
  exact ⟨h.1.1, h.1.2, h.2⟩
/-- words of a call -/
def gwS (own : String) (ix : Nat) (y : MethodName) : Prop := Cond.methodLink own ix y ∈ TB ∧ Cond.static y ∈ TB ∧ Cond.initialized own ∈ TB
def gwV (own : String) (ix : Nat) (C : String) (y : MethodName) : Prop := Cond.methodLink own ix y ∈ TB ∧ Cond.instanceMethod y ∈ TB ∧ Cond.selects C y y ∈ TB ∧ Cond.initialized C ∈ TB
def gwI (own : String) (ix : Nat) (y : MethodName) : Prop := Cond.methodLink own ix y ∈ TB ∧ Cond.instanceMethod y ∈ TB ∧ Cond.initialized y.cls ∈ TB
variable {y : MethodName} {b : ByteArray} {maxL : Nat} {ret : Option FieldType} {rm : Room} {post : Option Value → List Nat → (Nat → va_E) → Prop}
theorem g_callS (C : gC p s m args c D cl tys A cc own nL) (M : gMet l y b maxL ret rm D cl tys L f As post) {ix : Nat} (hd : decode cc pc = .ok (.invokestatic ix, 3)) (pc' : Nat) (hp : pc + 3 = pc') (hw : gwS own ix y) (hcode : Cond.code y b maxL ret ∈ TB) (hown : y.cls = own) (n : Nat) (hy : gY y n = true) (hlen : As.length = n) (hR : gR rm R maxL cells slots = true)
    (hst : st0 = As.reverse ++ rest) (hrest : (rest.map fun v => v.category).sum ≤ 8)
    (k : ∀ r L' f', post r L' f' → gW p l e R s m args below meth c D cl A nL Q (cells + rm.cells) (slots + rm.slots) L' f' pc' lv (r.toList ++ rest)) : gW p l e R s m args below meth c D cl A nL Q cells slots L f pc lv st0 := by
  subst hp
  intro H locs ls h1 h2 h3 h4
  have hG : GoodIn TB (wsS own ix y (Cond.code y b maxL ret :: TB)) := tb_in (fun w h => by
    simp only [wsS, List.mem_append, List.mem_cons, List.not_mem_nil, or_false] at h
    rcases h with (rfl | rfl | rfl) | rfl | h
    · exact hw.1
    · exact hw.2.1
    · exact hw.2.2
    · exact hcode
    · exact h)
  have hr := gR_ok hR
  refine w_call C (a9 := As.toArray) (post := post) (va_runS (As := As) (rest := rest) C.1 (M H.size) (cwS n C.1.2.2.2.2 hG rfl rfl rfl ⟨hown, gY_ok hy⟩ hr.1) ⟨gPre_blind, fun U hU hW => ⟨rfl, gPre_of C h1 h2 h3 hU hW⟩⟩ rfl hlen h4.1 hst (lv_room hrest) hd hr.2) h2 h3 (fun r L' f' H1 locs1 hp g1 g2 g3 => k r L' f' hp H1 locs1 ls g1 g2 g3 h4)
theorem g_callV (C : gC p s m args c D cl tys A cc own nL) {cn : String} {T : u_T} {N ci a : Nat} {fs : List Value} (M : gMet l y b maxL ret rm D cl tys L f (.ref a :: As) post) (hc : cl[ci]? = some (cn, T, N)) (ha : a ∈ L) (he : f a = .inr (ci, fs)) {ix : Nat} (hd : decode cc pc = .ok (.invokevirtual ix, 3)) (pc' : Nat) (hp : pc + 3 = pc') (hw : gwV own ix cn y) (hcode : Cond.code y b maxL ret ∈ TB) (hown : y.cls = cn) (n : Nat) (hy : gY y n = true) (hlen : As.length = n) (hR : gR rm R maxL cells slots = true)
    (hst : st0 = As.reverse ++ .ref a :: rest) (hrest : (rest.map fun v => v.category).sum ≤ 8)
    (k : ∀ r L' f', post r L' f' → gW p l e R s m args below meth c D cl A nL Q (cells + rm.cells) (slots + rm.slots) L' f' pc' lv (r.toList ++ rest)) : gW p l e R s m args below meth c D cl A nL Q cells slots L f pc lv st0 := by
  subst hp
  intro H locs ls h1 h2 h3 h4
  have hG : GoodIn TB (wsV own ix cn y (Cond.code y b maxL ret :: TB)) := tb_in (fun w h => by
    simp only [wsV, List.mem_append, List.mem_cons, List.not_mem_nil, or_false] at h
    rcases h with (rfl | rfl | rfl | rfl) | rfl | h
    · exact hw.1
    · exact hw.2.1
    · exact hw.2.2.1
    · exact hw.2.2.2
    · exact hcode
    · exact h)
  have hr := gR_ok hR
  refine w_call C (a9 := (Value.ref a :: As).toArray) (post := post) (va_runV (As := As) (rest := rest) C.1 (M H.size) (cwV n C.1.2.2.2.2 hG rfl rfl rfl ⟨hown, gY_ok hy⟩ hr.1) ⟨gPre_blind, va_recv C.2.1.1 (pl_one h1 ha he) hc (q0 := 0) rfl, fun U hU hW => ⟨rfl, gPre_of C h1 h2 h3 hU hW⟩⟩ rfl hlen h4.1 hst (lv_room hrest) hd hr.2) h2 h3 (fun r L' f' H1 locs1 hp g1 g2 g3 => k r L' f' hp H1 locs1 ls g1 g2 g3 h4)
theorem g_callI (C : gC p s m args c D cl tys A cc own nL) {a : Nat} (M : gMet l y b maxL none rm D cl tys L f (.ref a :: As) post) {ix : Nat} (hd : decode cc pc = .ok (.invokespecial ix, 3)) (pc' : Nat) (hp : pc + 3 = pc') (hw : gwI own ix y) (hcode : Cond.code y b maxL none ∈ TB) (hin : y.name = "<init>") (n : Nat) (hy : gY y n = true) (hlen : As.length = n) (hR : gR rm R maxL cells slots = true)
    (hst : st0 = As.reverse ++ .ref a :: rest) (hrest : (rest.map fun v => v.category).sum ≤ 8)
    (k : ∀ r L' f', post r L' f' → gW p l e R s m args below meth c D cl A nL Q (cells + rm.cells) (slots + rm.slots) L' f' pc' lv (r.toList ++ rest)) : gW p l e R s m args below meth c D cl A nL Q cells slots L f pc lv st0 := by
  subst hp
  intro H locs ls h1 h2 h3 h4
  have hG : GoodIn TB (Cond.code y b maxL none :: TB) := tb_in (fun w h => by
    rcases List.mem_cons.mp h with rfl | h
    · exact hcode
    · exact h)
  have hr := gR_ok hR
  refine w_call C (a9 := (Value.ref a :: As).toArray) (post := post) (va_runI (As := As) (rest := rest) C.1 (M H.size) (cwI n C.1.2.2.2.2 hG rfl rfl rfl (C.1.2.2.2.2 _ hw.2.2) (C.1.2.2.2.2 _ hw.1) (C.1.2.2.2.2 _ hw.2.1) hin (gY_ok hy) hr.1) ⟨gPre_blind, fun U hU hW => ⟨rfl, gPre_of C h1 h2 h3 hU hW⟩⟩ rfl hlen h4.1 hst (lv_room hrest) hd hr.2) h2 h3 (fun r L' f' H1 locs1 hp g1 g2 g3 => k r L' f' hp H1 locs1 ls g1 g2 g3 h4)
/-- the end of a body -/
theorem g_iret (C : gC p s m args c D cl tys A cc own nL) {L0 : List Nat} {sz : Nat} (hA : A = gA L0 sz) (hsz : s.heap.size = sz) (hr : meth.sig.returnType = some .int) (hl : meth.locks = false) {z : Int} (hd : decode cc pc = .ok (.ireturn, 1)) (hc : cells ≤ mc) (hs : slots ≤ ms) (hp : post (some (iv z)) L f) : gW p l e R s m args below meth c D cl A nL (MQ below (gQ D cl L0 sz post) args s mc ms (gA L0 sz)) cells slots L f pc lv [iv z] := by
  subst hA
  intro H locs ls h1 h2 h3 h4
  refine W.widen hc hs ?_
  exact W.iret C.1.1 C.1.2.1 hr (fun t ht hW => ⟨⟨_, L, f, rfl, hp, by rw [ht]; exact h1, h2⟩, h3.F ht⟩) h3.2.2 hd hl
theorem g_zret (C : gC p s m args c D cl tys A cc own nL) {L0 : List Nat} {sz : Nat} (hA : A = gA L0 sz) (hsz : s.heap.size = sz) (hr : meth.sig.returnType = some .boolean) (hl : meth.locks = false) {z : Int} (hz : z = 0 ∨ z = 1) (hd : decode cc pc = .ok (.ireturn, 1)) (hc : cells ≤ mc) (hs : slots ≤ ms) (hp : post (some (iv z)) L f) : gW p l e R s m args below meth c D cl A nL (MQ below (gQ D cl L0 sz post) args s mc ms (gA L0 sz)) cells slots L f pc lv [iv z] := by
  subst hA
  intro H locs ls h1 h2 h3 h4
  refine W.widen hc hs ?_
  exact W.zret C.1.1 C.1.2.1 hr (by rcases hz with rfl | rfl <;> rfl) (fun t ht hW => ⟨⟨_, L, f, rfl, hp, by rw [ht]; exact h1, h2⟩, h3.F ht⟩) h3.2.2 hd hl
theorem g_lret (C : gC p s m args c D cl tys A cc own nL) {L0 : List Nat} {sz : Nat} (hA : A = gA L0 sz) (hsz : s.heap.size = sz) (hr : meth.sig.returnType = some .long) (hl : meth.locks = false) {z : Int} (hd : decode cc pc = .ok (.lreturn, 1)) (hc : cells ≤ mc) (hs : slots ≤ ms) (hp : post (some (jv z)) L f) : gW p l e R s m args below meth c D cl A nL (MQ below (gQ D cl L0 sz post) args s mc ms (gA L0 sz)) cells slots L f pc lv [jv z] := by
  subst hA
  intro H locs ls h1 h2 h3 h4
  refine W.widen hc hs ?_
  exact W.lret C.1.1 C.1.2.1 hr (fun t ht hW => ⟨⟨_, L, f, rfl, hp, by rw [ht]; exact h1, h2⟩, h3.F ht⟩) h3.2.2 hd hl
theorem g_vret (C : gC p s m args c D cl tys A cc own nL) {L0 : List Nat} {sz : Nat} (hA : A = gA L0 sz) (hsz : s.heap.size = sz) (hr : meth.sig.returnType = none) (hl : meth.locks = false) (hd : decode cc pc = .ok (.return_, 1)) (hc : cells ≤ mc) (hs : slots ≤ ms) (hp : post none L f) : gW p l e R s m args below meth c D cl A nL (MQ below (gQ D cl L0 sz post) args s mc ms (gA L0 sz)) cells slots L f pc lv [] := by
  subst hA
  intro H locs ls h1 h2 h3 h4
  refine W.widen hc hs ?_
  exact W.vret C.1.1 C.1.2.1 hr (fun t ht hW => ⟨⟨_, L, f, rfl, hp, by rw [ht]; exact h1, h2⟩, h3.F ht⟩) h3.2.2 hd hl
end GK
