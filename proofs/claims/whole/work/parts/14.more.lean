section GN
variable {p : Program} {l : Launch} {e : Env} {R : Room} {s : State} {m : MethodId} {args : Array Value} {below : List Frame} {meth : Method} {c : Code} {D : va_G} {cl : List vw_C} {A : Nat → Prop} {nL : Nat} {Q : State → Prop} {cells slots : Nat} {L : List Nat} {f : Nat → va_E} {pc : Nat} {lv : List (Nat × Value)} {st : List Value} {cc : ByteArray} {own : String} {tys : List (ClassId × FieldType)}
theorem pl_new {A : Nat → Prop} {L : List Nat} {f : Nat → va_E} {q : Nat} {x : va_E} (h : va_D A (va_pl L f ++ [(q, x)])) : q ∉ L := fun hq => by
  obtain ⟨k, hk⟩ := pl_get (f := f) hq
  have hlt := (List.getElem?_eq_some_iff.mp hk).1
  have h1 : (va_pl L f ++ [(q, x)])[k]? = some (q, f q) := by rw [List.getElem?_append_left hlt]; exact hk
  have h2 : (va_pl L f ++ [(q, x)])[(va_pl L f).length]? = some (q, x) := by rw [List.getElem?_append_right (Nat.le_refl _), Nat.sub_self]; rfl
  have := h.1 _ _ _ _ h1 h2 rfl
  omega
theorem g_new (C : gC p s m args c D cl tys A cc own nL) {cn : String} {T : u_T} {N ci ix : Nat} (hin : ∀ w ∈ u_ws cn T N, w ∈ TB) (hc : cl[ci]? = some (cn, T, N)) (ty0 : Nat → FieldType) (hty : ∀ k, k < N → parseFieldDescriptor (T k).2.2.1 = some (ty0 k)) {fs : List Value} (hfs : ∀ j, j < N → defaultValue (ty0 j) = vp_V fs j)
    (hw : Cond.classLink own ix cn ∈ TB ∧ Cond.instantiable cn N ∈ TB ∧ Cond.initialized cn ∈ TB) (hcells : cells + 1 ≤ R.cells) (hslots : slots + N ≤ R.slots) (hd : decode cc pc = .ok (.new ix, 3)) (pc' : Nat) (hp : pc + 3 = pc')
    (k : ∀ q : Nat, q ∉ L → gW p l e R s m args below meth c D cl A nL Q (cells + 1) (slots + N) (L ++ [q]) (va_up f q (.inr (ci, fs))) pc' lv (.ref q :: st)) : gW p l e R s m args below meth c D cl A nL Q cells slots L f pc lv st := by
  subst hp
  intro H locs ls h1 h2 h3 h4
  refine va_new (D := D) C.1.1 C.1.2.1 C.1.2.2.2.2 hin ty0 hty C.1.2.2.2.1 (C.1.2.2.2.2 _ hw.1) (C.1.2.2.2.2 _ hw.2.1) (C.1.2.2.2.2 _ hw.2.2) C.2.1.1 h1 h2 h3 C.2.2 hc hfs hcells hslots hd (fun q H1 g1 g2 g3 => ?_)
  have hq := pl_new g2
  rw [va_pl_push hq] at g1 g2
  exact k q hq H1 locs ls g1 g2 g3 h4
theorem ra_eq {U : State} {c1 c2 : ClassId} {ty : FieldType} (h1 : va_RA U c1 ty) (h2 : va_RA U c2 ty) : c1 = c2 := by
  cases ty with
  | object C =>
    obtain ⟨_, _, -, -, -, e1⟩ := h1
    obtain ⟨_, _, -, -, -, e2⟩ := h2
    exact Option.some.inj (e1.symm.trans e2)
  | _ => exact Option.some.inj (Eq.trans (Eq.symm h1) h2)
theorem g_newa (C : gC p s m args c D cl tys A cc own nL) {atype : ArrayType} {ty : FieldType} (hty : newarray.typeOf atype = ty) {cA : ClassId} {t0 : Nat} (ht : tys[t0]? = some (cA, ty)) (harr : Cond.arrayClass ty ∈ TB) {n : Int} {N' : Nat} {a0 : vp_A} (ha : ∀ cA : ClassId, vp_cell cA a0 = arrV cA N' (fun _ => defaultValue ty)) (hn : n = (N' : Int)) (hN : N' < 2147483648) (hbytes : N' * componentBytes ty ≤ 536870912) (hcells : cells + 1 ≤ R.cells) (hslots : slots + N' ≤ R.slots) (hd : decode cc pc = .ok (.newarray atype, 2)) (pc' : Nat) (hp : pc + 2 = pc')
    (k : ∀ q : Nat, q ∉ L → gW p l e R s m args below meth c D cl A nL Q (cells + 1) (slots + N') (L ++ [q]) (va_up f q (.inl (cA, a0))) pc' lv (.ref q :: st)) : gW p l e R s m args below meth c D cl A nL Q cells slots L f pc lv (iv n :: st) := by
  subst hp
  intro H locs ls h1 h2 h3 h4
  have hr : r32 n := ⟨by omega, by omega⟩
  refine va_newa (D := D) C.1.1 C.1.2.1 (by rw [hty]; exact C.1.2.2.2.2 _ harr) hty C.2.1.1 h1 h2 h3 C.2.2 ha (fun h => by have := (iv_lt0 hr).mp h; omega) (by rw [iv_cl hr]; omega) hbytes hcells hslots hd (fun q cB H1 gK g1 g2 g3 => ?_)
  have hcB : cB = cA := ra_eq (gK.2 tys.length (cB, ty) (by rw [List.getElem?_append_right (Nat.le_refl _), Nat.sub_self]; rfl)).2 (C.2.1.1.2 t0 _ ht).2
  subst hcB
  have hq := pl_new g2
  rw [va_pl_push hq] at g1 g2
  exact k q hq H1 locs ls g1 g2 g3 h4
theorem g_newq (C : gC p s m args c D cl tys A cc own nL) {cn : String} {ix : Nat} {cA : ClassId} {t0 : Nat} (ht : tys[t0]? = some (cA, .object cn)) (hw : Cond.classLink own ix cn ∈ TB) (hover : va_AO cn s) {n : Int} {N' : Nat} (hn : n = (N' : Int)) (hN : N' < 2147483648) (hbytes : N' * 4 ≤ 536870912) (hcells : cells + 1 ≤ R.cells) (hslots : slots + N' ≤ R.slots) (hd : decode cc pc = .ok (.anewarray ix, 3)) (pc' : Nat) (hp : pc + 3 = pc')
    (k : ∀ q : Nat, q ∉ L → gW p l e R s m args below meth c D cl A nL Q (cells + 1) (slots + N') (L ++ [q]) (va_up f q (qa cA N' (fun _ => none))) pc' lv (.ref q :: st)) : gW p l e R s m args below meth c D cl A nL Q cells slots L f pc lv (iv n :: st) := by
  subst hp
  intro H locs ls h1 h2 h3 h4
  have hr : r32 n := ⟨by omega, by omega⟩
  refine va_newq (D := D) C.1.1 C.1.2.1 C.1.2.2.2.1 (C.1.2.2.2.2 _ hw) hover C.2.1.1 h1 h2 h3 C.2.2 (fun h => by have := (iv_lt0 hr).mp h; omega) (by rw [iv_cl hr]; omega) hbytes hcells hslots hd (fun q cB H1 gK g1 g2 g3 => ?_)
  have hcB : cB = cA := ra_eq (gK.2 tys.length (cB, .object cn) (by rw [List.getElem?_append_right (Nat.le_refl _), Nat.sub_self]; rfl)).2 (C.2.1.1.2 t0 _ ht).2
  subst hcB
  have hq := pl_new g2
  rw [va_pl_push hq] at g1 g2
  exact k q hq H1 locs ls g1 g2 g3 h4
theorem cpy_i (g h : Nat → Int) (sp dp n : Nat) : va_cpy (fun j => Int32.ofInt (g j)) (fun j => Int32.ofInt (h j)) sp dp n = fun j => Int32.ofInt (va_cpy g h sp dp n j) := by
  funext j
  simp only [va_cpy]
  split <;> rfl
theorem cpy_l (g h : Nat → Int) (sp dp n : Nat) : va_cpy (fun j => Int64.ofInt (g j)) (fun j => Int64.ofInt (h j)) sp dp n = fun j => Int64.ofInt (va_cpy g h sp dp n j) := by
  funext j
  simp only [va_cpy]
  split <;> rfl
def gwC (own : String) (ix : Nat) : Prop := Cond.methodLink own ix arraycopyName ∈ TB ∧ Cond.native arraycopyName ∈ TB ∧ Cond.static arraycopyName ∈ TB ∧ Cond.initialized "java/lang/System" ∈ TB
theorem g_copyi (C : gC p s m args c D cl tys A cc own nL) {ix : Nat} (hw : gwC own ix) {a0 a1 t0 n0 n1 : Nat} {c0 : ClassId} {g h : Nat → Int} (ha0 : a0 ∈ L) (he0 : f a0 = ia c0 n0 g) (ha1 : a1 ∈ L) (he1 : f a1 = ia c0 n1 h) (ht : tys[t0]? = some (c0, .int)) {sp dp n : Int} (h1 : 0 ≤ sp) (h2 : 0 ≤ dp) (h3 : 0 ≤ n) (h4 : sp + n ≤ n0) (h5 : dp + n ≤ n1) (hn0 : n0 < 2147483648) (hn1 : n1 < 2147483648)
    (hframes : 1 ≤ R.frames) (hlocals : (st.map fun v => v.category).sum + (nativeFrameWords "java/lang/System" "arraycopy" 5 + 11) ≤ R.locals) (hd : decode cc pc = .ok (.invokestatic ix, 3)) (pc' : Nat) (hp : pc + 3 = pc')
    (k : gW p l e R s m args below meth c D cl A nL Q cells slots L (va_up f a1 (ia c0 n1 (va_cpy g h sp.toNat dp.toNat n.toNat))) pc' lv st) : gW p l e R s m args below meth c D cl A nL Q cells slots L f pc lv (iv n :: iv dp :: .ref a1 :: iv sp :: .ref a0 :: st) := by
  subst hp
  intro H locs ls g1 g2 g3 g4
  have rs : r32 sp := ⟨by omega, by omega⟩
  have rd : r32 dp := ⟨by omega, by omega⟩
  have rn : r32 n := ⟨by omega, by omega⟩
  obtain ⟨q0, hq0⟩ := pl_get (f := f) ha0
  obtain ⟨q1, hq1⟩ := pl_get (f := f) ha1
  rw [he0] at hq0
  rw [he1] at hq1
  refine va_copyi (D := D) C.1.1 C.1.2.1 (by rw [C.1.2.2.1]; exact g4.1.symm) C.1.2.2.2.1 (C.1.2.2.2.2 _ hw.1) (C.1.2.2.2.2 _ hw.2.1) (C.1.2.2.2.2 _ hw.2.2.1) (C.1.2.2.2.2 _ hw.2.2.2) C.2.1.1 g1 g2 g3 q0 q1 t0 t0 hq0 hq1 ht ht rfl
    (fun z => by have := (iv_lt0 rs).mp z; omega) (fun z => by have := (iv_lt0 rd).mp z; omega) (fun z => by have := (iv_lt0 rn).mp z; omega) (by rw [iv_cl rs, iv_cl rn]; omega) (by rw [iv_cl rd, iv_cl rn]; omega) (fun i _ => rfl) hframes hlocals hd (fun H1 locs1 k1 k2 k3 => ?_)
  rw [← he1] at hq1
  rw [iv_cl rs, iv_cl rd, iv_cl rn, cpy_i, pl_set g2 ha1 hq1] at k1 k2
  exact k H1 locs1 ls k1 k2 k3 g4
theorem g_copyl (C : gC p s m args c D cl tys A cc own nL) {ix : Nat} (hw : gwC own ix) {a0 a1 t0 n0 n1 : Nat} {c0 : ClassId} {g h : Nat → Int} (ha0 : a0 ∈ L) (he0 : f a0 = ja c0 n0 g) (ha1 : a1 ∈ L) (he1 : f a1 = ja c0 n1 h) (ht : tys[t0]? = some (c0, .long)) {sp dp n : Int} (h1 : 0 ≤ sp) (h2 : 0 ≤ dp) (h3 : 0 ≤ n) (h4 : sp + n ≤ n0) (h5 : dp + n ≤ n1) (hn0 : n0 < 2147483648) (hn1 : n1 < 2147483648)
    (hframes : 1 ≤ R.frames) (hlocals : (st.map fun v => v.category).sum + (nativeFrameWords "java/lang/System" "arraycopy" 5 + 11) ≤ R.locals) (hd : decode cc pc = .ok (.invokestatic ix, 3)) (pc' : Nat) (hp : pc + 3 = pc')
    (k : gW p l e R s m args below meth c D cl A nL Q cells slots L (va_up f a1 (ja c0 n1 (va_cpy g h sp.toNat dp.toNat n.toNat))) pc' lv st) : gW p l e R s m args below meth c D cl A nL Q cells slots L f pc lv (iv n :: iv dp :: .ref a1 :: iv sp :: .ref a0 :: st) := by
  subst hp
  intro H locs ls g1 g2 g3 g4
  have rs : r32 sp := ⟨by omega, by omega⟩
  have rd : r32 dp := ⟨by omega, by omega⟩
  have rn : r32 n := ⟨by omega, by omega⟩
  obtain ⟨q0, hq0⟩ := pl_get (f := f) ha0
  obtain ⟨q1, hq1⟩ := pl_get (f := f) ha1
  rw [he0] at hq0
  rw [he1] at hq1
  refine va_copyl (D := D) C.1.1 C.1.2.1 (by rw [C.1.2.2.1]; exact g4.1.symm) C.1.2.2.2.1 (C.1.2.2.2.2 _ hw.1) (C.1.2.2.2.2 _ hw.2.1) (C.1.2.2.2.2 _ hw.2.2.1) (C.1.2.2.2.2 _ hw.2.2.2) C.2.1.1 g1 g2 g3 q0 q1 t0 t0 hq0 hq1 ht ht rfl
    (fun z => by have := (iv_lt0 rs).mp z; omega) (fun z => by have := (iv_lt0 rd).mp z; omega) (fun z => by have := (iv_lt0 rn).mp z; omega) (by rw [iv_cl rs, iv_cl rn]; omega) (by rw [iv_cl rd, iv_cl rn]; omega) (fun i _ => rfl) hframes hlocals hd (fun H1 locs1 k1 k2 k3 => ?_)
  rw [← he1] at hq1
  rw [iv_cl rs, iv_cl rd, iv_cl rn, cpy_l, pl_set g2 ha1 hq1] at k1 k2
  exact k H1 locs1 ls k1 k2 k3 g4
theorem g_max (C : gC p s m args c D cl tys A cc own nL) {ix : Nat} (hw : Cond.methodLink own ix Lib.Math.max.name ∈ TB ∧ Cond.static Lib.Math.max.name ∈ TB ∧ Cond.initialized "java/lang/Math" ∈ TB ∧ Cond.code Lib.Math.max.name Lib.Math.max.code 2 (some .int) ∈ TB) (hframes : 1 ≤ R.frames) (hlocals : (st.map fun v => v.category).sum + 13 ≤ R.locals) (hc : cells ≤ R.cells) (hs : slots ≤ R.slots) {x y : Int} (hx : r32 x) (hy : r32 y) (hd : decode cc pc = .ok (.invokestatic ix, 3)) (pc' : Nat) (hp : pc + 3 = pc')
    (k : gW p l e R s m args below meth c D cl A nL Q cells slots L f pc' lv (iv (if x < y then y else x) :: st)) : gW p l e R s m args below meth c D cl A nL Q cells slots L f pc lv (iv y :: iv x :: st) := by
  subst hp
  intro H locs ls g1 g2 g3 g4
  refine va_mmax C.1.1 C.1.2.1 (by rw [C.1.2.2.1]; exact g4.1.symm) C.1.2.2.2.1 (C.1.2.2.2.2 _ hw.1) (C.1.2.2.2.2 _ hw.2.1) (C.1.2.2.2.2 _ hw.2.2.1) (C.1.2.2.2.2 _ hw.2.2.2) hframes hlocals hc hs hd ?_
  have e1 : (if Int32.ofInt x < Int32.ofInt y then Int32.ofInt y else Int32.ofInt x) = Int32.ofInt (if x < y then y else x) := by
    by_cases h : x < y
    · rw [if_pos h, if_pos ((iv_lt hx hy).mpr h)]
    · rw [if_neg h, if_neg (fun z => h ((iv_lt hx hy).mp z))]
  rw [e1]
  exact k H locs ls g1 g2 g3 g4
end GN
