section GRW
variable {p : Program} {l : Launch} {e : Env} {R : Room} {s : State} {m : MethodId} {args : Array Value} {below : List Frame} {meth : Method} {c : Code} {D : va_G} {A : Nat → Prop} {nL : Nat} {Q : State → Prop} {cells slots : Nat} {L L0 L1 L2 qs qs2 : List Nat} {f f0 f1 f2 : Nat → va_E} {pc : Nat} {lv : List (Nat × Value)} {st : List Value} {cc : ByteArray} {own : String} {cd : Nat → ClassId} {a q : Nat} {es es2 X : va_E} {cs cs2 : List va_E}
/-- from (L, f) on: the cell a has become es, the cells qs are new, with the contents cs; nothing else has changed -/
def GZ (L : List Nat) (f : Nat → va_E) (a : Nat) (qs : List Nat) (es : va_E) (cs : List va_E) (L' : List Nat) (f' : Nat → va_E) : Prop :=
  a ∈ L ∧ L' = L ++ qs ∧ (∀ q, q ∈ qs → q ∉ L) ∧ qs.Nodup ∧ f' a = es ∧ qs.map f' = cs ∧ ∀ x, x ≠ a → x ∉ qs → f' x = f x
theorem gz_0 (h : a ∈ L) (he : f a = es) : GZ L f a [] es [] L f := ⟨h, (List.append_nil L).symm, fun _ h => (nomatch h), List.nodup_nil, he, rfl, fun _ _ _ => rfl⟩
theorem gz_new (g : GZ L f a qs es cs L1 f1) (hq : q ∉ L1) : GZ L f a (qs ++ [q]) es (cs ++ [X]) (L1 ++ [q]) (va_up f1 q X) := by
  obtain ⟨h1, rfl, h3, h4, h5, rfl, h7⟩ := g
  have hqL : q ∉ L := fun h => hq (List.mem_append_left _ h)
  have hqq : q ∉ qs := fun h => hq (List.mem_append_right _ h)
  refine ⟨h1, List.append_assoc _ _ _, fun x hx => ?_, ?_, ?_, ?_, fun x hx hx2 => ?_⟩
  · rcases List.mem_append.mp hx with h | h
    · exact h3 x h
    · rcases List.mem_singleton.mp h with rfl; exact hqL
  · refine List.nodup_append.mpr ⟨h4, List.nodup_cons.mpr ⟨fun h => (nomatch h), List.nodup_nil⟩, fun x hx y hy => ?_⟩
    rcases List.mem_singleton.mp hy with rfl
    exact fun h => hqq (h ▸ hx)
  · rw [va_up_ne _ _ (fun (h : a = q) => hqL (h ▸ h1))]; exact h5
  · rw [List.map_append]
    congr 1
    · exact List.map_congr_left (fun x hx => va_up_ne _ _ (fun h => hqq (h ▸ hx)))
    · show [va_up f1 q X q] = [X]
      rw [va_up_self]
  · rw [va_up_ne _ _ (fun (h : x = q) => hx2 (h ▸ List.mem_append_right _ List.mem_cons_self))]
    exact h7 x hx (fun h => hx2 (List.mem_append_left _ h))
theorem gz_put (g : GZ L f a qs es cs L1 f1) : GZ L f a qs X cs L1 (va_up f1 a X) := by
  obtain ⟨h1, h2, h3, h4, h5, rfl, h7⟩ := g
  exact ⟨h1, h2, h3, h4, va_up_self _ _ _, List.map_congr_left (fun x hx => va_up_ne _ _ (fun h => h3 x hx (h ▸ h1))), fun x hx hx2 => by rw [va_up_ne _ _ hx]; exact h7 x hx hx2⟩
theorem map_set {f1 f2 : Nat → va_E} : ∀ (qs : List Nat) (j : Nat), qs.Nodup → qs[j]? = some q → f2 q = X → (∀ x, x ≠ q → x ∈ qs → f2 x = f1 x) → qs.map f2 = (qs.map f1).set j X := by
  intro qs
  induction qs with
  | nil => intro j _ h; simp at h
  | cons x t ih =>
    intro j hn hj hq hx
    have hn2 := List.nodup_cons.mp hn
    cases j with
    | zero =>
      have hxq : x = q := by simpa using hj
      subst hxq
      show f2 x :: t.map f2 = X :: t.map f1
      rw [hq, List.map_congr_left (fun y hy => hx y (fun h => hn2.1 (h ▸ hy)) (List.mem_cons_of_mem _ hy))]
    | succ j =>
      have hj2 : t[j]? = some q := by simpa using hj
      have hqt : q ∈ t := List.mem_of_getElem? hj2
      show f2 x :: t.map f2 = f1 x :: (t.map f1).set j X
      rw [hx x (fun h => hn2.1 (h ▸ hqt)) List.mem_cons_self, ih j hn2.2 hj2 hq (fun y h1 h2 => hx y h1 (List.mem_cons_of_mem _ h2))]
theorem gz_set {j : Nat} (g : GZ L f a qs es cs L1 f1) (hj : qs[j]? = some q) : GZ L f a qs es (cs.set j X) L1 (va_up f1 q X) := by
  obtain ⟨h1, h2, h3, h4, h5, rfl, h7⟩ := g
  have hq := List.mem_of_getElem? hj
  exact ⟨h1, h2, h3, h4, by rw [va_up_ne _ _ (fun (h : a = q) => h3 q hq (h ▸ h1))]; exact h5, map_set qs j h4 hj (va_up_self _ _ _) (fun x hx _ => va_up_ne _ _ hx), fun x hx hx2 => by rw [va_up_ne _ _ (fun (h : x = q) => hx2 (h ▸ hq))]; exact h7 x hx hx2⟩
theorem gz_sub {j : Nat} (g : GZ L f a qs es cs L1 f1) (hj : qs[j]? = some q) (g2 : GZ L1 f1 q qs2 es2 cs2 L2 f2) : GZ L f a (qs ++ qs2) es (cs.set j es2 ++ cs2) L2 f2 := by
  obtain ⟨h1, rfl, h3, h4, h5, rfl, h7⟩ := g
  obtain ⟨k1, rfl, k3, k4, k5, rfl, k7⟩ := g2
  have hq := List.mem_of_getElem? hj
  have hd : ∀ x, x ∈ qs → x ∉ qs2 := fun x hx h => k3 x h (List.mem_append_right _ hx)
  refine ⟨h1, List.append_assoc _ _ _, fun x hx => ?_, ?_, ?_, ?_, fun x hx hx2 => ?_⟩
  · rcases List.mem_append.mp hx with h | h
    · exact h3 x h
    · exact fun h' => k3 x h (List.mem_append_left _ h')
  · exact List.nodup_append.mpr ⟨h4, k4, fun x hx y hy h => hd x hx (h ▸ hy)⟩
  · rw [k7 a (fun h => h3 q hq (h ▸ h1)) (fun h => k3 a h (List.mem_append_left _ h1))]; exact h5
  · rw [List.map_append]
    congr 1
    exact map_set qs j h4 hj k5 (fun x hx hx2 => k7 x hx (hd x hx2))
  · rw [k7 x (fun h => hx2 (h ▸ List.mem_append_left _ hq)) (fun h => hx2 (List.mem_append_right _ h))]
    exact h7 x hx (fun h => hx2 (List.mem_append_left _ h))
theorem gz_me (g : GZ L f a qs es cs L1 f1) : f1 a = es := g.2.2.2.2.1
theorem gz_a (g : GZ L f a qs es cs L1 f1) : a ∈ L1 := by rw [g.2.1]; exact List.mem_append_left _ g.1
theorem gz_mem {j : Nat} (g : GZ L f a qs es cs L1 f1) (hj : qs[j]? = some q) : q ∈ L1 := by rw [g.2.1]; exact List.mem_append_right _ (List.mem_of_getElem? hj)
theorem gz_at {j : Nat} (g : GZ L f a qs es cs L1 f1) (hj : qs[j]? = some q) (hx : cs[j]? = some X) : f1 q = X := by
  have h := g.2.2.2.2.2.1
  rw [← h, List.getElem?_map, hj] at hx
  exact Option.some.inj hx
/-- all cells of the pool, with their contents -/
def GL (L : List Nat) (f : Nat → va_E) (cs : List va_E) : Prop := L.Nodup ∧ L.map f = cs
theorem gy9_0 : GL [] f [] := ⟨List.nodup_nil, rfl⟩
theorem gy9_new (g : GL L f cs) (hq : q ∉ L) : GL (L ++ [q]) (va_up f q X) (cs ++ [X]) := by
  obtain ⟨h1, rfl⟩ := g
  refine ⟨List.nodup_append.mpr ⟨h1, List.nodup_cons.mpr ⟨fun h => (nomatch h), List.nodup_nil⟩, fun x hx y hy h => ?_⟩, ?_⟩
  · rcases List.mem_singleton.mp hy with rfl
    exact hq (h ▸ hx)
  · rw [List.map_append]
    congr 1
    · exact List.map_congr_left (fun x hx => va_up_ne _ _ (fun h => hq (h ▸ hx)))
    · show [va_up f q X q] = [X]
      rw [va_up_self]
theorem gy9_sub {j : Nat} (g : GL L f cs) (hj : L[j]? = some q) (g2 : GZ L f q qs2 es2 cs2 L2 f2) : GL L2 f2 (cs.set j es2 ++ cs2) := by
  obtain ⟨h1, rfl⟩ := g
  obtain ⟨k1, rfl, k3, k4, k5, rfl, k7⟩ := g2
  refine ⟨List.nodup_append.mpr ⟨h1, k4, fun x hx y hy h => k3 y hy (h ▸ hx)⟩, ?_⟩
  rw [List.map_append]
  congr 1
  exact map_set L j h1 hj k5 (fun x hx hx2 => k7 x hx (fun h => k3 x h hx2))
theorem gy9_at {j : Nat} (g : GL L f cs) (hj : L[j]? = some q) (hx : cs[j]? = some X) : f q = X := by
  have h := g.2
  rw [← h, List.getElem?_map, hj] at hx
  exact Option.some.inj hx
/-- the rows -/
theorem g_obj (C : gC p s m args c D CL (TY cd) A cc own nL) {ix : Nat} (hw : Cond.methodLink own ix ⟨"java/lang/Object", "<init>", "()V"⟩ ∈ TB) (hd : decode cc pc = .ok (.invokespecial ix, 3)) (pc' : Nat) (hp : pc + 3 = pc') (hf : 1 ≤ R.frames) (hl : (st.map fun v => v.category).sum + 12 ≤ R.locals) (k : gW p l e R s m args below meth c D CL A nL Q cells slots L f pc' lv st) : gW p l e R s m args below meth c D CL A nL Q cells slots L f pc lv (.ref a :: st) := by
  subst hp
  intro H locs ls h1 h2 h3 h4
  have hi : Cond.instanceMethod ⟨"java/lang/Object", "<init>", "()V"⟩ ∈ TB := tb_mem (List.mem_of_getElem? (i := 23) (by decide +kernel)) rfl
  have hc : Cond.code ⟨"java/lang/Object", "<init>", "()V"⟩ ⟨#[0xb1]⟩ 1 none ∈ TB := tb_mem (List.mem_of_getElem? (i := 24) rfl) rfl
  exact W.objInit C.1.1 C.1.2.1 C.1.2.2.2.1 (C.1.2.2.2.2 _ hw) (C.1.2.2.2.2 _ hi) (C.1.2.2.2.2 _ hc) rfl (by rw [C.1.2.2.1]; exact h4.1) rfl hd hf (by show 2 * 0 + _ + 12 ≤ _; omega) (k H locs ls h1 h2 h3 h4)
theorem r_newa (C : gC p s m args c D CL (TY cd) A cc own nL) (g : GZ L0 f0 a qs es cs L f) {atype : ArrayType} {ty : FieldType} (hty : newarray.typeOf atype = ty) {cA : ClassId} {t0 : Nat} (ht : (TY cd)[t0]? = some (cA, ty)) (harr : Cond.arrayClass ty ∈ TB) {n : Int} (N' : Nat) {a0 : vp_A} (ha : ∀ cA : ClassId, vp_cell cA a0 = arrV cA N' (fun _ => defaultValue ty)) (hn : n = (N' : Int)) (hN : N' < 2147483648) (hbytes : N' * componentBytes ty ≤ 536870912) (c' : Nat) (hc' : cells + 1 = c') (s' : Nat) (hs' : slots + N' = s') (hcells : c' ≤ R.cells) (hslots : s' ≤ R.slots) (hd : decode cc pc = .ok (.newarray atype, 2)) (pc' : Nat) (hp : pc + 2 = pc')
    (k : ∀ q L' f', GZ L0 f0 a (qs ++ [q]) es (cs ++ [.inl (cA, a0)]) L' f' → gW p l e R s m args below meth c D CL A nL Q c' s' L' f' pc' lv (.ref q :: st)) : gW p l e R s m args below meth c D CL A nL Q cells slots L f pc lv (iv n :: st) := by
  subst hc'; subst hs'
  exact g_newa C hty ht harr ha hn hN hbytes hcells hslots hd pc' hp (fun q hq => k q _ _ (gz_new g hq))
theorem r_newq (C : gC p s m args c D CL (TY cd) A cc own nL) (g : GZ L0 f0 a qs es cs L f) {cn : String} {ix : Nat} {cA : ClassId} {t0 : Nat} (ht : (TY cd)[t0]? = some (cA, .object cn)) (hw : Cond.classLink own ix cn ∈ TB) (hover : va_AO cn s) {n : Int} (N' : Nat) (hn : n = (N' : Int)) (hN : N' < 2147483648) (hbytes : N' * 4 ≤ 536870912) (c' : Nat) (hc' : cells + 1 = c') (s' : Nat) (hs' : slots + N' = s') (hcells : c' ≤ R.cells) (hslots : s' ≤ R.slots) (hd : decode cc pc = .ok (.anewarray ix, 3)) (pc' : Nat) (hp : pc + 3 = pc')
    (k : ∀ q L' f', GZ L0 f0 a (qs ++ [q]) es (cs ++ [qa cA N' (fun _ => none)]) L' f' → gW p l e R s m args below meth c D CL A nL Q c' s' L' f' pc' lv (.ref q :: st)) : gW p l e R s m args below meth c D CL A nL Q cells slots L f pc lv (iv n :: st) := by
  subst hc'; subst hs'
  exact g_newq C ht hw hover hn hN hbytes hcells hslots hd pc' hp (fun q hq => k q _ _ (gz_new g hq))
theorem r_new (C : gC p s m args c D CL (TY cd) A cc own nL) (g : GZ L0 f0 a qs es cs L f) {cn : String} {T : u_T} {N ci ix : Nat} (hin : ∀ w ∈ u_ws cn T N, w ∈ TB) (hc : CL[ci]? = some (cn, T, N)) (ty0 : Nat → FieldType) (hty : ∀ k, k < N → parseFieldDescriptor (T k).2.2.1 = some (ty0 k)) (fs : List Value) (hfs : ∀ j, j < N → defaultValue (ty0 j) = vp_V fs j)
    (hw : Cond.classLink own ix cn ∈ TB ∧ Cond.instantiable cn N ∈ TB ∧ Cond.initialized cn ∈ TB) (c' : Nat) (hc' : cells + 1 = c') (s' : Nat) (hs' : slots + N = s') (hcells : c' ≤ R.cells) (hslots : s' ≤ R.slots) (hd : decode cc pc = .ok (.new ix, 3)) (pc' : Nat) (hp : pc + 3 = pc')
    (k : ∀ q L' f', GZ L0 f0 a (qs ++ [q]) es (cs ++ [.inr (ci, fs)]) L' f' → gW p l e R s m args below meth c D CL A nL Q c' s' L' f' pc' lv (.ref q :: st)) : gW p l e R s m args below meth c D CL A nL Q cells slots L f pc lv st := by
  subst hc'; subst hs'
  exact g_new C hin hc ty0 hty hfs hw hcells hslots hd pc' hp (fun q hq => k q _ _ (gz_new g hq))
theorem r_init (C : gC p s m args c D CL (TY cd) A cc own nL) {y : MethodName} {b : ByteArray} {maxL : Nat} {rm : Room} {post : List Nat → (Nat → va_E) → Prop} (M : gMet l y b maxL none rm D CL (TY cd) L f [.ref q] (fun r L' f' => r = none ∧ post L' f')) {ix : Nat} (hd : decode cc pc = .ok (.invokespecial ix, 3)) (pc' : Nat) (hp : pc + 3 = pc') (hw : gwI own ix y) (hcode : Cond.code y b maxL none ∈ TB) (hin : y.name = "<init>") (hy : gY y 0 = true) (c' : Nat) (hc' : cells + rm.cells = c') (s' : Nat) (hs' : slots + rm.slots = s') (hR : gR rm R maxL cells slots = true) (hrest : (st.map fun v => v.category).sum ≤ 8)
    (k : ∀ L' f', post L' f' → gW p l e R s m args below meth c D CL A nL Q c' s' L' f' pc' lv st) : gW p l e R s m args below meth c D CL A nL Q cells slots L f pc lv (.ref q :: st) := by
  subst hc'; subst hs'
  refine g_callI C M hd pc' hp hw hcode hin 0 hy rfl hR rfl hrest (fun r L' f' h => ?_)
  obtain ⟨rfl, h⟩ := h
  exact k L' f' h
theorem ac_int : Cond.arrayClass .int ∈ TB := tb_mem (List.mem_of_getElem? (i := 55) (by decide +kernel)) rfl
theorem ac_long : Cond.arrayClass .long ∈ TB := tb_mem (List.mem_of_getElem? (i := 94) (by decide +kernel)) rfl
end GRW
