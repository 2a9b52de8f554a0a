section GW
variable {p : Program} {l : Launch} {e : Env} {R : Room} {s : State} {m : MethodId} {args : Array Value} {below : List Frame} {meth : Method} {c : Code} {D : va_G} {cl : List vw_C} {A : Nat → Prop} {nL : Nat} {Q : State → Prop} {cells slots : Nat} {L : List Nat} {f : Nat → va_E} {pc : Nat} {lv : List (Nat × Value)} {st : List Value} {cc : ByteArray} {own : String} {tys : List (ClassId × FieldType)}
def gW (p : Program) (l : Launch) (e : Env) (R : Room) (s : State) (m : MethodId) (args : Array Value) (below : List Frame) (meth : Method) (c : Code) (D : va_G) (cl : List vw_C) (A : Nat → Prop) (nL : Nat) (Q : State → Prop) (cells slots : Nat) (L : List Nat) (f : Nat → va_E) (pc : Nat) (lv : List (Nat × Value)) (st : List Value) : Prop :=
  ∀ (H : Heap) (locs : List Loc) (ls : Array Slot), va_P D cl (va_pl L f) H → va_D A (va_pl L f) → va_S A s.heap H locs → lv_has ls nL lv → W p l e R s m args below meth c H locs cells slots Q (F0 m pc ls st)
/-- what stays fixed while a method is walked -/
def gC (p : Program) (s : State) (m : MethodId) (args : Array Value) (c : Code) (D : va_G) (cl : List vw_C) (tys : List (ClassId × FieldType)) (A : Nat → Prop) (cc : ByteArray) (own : String) (nL : Nat) : Prop :=
  CallFix p m c cc nL s args TB own ∧ gE D cl tys A s ∧ ∀ q, s.heap.size ≤ q → A q
theorem g_iconst (C : gC p s m args c D cl tys A cc own nL) {n : Int} (hd : decode cc pc = .ok (.iconst n, 1)) (pc' : Nat) (hp : pc + 1 = pc')  (k : gW p l e R s m args below meth c D cl A nL Q cells slots L f pc' (lv) (iv n :: st)) : gW p l e R s m args below meth c D cl A nL Q cells slots L f (pc) (lv) (st) := by
  intro H locs ls h1 h2 h3 h4
  subst hp
  exact lv_iconst C.1.1 C.1.2.1 hd rfl (k H locs ls h1 h2 h3 h4)
theorem g_bipush (C : gC p s m args c D cl tys A cc own nL) {n : Int} (hd : decode cc pc = .ok (.bipush n, 2)) (pc' : Nat) (hp : pc + 2 = pc') (hn : (Int8.ofInt n).toInt32 = Int32.ofInt n) (k : gW p l e R s m args below meth c D cl A nL Q cells slots L f pc' (lv) (iv n :: st)) : gW p l e R s m args below meth c D cl A nL Q cells slots L f (pc) (lv) (st) := by
  intro H locs ls h1 h2 h3 h4
  subst hp
  exact lv_bipush C.1.1 C.1.2.1 hd hn (k H locs ls h1 h2 h3 h4)
theorem g_sipush (C : gC p s m args c D cl tys A cc own nL) {n : Int} (hd : decode cc pc = .ok (.sipush n, 3)) (pc' : Nat) (hp : pc + 3 = pc') (hn : (Int16.ofInt n).toInt32 = Int32.ofInt n) (k : gW p l e R s m args below meth c D cl A nL Q cells slots L f pc' (lv) (iv n :: st)) : gW p l e R s m args below meth c D cl A nL Q cells slots L f (pc) (lv) (st) := by
  intro H locs ls h1 h2 h3 h4
  subst hp
  exact lv_sipush C.1.1 C.1.2.1 hd hn (k H locs ls h1 h2 h3 h4)
theorem g_lconst (C : gC p s m args c D cl tys A cc own nL) {n : Fin 2} {z : Int} (hd : decode cc pc = .ok (.lconst n, 1)) (pc' : Nat) (hp : pc + 1 = pc') (hn : Int64.ofNat (n : Nat) = Int64.ofInt z) (k : gW p l e R s m args below meth c D cl A nL Q cells slots L f pc' (lv) (jv z :: st)) : gW p l e R s m args below meth c D cl A nL Q cells slots L f (pc) (lv) (st) := by
  intro H locs ls h1 h2 h3 h4
  subst hp
  exact lv_lconst C.1.1 C.1.2.1 hd hn (k H locs ls h1 h2 h3 h4)
theorem g_ldc (C : gC p s m args c D cl tys A cc own nL) {ix : Nat} {z : Int} {v : Int32} (hd : decode cc pc = .ok (.ldc ix, 2)) (pc' : Nat) (hp : pc + 2 = pc') (hv : v = Int32.ofInt z) (hw : Cond.constant own ix v ∈ TB) (k : gW p l e R s m args below meth c D cl A nL Q cells slots L f pc' (lv) (iv z :: st)) : gW p l e R s m args below meth c D cl A nL Q cells slots L f (pc) (lv) (st) := by
  intro H locs ls h1 h2 h3 h4
  subst hp
  subst hv
  exact lv_ldc C.1.1 C.1.2.1 C.1.2.2.2.1 (C.1.2.2.2.2 _ hw) hd (k H locs ls h1 h2 h3 h4)
theorem g_ldc2 (C : gC p s m args c D cl tys A cc own nL) {ix : Nat} {z : Int} {v : Int64} (hd : decode cc pc = .ok (.ldc2_w ix, 3)) (pc' : Nat) (hp : pc + 3 = pc') (hv : v = Int64.ofInt z) (hw : Cond.constantLong own ix v ∈ TB) (k : gW p l e R s m args below meth c D cl A nL Q cells slots L f pc' (lv) (jv z :: st)) : gW p l e R s m args below meth c D cl A nL Q cells slots L f (pc) (lv) (st) := by
  intro H locs ls h1 h2 h3 h4
  subst hp
  subst hv
  exact lv_ldc2 C.1.1 C.1.2.1 C.1.2.2.2.1 (C.1.2.2.2.2 _ hw) hd (k H locs ls h1 h2 h3 h4)
theorem g_iload_n (C : gC p s m args c D cl tys A cc own nL) {j : Fin 4} {i : Nat} {z : Int} (hd : decode cc pc = .ok (.iload_n j, 1)) (pc' : Nat) (hp : pc + 1 = pc') (hi : (j : Nat) = i) (q : Nat) (hq : lv[q]? = some (i, iv z)) (k : gW p l e R s m args below meth c D cl A nL Q cells slots L f pc' (lv) (iv z :: st)) : gW p l e R s m args below meth c D cl A nL Q cells slots L f (pc) (lv) (st) := by
  intro H locs ls h1 h2 h3 h4
  subst hp
  exact lv_iload_n C.1.1 C.1.2.1 hd hi (lv_at h4 q hq) (k H locs ls h1 h2 h3 h4)
theorem g_iload (C : gC p s m args c D cl tys A cc own nL) {i : Nat} {z : Int} (hd : decode cc pc = .ok (.iload i, 2)) (pc' : Nat) (hp : pc + 2 = pc') (q : Nat) (hq : lv[q]? = some (i, iv z)) (k : gW p l e R s m args below meth c D cl A nL Q cells slots L f pc' (lv) (iv z :: st)) : gW p l e R s m args below meth c D cl A nL Q cells slots L f (pc) (lv) (st) := by
  intro H locs ls h1 h2 h3 h4
  subst hp
  exact lv_iload C.1.1 C.1.2.1 hd (lv_at h4 q hq) (k H locs ls h1 h2 h3 h4)
theorem g_lload_n (C : gC p s m args c D cl tys A cc own nL) {j : Fin 4} {i : Nat} {z : Int} (hd : decode cc pc = .ok (.lload_n j, 1)) (pc' : Nat) (hp : pc + 1 = pc') (hi : (j : Nat) = i) (q : Nat) (hq : lv[q]? = some (i, jv z)) (k : gW p l e R s m args below meth c D cl A nL Q cells slots L f pc' (lv) (jv z :: st)) : gW p l e R s m args below meth c D cl A nL Q cells slots L f (pc) (lv) (st) := by
  intro H locs ls h1 h2 h3 h4
  subst hp
  exact lv_lload_n C.1.1 C.1.2.1 hd hi (lv_at h4 q hq) (k H locs ls h1 h2 h3 h4)
theorem g_lload (C : gC p s m args c D cl tys A cc own nL) {i : Nat} {z : Int} (hd : decode cc pc = .ok (.lload i, 2)) (pc' : Nat) (hp : pc + 2 = pc') (q : Nat) (hq : lv[q]? = some (i, jv z)) (k : gW p l e R s m args below meth c D cl A nL Q cells slots L f pc' (lv) (jv z :: st)) : gW p l e R s m args below meth c D cl A nL Q cells slots L f (pc) (lv) (st) := by
  intro H locs ls h1 h2 h3 h4
  subst hp
  exact lv_lload C.1.1 C.1.2.1 hd (lv_at h4 q hq) (k H locs ls h1 h2 h3 h4)
theorem g_aload_n (C : gC p s m args c D cl tys A cc own nL) {j : Fin 4} {i : Nat} {z : Nat} (hd : decode cc pc = .ok (.aload_n j, 1)) (pc' : Nat) (hp : pc + 1 = pc') (hi : (j : Nat) = i) (q : Nat) (hq : lv[q]? = some (i, .ref z)) (k : gW p l e R s m args below meth c D cl A nL Q cells slots L f pc' (lv) (.ref z :: st)) : gW p l e R s m args below meth c D cl A nL Q cells slots L f (pc) (lv) (st) := by
  intro H locs ls h1 h2 h3 h4
  subst hp
  exact lv_aload_n C.1.1 C.1.2.1 hd hi (lv_at h4 q hq) (k H locs ls h1 h2 h3 h4)
theorem g_aload (C : gC p s m args c D cl tys A cc own nL) {i : Nat} {z : Nat} (hd : decode cc pc = .ok (.aload i, 2)) (pc' : Nat) (hp : pc + 2 = pc') (q : Nat) (hq : lv[q]? = some (i, .ref z)) (k : gW p l e R s m args below meth c D cl A nL Q cells slots L f pc' (lv) (.ref z :: st)) : gW p l e R s m args below meth c D cl A nL Q cells slots L f (pc) (lv) (st) := by
  intro H locs ls h1 h2 h3 h4
  subst hp
  exact lv_aload C.1.1 C.1.2.1 hd (lv_at h4 q hq) (k H locs ls h1 h2 h3 h4)
theorem g_istore_n (C : gC p s m args c D cl tys A cc own nL) {j : Fin 4} {i : Nat} {z : Int} (hd : decode cc pc = .ok (.istore_n j, 1)) (pc' : Nat) (hp : pc + 1 = pc') (lv' : List (Nat × Value)) (hi : (j : Nat) = i) (hn : i < nL) (hl : (i, Value.int (Int32.ofInt z)) :: lv.filter (fun q => !(q.1 == i) && !(q.1 + 1 == i && q.2.category == 2)) = lv') (k : gW p l e R s m args below meth c D cl A nL Q cells slots L f pc' (lv') (st)) : gW p l e R s m args below meth c D cl A nL Q cells slots L f (pc) (lv) (iv z :: st) := by
  intro H locs ls h1 h2 h3 h4
  subst hp
  exact lv_istore_n C.1.1 C.1.2.1 hd hi h4 hn hl (fun ls' h4' => k H locs ls' h1 h2 h3 h4')
theorem g_istore (C : gC p s m args c D cl tys A cc own nL) {i : Nat} {z : Int} (hd : decode cc pc = .ok (.istore i, 2)) (pc' : Nat) (hp : pc + 2 = pc') (lv' : List (Nat × Value)) (hn : i < nL) (hl : (i, Value.int (Int32.ofInt z)) :: lv.filter (fun q => !(q.1 == i) && !(q.1 + 1 == i && q.2.category == 2)) = lv') (k : gW p l e R s m args below meth c D cl A nL Q cells slots L f pc' (lv') (st)) : gW p l e R s m args below meth c D cl A nL Q cells slots L f (pc) (lv) (iv z :: st) := by
  intro H locs ls h1 h2 h3 h4
  subst hp
  exact lv_istore C.1.1 C.1.2.1 hd h4 hn hl (fun ls' h4' => k H locs ls' h1 h2 h3 h4')
theorem g_astore_n (C : gC p s m args c D cl tys A cc own nL) {j : Fin 4} {i : Nat} {z : Nat} (hd : decode cc pc = .ok (.astore_n j, 1)) (pc' : Nat) (hp : pc + 1 = pc') (lv' : List (Nat × Value)) (hi : (j : Nat) = i) (hn : i < nL) (hl : (i, Value.ref z) :: lv.filter (fun q => !(q.1 == i) && !(q.1 + 1 == i && q.2.category == 2)) = lv') (k : gW p l e R s m args below meth c D cl A nL Q cells slots L f pc' (lv') (st)) : gW p l e R s m args below meth c D cl A nL Q cells slots L f (pc) (lv) (.ref z :: st) := by
  intro H locs ls h1 h2 h3 h4
  subst hp
  exact lv_astore_n C.1.1 C.1.2.1 hd hi h4 hn hl (fun ls' h4' => k H locs ls' h1 h2 h3 h4')
theorem g_astore (C : gC p s m args c D cl tys A cc own nL) {i : Nat} {z : Nat} (hd : decode cc pc = .ok (.astore i, 2)) (pc' : Nat) (hp : pc + 2 = pc') (lv' : List (Nat × Value)) (hn : i < nL) (hl : (i, Value.ref z) :: lv.filter (fun q => !(q.1 == i) && !(q.1 + 1 == i && q.2.category == 2)) = lv') (k : gW p l e R s m args below meth c D cl A nL Q cells slots L f pc' (lv') (st)) : gW p l e R s m args below meth c D cl A nL Q cells slots L f (pc) (lv) (.ref z :: st) := by
  intro H locs ls h1 h2 h3 h4
  subst hp
  exact lv_astore C.1.1 C.1.2.1 hd h4 hn hl (fun ls' h4' => k H locs ls' h1 h2 h3 h4')
theorem g_lstore_n (C : gC p s m args c D cl tys A cc own nL) {j : Fin 4} {i : Nat} {z : Int} (hd : decode cc pc = .ok (.lstore_n j, 1)) (pc' : Nat) (hp : pc + 1 = pc') (lv' : List (Nat × Value)) (hi : (j : Nat) = i) (hn : i + 1 < nL) (hl : (i, Value.long (Int64.ofInt z)) :: lv.filter (fun q => !(q.1 == i) && (!(q.1 == i + 1) && !(q.1 + 1 == i && q.2.category == 2))) = lv') (k : gW p l e R s m args below meth c D cl A nL Q cells slots L f pc' (lv') (st)) : gW p l e R s m args below meth c D cl A nL Q cells slots L f (pc) (lv) (jv z :: st) := by
  intro H locs ls h1 h2 h3 h4
  subst hp
  exact lv_lstore_n C.1.1 C.1.2.1 hd hi h4 hn hl (fun ls' h4' => k H locs ls' h1 h2 h3 h4')
theorem g_lstore (C : gC p s m args c D cl tys A cc own nL) {i : Nat} {z : Int} (hd : decode cc pc = .ok (.lstore i, 2)) (pc' : Nat) (hp : pc + 2 = pc') (lv' : List (Nat × Value)) (hn : i + 1 < nL) (hl : (i, Value.long (Int64.ofInt z)) :: lv.filter (fun q => !(q.1 == i) && (!(q.1 == i + 1) && !(q.1 + 1 == i && q.2.category == 2))) = lv') (k : gW p l e R s m args below meth c D cl A nL Q cells slots L f pc' (lv') (st)) : gW p l e R s m args below meth c D cl A nL Q cells slots L f (pc) (lv) (jv z :: st) := by
  intro H locs ls h1 h2 h3 h4
  subst hp
  exact lv_lstore C.1.1 C.1.2.1 hd h4 hn hl (fun ls' h4' => k H locs ls' h1 h2 h3 h4')
theorem g_iinc (C : gC p s m args c D cl tys A cc own nL) {i : Nat} {n z : Int} (hd : decode cc pc = .ok (.iinc i n, 3)) (pc' : Nat) (hp : pc + 3 = pc') (lv' : List (Nat × Value)) (q : Nat) (hq : lv[q]? = some (i, iv z)) (hn : i < nL) (hl : (i, Value.int (Int32.ofInt (z + n))) :: lv.filter (fun q => !(q.1 == i) && !(q.1 + 1 == i && q.2.category == 2)) = lv') (k : gW p l e R s m args below meth c D cl A nL Q cells slots L f pc' (lv') (st)) : gW p l e R s m args below meth c D cl A nL Q cells slots L f (pc) (lv) (st) := by
  intro H locs ls h1 h2 h3 h4
  subst hp
  exact lv_iinc C.1.1 C.1.2.1 hd h4 hq (Int32.ofInt_add z n).symm hn hl (fun ls' h4' => k H locs ls' h1 h2 h3 h4')
theorem g_iadd (C : gC p s m args c D cl tys A cc own nL) {x y : Int} (hd : decode cc pc = .ok (.iadd, 1)) (pc' : Nat) (hp : pc + 1 = pc')  (k : gW p l e R s m args below meth c D cl A nL Q cells slots L f pc' (lv) (iv (x + y) :: st)) : gW p l e R s m args below meth c D cl A nL Q cells slots L f (pc) (lv) (iv y :: iv x :: st) := by
  intro H locs ls h1 h2 h3 h4
  subst hp
  refine lv_iadd C.1.1 C.1.2.1 hd ?_
  rw [← Int32.ofInt_add]
  exact k H locs ls h1 h2 h3 h4
theorem g_isub (C : gC p s m args c D cl tys A cc own nL) {x y : Int} (hd : decode cc pc = .ok (.isub, 1)) (pc' : Nat) (hp : pc + 1 = pc')  (k : gW p l e R s m args below meth c D cl A nL Q cells slots L f pc' (lv) (iv (x - y) :: st)) : gW p l e R s m args below meth c D cl A nL Q cells slots L f (pc) (lv) (iv y :: iv x :: st) := by
  intro H locs ls h1 h2 h3 h4
  subst hp
  refine lv_isub C.1.1 C.1.2.1 hd ?_
  rw [← Int32.ofInt_sub]
  exact k H locs ls h1 h2 h3 h4
theorem g_imul (C : gC p s m args c D cl tys A cc own nL) {x y : Int} (hd : decode cc pc = .ok (.imul, 1)) (pc' : Nat) (hp : pc + 1 = pc')  (k : gW p l e R s m args below meth c D cl A nL Q cells slots L f pc' (lv) (iv (x * y) :: st)) : gW p l e R s m args below meth c D cl A nL Q cells slots L f (pc) (lv) (iv y :: iv x :: st) := by
  intro H locs ls h1 h2 h3 h4
  subst hp
  refine lv_imul C.1.1 C.1.2.1 hd ?_
  rw [← Int32.ofInt_mul]
  exact k H locs ls h1 h2 h3 h4
theorem g_ladd (C : gC p s m args c D cl tys A cc own nL) {x y : Int} (hd : decode cc pc = .ok (.ladd, 1)) (pc' : Nat) (hp : pc + 1 = pc')  (k : gW p l e R s m args below meth c D cl A nL Q cells slots L f pc' (lv) (jv (x + y) :: st)) : gW p l e R s m args below meth c D cl A nL Q cells slots L f (pc) (lv) (jv y :: jv x :: st) := by
  intro H locs ls h1 h2 h3 h4
  subst hp
  refine lv_ladd C.1.1 C.1.2.1 hd ?_
  rw [← Int64.ofInt_add]
  exact k H locs ls h1 h2 h3 h4
theorem g_lsub (C : gC p s m args c D cl tys A cc own nL) {x y : Int} (hd : decode cc pc = .ok (.lsub, 1)) (pc' : Nat) (hp : pc + 1 = pc')  (k : gW p l e R s m args below meth c D cl A nL Q cells slots L f pc' (lv) (jv (x - y) :: st)) : gW p l e R s m args below meth c D cl A nL Q cells slots L f (pc) (lv) (jv y :: jv x :: st) := by
  intro H locs ls h1 h2 h3 h4
  subst hp
  refine lv_lsub C.1.1 C.1.2.1 hd ?_
  rw [← Int64.ofInt_sub]
  exact k H locs ls h1 h2 h3 h4
theorem g_lmul (C : gC p s m args c D cl tys A cc own nL) {x y : Int} (hd : decode cc pc = .ok (.lmul, 1)) (pc' : Nat) (hp : pc + 1 = pc')  (k : gW p l e R s m args below meth c D cl A nL Q cells slots L f pc' (lv) (jv (x * y) :: st)) : gW p l e R s m args below meth c D cl A nL Q cells slots L f (pc) (lv) (jv y :: jv x :: st) := by
  intro H locs ls h1 h2 h3 h4
  subst hp
  refine lv_lmul C.1.1 C.1.2.1 hd ?_
  rw [← Int64.ofInt_mul]
  exact k H locs ls h1 h2 h3 h4
theorem g_ineg (C : gC p s m args c D cl tys A cc own nL) {x : Int} (hd : decode cc pc = .ok (.ineg, 1)) (pc' : Nat) (hp : pc + 1 = pc')  (k : gW p l e R s m args below meth c D cl A nL Q cells slots L f pc' (lv) (iv (-x) :: st)) : gW p l e R s m args below meth c D cl A nL Q cells slots L f (pc) (lv) (iv x :: st) := by
  intro H locs ls h1 h2 h3 h4
  subst hp
  refine lv_ineg C.1.1 C.1.2.1 hd ?_
  rw [← Int32.ofInt_neg]
  exact k H locs ls h1 h2 h3 h4
theorem g_idiv (C : gC p s m args c D cl tys A cc own nL) {x y : Int} (hd : decode cc pc = .ok (.idiv, 1)) (pc' : Nat) (hp : pc + 1 = pc') (hx : r32 x) (hy : r32 y) (hy0 : y ≠ 0) (k : gW p l e R s m args below meth c D cl A nL Q cells slots L f pc' (lv) (iv (x.tdiv y) :: st)) : gW p l e R s m args below meth c D cl A nL Q cells slots L f (pc) (lv) (iv y :: iv x :: st) := by
  intro H locs ls h1 h2 h3 h4
  subst hp
  refine lv_idiv C.1.1 C.1.2.1 hd (fun h => hy0 ((iv_eq0 hy).mp h)) ?_
  rw [← Int32.ofInt_tdiv hx.1 hx.2 hy.1 hy.2]
  exact k H locs ls h1 h2 h3 h4
theorem g_ldiv (C : gC p s m args c D cl tys A cc own nL) {x y : Int} (hd : decode cc pc = .ok (.ldiv, 1)) (pc' : Nat) (hp : pc + 1 = pc') (hx : r64 x) (hy : r64 y) (hy0 : y ≠ 0) (k : gW p l e R s m args below meth c D cl A nL Q cells slots L f pc' (lv) (jv (x.tdiv y) :: st)) : gW p l e R s m args below meth c D cl A nL Q cells slots L f (pc) (lv) (jv y :: jv x :: st) := by
  intro H locs ls h1 h2 h3 h4
  subst hp
  refine lv_ldiv C.1.1 C.1.2.1 hd (fun h => hy0 ((jv_eq0 hy).mp h)) ?_
  rw [← Int64.ofInt_tdiv hx.1 hx.2 hy.1 hy.2]
  exact k H locs ls h1 h2 h3 h4
theorem g_irem (C : gC p s m args c D cl tys A cc own nL) {x y : Int} (hd : decode cc pc = .ok (.irem, 1)) (pc' : Nat) (hp : pc + 1 = pc') (hx : r32 x) (hy : r32 y) (hy0 : y ≠ 0) (k : gW p l e R s m args below meth c D cl A nL Q cells slots L f pc' (lv) (iv (x.tmod y) :: st)) : gW p l e R s m args below meth c D cl A nL Q cells slots L f (pc) (lv) (iv y :: iv x :: st) := by
  intro H locs ls h1 h2 h3 h4
  subst hp
  refine lv_irem C.1.1 C.1.2.1 hd (fun h => hy0 ((iv_eq0 hy).mp h)) ?_
  rw [← Int32.ofInt_tdiv hx.1 hx.2 hy.1 hy.2, ← Int32.ofInt_mul, ← Int32.ofInt_sub, show x - x.tdiv y * y = x.tmod y by rw [Int.tmod_def, Int.mul_comm]]
  exact k H locs ls h1 h2 h3 h4
theorem g_lrem (C : gC p s m args c D cl tys A cc own nL) {x y : Int} (hd : decode cc pc = .ok (.lrem, 1)) (pc' : Nat) (hp : pc + 1 = pc') (hx : r64 x) (hy : r64 y) (hy0 : y ≠ 0) (k : gW p l e R s m args below meth c D cl A nL Q cells slots L f pc' (lv) (jv (x.tmod y) :: st)) : gW p l e R s m args below meth c D cl A nL Q cells slots L f (pc) (lv) (jv y :: jv x :: st) := by
  intro H locs ls h1 h2 h3 h4
  subst hp
  refine lv_lrem C.1.1 C.1.2.1 hd (fun h => hy0 ((jv_eq0 hy).mp h)) ?_
  rw [← Int64.ofInt_tdiv hx.1 hx.2 hy.1 hy.2, ← Int64.ofInt_mul, ← Int64.ofInt_sub, show x - x.tdiv y * y = x.tmod y by rw [Int.tmod_def, Int.mul_comm]]
  exact k H locs ls h1 h2 h3 h4
theorem g_i2l (C : gC p s m args c D cl tys A cc own nL) {x : Int} (hd : decode cc pc = .ok (.i2l, 1)) (pc' : Nat) (hp : pc + 1 = pc') (hx : r32 x) (k : gW p l e R s m args below meth c D cl A nL Q cells slots L f pc' (lv) (jv x :: st)) : gW p l e R s m args below meth c D cl A nL Q cells slots L f (pc) (lv) (iv x :: st) := by
  intro H locs ls h1 h2 h3 h4
  subst hp
  exact lv_i2l C.1.1 C.1.2.1 hd (Int32.toInt64_ofInt hx.1 hx.2) (k H locs ls h1 h2 h3 h4)
theorem g_l2i (C : gC p s m args c D cl tys A cc own nL) {x : Int} (hd : decode cc pc = .ok (.l2i, 1)) (pc' : Nat) (hp : pc + 1 = pc')  (k : gW p l e R s m args below meth c D cl A nL Q cells slots L f pc' (lv) (iv x :: st)) : gW p l e R s m args below meth c D cl A nL Q cells slots L f (pc) (lv) (jv x :: st) := by
  intro H locs ls h1 h2 h3 h4
  subst hp
  exact lv_l2i C.1.1 C.1.2.1 hd Int64.toInt32_ofInt (k H locs ls h1 h2 h3 h4)
theorem g_dup (C : gC p s m args c D cl tys A cc own nL) {va : Value} (hd : decode cc pc = .ok (.dup, 1)) (pc' : Nat) (hp : pc + 1 = pc') (ha : va.category = 1) (k : gW p l e R s m args below meth c D cl A nL Q cells slots L f pc' (lv) (va :: va :: st)) : gW p l e R s m args below meth c D cl A nL Q cells slots L f (pc) (lv) (va :: st) := by
  intro H locs ls h1 h2 h3 h4
  subst hp
  exact lv_dup C.1.1 C.1.2.1 hd ha (k H locs ls h1 h2 h3 h4)
theorem g_pop (C : gC p s m args c D cl tys A cc own nL) {va : Value} (hd : decode cc pc = .ok (.pop, 1)) (pc' : Nat) (hp : pc + 1 = pc') (ha : va.category = 1) (k : gW p l e R s m args below meth c D cl A nL Q cells slots L f pc' (lv) (st)) : gW p l e R s m args below meth c D cl A nL Q cells slots L f (pc) (lv) (va :: st) := by
  intro H locs ls h1 h2 h3 h4
  subst hp
  exact lv_pop C.1.1 C.1.2.1 hd ha (k H locs ls h1 h2 h3 h4)
theorem g_dup_x1 (C : gC p s m args c D cl tys A cc own nL) {va vb : Value} (hd : decode cc pc = .ok (.dup_x1, 1)) (pc' : Nat) (hp : pc + 1 = pc') (ha : va.category = 1) (hb : vb.category = 1) (k : gW p l e R s m args below meth c D cl A nL Q cells slots L f pc' (lv) (va :: vb :: va :: st)) : gW p l e R s m args below meth c D cl A nL Q cells slots L f (pc) (lv) (va :: vb :: st) := by
  intro H locs ls h1 h2 h3 h4
  subst hp
  exact lv_dup_x1 C.1.1 C.1.2.1 hd ha hb (k H locs ls h1 h2 h3 h4)
theorem g_dup_x2 (C : gC p s m args c D cl tys A cc own nL) {va vb vd : Value} (hd : decode cc pc = .ok (.dup_x2, 1)) (pc' : Nat) (hp : pc + 1 = pc') (ha : va.category = 1) (hb : vb.category = 1) (he : vd.category = 1) (k : gW p l e R s m args below meth c D cl A nL Q cells slots L f pc' (lv) (va :: vb :: vd :: va :: st)) : gW p l e R s m args below meth c D cl A nL Q cells slots L f (pc) (lv) (va :: vb :: vd :: st) := by
  intro H locs ls h1 h2 h3 h4
  subst hp
  exact lv_dup_x2 C.1.1 C.1.2.1 hd ha hb he (k H locs ls h1 h2 h3 h4)
theorem g_dup2_11 (C : gC p s m args c D cl tys A cc own nL) {va vb : Value} (hd : decode cc pc = .ok (.dup2, 1)) (pc' : Nat) (hp : pc + 1 = pc') (ha : va.category = 1) (hb : vb.category = 1) (k : gW p l e R s m args below meth c D cl A nL Q cells slots L f pc' (lv) (va :: vb :: va :: vb :: st)) : gW p l e R s m args below meth c D cl A nL Q cells slots L f (pc) (lv) (va :: vb :: st) := by
  intro H locs ls h1 h2 h3 h4
  subst hp
  exact lv_dup2_11 C.1.1 C.1.2.1 hd ha hb (k H locs ls h1 h2 h3 h4)
theorem g_dup2_2 (C : gC p s m args c D cl tys A cc own nL) {va : Value} (hd : decode cc pc = .ok (.dup2, 1)) (pc' : Nat) (hp : pc + 1 = pc') (ha : va.category = 2) (k : gW p l e R s m args below meth c D cl A nL Q cells slots L f pc' (lv) (va :: va :: st)) : gW p l e R s m args below meth c D cl A nL Q cells slots L f (pc) (lv) (va :: st) := by
  intro H locs ls h1 h2 h3 h4
  subst hp
  exact lv_dup2_2 C.1.1 C.1.2.1 hd ha (k H locs ls h1 h2 h3 h4)
theorem g_pop2_2 (C : gC p s m args c D cl tys A cc own nL) {va : Value} (hd : decode cc pc = .ok (.pop2, 1)) (pc' : Nat) (hp : pc + 1 = pc') (ha : va.category = 2) (k : gW p l e R s m args below meth c D cl A nL Q cells slots L f pc' (lv) (st)) : gW p l e R s m args below meth c D cl A nL Q cells slots L f (pc) (lv) (va :: st) := by
  intro H locs ls h1 h2 h3 h4
  subst hp
  exact lv_pop2_2 C.1.1 C.1.2.1 hd ha (k H locs ls h1 h2 h3 h4)
theorem g_dup2_x1_2 (C : gC p s m args c D cl tys A cc own nL) {va vb : Value} (hd : decode cc pc = .ok (.dup2_x1, 1)) (pc' : Nat) (hp : pc + 1 = pc') (ha : va.category = 2) (hb : vb.category = 1) (k : gW p l e R s m args below meth c D cl A nL Q cells slots L f pc' (lv) (va :: vb :: va :: st)) : gW p l e R s m args below meth c D cl A nL Q cells slots L f (pc) (lv) (va :: vb :: st) := by
  intro H locs ls h1 h2 h3 h4
  subst hp
  exact lv_dup2_x1_2 C.1.1 C.1.2.1 hd ha hb (k H locs ls h1 h2 h3 h4)
theorem g_dup2_x2_2 (C : gC p s m args c D cl tys A cc own nL) {va vb vd : Value} (hd : decode cc pc = .ok (.dup2_x2, 1)) (pc' : Nat) (hp : pc + 1 = pc') (ha : va.category = 2) (hb : vb.category = 1) (he : vd.category = 1) (k : gW p l e R s m args below meth c D cl A nL Q cells slots L f pc' (lv) (va :: vb :: vd :: va :: st)) : gW p l e R s m args below meth c D cl A nL Q cells slots L f (pc) (lv) (va :: vb :: vd :: st) := by
  intro H locs ls h1 h2 h3 h4
  subst hp
  exact lv_dup2_x2_2 C.1.1 C.1.2.1 hd ha hb he (k H locs ls h1 h2 h3 h4)
theorem g_goto (C : gC p s m args c D cl tys A cc own nL) {off : Int} (hd : decode cc pc = .ok (.goto off, 3)) (tgt : Nat) (ht : (pc : Int) + off = (tgt : Int)) (k : gW p l e R s m args below meth c D cl A nL Q cells slots L f (tgt) (lv) (st)) : gW p l e R s m args below meth c D cl A nL Q cells slots L f (pc) (lv) (st) := by
  intro H locs ls h1 h2 h3 h4
  exact lv_goto C.1.1 C.1.2.1 hd ht (k H locs ls h1 h2 h3 h4)
theorem g_icmp_eq (C : gC p s m args c D cl tys A cc own nL) {x y : Int} {off : Int} (hd : decode cc pc = .ok (.if_icmp .eq off, 3)) (pc' : Nat) (hp : pc + 3 = pc') (hx : r32 x) (hy : r32 y) (tgt : Nat) (ht : (pc : Int) + off = (tgt : Int)) (kt : x = y → gW p l e R s m args below meth c D cl A nL Q cells slots L f (tgt) (lv) (st)) (kf : ¬ x = y → gW p l e R s m args below meth c D cl A nL Q cells slots L f pc' (lv) (st)) : gW p l e R s m args below meth c D cl A nL Q cells slots L f (pc) (lv) (iv y :: iv x :: st) := by
  intro H locs ls h1 h2 h3 h4
  subst hp
  exact lv_icmp_eq C.1.1 C.1.2.1 hd ht (fun h => kt ((iv_eq hx hy).mp h) H locs ls h1 h2 h3 h4) (fun h => kf (fun q => h ((iv_eq hx hy).mpr q)) H locs ls h1 h2 h3 h4)
theorem g_if_eq (C : gC p s m args c D cl tys A cc own nL) {x : Int} {off : Int} (hd : decode cc pc = .ok (.ifCond .eq off, 3)) (pc' : Nat) (hp : pc + 3 = pc') (hx : r32 x) (tgt : Nat) (ht : (pc : Int) + off = (tgt : Int)) (kt : x = 0 → gW p l e R s m args below meth c D cl A nL Q cells slots L f (tgt) (lv) (st)) (kf : ¬ x = 0 → gW p l e R s m args below meth c D cl A nL Q cells slots L f pc' (lv) (st)) : gW p l e R s m args below meth c D cl A nL Q cells slots L f (pc) (lv) (iv x :: st) := by
  intro H locs ls h1 h2 h3 h4
  subst hp
  exact lv_if_eq C.1.1 C.1.2.1 hd ht (fun h => kt ((iv_eq0 hx).mp h) H locs ls h1 h2 h3 h4) (fun h => kf (fun q => h ((iv_eq0 hx).mpr q)) H locs ls h1 h2 h3 h4)
theorem g_icmp_ne (C : gC p s m args c D cl tys A cc own nL) {x y : Int} {off : Int} (hd : decode cc pc = .ok (.if_icmp .ne off, 3)) (pc' : Nat) (hp : pc + 3 = pc') (hx : r32 x) (hy : r32 y) (tgt : Nat) (ht : (pc : Int) + off = (tgt : Int)) (kt : ¬ x = y → gW p l e R s m args below meth c D cl A nL Q cells slots L f (tgt) (lv) (st)) (kf : x = y → gW p l e R s m args below meth c D cl A nL Q cells slots L f pc' (lv) (st)) : gW p l e R s m args below meth c D cl A nL Q cells slots L f (pc) (lv) (iv y :: iv x :: st) := by
  intro H locs ls h1 h2 h3 h4
  subst hp
  exact lv_icmp_ne C.1.1 C.1.2.1 hd ht (fun h => kt (fun q => h ((iv_eq hx hy).mpr q)) H locs ls h1 h2 h3 h4) (fun h => kf ((iv_eq hx hy).mp h) H locs ls h1 h2 h3 h4)
theorem g_if_ne (C : gC p s m args c D cl tys A cc own nL) {x : Int} {off : Int} (hd : decode cc pc = .ok (.ifCond .ne off, 3)) (pc' : Nat) (hp : pc + 3 = pc') (hx : r32 x) (tgt : Nat) (ht : (pc : Int) + off = (tgt : Int)) (kt : ¬ x = 0 → gW p l e R s m args below meth c D cl A nL Q cells slots L f (tgt) (lv) (st)) (kf : x = 0 → gW p l e R s m args below meth c D cl A nL Q cells slots L f pc' (lv) (st)) : gW p l e R s m args below meth c D cl A nL Q cells slots L f (pc) (lv) (iv x :: st) := by
  intro H locs ls h1 h2 h3 h4
  subst hp
  exact lv_if_ne C.1.1 C.1.2.1 hd ht (fun h => kt (fun q => h ((iv_eq0 hx).mpr q)) H locs ls h1 h2 h3 h4) (fun h => kf ((iv_eq0 hx).mp h) H locs ls h1 h2 h3 h4)
theorem g_icmp_lt (C : gC p s m args c D cl tys A cc own nL) {x y : Int} {off : Int} (hd : decode cc pc = .ok (.if_icmp .lt off, 3)) (pc' : Nat) (hp : pc + 3 = pc') (hx : r32 x) (hy : r32 y) (tgt : Nat) (ht : (pc : Int) + off = (tgt : Int)) (kt : x < y → gW p l e R s m args below meth c D cl A nL Q cells slots L f (tgt) (lv) (st)) (kf : ¬ x < y → gW p l e R s m args below meth c D cl A nL Q cells slots L f pc' (lv) (st)) : gW p l e R s m args below meth c D cl A nL Q cells slots L f (pc) (lv) (iv y :: iv x :: st) := by
  intro H locs ls h1 h2 h3 h4
  subst hp
  exact lv_icmp_lt C.1.1 C.1.2.1 hd ht (fun h => kt ((iv_lt hx hy).mp h) H locs ls h1 h2 h3 h4) (fun h => kf (fun q => h ((iv_lt hx hy).mpr q)) H locs ls h1 h2 h3 h4)
theorem g_if_lt (C : gC p s m args c D cl tys A cc own nL) {x : Int} {off : Int} (hd : decode cc pc = .ok (.ifCond .lt off, 3)) (pc' : Nat) (hp : pc + 3 = pc') (hx : r32 x) (tgt : Nat) (ht : (pc : Int) + off = (tgt : Int)) (kt : x < 0 → gW p l e R s m args below meth c D cl A nL Q cells slots L f (tgt) (lv) (st)) (kf : ¬ x < 0 → gW p l e R s m args below meth c D cl A nL Q cells slots L f pc' (lv) (st)) : gW p l e R s m args below meth c D cl A nL Q cells slots L f (pc) (lv) (iv x :: st) := by
  intro H locs ls h1 h2 h3 h4
  subst hp
  exact lv_if_lt C.1.1 C.1.2.1 hd ht (fun h => kt ((iv_lt0 hx).mp h) H locs ls h1 h2 h3 h4) (fun h => kf (fun q => h ((iv_lt0 hx).mpr q)) H locs ls h1 h2 h3 h4)
theorem g_icmp_ge (C : gC p s m args c D cl tys A cc own nL) {x y : Int} {off : Int} (hd : decode cc pc = .ok (.if_icmp .ge off, 3)) (pc' : Nat) (hp : pc + 3 = pc') (hx : r32 x) (hy : r32 y) (tgt : Nat) (ht : (pc : Int) + off = (tgt : Int)) (kt : y ≤ x → gW p l e R s m args below meth c D cl A nL Q cells slots L f (tgt) (lv) (st)) (kf : ¬ y ≤ x → gW p l e R s m args below meth c D cl A nL Q cells slots L f pc' (lv) (st)) : gW p l e R s m args below meth c D cl A nL Q cells slots L f (pc) (lv) (iv y :: iv x :: st) := by
  intro H locs ls h1 h2 h3 h4
  subst hp
  exact lv_icmp_ge C.1.1 C.1.2.1 hd ht (fun h => kt ((iv_le hy hx).mp h) H locs ls h1 h2 h3 h4) (fun h => kf (fun q => h ((iv_le hy hx).mpr q)) H locs ls h1 h2 h3 h4)
theorem g_if_ge (C : gC p s m args c D cl tys A cc own nL) {x : Int} {off : Int} (hd : decode cc pc = .ok (.ifCond .ge off, 3)) (pc' : Nat) (hp : pc + 3 = pc') (hx : r32 x) (tgt : Nat) (ht : (pc : Int) + off = (tgt : Int)) (kt : 0 ≤ x → gW p l e R s m args below meth c D cl A nL Q cells slots L f (tgt) (lv) (st)) (kf : ¬ 0 ≤ x → gW p l e R s m args below meth c D cl A nL Q cells slots L f pc' (lv) (st)) : gW p l e R s m args below meth c D cl A nL Q cells slots L f (pc) (lv) (iv x :: st) := by
  intro H locs ls h1 h2 h3 h4
  subst hp
  exact lv_if_ge C.1.1 C.1.2.1 hd ht (fun h => kt ((iv_0le hx).mp h) H locs ls h1 h2 h3 h4) (fun h => kf (fun q => h ((iv_0le hx).mpr q)) H locs ls h1 h2 h3 h4)
theorem g_icmp_gt (C : gC p s m args c D cl tys A cc own nL) {x y : Int} {off : Int} (hd : decode cc pc = .ok (.if_icmp .gt off, 3)) (pc' : Nat) (hp : pc + 3 = pc') (hx : r32 x) (hy : r32 y) (tgt : Nat) (ht : (pc : Int) + off = (tgt : Int)) (kt : y < x → gW p l e R s m args below meth c D cl A nL Q cells slots L f (tgt) (lv) (st)) (kf : ¬ y < x → gW p l e R s m args below meth c D cl A nL Q cells slots L f pc' (lv) (st)) : gW p l e R s m args below meth c D cl A nL Q cells slots L f (pc) (lv) (iv y :: iv x :: st) := by
  intro H locs ls h1 h2 h3 h4
  subst hp
  exact lv_icmp_gt C.1.1 C.1.2.1 hd ht (fun h => kt ((iv_lt hy hx).mp h) H locs ls h1 h2 h3 h4) (fun h => kf (fun q => h ((iv_lt hy hx).mpr q)) H locs ls h1 h2 h3 h4)
theorem g_if_gt (C : gC p s m args c D cl tys A cc own nL) {x : Int} {off : Int} (hd : decode cc pc = .ok (.ifCond .gt off, 3)) (pc' : Nat) (hp : pc + 3 = pc') (hx : r32 x) (tgt : Nat) (ht : (pc : Int) + off = (tgt : Int)) (kt : 0 < x → gW p l e R s m args below meth c D cl A nL Q cells slots L f (tgt) (lv) (st)) (kf : ¬ 0 < x → gW p l e R s m args below meth c D cl A nL Q cells slots L f pc' (lv) (st)) : gW p l e R s m args below meth c D cl A nL Q cells slots L f (pc) (lv) (iv x :: st) := by
  intro H locs ls h1 h2 h3 h4
  subst hp
  exact lv_if_gt C.1.1 C.1.2.1 hd ht (fun h => kt ((iv_0lt hx).mp h) H locs ls h1 h2 h3 h4) (fun h => kf (fun q => h ((iv_0lt hx).mpr q)) H locs ls h1 h2 h3 h4)
theorem g_icmp_le (C : gC p s m args c D cl tys A cc own nL) {x y : Int} {off : Int} (hd : decode cc pc = .ok (.if_icmp .le off, 3)) (pc' : Nat) (hp : pc + 3 = pc') (hx : r32 x) (hy : r32 y) (tgt : Nat) (ht : (pc : Int) + off = (tgt : Int)) (kt : x ≤ y → gW p l e R s m args below meth c D cl A nL Q cells slots L f (tgt) (lv) (st)) (kf : ¬ x ≤ y → gW p l e R s m args below meth c D cl A nL Q cells slots L f pc' (lv) (st)) : gW p l e R s m args below meth c D cl A nL Q cells slots L f (pc) (lv) (iv y :: iv x :: st) := by
  intro H locs ls h1 h2 h3 h4
  subst hp
  exact lv_icmp_le C.1.1 C.1.2.1 hd ht (fun h => kt ((iv_le hx hy).mp h) H locs ls h1 h2 h3 h4) (fun h => kf (fun q => h ((iv_le hx hy).mpr q)) H locs ls h1 h2 h3 h4)
theorem g_if_le (C : gC p s m args c D cl tys A cc own nL) {x : Int} {off : Int} (hd : decode cc pc = .ok (.ifCond .le off, 3)) (pc' : Nat) (hp : pc + 3 = pc') (hx : r32 x) (tgt : Nat) (ht : (pc : Int) + off = (tgt : Int)) (kt : x ≤ 0 → gW p l e R s m args below meth c D cl A nL Q cells slots L f (tgt) (lv) (st)) (kf : ¬ x ≤ 0 → gW p l e R s m args below meth c D cl A nL Q cells slots L f pc' (lv) (st)) : gW p l e R s m args below meth c D cl A nL Q cells slots L f (pc) (lv) (iv x :: st) := by
  intro H locs ls h1 h2 h3 h4
  subst hp
  exact lv_if_le C.1.1 C.1.2.1 hd ht (fun h => kt ((iv_le0 hx).mp h) H locs ls h1 h2 h3 h4) (fun h => kf (fun q => h ((iv_le0 hx).mpr q)) H locs ls h1 h2 h3 h4)
theorem jv_le {a b : Int} (ha : r64 a) (hb : r64 b) : Int64.ofInt a ≤ Int64.ofInt b ↔ a ≤ b := by rw [Int64.le_iff_toInt_le, jv_T ha, jv_T hb]
theorem g_lcmp_eq (C : gC p s m args c D cl tys A cc own nL) {x y : Int} {off : Int} (hd : decode cc pc = .ok (.lcmp, 1)) (pc1 : Nat) (hp1 : pc + 1 = pc1) (pc' : Nat) (hp : pc1 + 3 = pc') (hx : r64 x) (hy : r64 y) (tgt : Nat) (ht : (pc1 : Int) + off = (tgt : Int)) (hd2 : decode cc pc1 = .ok (.ifCond .eq off, 3)) (kt : x = y → gW p l e R s m args below meth c D cl A nL Q cells slots L f (tgt) (lv) (st)) (kf : ¬ x = y → gW p l e R s m args below meth c D cl A nL Q cells slots L f pc' (lv) (st)) : gW p l e R s m args below meth c D cl A nL Q cells slots L f (pc) (lv) (jv y :: jv x :: st) := by
  intro H locs ls h1 h2 h3 h4
  subst hp
  subst hp1
  refine W.lcmp C.1.1 C.1.2.1 hd ?_
  exact lv_if_eq C.1.1 C.1.2.1 hd2 ht (fun h => kt ((jv_eq hx hy).mp ((lg_cmp_eq _ _).mp h)) H locs ls h1 h2 h3 h4) (fun h => kf (fun q => h ((lg_cmp_eq _ _).mpr ((jv_eq hx hy).mpr q))) H locs ls h1 h2 h3 h4)
theorem g_lcmp_lt (C : gC p s m args c D cl tys A cc own nL) {x y : Int} {off : Int} (hd : decode cc pc = .ok (.lcmp, 1)) (pc1 : Nat) (hp1 : pc + 1 = pc1) (pc' : Nat) (hp : pc1 + 3 = pc') (hx : r64 x) (hy : r64 y) (tgt : Nat) (ht : (pc1 : Int) + off = (tgt : Int)) (hd2 : decode cc pc1 = .ok (.ifCond .lt off, 3)) (kt : x < y → gW p l e R s m args below meth c D cl A nL Q cells slots L f (tgt) (lv) (st)) (kf : ¬ x < y → gW p l e R s m args below meth c D cl A nL Q cells slots L f pc' (lv) (st)) : gW p l e R s m args below meth c D cl A nL Q cells slots L f (pc) (lv) (jv y :: jv x :: st) := by
  intro H locs ls h1 h2 h3 h4
  subst hp
  subst hp1
  refine W.lcmp C.1.1 C.1.2.1 hd ?_
  exact lv_if_lt C.1.1 C.1.2.1 hd2 ht (fun h => kt ((jv_lt hx hy).mp ((lg_cmp_lt _ _).mp h)) H locs ls h1 h2 h3 h4) (fun h => kf (fun q => h ((lg_cmp_lt _ _).mpr ((jv_lt hx hy).mpr q))) H locs ls h1 h2 h3 h4)
theorem g_lcmp_ge (C : gC p s m args c D cl tys A cc own nL) {x y : Int} {off : Int} (hd : decode cc pc = .ok (.lcmp, 1)) (pc1 : Nat) (hp1 : pc + 1 = pc1) (pc' : Nat) (hp : pc1 + 3 = pc') (hx : r64 x) (hy : r64 y) (tgt : Nat) (ht : (pc1 : Int) + off = (tgt : Int)) (hd2 : decode cc pc1 = .ok (.ifCond .ge off, 3)) (kt : y ≤ x → gW p l e R s m args below meth c D cl A nL Q cells slots L f (tgt) (lv) (st)) (kf : ¬ y ≤ x → gW p l e R s m args below meth c D cl A nL Q cells slots L f pc' (lv) (st)) : gW p l e R s m args below meth c D cl A nL Q cells slots L f (pc) (lv) (jv y :: jv x :: st) := by
  intro H locs ls h1 h2 h3 h4
  subst hp
  subst hp1
  refine W.lcmp C.1.1 C.1.2.1 hd ?_
  exact lv_if_ge C.1.1 C.1.2.1 hd2 ht (fun h => kt ((jv_le hy hx).mp ((lg_cmp_ge _ _).mp h)) H locs ls h1 h2 h3 h4) (fun h => kf (fun q => h ((lg_cmp_ge _ _).mpr ((jv_le hy hx).mpr q))) H locs ls h1 h2 h3 h4)
theorem g_lcmp_gt (C : gC p s m args c D cl tys A cc own nL) {x y : Int} {off : Int} (hd : decode cc pc = .ok (.lcmp, 1)) (pc1 : Nat) (hp1 : pc + 1 = pc1) (pc' : Nat) (hp : pc1 + 3 = pc') (hx : r64 x) (hy : r64 y) (tgt : Nat) (ht : (pc1 : Int) + off = (tgt : Int)) (hd2 : decode cc pc1 = .ok (.ifCond .gt off, 3)) (kt : y < x → gW p l e R s m args below meth c D cl A nL Q cells slots L f (tgt) (lv) (st)) (kf : ¬ y < x → gW p l e R s m args below meth c D cl A nL Q cells slots L f pc' (lv) (st)) : gW p l e R s m args below meth c D cl A nL Q cells slots L f (pc) (lv) (jv y :: jv x :: st) := by
  intro H locs ls h1 h2 h3 h4
  subst hp
  subst hp1
  refine W.lcmp C.1.1 C.1.2.1 hd ?_
  exact lv_if_gt C.1.1 C.1.2.1 hd2 ht (fun h => kt ((jv_lt hy hx).mp ((lg_cmp_gt _ _).mp h)) H locs ls h1 h2 h3 h4) (fun h => kf (fun q => h ((lg_cmp_gt _ _).mpr ((jv_lt hy hx).mpr q))) H locs ls h1 h2 h3 h4)
theorem g_lcmp_le (C : gC p s m args c D cl tys A cc own nL) {x y : Int} {off : Int} (hd : decode cc pc = .ok (.lcmp, 1)) (pc1 : Nat) (hp1 : pc + 1 = pc1) (pc' : Nat) (hp : pc1 + 3 = pc') (hx : r64 x) (hy : r64 y) (tgt : Nat) (ht : (pc1 : Int) + off = (tgt : Int)) (hd2 : decode cc pc1 = .ok (.ifCond .le off, 3)) (kt : x ≤ y → gW p l e R s m args below meth c D cl A nL Q cells slots L f (tgt) (lv) (st)) (kf : ¬ x ≤ y → gW p l e R s m args below meth c D cl A nL Q cells slots L f pc' (lv) (st)) : gW p l e R s m args below meth c D cl A nL Q cells slots L f (pc) (lv) (jv y :: jv x :: st) := by
  intro H locs ls h1 h2 h3 h4
  subst hp
  subst hp1
  refine W.lcmp C.1.1 C.1.2.1 hd ?_
  exact lv_if_le C.1.1 C.1.2.1 hd2 ht (fun h => kt ((jv_le hx hy).mp ((lg_cmp_le _ _).mp h)) H locs ls h1 h2 h3 h4) (fun h => kf (fun q => h ((lg_cmp_le _ _).mpr ((jv_le hx hy).mpr q))) H locs ls h1 h2 h3 h4)
theorem g_lcmp_ne (C : gC p s m args c D cl tys A cc own nL) {x y : Int} {off : Int} (hd : decode cc pc = .ok (.lcmp, 1)) (pc1 : Nat) (hp1 : pc + 1 = pc1) (pc' : Nat) (hp : pc1 + 3 = pc') (hx : r64 x) (hy : r64 y) (tgt : Nat) (ht : (pc1 : Int) + off = (tgt : Int)) (hd2 : decode cc pc1 = .ok (.ifCond .ne off, 3)) (kt : ¬ x = y → gW p l e R s m args below meth c D cl A nL Q cells slots L f (tgt) (lv) (st)) (kf : x = y → gW p l e R s m args below meth c D cl A nL Q cells slots L f pc' (lv) (st)) : gW p l e R s m args below meth c D cl A nL Q cells slots L f (pc) (lv) (jv y :: jv x :: st) := by
  intro H locs ls h1 h2 h3 h4
  subst hp
  subst hp1
  refine W.lcmp C.1.1 C.1.2.1 hd ?_
  exact lv_if_ne C.1.1 C.1.2.1 hd2 ht (fun h => kt (fun q => h ((lg_cmp_eq _ _).mpr ((jv_eq hx hy).mpr q))) H locs ls h1 h2 h3 h4) (fun h => kf ((jv_eq hx hy).mp ((lg_cmp_eq _ _).mp h)) H locs ls h1 h2 h3 h4)
theorem g_get (C : gC p s m args c D cl tys A cc own nL) {cn : String} {T : u_T} {N ci ix : Nat} {a : Nat} {fs : List Value} {v : Value} (hd : decode cc pc = .ok (.getfield ix, 3)) (pc' : Nat) (hp : pc + 3 = pc') (hin : ∀ w ∈ u_ws cn T N, w ∈ TB) (hc : cl[ci]? = some (cn, T, N)) (ha : a ∈ L) (he : f a = .inr (ci, fs)) (j : Nat) (hj : j < N) (hlink : Cond.fieldLink own ix (T j).1 (T j).2.1 (T j).2.2.1 ∈ TB) (hv : fs[j]? = some v) (k : gW p l e R s m args below meth c D cl A nL Q cells slots L f pc' (lv) (v :: st)) : gW p l e R s m args below meth c D cl A nL Q cells slots L f (pc) (lv) (.ref a :: st) := by
  intro H locs ls h1 h2 h3 h4
  subst hp
  exact va_get (D := D) C.1.1 C.1.2.1 C.1.2.2.2.2 hin C.1.2.2.2.1 C.2.1.1 (pl_one h1 ha he) 0 rfl hc j hj (C.1.2.2.2.2 _ hlink) (fun _ h9 => h9) hv hd (k H locs ls h1 h2 h3 h4)
theorem g_put (C : gC p s m args c D cl tys A cc own nL) {cn : String} {T : u_T} {N ci ix : Nat} {a : Nat} {fs : List Value} {v : Value} {ty : FieldType} (hd : decode cc pc = .ok (.putfield ix, 3)) (pc' : Nat) (hp : pc + 3 = pc') (hin : ∀ w ∈ u_ws cn T N, w ∈ TB) (hc : cl[ci]? = some (cn, T, N)) (ha : a ∈ L) (he : f a = .inr (ci, fs)) (j : Nat) (hj : j < N) (hlink : Cond.fieldLink own ix (T j).1 (T j).2.1 (T j).2.2.1 ∈ TB) (ty0 : Nat → FieldType) (hty : ∀ k, k < N → parseFieldDescriptor (T k).2.2.1 = some (ty0 k)) (hnm : ∀ a, a < N → ∀ b, b < N → a ≠ b → (T a).2.1 ≠ (T b).2.1) (hfin : (T j).2.2.2 = false) (hdt : parseFieldDescriptor (T j).2.2.1 = some ty) (hn : narrow ty v = v) (hfit : fits ty v = true) (hl : j < fs.length) (k : gW p l e R s m args below meth c D cl A nL Q cells slots L (va_up f a (.inr (ci, fs.set j v))) pc' (lv) (st)) : gW p l e R s m args below meth c D cl A nL Q cells slots L f (pc) (lv) (v :: .ref a :: st) := by
  intro H locs ls h1 h2 h3 h4
  subst hp
  obtain ⟨q0, hq0⟩ := pl_get (f := f) ha
  rw [he] at hq0
  refine va_put (D := D) C.1.1 C.1.2.1 C.1.2.2.2.2 hin ty0 hty hnm C.1.2.2.2.1 C.2.1.1 h1 h2 h3 q0 hq0 hc j hj (C.1.2.2.2.2 _ hlink) (fun _ h9 => h9) hfin hdt hn hfit hl hd (fun H1 locs1 g1 g2 g3 => ?_)
  rw [← he] at hq0
  rw [pl_set h2 ha hq0] at g1 g2
  exact k H1 locs1 ls g1 g2 g3 h4
theorem g_putF (C : gC p s m args c D cl tys A cc own nL) {cn : String} {T : u_T} {N ci ix : Nat} {a : Nat} {fs : List Value} {v : Value} {ty : FieldType} (hd : decode cc pc = .ok (.putfield ix, 3)) (pc' : Nat) (hp : pc + 3 = pc') (hin : ∀ w ∈ u_ws cn T N, w ∈ TB) (hc : cl[ci]? = some (cn, T, N)) (ha : a ∈ L) (he : f a = .inr (ci, fs)) (j : Nat) (hj : j < N) (hlink : Cond.fieldLink own ix (T j).1 (T j).2.1 (T j).2.2.1 ∈ TB) (ty0 : Nat → FieldType) (hty : ∀ k, k < N → parseFieldDescriptor (T k).2.2.1 = some (ty0 k)) (hnm : ∀ a, a < N → ∀ b, b < N → a ≠ b → (T a).2.1 ≠ (T b).2.1) (hfin : (T j).2.2.2 = true) (hini : meth.name = "<init>") (hdecl : (T j).1 = own) (hdt : parseFieldDescriptor (T j).2.2.1 = some ty) (hn : narrow ty v = v) (hfit : fits ty v = true) (hl : j < fs.length) (k : gW p l e R s m args below meth c D cl A nL Q cells slots L (va_up f a (.inr (ci, fs.set j v))) pc' (lv) (st)) : gW p l e R s m args below meth c D cl A nL Q cells slots L f (pc) (lv) (v :: .ref a :: st) := by
  intro H locs ls h1 h2 h3 h4
  subst hp
  obtain ⟨q0, hq0⟩ := pl_get (f := f) ha
  rw [he] at hq0
  refine va_putF (D := D) C.1.1 C.1.2.1 C.1.2.2.2.2 hin ty0 hty hnm C.1.2.2.2.1 C.2.1.1 h1 h2 h3 q0 hq0 hc j hj (C.1.2.2.2.2 _ hlink) (fun _ h9 => h9) hfin hini hdecl hdt hn hfit hl hd (fun H1 locs1 g1 g2 g3 => ?_)
  rw [← he] at hq0
  rw [pl_set h2 ha hq0] at g1 g2
  exact k H1 locs1 ls g1 g2 g3 h4
theorem g_alen (C : gC p s m args c D cl tys A cc own nL) {cA : ClassId} {x : vp_A} {a t0 : Nat} {ty : FieldType} (hd : decode cc pc = .ok (.arraylength, 1)) (pc' : Nat) (hp : pc + 1 = pc') (ha : a ∈ L) (he : f a = .inl (cA, x)) (ht : tys[t0]? = some (cA, ty)) (k : gW p l e R s m args below meth c D cl A nL Q cells slots L f pc' (lv) (iv (x.1 : Int) :: st)) : gW p l e R s m args below meth c D cl A nL Q cells slots L f (pc) (lv) (.ref a :: st) := by
  intro H locs ls h1 h2 h3 h4
  subst hp
  exact va_alen (D := D) C.1.1 C.1.2.1 C.2.1.1 (pl_one h1 ha he) 0 t0 rfl ht (Int32.ofInt_eq_ofNat (n := x.1)).symm hd (k H locs ls h1 h2 h3 h4)
theorem g_iald (C : gC p s m args c D cl tys A cc own nL) {cA : ClassId} {n a t0 : Nat} {g : Nat → Int} {i : Int} (hd : decode cc pc = .ok (.iaload, 1)) (pc' : Nat) (hp : pc + 1 = pc') (ha : a ∈ L) (he : f a = ia cA n g) (ht : tys[t0]? = some (cA, .int)) (hi : 0 ≤ i) (hi2 : i < n) (hir : r32 i) (k : gW p l e R s m args below meth c D cl A nL Q cells slots L f pc' (lv) (iv (g i.toNat) :: st)) : gW p l e R s m args below meth c D cl A nL Q cells slots L f (pc) (lv) (iv i :: .ref a :: st) := by
  intro H locs ls h1 h2 h3 h4
  subst hp
  refine va_iald (D := D) C.1.1 C.1.2.1 C.2.1.1 (pl_one h1 ha he) 0 t0 rfl ht (iv_in hir hi hi2) hd ?_
  rw [iv_cl hir]
  exact k H locs ls h1 h2 h3 h4
theorem g_lald (C : gC p s m args c D cl tys A cc own nL) {cA : ClassId} {n a t0 : Nat} {g : Nat → Int} {i : Int} (hd : decode cc pc = .ok (.laload, 1)) (pc' : Nat) (hp : pc + 1 = pc') (ha : a ∈ L) (he : f a = ja cA n g) (ht : tys[t0]? = some (cA, .long)) (hi : 0 ≤ i) (hi2 : i < n) (hir : r32 i) (k : gW p l e R s m args below meth c D cl A nL Q cells slots L f pc' (lv) (jv (g i.toNat) :: st)) : gW p l e R s m args below meth c D cl A nL Q cells slots L f (pc) (lv) (iv i :: .ref a :: st) := by
  intro H locs ls h1 h2 h3 h4
  subst hp
  refine va_lald (D := D) C.1.1 C.1.2.1 C.2.1.1 (pl_one h1 ha he) 0 t0 rfl ht (iv_in hir hi hi2) hd ?_
  rw [iv_cl hir]
  exact k H locs ls h1 h2 h3 h4
theorem g_aald (C : gC p s m args c D cl tys A cc own nL) {cA : ClassId} {cn : String} {n a t0 b : Nat} {g : Nat → Option Nat} {i : Int} (hd : decode cc pc = .ok (.aaload, 1)) (pc' : Nat) (hp : pc + 1 = pc') (ha : a ∈ L) (he : f a = qa cA n g) (ht : tys[t0]? = some (cA, .object cn)) (hi : 0 ≤ i) (hi2 : i < n) (hir : r32 i) (hg : g i.toNat = some b) (k : gW p l e R s m args below meth c D cl A nL Q cells slots L f pc' (lv) (.ref b :: st)) : gW p l e R s m args below meth c D cl A nL Q cells slots L f (pc) (lv) (iv i :: .ref a :: st) := by
  intro H locs ls h1 h2 h3 h4
  subst hp
  refine va_aldq (D := D) C.1.1 C.1.2.1 C.2.1.1 (pl_one h1 ha he) 0 t0 rfl ht (iv_in hir hi hi2) hd ?_
  rw [iv_cl hir, hg]
  exact k H locs ls h1 h2 h3 h4
theorem g_iast (C : gC p s m args c D cl tys A cc own nL) {cA : ClassId} {n a t0 : Nat} {g : Nat → Int} {i z : Int} (hd : decode cc pc = .ok (.iastore, 1)) (pc' : Nat) (hp : pc + 1 = pc') (ha : a ∈ L) (he : f a = ia cA n g) (ht : tys[t0]? = some (cA, .int)) (hi : 0 ≤ i) (hi2 : i < n) (hir : r32 i) (k : gW p l e R s m args below meth c D cl A nL Q cells slots L (va_up f a (ia cA n (updI g i.toNat z))) pc' (lv) (st)) : gW p l e R s m args below meth c D cl A nL Q cells slots L f (pc) (lv) (iv z :: iv i :: .ref a :: st) := by
  intro H locs ls h1 h2 h3 h4
  subst hp
  obtain ⟨q0, hq0⟩ := pl_get (f := f) ha
  rw [he] at hq0
  refine va_iast (D := D) C.1.1 C.1.2.1 C.2.1.1 h1 h2 h3 q0 t0 hq0 ht (iv_in hir hi hi2) hd (fun H1 locs1 g1 g2 g3 => ?_)
  rw [← he] at hq0
  rw [iv_cl hir, updI_i, pl_set h2 ha hq0] at g1 g2
  exact k H1 locs1 ls g1 g2 g3 h4
theorem g_last (C : gC p s m args c D cl tys A cc own nL) {cA : ClassId} {n a t0 : Nat} {g : Nat → Int} {i z : Int} (hd : decode cc pc = .ok (.lastore, 1)) (pc' : Nat) (hp : pc + 1 = pc') (ha : a ∈ L) (he : f a = ja cA n g) (ht : tys[t0]? = some (cA, .long)) (hi : 0 ≤ i) (hi2 : i < n) (hir : r32 i) (k : gW p l e R s m args below meth c D cl A nL Q cells slots L (va_up f a (ja cA n (updI g i.toNat z))) pc' (lv) (st)) : gW p l e R s m args below meth c D cl A nL Q cells slots L f (pc) (lv) (jv z :: iv i :: .ref a :: st) := by
  intro H locs ls h1 h2 h3 h4
  subst hp
  obtain ⟨q0, hq0⟩ := pl_get (f := f) ha
  rw [he] at hq0
  refine va_last (D := D) C.1.1 C.1.2.1 C.2.1.1 h1 h2 h3 q0 t0 hq0 ht (iv_in hir hi hi2) hd (fun H1 locs1 g1 g2 g3 => ?_)
  rw [← he] at hq0
  rw [iv_cl hir, updI_l, pl_set h2 ha hq0] at g1 g2
  exact k H1 locs1 ls g1 g2 g3 h4
theorem g_aast (C : gC p s m args c D cl tys A cc own nL) {cA : ClassId} {r : vw_C} {n a t0 b ci : Nat} {g : Nat → Option Nat} {i : Int} {vs : List Value} (hd : decode cc pc = .ok (.aastore, 1)) (pc' : Nat) (hp : pc + 1 = pc') (ha : a ∈ L) (he : f a = qa cA n g) (ht : tys[t0]? = some (cA, .object r.1)) (hb : b ∈ L) (heb : f b = .inr (ci, vs)) (hc : cl[ci]? = some r) (hi : 0 ≤ i) (hi2 : i < n) (hir : r32 i) (k : gW p l e R s m args below meth c D cl A nL Q cells slots L (va_up f a (qa cA n (va_up g i.toNat (some b)))) pc' (lv) (st)) : gW p l e R s m args below meth c D cl A nL Q cells slots L f (pc) (lv) (.ref b :: iv i :: .ref a :: st) := by
  intro H locs ls h1 h2 h3 h4
  subst hp
  obtain ⟨q0, hq0⟩ := pl_get (f := f) ha
  obtain ⟨q1, hq1⟩ := pl_get (f := f) hb
  rw [he] at hq0
  rw [heb] at hq1
  refine va_astq (D := D) C.1.1 C.1.2.1 C.2.1.1 h1 h2 h3 q0 t0 q1 ci hq0 ht hq1 hc (iv_in hir hi hi2) hd (fun H1 locs1 g1 g2 g3 => ?_)
  rw [← he] at hq0
  rw [iv_cl hir, pl_set h2 ha hq0] at g1 g2
  exact k H1 locs1 ls g1 g2 g3 h4
end GW
