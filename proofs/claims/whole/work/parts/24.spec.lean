def heldH (S : Nat → Nat → Int) (n : Nat) : Int := 1000 * S 1 0 * S 2 n
def surH (S : Nat → Nat → Int) (n : Nat) : Int := if Int.tmod (n : Int) 2 = 0 then heldH S n - 1000 * S 1 0 * S 3 n else 1000 * S 1 0 * S 3 n - heldH S n
def heldA (S : Nat → Nat → Int) (i n : Nat) : Int := S (11 + i) 1 * S (15 + i) n * S (11 + i) 3
def gainA (S : Nat → Nat → Int) (i n : Nat) : Int := if Int.tmod (n : Int) 2 = 0 then heldA S i n - 1000 * S (11 + i) 1 * S 3 n else 1000 * S (11 + i) 1 * S 3 n - heldA S i n
def cmet (g : Nat → Int) : Int := if g 0 < 0 then 0 else if g 1 < 0 then 0 else if g 2 < 0 then 1 else if g 3 < 0 then 1 else if g 4 < 0 then 2 else if g 5 < 0 then 2 else if g 6 < 0 then 3 else if g 7 < 0 then 3 else 4
/-- the sum of the first n of g -/
def sumN (g : Nat → Int) : Nat → Int
  | 0 => 0
  | n + 1 => sumN g n + g n
/-- how many of the first n have p -/
def cntN (p : Nat → Prop) [DecidablePred p] (n : Nat) : Int := sumN (fun j => bi (p j)) n
abbrev befA (S : Nat → Nat → Int) (i j : Nat) : Prop := 0 < S (11 + i) 4 - S (11 + j) 4 ∨ (S (11 + i) 4 - S (11 + j) 4 = 0 ∧ i < j)
def likeS (S : Nat → Nat → Int) (i j : Nat) : Nat → Nat → Int := uA (u2 (u2 (u2 S (23 + i) 0 (S (23 + j) 0)) (23 + i) 1 (S (23 + j) 1)) (23 + i) 2 (S (23 + j) 2)) (28 + i) 8 (S (28 + j))
def takeS (S : Nat → Nat → Int) (i j : Nat) (x : Int) : Nat → Nat → Int := uA (u2 (u2 (u2 S (23 + i) 0 (S (23 + i) 0 + S (11 + j) 0)) (23 + i) 1 (S (23 + i) 1 + (if x = 0 then 0 else 1))) (23 + i) 2 (S (23 + i) 2 - S (11 + j) 1 * S (11 + j) 4)) (28 + i) 8 (fun n => S (28 + i) n + S (19 + j) n)
section CP
variable {p : Program} {l : Launch} {e : Env} {R : Room} {s : State} {m : MethodId} {args : Array Value} {below : List Frame} {meth : Method} {c : Code} {D : va_G} {A : Nat → Prop} {nL : Nat} {Q : State → Prop} {cells slots : Nat} {L : List Nat} {pc : Nat} {lv : List (Nat × Value)} {st : List Value} {cc : ByteArray} {own : String} {cd : Nat → ClassId} {ad : Nat → Nat} {f0 : Nat → va_E} {S : Nat → Nat → Int}
theorem cpy_0 (g h : Nat → Int) (n : Nat) : va_cpy g h 0 0 n = fun j => if j < n then g j else h j := by
  funext j
  simp only [va_cpy, Nat.zero_add, Nat.sub_zero, Nat.zero_le, true_and]
theorem cp_28 (C : gC p s m args c D CL (TY cd) A cc own nL) (G : LO ad L) {ix : Nat} (hd : decode cc pc = .ok (.invokestatic ix, 3)) (pc' : Nat) (hp : pc + 3 = pc') (hw : gwC own ix) (i j : Nat) (hi : i < 5) (hj : j < 5) (hf : 1 ≤ R.frames) (hl : (st.map fun v => v.category).sum + (nativeFrameWords "java/lang/System" "arraycopy" 5 + 11) ≤ R.locals) (k : gW p l e R s m args below meth c D CL A nL Q cells slots L (wd cd ad (uA S (28 + i) 8 (S (28 + j))) f0) pc' lv (st)) : gW p l e R s m args below meth c D CL A nL Q cells slots L (wd cd ad S f0) pc lv (iv 8 :: iv 0 :: .ref (ad (28 + i)) :: iv 0 :: .ref (ad (28 + j)) :: st) := by
  refine g_copyl C hw (t0 := 1) (G.1 (28 + j) (by omega)) (at_28 G j hj) (G.1 (28 + i) (by omega)) (at_28 G i hi) rfl (by decide) (by decide) (by decide) (by decide) (by decide) (by decide) (by decide) hf hl hd pc' hp ?_
  rw [show (0 : Int).toNat = 0 from rfl, show (8 : Int).toNat = 8 from rfl, cpy_0]
  have h9 := wd_up (cd := cd) (S := S) (f0 := f0) G (28 + i) (by omega) (fun j9 => if j9 < 8 then S (28 + j) j9 else S (28 + i) j9)
  rw [mk_28 i hi] at h9
  exact (show wd cd ad (uA S (28 + i) 8 (S (28 + j))) f0 = _ from h9.symm) ▸ k
theorem cp_8 (C : gC p s m args c D CL (TY cd) A cc own nL) (G : LO ad L) {ix : Nat} (hd : decode cc pc = .ok (.invokestatic ix, 3)) (pc' : Nat) (hp : pc + 3 = pc') (hw : gwC own ix) (hf : 1 ≤ R.frames) (hl : (st.map fun v => v.category).sum + (nativeFrameWords "java/lang/System" "arraycopy" 5 + 11) ≤ R.locals) (k : gW p l e R s m args below meth c D CL A nL Q cells slots L (wd cd ad (uA S 8 4 (S 9)) f0) pc' lv (st)) : gW p l e R s m args below meth c D CL A nL Q cells slots L (wd cd ad S f0) pc lv (iv 4 :: iv 0 :: .ref (ad 8) :: iv 0 :: .ref (ad 9) :: st) := by
  refine g_copyi C hw (t0 := 0) (G.1 9 (by decide)) (at_9 G) (G.1 8 (by decide)) (at_8 G) rfl (by decide) (by decide) (by decide) (by decide) (by decide) (by decide) (by decide) hf hl hd pc' hp ?_
  rw [show (0 : Int).toNat = 0 from rfl, show (4 : Int).toNat = 4 from rfl, cpy_0]
  exact (show wd cd ad (uA S 8 4 (S 9)) f0 = _ from (wd_up (cd := cd) (S := S) (f0 := f0) G 8 (by decide) (fun j9 => if j9 < 4 then S 9 j9 else S 8 j9)).symm) ▸ k
end CP
