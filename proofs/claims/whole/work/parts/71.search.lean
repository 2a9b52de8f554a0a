section SE
variable {B M T U : Nat → Nat → Int} {x kc : Int} {s : Int × Int × Int × Int} {k n : Nat}
def CR (B M : Nat → Nat → Int) (kc : Int) : Prop :=
  (0 ≤ kc ∧ kc ≤ 4) ∧ M 33 6 = kc ∧
  (∀ j : Nat, j < 4 → (j : Int) < kc → (M 38 j = B (11 + j) 0 ∧ M 39 j = B (11 + j) 1 ∧ M 40 j = B (11 + j) 2 ∧ M 44 j = B (11 + j) 4) ∧ (0 ≤ B (11 + j) 0 ∧ 0 ≤ B (11 + j) 1 ∧ (0 ≤ B (11 + j) 2 ∧ B (11 + j) 2 ≤ 12) ∧ 0 ≤ B (11 + j) 4) ∧ ∀ q, q < 4 → B (19 + j) (2 * q) = M 39 j * M 41 (4 * j + q) * M 43 j - 1000 * M 39 j * M 36 q ∧ B (19 + j) (2 * q + 1) = 1000 * M 39 j * M 37 q - M 39 j * M 42 (4 * j + q) * M 43 j) ∧
  ∀ q, q < 4 → B 28 (2 * q) = 1000 * M 33 1 * M 34 q - 1000 * M 33 1 * M 36 q ∧ B 28 (2 * q + 1) = 1000 * M 33 1 * M 37 q - 1000 * M 33 1 * M 35 q
def pC (B : Nat → Nat → Int) (n k : Nat) : Int := sumN (fun j => (DG n j : Int) * B (11 + j) 0) k
def pU (n k : Nat) : Int := sumN (fun j => bi (0 < (DG n j : Int))) k
def pQ (B : Nat → Nat → Int) (n k : Nat) : Int := sumN (fun j => (DG n j : Int) * (B (11 + j) 1 * B (11 + j) 4)) k
def pG (B : Nat → Nat → Int) (m n k : Nat) : Int := sumN (fun j => (DG n j : Int) * B (19 + j) m) k
/-- the mix at place k is the heat with the first k digits of n -/
def AT (x : Int) (B T : Nat → Nat → Int) (k n : Nat) : Prop := T (23 + k) 0 = pC B n k ∧ T (23 + k) 1 = pU n k ∧ T (23 + k) 2 = x - pQ B n k ∧ (∀ m, m < 8 → T (28 + k) m = B 28 m + pG B m n k) ∧ ∀ j, j < k → T 9 j = (DG n j : Int)
/-- the mix at place k + 1 is that with i steps of kind k -/
def MX (x : Int) (B T : Nat → Nat → Int) (k n : Nat) (i : Int) : Prop := T (23 + (k + 1)) 0 = pC B n k + i * B (11 + k) 0 ∧ T (23 + (k + 1)) 1 = pU n k + bi (0 < i) ∧ T (23 + (k + 1)) 2 = x - pQ B n k - i * (B (11 + k) 1 * B (11 + k) 4) ∧ ∀ m, m < 8 → T (28 + (k + 1)) m = B 28 m + pG B m n k + i * B (19 + k) m
def KS (B T : Nat → Nat → Int) : Prop := ∀ y, 11 ≤ y → y ≤ 22 → T y = B y
def RE (kc : Int) (T : Nat → Nat → Int) (s : Int × Int × Int × Int) : Prop :=
  (T 7 1 = s.2.2.2 ∧ s.2.2.2 ≤ 4) ∧ ((T 7 0 = 0 ∧ s.1 < 0) ∨ (T 7 0 = 1 ∧ (∃ n : Nat, s.1 = (n : Int) ∧ ∀ j : Nat, j < 4 → (j : Int) < kc → T 8 j = (DG n j : Int)) ∧ T 7 3 = s.2.1 ∧ T 7 4 = s.2.2.1 ∧ s.2.2.2 = 4))
theorem re_of (h7 : U 7 = T 7) (h8 : U 8 = T 8) (h : RE kc T s) : RE kc U s := by
  unfold RE at h ⊢
  rw [h7, h8]
  exact h
theorem kN_set {c : Int} : kN (setD M c) = kN M := rfl
theorem sum_gain {W E Y d : Nat → Int} {a : Int} (n : Nat) : sumN (fun j => d j * (W j * E j * Y j - 1000 * W j * a)) n = sumN (fun j => d j * W j * Y j * E j) n - a * (1000 * sumN (fun j => d j * W j) n) := by
  induction n with
  | zero => show (0 : Int) = 0 - a * (1000 * 0); omega
  | succ n ih =>
    show sumN (fun j => d j * (W j * E j * Y j - 1000 * W j * a)) n + d n * (W n * E n * Y n - 1000 * W n * a) = sumN (fun j => d j * W j * Y j * E j) n + d n * W n * Y n * E n - a * (1000 * (sumN (fun j => d j * W j) n + d n * W n))
    rw [ih]
    grind
theorem sum_loss {W E Y d : Nat → Int} {a : Int} (n : Nat) : sumN (fun j => d j * (1000 * W j * a - W j * E j * Y j)) n = a * (1000 * sumN (fun j => d j * W j) n) - sumN (fun j => d j * W j * Y j * E j) n := by
  induction n with
  | zero => show (0 : Int) = a * (1000 * 0) - 0; omega
  | succ n ih =>
    show sumN (fun j => d j * (1000 * W j * a - W j * E j * Y j)) n + d n * (1000 * W n * a - W n * E n * Y n) = a * (1000 * (sumN (fun j => d j * W j) n + d n * W n)) - (sumN (fun j => d j * W j * Y j * E j) n + d n * W n * Y n * E n)
    rw [ih]
    grind
theorem leaf_eq (h : CR B M kc) (hk : (k : Int) = kc) (hA : AT x B T k n) : cM (setD M n) = T (23 + k) 0 ∧ uM (setD M n) = T (23 + k) 1 ∧ qM (setD M n) = x - T (23 + k) 2 ∧ emM (setD M n) = cmet (T (28 + k)) := by
  obtain ⟨h0, h6, hj, hq⟩ := h
  obtain ⟨a0, a1, a2, a3, -⟩ := hA
  have hK : kN (setD M n) = k := by rw [kN_set]; unfold kN; omega
  have hk4 : k ≤ 4 := by omega
  have e46 : ∀ j, j < k → setD M n 46 j = (DG n j : Int) := fun j hj => setD_at M n j (by omega)
  have hne : ∀ y, y ≠ 46 → setD M n y = M y := fun y hy => setD_ne hy
  refine ⟨?_, ?_, ?_, ?_⟩
  · rw [a0]
    unfold cM pC
    rw [hK]
    exact sumN_congr k (fun j hjk => by
      show setD M n 46 j * setD M n 38 j = _
      rw [e46 j hjk, hne 38 (by decide), (hj j (by omega) (by omega)).1.1])
  · rw [a1]
    unfold uM pU
    rw [hK]
    exact sumN_congr k (fun j hjk => by
      show bi (0 < setD M n 46 j) = _
      rw [e46 j hjk])
  · rw [a2]
    unfold qM pQ
    rw [hK]
    have : sumN (fun j => setD M n 46 j * setD M n 39 j * setD M n 44 j) k = sumN (fun j => (DG n j : Int) * (B (11 + j) 1 * B (11 + j) 4)) k := sumN_congr k (fun j hjk => by
      show setD M n 46 j * setD M n 39 j * setD M n 44 j = _
      have q := (hj j (by omega) (by omega)).1
      rw [e46 j hjk, hne 39 (by decide), hne 44 (by decide), q.2.1, q.2.2.2, Int.mul_assoc])
    omega
  · have hw : wM (setD M n) = sumN (fun j => (DG n j : Int) * M 39 j) k := by
      unfold wM
      rw [hK]
      exact sumN_congr k (fun j hjk => by
        show setD M n 46 j * setD M n 39 j = _
        rw [e46 j hjk, hne 39 (by decide)])
    have lo : ∀ q, q < 4 → T (28 + k) (2 * q) = aM (setD M n) q 0 - M 36 q * (1000 * (M 33 1 + wM (setD M n))) := by
      intro q hq4
      rw [a3 (2 * q) (by omega), (hq q hq4).1]
      have hp : pG B (2 * q) n k = sumN (fun j => (DG n j : Int) * (M 39 j * M 41 (4 * j + q) * M 43 j - 1000 * M 39 j * M 36 q)) k := by
        unfold pG
        exact sumN_congr k (fun j hjk => by
          show (DG n j : Int) * B (19 + j) (2 * q) = _
          rw [((hj j (by omega) (by omega)).2.2 q hq4).1])
      have hs := sum_gain (W := fun j => M 39 j) (E := fun j => M 41 (4 * j + q)) (Y := fun j => M 43 j) (d := fun j => (DG n j : Int)) (a := M 36 q) k
      have ha : aM (setD M n) q 0 = 1000 * M 33 1 * M 34 q + sumN (fun j => (DG n j : Int) * M 39 j * M 43 j * M 41 (4 * j + q)) k := by
        unfold aM
        rw [hK, if_pos rfl, hne 33 (by decide), hne 34 (by decide)]
        congr 1
        exact sumN_congr k (fun j hjk => by
          show aF (setD M n) q 0 j = _
          unfold aF
          rw [if_pos rfl, e46 j hjk, hne 39 (by decide), hne 43 (by decide), hne 41 (by decide)])
      rw [hp, ha, hw]
      have hs' : sumN (fun j => (DG n j : Int) * (M 39 j * M 41 (4 * j + q) * M 43 j - 1000 * M 39 j * M 36 q)) k = sumN (fun j => (DG n j : Int) * M 39 j * M 43 j * M 41 (4 * j + q)) k - M 36 q * (1000 * sumN (fun j => (DG n j : Int) * M 39 j) k) := hs
      rw [hs']
      grind
    have hi : ∀ q, q < 4 → T (28 + k) (2 * q + 1) = M 37 q * (1000 * (M 33 1 + wM (setD M n))) - aM (setD M n) q 1 := by
      intro q hq4
      rw [a3 (2 * q + 1) (by omega), (hq q hq4).2]
      have hp : pG B (2 * q + 1) n k = sumN (fun j => (DG n j : Int) * (1000 * M 39 j * M 37 q - M 39 j * M 42 (4 * j + q) * M 43 j)) k := by
        unfold pG
        exact sumN_congr k (fun j hjk => by
          show (DG n j : Int) * B (19 + j) (2 * q + 1) = _
          rw [((hj j (by omega) (by omega)).2.2 q hq4).2])
      have hs' : sumN (fun j => (DG n j : Int) * (1000 * M 39 j * M 37 q - M 39 j * M 42 (4 * j + q) * M 43 j)) k = M 37 q * (1000 * sumN (fun j => (DG n j : Int) * M 39 j) k) - sumN (fun j => (DG n j : Int) * M 39 j * M 43 j * M 42 (4 * j + q)) k := sum_loss (W := fun j => M 39 j) (E := fun j => M 42 (4 * j + q)) (Y := fun j => M 43 j) (d := fun j => (DG n j : Int)) (a := M 37 q) k
      have ha : aM (setD M n) q 1 = 1000 * M 33 1 * M 35 q + sumN (fun j => (DG n j : Int) * M 39 j * M 43 j * M 42 (4 * j + q)) k := by
        unfold aM
        rw [hK, if_neg (by decide), hne 33 (by decide), hne 35 (by decide)]
        congr 1
        exact sumN_congr k (fun j hjk => by
          show aF (setD M n) q 1 j = _
          unfold aF
          rw [if_neg (by decide), e46 j hjk, hne 39 (by decide), hne 43 (by decide), hne 42 (by decide)])
      rw [hp, ha, hw, hs']
      grind
    have hm : ∀ q, q < 4 → (metM (setD M n) q ↔ 0 ≤ T (28 + k) (2 * q) ∧ 0 ≤ T (28 + k) (2 * q + 1)) := by
      intro q hq4
      unfold metM
      rw [hne 36 (by decide), hne 37 (by decide), hne 33 (by decide), lo q hq4, hi q hq4]
      constructor
      · rintro ⟨p1, p2⟩; exact ⟨by omega, by omega⟩
      · rintro ⟨p1, p2⟩; exact ⟨by omega, by omega⟩
    have m0 := hm 0 (by omega)
    have m1 := hm 1 (by omega)
    have m2 := hm 2 (by omega)
    have m3 := hm 3 (by omega)
    unfold emM cmet
    simp only [m0, m1, m2, m3]
    simp only [Nat.mul_zero, Nat.mul_one, Nat.zero_add, Nat.reduceMul, Nat.reduceAdd]
    repeat' split
    all_goals omega
theorem lim_k (h : CR B M kc) (j : Nat) (hj : j < 4) : limM M j = if (j : Int) < kc then B (11 + j) 2 else 0 := by
  unfold limM
  rw [h.2.1]
  split
  · next h1 => exact (h.2.2.1 j hj h1).1.2.2.1
  · rfl
/-- a leaf: all kinds have their steps -/
theorem judge_re (e a : Nat) (h : CR B M kc) (hk : (k : Int) = kc) (he : k + e = 4) (hA : AT x B T k (a * 13 ^ e)) (hl : ∀ j, j < k → (DG (a * 13 ^ e) j : Int) ≤ B (11 + j) 2) (hw : worth T k) (hR : RE kc T s) : RE kc (judgeS T k) (rlM M x (13 ^ e) (a * 13 ^ e) s) := by
  obtain ⟨l0, l1, l2, l3⟩ := leaf_eq h hk hA
  have hp : 0 < 13 ^ e := Nat.pos_of_ne_zero (by intro h9; have := Nat.pow_eq_zero.mp h9; omega)
  have hset : setsOK M ((a * 13 ^ e : Nat) : Int) := (setsOK_iff M _).mpr (fun j hj => by
    rw [lim_k h j hj]
    by_cases hjk : j < k
    · rw [if_pos (by omega)]; exact hl j hjk
    · rw [if_neg (by omega), DG_zero e k a j he (by omega) hj]; exact Int.le_refl 0)
  obtain ⟨P1, hP1⟩ : ∃ P1, 13 ^ e = P1 + 1 := ⟨13 ^ e - 1, by omega⟩
  have key : ∀ n s', rlM M x (13 ^ e) n s' = rlM M x P1 (n + 1) (nxM M x n s') := fun n s' => by rw [hP1]; rfl
  rw [key, rl_id]
  · obtain ⟨a0, a1, a2, a3, a9⟩ := hA
    have hc := cmet_r (T (28 + k))
    unfold nxM
    rw [if_pos ⟨hset, by rw [l2]; have := hw.1; omega⟩, l0, l1, l3]
    unfold judgeS
    obtain ⟨⟨r1, r1'⟩, r2⟩ := hR
    by_cases hc4 : cmet (T (28 + k)) < 4
    · rw [if_pos hc4, if_pos hc4]
      refine ⟨⟨?_, ?_⟩, ?_⟩
      · show mxM T k = _
        unfold mxM
        rw [r1]
      · show (if s.2.2.2 < cmet (T (28 + k)) then cmet (T (28 + k)) else s.2.2.2) ≤ 4
        split <;> omega
      · rcases r2 with ⟨q0, q1⟩ | ⟨q0, q1, q2, q3, q4⟩
        · exact Or.inl ⟨q0, q1⟩
        · refine Or.inr ⟨q0, q1, q2, q3, ?_⟩
          show (if s.2.2.2 < cmet (T (28 + k)) then cmet (T (28 + k)) else s.2.2.2) = 4
          rw [if_neg (by omega)]
          exact q4
    · rw [if_neg hc4, if_neg hc4, if_neg (by
        rintro ⟨c1, c2⟩
        rcases r2 with ⟨q0, q1⟩ | ⟨q0, q1, q2, q3, q4⟩
        · omega
        · rcases hw.2 with w1 | w1 | w1 <;> rcases c2 with c2 | c2 <;> omega)]
      have hm4 : (if s.2.2.2 < cmet (T (28 + k)) then cmet (T (28 + k)) else s.2.2.2) = 4 := by
        rcases r2 with ⟨q0, q1⟩ | ⟨q0, q1, q2, q3, q4⟩
        · by_cases h9 : s.2.2.2 < cmet (T (28 + k))
          · rw [if_pos h9]; omega
          · rw [if_neg h9]; omega
        · rw [if_neg (by omega)]; exact q4
      refine ⟨⟨?_, Int.le_of_eq hm4⟩, Or.inr ⟨rfl, ⟨a * 13 ^ e, rfl, fun j hj hjk => ?_⟩, rfl, rfl, hm4⟩⟩
      · show mxM T k = _
        unfold mxM
        rw [r1]
      · rw [uA_lt hj]
        exact a9 j (by omega)
  · intro i hi
    obtain ⟨j, h1, h2, h3⟩ := DG_some e k a (1 + i) he (by omega) (by omega)
    refine nx_no (fun hs => ?_)
    have := (setsOK_iff M _).mp hs j h2
    rw [lim_k h j h2, if_neg (by omega), show a * 13 ^ e + 1 + i = a * 13 ^ e + (1 + i) by omega] at this
    omega
end SE
