section SF
variable {B M T U : Nat → Nat → Int} {x kc : Int} {s : Int × Int × Int × Int} {k n : Nat}
theorem cqu_eq (h : CR B M kc) (n : Nat) : cM (setD M n) = pC B n (kN M) ∧ uM (setD M n) = pU n (kN M) ∧ qM (setD M n) = pQ B n (kN M) := by
  obtain ⟨h0, h6, hj, hq⟩ := h
  have hK : (kN M : Int) = kc := by unfold kN; omega
  have e46 : ∀ j, j < kN M → setD M n 46 j = (DG n j : Int) := fun j hj => setD_at M n j (by omega)
  have hne : ∀ y, y ≠ 46 → setD M n y = M y := fun y hy => setD_ne hy
  refine ⟨?_, ?_, ?_⟩
  · unfold cM pC
    exact sumN_congr _ (fun j hjk => by
      show setD M n 46 j * setD M n 38 j = _
      rw [e46 j hjk, hne 38 (by decide), (hj j (by have : j < kN M := hjk; omega) (by have : j < kN M := hjk; omega)).1.1])
  · unfold uM pU
    exact sumN_congr _ (fun j hjk => by
      show bi (0 < setD M n 46 j) = _
      rw [e46 j hjk])
  · unfold qM pQ
    exact sumN_congr _ (fun j hjk => by
      show setD M n 46 j * setD M n 39 j * setD M n 44 j = _
      have hjk : j < kN M := hjk
      have q := (hj j (by omega) (by omega)).1
      rw [e46 j hjk, hne 39 (by decide), hne 44 (by decide), q.2.1, q.2.2.2, Int.mul_assoc])
theorem pC_pre {n m : Nat} (h : ∀ j, j < k → DG n j = DG m j) : pC B n k = pC B m k := sumN_congr k (fun j hj => by show (DG n j : Int) * _ = (DG m j : Int) * _; rw [h j hj])
theorem pU_pre {n m : Nat} (h : ∀ j, j < k → DG n j = DG m j) : pU n k = pU m k := sumN_congr k (fun j hj => by show bi (0 < (DG n j : Int)) = bi (0 < (DG m j : Int)); rw [h j hj])
theorem pQ_pre {n m : Nat} (h : ∀ j, j < k → DG n j = DG m j) : pQ B n k = pQ B m k := sumN_congr k (fun j hj => by show (DG n j : Int) * _ = (DG m j : Int) * _; rw [h j hj])
theorem pG_pre {n m y : Nat} (h : ∀ j, j < k → DG n j = DG m j) : pG B y n k = pG B y m k := sumN_congr k (fun j hj => by show (DG n j : Int) * _ = (DG m j : Int) * _; rw [h j hj])
theorem bi_nn (p : Prop) [Decidable p] : 0 ≤ bi p := by rcases bi_01 p with h | h <;> rw [h] <;> decide
theorem mx_like (hA : AT x B T k n) : MX x B (likeS T (k + 1) k) k n 0 ∧ ∀ j, j < k → likeS T (k + 1) k 9 j = (DG n j : Int) := by
  obtain ⟨a0, a1, a2, a3, a9⟩ := hA
  refine ⟨⟨?_, ?_, ?_, fun m hm => ?_⟩, fun j hj => ?_⟩
  · rw [likeS_0, a0]; omega
  · rw [likeS_1, a1]; show pU n k = pU n k + 0; omega
  · rw [likeS_2, a2]; omega
  · rw [likeS_s hm, a3 m hm]; omega
  · rw [likeS_ne (by omega) (by omega)]; exact a9 j hj
theorem mx_step (hK : KS B T) (hk : k < 4) (i : Nat) (h : MX x B T k n ((i - 1 : Nat) : Int)) : MX x B (stepS T k i) k n (i : Int) := by
  unfold stepS
  cases i with
  | zero => exact h
  | succ i =>
    rw [if_neg (by omega)]
    obtain ⟨a0, a1, a2, a3⟩ := h
    rw [show ((i + 1 - 1 : Nat) : Int) = (i : Int) by omega] at a0 a1 a2
    have hc : ((i + 1 : Nat) : Int) = (i : Int) + 1 := by omega
    refine ⟨?_, ?_, ?_, fun m hm => ?_⟩
    · rw [takeS_0, a0, hK (11 + k) (by omega) (by omega), hc, Int.add_mul]; omega
    · rw [takeS_1, a1]
      by_cases h1 : i = 0
      · subst h1; show pU n k + 0 + 1 = pU n k + 1; omega
      · rw [bi_neg (p := i + 1 = 1) (by omega), if_pos rfl, bi_pos (p := 0 < (i : Int)) (by omega), bi_pos (p := 0 < ((i + 1 : Nat) : Int)) (by omega)]; omega
    · rw [takeS_2, a2, hK (11 + k) (by omega) (by omega), hc, Int.add_mul]; omega
    · rw [takeS_s hm, a3 m hm, hK (19 + k) (by omega) (by omega), hc, Int.add_mul, show ((i + 1 - 1 : Nat) : Int) = (i : Int) by omega]; omega
theorem mx_at (e a i : Nat) (hk : k + (e + 1) = 4) (hi : i ≤ 12) (h : MX x B T k (a * 13 ^ (e + 1)) (i : Int)) (h9 : ∀ j, j < k → T 9 j = (DG (a * 13 ^ (e + 1)) j : Int)) : AT x B (u2 T 9 k (i : Int)) (k + 1) (a * 13 ^ (e + 1) + i * 13 ^ e) := by
  obtain ⟨a0, a1, a2, a3⟩ := h
  have hp : ∀ j, j < k → DG (a * 13 ^ (e + 1) + i * 13 ^ e) j = DG (a * 13 ^ (e + 1)) j := fun j hj => DG_sub e k a i j hk hi hj
  have hn : DG (a * 13 ^ (e + 1) + i * 13 ^ e) k = i := DG_new e k a i 0 hk hi (Nat.pos_of_ne_zero (by intro h9; have := Nat.pow_eq_zero.mp h9; omega))
  refine ⟨?_, ?_, ?_, fun m hm => ?_, fun j hj => ?_⟩
  · rw [u2_ne (by omega), a0]
    show _ = pC B _ k + (DG _ k : Int) * B (11 + k) 0
    rw [hn, pC_pre hp]
  · rw [u2_ne (by omega), a1]
    show _ = pU _ k + bi (0 < (DG _ k : Int))
    rw [hn, pU_pre hp]
  · rw [u2_ne (by omega), a2]
    show _ = x - (pQ B _ k + (DG _ k : Int) * (B (11 + k) 1 * B (11 + k) 4))
    rw [hn, pQ_pre hp]
    omega
  · rw [u2_ne (by omega), a3 m hm]
    show _ = B 28 m + (pG B m _ k + (DG _ k : Int) * B (19 + k) m)
    rw [hn, pG_pre hp]
    omega
  · by_cases hjk : j = k
    · subst hjk; rw [u2_eq, hn]
    · rw [u2_j hjk, h9 j (by omega), hp j (by omega)]
theorem nx_skip (h : CR B M kc) (hkc : (k : Int) < kc) (i : Nat) (hM : MX x B T k n (i : Int)) (hw : ¬ worth T (k + 1)) (hR : RE kc T s) (n' : Nat) (hpre : ∀ j, j < k → DG n' j = DG n j) (hge : i ≤ DG n' k) : nxM M x n' s = s := by
  obtain ⟨e1, e2, e3⟩ := cqu_eq h n'
  obtain ⟨h0, h6, hj, -⟩ := h
  have hK : (kN M : Int) = kc := by unfold kN; omega
  have hk1 : k + 1 ≤ kN M := by omega
  obtain ⟨a0, a1, a2, -⟩ := hM
  have hb := (hj k (by omega) hkc).2.1
  have c1 : T (23 + (k + 1)) 0 ≤ cM (setD M n') := by
    rw [e1, a0]
    refine Int.le_trans ?_ (sumN_up hk1 (fun j hjk => Int.mul_nonneg (by omega) (hj j (by omega) (by omega)).2.1.1))
    show _ ≤ pC B n' k + (DG n' k : Int) * B (11 + k) 0
    rw [pC_pre hpre]
    have := Int.mul_le_mul_of_nonneg_right (show (i : Int) ≤ (DG n' k : Int) by omega) hb.1
    omega
  have c2 : T (23 + (k + 1)) 1 ≤ uM (setD M n') := by
    rw [e2, a1]
    refine Int.le_trans ?_ (sumN_up hk1 (fun j hjk => bi_nn _))
    show _ ≤ pU n' k + bi (0 < (DG n' k : Int))
    rw [pU_pre hpre]
    by_cases hi : 0 < (i : Int)
    · rw [bi_pos hi, bi_pos (show 0 < (DG n' k : Int) by omega)]; omega
    · rw [bi_neg hi]; have := bi_nn (0 < (DG n' k : Int)); omega
  have c3 : x - T (23 + (k + 1)) 2 ≤ qM (setD M n') := by
    rw [e3, a2]
    refine Int.le_trans ?_ (sumN_up hk1 (fun j hjk => Int.mul_nonneg (by omega) (Int.mul_nonneg (hj j (by omega) (by omega)).2.1.2.1 (hj j (by omega) (by omega)).2.1.2.2.2)))
    show _ ≤ pQ B n' k + (DG n' k : Int) * (B (11 + k) 1 * B (11 + k) 4)
    rw [pQ_pre hpre]
    have := Int.mul_le_mul_of_nonneg_right (show (i : Int) ≤ (DG n' k : Int) by omega) (Int.mul_nonneg hb.2.1 hb.2.2.2)
    omega
  unfold nxM
  by_cases hs : setsOK M (n' : Int) ∧ qM (setD M n') ≤ x
  · rw [if_pos hs]
    have h2 : 0 ≤ T (23 + (k + 1)) 2 := by have := hs.2; omega
    obtain ⟨⟨r1, r1'⟩, r2⟩ := hR
    have hem := emM_r (setD M n')
    rcases r2 with ⟨q0, q1⟩ | ⟨q0, ⟨nn, q1, -⟩, q2, q3, q4⟩
    · exact absurd ⟨h2, Or.inl q0⟩ hw
    · have w1 : ¬ T (23 + (k + 1)) 0 < T 7 3 := fun h9 => hw ⟨h2, Or.inr (Or.inl h9)⟩
      have w2 : ¬ (T (23 + (k + 1)) 0 = T 7 3 ∧ T (23 + (k + 1)) 1 < T 7 4) := fun h9 => hw ⟨h2, Or.inr (Or.inr h9)⟩
      have hmx : (if s.2.2.2 < emM (setD M n') then emM (setD M n') else s.2.2.2) = s.2.2.2 := if_neg (by omega)
      rw [hmx]
      by_cases h4 : emM (setD M n') < 4
      · rw [if_pos h4]
      · rw [if_neg h4, if_pos ⟨by omega, by omega⟩]
  · rw [if_neg hs]
end SF
