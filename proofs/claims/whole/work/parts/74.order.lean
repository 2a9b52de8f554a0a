section OR
variable {S M : Nat → Nat → Int} {x : Int} {K : Nat}
theorem bi_iff {p q : Prop} [Decidable p] [Decidable q] (h : p ↔ q) : bi p = bi q := by
  by_cases hp : p
  · rw [bi_pos hp, bi_pos (h.mp hp)]
  · rw [bi_neg hp, bi_neg (fun hq => hp (h.mpr hq))]
theorem bi_le {p q : Prop} [Decidable p] [Decidable q] (h : p → q) : bi p ≤ bi q := by
  by_cases hp : p
  · rw [bi_pos hp, bi_pos (h hp)]; exact Int.le_refl _
  · rw [bi_neg hp]; exact bi_nn q
theorem bi_two {p q r : Prop} [Decidable p] [Decidable q] [Decidable r] (h1 : p → r) (h2 : q → r) (h3 : ¬ (p ∧ q)) : bi p + bi q ≤ bi r := by
  by_cases hp : p
  · rw [bi_pos hp, bi_pos (h1 hp), bi_neg (fun hq => h3 ⟨hp, hq⟩)]; decide
  · rw [bi_neg hp]; have := bi_le h2; omega
theorem bi_sum {p q r : Prop} [Decidable p] [Decidable q] [Decidable r] (h : r ↔ p ∨ q) (h3 : ¬ (p ∧ q)) : bi r = bi p + bi q := by
  by_cases hp : p
  · rw [bi_pos hp, bi_pos (h.mpr (Or.inl hp)), bi_neg (fun hq => h3 ⟨hp, hq⟩)]; rfl
  · rw [bi_neg hp, bi_iff (p := r) (q := q) ⟨fun hr => (h.mp hr).resolve_left hp, fun hq => h.mpr (Or.inr hq)⟩]; omega
theorem sum_one (j : Nat) : ∀ n, sumN (fun i => bi (i = j)) n = if j < n then 1 else 0 := by
  intro n
  induction n with
  | zero => rfl
  | succ n ih =>
    show sumN (fun i => bi (i = j)) n + bi (n = j) = _
    rw [ih]
    by_cases h : n = j
    · rw [bi_pos h, if_neg (by omega), if_pos (by omega)]; rfl
    · rw [bi_neg h]
      by_cases h2 : j < n
      · rw [if_pos h2, if_pos (by omega)]; rfl
      · rw [if_neg h2, if_neg (by omega)]; rfl
theorem sum_cut (p : Nat → Prop) [DecidablePred p] (j : Nat) : ∀ n, j ≤ n → sumN (fun i => bi (p i ∧ i < j)) n = sumN (fun i => bi (p i)) j := by
  intro n
  induction n with
  | zero => intro h; rw [show j = 0 by omega]; rfl
  | succ n ih =>
    intro h
    by_cases hj : j = n + 1
    · subst hj
      exact sumN_congr _ (fun i hi => bi_iff ⟨fun q => q.1, fun q => ⟨q, hi⟩⟩)
    · show sumN (fun i => bi (p i ∧ i < j)) n + bi (p n ∧ n < j) = _
      rw [ih (by omega), bi_neg (p := p n ∧ n < j) (by omega)]
      omega
/-- the kinds of one cooling -/
theorem oI_spec (c : Int) : ∀ (d n : Nat) (l : Int), n + d = K → 0 ≤ l →
    (∃ j, n ≤ j ∧ j < K ∧ M 44 j = c ∧ ¬ M 45 j = 0 ∧ sumN (fun i => bi (M 44 i = c ∧ ¬ M 45 i = 0)) j - sumN (fun i => bi (M 44 i = c ∧ ¬ M 45 i = 0)) n = l ∧ (oI M c d n l).1 = (j : Int)) ∨
    ((oI M c d n l).1 = -1 ∧ (oI M c d n l).2 = l - (sumN (fun i => bi (M 44 i = c ∧ ¬ M 45 i = 0)) K - sumN (fun i => bi (M 44 i = c ∧ ¬ M 45 i = 0)) n) ∧ 0 ≤ (oI M c d n l).2) := by
  intro d
  induction d with
  | zero =>
    intro n l hn hl
    have : n = K := by omega
    subst this
    refine Or.inr ⟨rfl, ?_, hl⟩
    show l = _
    omega
  | succ d ih =>
    intro n l hn hl
    have hs : sumN (fun i => bi (M 44 i = c ∧ ¬ M 45 i = 0)) (n + 1) = sumN (fun i => bi (M 44 i = c ∧ ¬ M 45 i = 0)) n + bi (M 44 n = c ∧ ¬ M 45 n = 0) := rfl
    unfold oI
    by_cases h1 : ¬ M 44 n = c ∨ M 45 n = 0
    · rw [if_pos h1]
      rw [bi_neg (p := M 44 n = c ∧ ¬ M 45 n = 0) (by omega)] at hs
      rcases ih (n + 1) l (by omega) hl with ⟨j, a1, a2, a3, a4, a5, a6⟩ | ⟨a1, a2, a3⟩
      · exact Or.inl ⟨j, by omega, a2, a3, a4, by omega, a6⟩
      · exact Or.inr ⟨a1, by omega, a3⟩
    · rw [if_neg h1]
      rw [bi_pos (p := M 44 n = c ∧ ¬ M 45 n = 0) (by omega)] at hs
      by_cases h2 : l = 0
      · rw [if_pos h2]
        exact Or.inl ⟨n, by omega, by omega, by omega, by omega, by omega, rfl⟩
      · rw [if_neg h2]
        rcases ih (n + 1) (l - 1) (by omega) (by omega) with ⟨j, a1, a2, a3, a4, a5, a6⟩ | ⟨a1, a2, a3⟩
        · exact Or.inl ⟨j, by omega, a2, a3, a4, by omega, a6⟩
        · exact Or.inr ⟨a1, by omega, a3⟩
/-- how many come before kind j -/
def rkM (M : Nat → Nat → Int) (K j : Nat) : Int := sumN (fun i => bi ((M 44 j < M 44 i ∨ (M 44 i = M 44 j ∧ i < j)) ∧ ¬ M 45 i = 0)) K
theorem oO_spec (hK : kN M = K) : ∀ (C : Nat) (l : Int), l = x - sumN (fun i => bi ((C : Int) ≤ M 44 i ∧ ¬ M 45 i = 0)) K → 0 ≤ l →
    (∃ j, j < K ∧ ¬ M 45 j = 0 ∧ rkM M K j = x ∧ oO M C l = (j : Int)) ∨ (oO M C l = -1 ∧ sumN (fun i => bi ((0 : Int) ≤ M 44 i ∧ ¬ M 45 i = 0)) K ≤ x) := by
  intro C
  induction C with
  | zero =>
    intro l hl h0
    have e : sumN (fun i => bi (((0 : Nat) : Int) ≤ M 44 i ∧ ¬ M 45 i = 0)) K = sumN (fun i => bi ((0 : Int) ≤ M 44 i ∧ ¬ M 45 i = 0)) K := rfl
    exact Or.inr ⟨rfl, by omega⟩
  | succ C ih =>
    intro l hl h0
    unfold oO
    rw [hK]
    rcases oI_spec (M := M) (K := K) (C : Int) K 0 l (by omega) h0 with ⟨j, a1, a2, a3, a4, a5, a6⟩ | ⟨a1, a2, a3⟩
    · rw [a6, if_pos (by omega)]
      refine Or.inl ⟨j, a2, a4, ?_, rfl⟩
      have e1 : rkM M K j = sumN (fun i => bi (((C + 1 : Nat) : Int) ≤ M 44 i ∧ ¬ M 45 i = 0) + bi ((M 44 i = (C : Int) ∧ ¬ M 45 i = 0) ∧ i < j)) K := by
        unfold rkM
        exact sumN_congr K (fun i hi => bi_sum (by rw [a3]; omega) (by omega))
      rw [e1, sumN_plus, sum_cut (fun i => M 44 i = (C : Int) ∧ ¬ M 45 i = 0) j K (by omega), hl] at *
      have : sumN (fun i => bi (M 44 i = (C : Int) ∧ ¬ M 45 i = 0)) 0 = 0 := rfl
      omega
    · rw [a1, if_neg (by decide)]
      refine ih _ ?_ a3
      have e1 : sumN (fun i => bi ((C : Int) ≤ M 44 i ∧ ¬ M 45 i = 0)) K = sumN (fun i => bi (((C + 1 : Nat) : Int) ≤ M 44 i ∧ ¬ M 45 i = 0) + bi (M 44 i = (C : Int) ∧ ¬ M 45 i = 0)) K := sumN_congr K (fun i hi => bi_sum (by omega) (by omega))
      rw [e1, sumN_plus, a2, hl]
      have : sumN (fun i => bi (M 44 i = (C : Int) ∧ ¬ M 45 i = 0)) 0 = 0 := rfl
      omega
theorem rk_lt {j j' : Nat} (hj : j < K) (ht : ¬ M 45 j = 0) (hb : M 44 j' < M 44 j ∨ (M 44 j = M 44 j' ∧ j < j')) : rkM M K j + 1 ≤ rkM M K j' := by
  have h1 : sumN (fun i => bi ((M 44 j < M 44 i ∨ (M 44 i = M 44 j ∧ i < j)) ∧ ¬ M 45 i = 0) + bi (i = j)) K ≤ rkM M K j' := sumN_mono K (fun i hi => bi_two (fun h => ⟨by omega, h.2⟩) (fun h => by subst h; exact ⟨by omega, ht⟩) (fun h => by have h2 := h.2; subst h2; omega))
  rw [sumN_plus, sum_one, if_pos hj] at h1
  exact h1
theorem rk_tot {j : Nat} (hj : j < K) (ht : ¬ M 45 j = 0) (h0 : ∀ i, i < K → 0 ≤ M 44 i) : rkM M K j + 1 ≤ sumN (fun i => bi ((0 : Int) ≤ M 44 i ∧ ¬ M 45 i = 0)) K := by
  have h1 : sumN (fun i => bi ((M 44 j < M 44 i ∨ (M 44 i = M 44 j ∧ i < j)) ∧ ¬ M 45 i = 0) + bi (i = j)) K ≤ sumN (fun i => bi ((0 : Int) ≤ M 44 i ∧ ¬ M 45 i = 0)) K := sumN_mono K (fun i hi => by
    have := h0 i hi
    exact bi_two (fun h => ⟨by omega, h.2⟩) (fun h => by subst h; exact ⟨by omega, ht⟩) (fun h => by have h2 := h.2; subst h2; omega))
  rw [sumN_plus, sum_one, if_pos hj] at h1
  exact h1
theorem ordL_spec (hK : (S 0 4).toNat = K) (h6 : ∀ j, j < K → M 45 j = S 6 j ∧ M 44 j = S (11 + j) 4 ∧ 0 ≤ S 6 j) : ∀ (d n : Nat), n + d = K →
    (∃ j, n ≤ j ∧ j < K ∧ ¬ M 45 j = 0 ∧ rkM M K j = x ∧ ordL S x d n = (j : Int)) ∨ (ordL S x d n = -1 ∧ ∀ j, n ≤ j → j < K → ¬ M 45 j = 0 → ¬ rkM M K j = x) := by
  intro d
  induction d with
  | zero => intro n hn; exact Or.inr ⟨rfl, fun j h1 h2 => by omega⟩
  | succ d ih =>
    intro n hn
    have hq := h6 n (by omega)
    have hr : sumN (addP S n) (S 0 4).toNat = rkM M K n := by
      rw [hK]
      unfold rkM
      exact sumN_congr K (fun i hi => by
        have q := h6 i hi
        exact bi_iff (by
          unfold befA
          rw [q.1, q.2.1, hq.2.1]
          constructor
          · rintro ⟨h1, h2, h3⟩; exact ⟨by omega, by omega⟩
          · rintro ⟨h1, h2⟩; exact ⟨fun he => by subst he; omega, by omega, by omega⟩))
    unfold ordL
    rw [hr]
    by_cases h1 : 0 < S 6 n ∧ rkM M K n = x
    · rw [if_pos h1]
      exact Or.inl ⟨n, by omega, by omega, by omega, h1.2, rfl⟩
    · rw [if_neg h1]
      rcases ih (n + 1) (by omega) with ⟨j, a1, a2, a3, a4, a5⟩ | ⟨a1, a2⟩
      · exact Or.inl ⟨j, by omega, a2, a3, a4, a5⟩
      · refine Or.inr ⟨a1, fun j b1 b2 b3 b4 => ?_⟩
        by_cases hj : j = n
        · subst hj; exact h1 ⟨by omega, b4⟩
        · exact a2 j (by omega) b2 b3 b4
theorem ord_eq (hx : 0 ≤ x) (hK : (S 0 4).toNat = kN M) (h6 : ∀ j, j < kN M → M 45 j = S 6 j ∧ M 44 j = S (11 + j) 4 ∧ 0 ≤ S 6 j) (hc : ∀ j, j < kN M → 0 ≤ M 44 j ∧ M 44 j ≤ 1000) : ordL S x (S 0 4).toNat 0 = oO M 1001 x := by
  have e0 : sumN (fun i => bi (((1001 : Nat) : Int) ≤ M 44 i ∧ ¬ M 45 i = 0)) (kN M) = 0 := by
    have : ∀ n, n ≤ kN M → sumN (fun i => bi (((1001 : Nat) : Int) ≤ M 44 i ∧ ¬ M 45 i = 0)) n = 0 := by
      intro n
      induction n with
      | zero => intro _; rfl
      | succ n ih =>
        intro hn
        show sumN (fun i => bi (((1001 : Nat) : Int) ≤ M 44 i ∧ ¬ M 45 i = 0)) n + bi (((1001 : Nat) : Int) ≤ M 44 n ∧ ¬ M 45 n = 0) = 0
        have := hc n (by omega)
        rw [ih (by omega), bi_neg (by omega)]; rfl
    exact this _ (Nat.le_refl _)
  rcases oO_spec (M := M) (K := kN M) (x := x) rfl 1001 x (by omega) hx with ⟨j, a1, a2, a3, a4⟩ | ⟨a1, a2⟩
  · rw [a4]
    rcases ordL_spec (M := M) (x := x) hK h6 (S 0 4).toNat 0 (by omega) with ⟨i, b1, b2, b3, b4, b5⟩ | ⟨b1, b2⟩
    · rw [b5]
      by_cases hij : i = j
      · rw [hij]
      · rcases (show (M 44 j < M 44 i ∨ (M 44 i = M 44 j ∧ i < j)) ∨ (M 44 i < M 44 j ∨ (M 44 j = M 44 i ∧ j < i)) by omega) with h | h
        · have := rk_lt b2 b3 h; omega
        · have := rk_lt a1 a2 h; omega
    · exact absurd a3 (b2 j (by omega) a1 a2)
  · rw [a1]
    rcases ordL_spec (M := M) (x := x) hK h6 (S 0 4).toNat 0 (by omega) with ⟨i, b1, b2, b3, b4, b5⟩ | ⟨b1, b2⟩
    · have := rk_tot b2 b3 (fun i hi => (hc i hi).1); omega
    · exact b1
/-- Euclid's way ends within its 200 divisions -/
theorem eu_gcd : ∀ (m n : Nat) (a b : Int), 0 ≤ a → 0 ≤ b → b < 2 ^ m → 2 * m + 1 ≤ n → eu n a b = (Int.gcd a b : Int) := by
  intro m
  induction m with
  | zero =>
    intro n a b ha hb h hn
    have hb0 : b = 0 := by have : (2 : Int) ^ 0 = 1 := rfl; omega
    subst hb0
    obtain ⟨n', rfl⟩ : ∃ n', n = n' + 1 := ⟨n - 1, by omega⟩
    unfold eu
    rw [if_pos rfl, Int.gcd_zero_right]
    omega
  | succ m ih =>
    intro n a b ha hb h hn
    obtain ⟨n', rfl⟩ : ∃ n', n = n' + 1 := ⟨n - 1, by omega⟩
    unfold eu
    by_cases h0 : b = 0
    · rw [if_pos h0, h0, Int.gcd_zero_right]; omega
    · rw [if_neg h0]
      have r0 := Int.tmod_nonneg b ha
      have r1 := Int.tmod_lt_of_pos a (show 0 < b by omega)
      rw [← gcd_t ha hb]
      obtain ⟨r, hr⟩ : ∃ r, r = Int.tmod a b := ⟨_, rfl⟩
      rw [← hr] at r0 r1 ⊢
      obtain ⟨n2, rfl⟩ : ∃ n2, n' = n2 + 1 := ⟨n' - 1, by omega⟩
      unfold eu
      by_cases h1 : r = 0
      · rw [if_pos h1, h1, Int.gcd_zero_right]; omega
      · rw [if_neg h1, ← gcd_t hb r0]
        have t0 := Int.tmod_nonneg r hb
        have t1 := Int.tmod_lt_of_pos b (show 0 < r by omega)
        have t2 := Int.tmod_def b r
        have t3 : 1 ≤ Int.tdiv b r := by
          rw [Int.tdiv_eq_ediv_of_nonneg hb]
          exact (Int.le_ediv_iff_mul_le (by omega)).mpr (by omega)
        have t4 : r ≤ r * Int.tdiv b r := by
          have := Int.mul_le_mul_of_nonneg_left t3 r0
          omega
        have t5 : (2 : Int) ^ (m + 1) = 2 ^ m * 2 := Int.pow_succ 2 m
        exact ih n2 r (Int.tmod b r) r0 t0 (by omega) (by omega)
end OR
