section PU
theorem sumN_nn {g : Nat → Int} (n : Nat) (h : ∀ j, j < n → 0 ≤ g j) : 0 ≤ sumN g n := by
  induction n with
  | zero => exact Int.le_refl 0
  | succ n ih =>
    have h1 := ih (fun j hj => h j (by omega))
    have h2 := h n (by omega)
    show 0 ≤ sumN g n + g n
    omega
theorem sumN_mono {g h : Nat → Int} (n : Nat) (e : ∀ j, j < n → g j ≤ h j) : sumN g n ≤ sumN h n := by
  induction n with
  | zero => exact Int.le_refl 0
  | succ n ih =>
    have h1 := ih (fun j hj => e j (by omega))
    have h2 := e n (by omega)
    show sumN g n + g n ≤ sumN h n + h n
    omega
theorem sumN_up {g : Nat → Int} {m n : Nat} (hm : m ≤ n) (h : ∀ j, j < n → 0 ≤ g j) : sumN g m ≤ sumN g n := by
  induction n with
  | zero => rw [show m = 0 by omega]; exact Int.le_refl _
  | succ n ih =>
    by_cases hc : m = n + 1
    · rw [hc]; exact Int.le_refl _
    · have h1 := ih (by omega) (fun j hj => h j (by omega))
      have h2 := h n (by omega)
      show sumN g m ≤ sumN g n + g n
      omega
theorem sumN_plus (g h : Nat → Int) (n : Nat) : sumN (fun j => g j + h j) n = sumN g n + sumN h n := by
  induction n with
  | zero => rfl
  | succ n ih =>
    show sumN (fun j => g j + h j) n + (g n + h n) = (sumN g n + g n) + (sumN h n + h n)
    omega
/-- the digits of a code -/
def DG (n j : Nat) : Nat := match j with
  | 0 => n / 2197 % 13
  | 1 => n / 169 % 13
  | 2 => n / 13 % 13
  | _ => n % 13
theorem DG_le (n j : Nat) : DG n j ≤ 12 := by unfold DG; split <;> omega
theorem dg_3 (n : Nat) : dg3 (n : Int) = (DG n 3 : Int) := rfl
theorem dg_2 (n : Nat) : dg2 (n : Int) = (DG n 2 : Int) := rfl
theorem dg_1 (n : Nat) : dg1 (n : Int) = (DG n 1 : Int) := by
  show ((n / 13 / 13 % 13 : Nat) : Int) = ((n / 169 % 13 : Nat) : Int)
  omega
theorem dg_0 (n : Nat) : dg0 (n : Int) = (DG n 0 : Int) := by
  show ((n / 13 / 13 / 13 % 13 : Nat) : Int) = ((n / 2197 % 13 : Nat) : Int)
  omega
theorem setD_at (M : Nat → Nat → Int) (n j : Nat) (hj : j < 4) : setD M (n : Int) 46 j = (DG n j : Int) := by
  unfold setD
  rw [dg_0, dg_1, dg_2, dg_3]
  rcases (show j = 0 ∨ j = 1 ∨ j = 2 ∨ j = 3 by omega) with rfl | rfl | rfl | rfl <;> rfl
theorem setsOK_iff (M : Nat → Nat → Int) (n : Nat) : setsOK M (n : Int) ↔ ∀ j, j < 4 → (DG n j : Int) ≤ limM M j := by
  unfold setsOK
  rw [dg_0, dg_1, dg_2, dg_3]
  constructor
  · rintro ⟨h0, h1, h2, h3⟩ j hj
    rcases (show j = 0 ∨ j = 1 ∨ j = 2 ∨ j = 3 by omega) with rfl | rfl | rfl | rfl
    · exact h0
    · exact h1
    · exact h2
    · exact h3
  · intro h
    exact ⟨h 0 (by omega), h 1 (by omega), h 2 (by omega), h 3 (by omega)⟩
/-- the block of the codes whose first k digits are those of n -/
theorem DG_pre (e k a r j : Nat) (hk : k + e = 4) (hr : r < 13 ^ e) (hj : j < k) : DG (a * 13 ^ e + r) j = DG (a * 13 ^ e) j := by
  rcases (show e = 0 ∨ e = 1 ∨ e = 2 ∨ e = 3 ∨ e = 4 by omega) with rfl | rfl | rfl | rfl | rfl <;> rcases (show j = 0 ∨ j = 1 ∨ j = 2 ∨ j = 3 by omega) with rfl | rfl | rfl | rfl <;> simp only [DG] <;> omega
/-- the digit k of the i-th part of a block, and the digits before it -/
theorem DG_sub (e k a i j : Nat) (hk : k + (e + 1) = 4) (hi : i ≤ 12) (hj : j < k) : DG (a * 13 ^ (e + 1) + i * 13 ^ e) j = DG (a * 13 ^ (e + 1)) j := by
  rcases (show e = 0 ∨ e = 1 ∨ e = 2 ∨ e = 3 by omega) with rfl | rfl | rfl | rfl <;> rcases (show j = 0 ∨ j = 1 ∨ j = 2 ∨ j = 3 by omega) with rfl | rfl | rfl | rfl <;> simp only [DG] <;> omega
theorem DG_new (e k a i r : Nat) (hk : k + (e + 1) = 4) (hi : i ≤ 12) (hr : r < 13 ^ e) : DG (a * 13 ^ (e + 1) + i * 13 ^ e + r) k = i := by
  rcases (show e = 0 ∨ e = 1 ∨ e = 2 ∨ e = 3 by omega) with rfl | rfl | rfl | rfl <;> rcases (show k = 0 ∨ k = 1 ∨ k = 2 ∨ k = 3 by omega) with rfl | rfl | rfl | rfl <;> simp only [DG] <;> omega
/-- in a block, all digits from k on are 0 at its first code alone -/
theorem DG_zero (e k a j : Nat) (hk : k + e = 4) (hj : k ≤ j) (hj4 : j < 4) : DG (a * 13 ^ e) j = 0 := by
  rcases (show e = 0 ∨ e = 1 ∨ e = 2 ∨ e = 3 ∨ e = 4 by omega) with rfl | rfl | rfl | rfl | rfl <;> rcases (show j = 0 ∨ j = 1 ∨ j = 2 ∨ j = 3 by omega) with rfl | rfl | rfl | rfl <;> simp only [DG] <;> omega
theorem DG_some (e k a r : Nat) (hk : k + e = 4) (hr : r < 13 ^ e) (h0 : 0 < r) : ∃ j, k ≤ j ∧ j < 4 ∧ 0 < DG (a * 13 ^ e + r) j := by
  rcases (show e = 0 ∨ e = 1 ∨ e = 2 ∨ e = 3 ∨ e = 4 by omega) with rfl | rfl | rfl | rfl | rfl
  · omega
  · exact ⟨3, by omega, by omega, by simp only [DG]; omega⟩
  · by_cases h : (a * 13 ^ 2 + r) % 13 = 0
    · exact ⟨2, by omega, by omega, by simp only [DG]; omega⟩
    · exact ⟨3, by omega, by omega, by simp only [DG]; omega⟩
  · by_cases h : (a * 13 ^ 3 + r) % 13 = 0
    · by_cases h2 : (a * 13 ^ 3 + r) / 13 % 13 = 0
      · exact ⟨1, by omega, by omega, by simp only [DG]; omega⟩
      · exact ⟨2, by omega, by omega, by simp only [DG]; omega⟩
    · exact ⟨3, by omega, by omega, by simp only [DG]; omega⟩
  · by_cases h : (a * 13 ^ 4 + r) % 13 = 0
    · by_cases h2 : (a * 13 ^ 4 + r) / 13 % 13 = 0
      · by_cases h3 : (a * 13 ^ 4 + r) / 169 % 13 = 0
        · exact ⟨0, by omega, by omega, by simp only [DG]; omega⟩
        · exact ⟨1, by omega, by omega, by simp only [DG]; omega⟩
      · exact ⟨2, by omega, by omega, by simp only [DG]; omega⟩
    · exact ⟨3, by omega, by omega, by simp only [DG]; omega⟩
theorem rl_add (M : Nat → Nat → Int) (x : Int) : ∀ (d1 d2 n : Nat) (s : Int × Int × Int × Int), rlM M x (d1 + d2) n s = rlM M x d2 (n + d1) (rlM M x d1 n s) := by
  intro d1
  induction d1 with
  | zero => intro d2 n s; rw [Nat.zero_add]; rfl
  | succ d ih =>
    intro d2 n s
    rw [show d + 1 + d2 = (d + d2) + 1 by omega]
    show rlM M x (d + d2) (n + 1) (nxM M x n s) = rlM M x d2 (n + (d + 1)) (rlM M x d (n + 1) (nxM M x n s))
    rw [ih, show n + 1 + d = n + (d + 1) by omega]
theorem rl_id (M : Nat → Nat → Int) (x : Int) : ∀ (d n : Nat) (s : Int × Int × Int × Int), (∀ i, i < d → nxM M x (n + i) s = s) → rlM M x d n s = s := by
  intro d
  induction d with
  | zero => intro n s _; rfl
  | succ d ih =>
    intro n s h
    show rlM M x d (n + 1) (nxM M x n s) = s
    rw [show nxM M x n s = s from h 0 (by omega)]
    exact ih (n + 1) s (fun i hi => by rw [show n + 1 + i = n + (i + 1) by omega]; exact h (i + 1) (by omega))
theorem nx_no {M : Nat → Nat → Int} {x : Int} {n : Nat} {s : Int × Int × Int × Int} (h : ¬ setsOK M (n : Int)) : nxM M x n s = s := by
  unfold nxM
  rw [if_neg (fun q => h q.1)]
end PU
