/-! bounds of the reference's numbers: pure rows -/
section MB
variable {S T : Nat → Nat → Int} {q : Nat} {x : Int}
def IM (S : Nat → Nat → Int) : Prop := (0 ≤ S 33 6 ∧ S 33 6 ≤ 4) ∧ (1 ≤ S 33 1 ∧ S 33 1 ≤ 65536) ∧ (0 ≤ S 33 14 ∧ S 33 14 ≤ 1) ∧ (0 ≤ S 33 17 ∧ S 33 17 ≤ 100000) ∧ (∀ e, e < 4 → (0 ≤ S 34 e ∧ S 34 e ≤ 100000) ∧ (0 ≤ S 35 e ∧ S 35 e ≤ 100000)) ∧ (∀ e, e < 4 → (0 ≤ S 36 e ∧ S 36 e ≤ 100000) ∧ (0 ≤ S 37 e ∧ S 37 e ≤ 100000)) ∧ (∀ j : Nat, j < 4 → (j : Int) < S 33 6 → (0 ≤ S 38 j ∧ S 38 j ≤ 100000) ∧ (1 ≤ S 39 j ∧ S 39 j ≤ 1000) ∧ (0 ≤ S 40 j ∧ S 40 j ≤ 12)) ∧ (∀ j, j < 4 → (0 ≤ S 43 j ∧ S 43 j ≤ 1000) ∧ (0 ≤ S 44 j ∧ S 44 j ≤ 1000)) ∧ (∀ m, m < 16 → (0 ≤ S 41 m ∧ S 41 m ≤ 100000) ∧ (0 ≤ S 42 m ∧ S 42 m ≤ 100000)) ∧ (∀ j, j < 4 → 0 ≤ S 45 j ∧ S 45 j ≤ 12) ∧ ∀ j, j < 4 → 0 ≤ S 46 j ∧ S 46 j ≤ 12
/-- IM asks of the fields of cell 33 but four, and of the rows -/
theorem IM_of (h : IM S) (h6 : T 33 6 = S 33 6) (h1 : T 33 1 = S 33 1) (h14 : 0 ≤ T 33 14 ∧ T 33 14 ≤ 1) (h17 : T 33 17 = S 33 17) (hr : ∀ x, 34 ≤ x → x ≤ 45 → T x = S x) (h46 : ∀ j, j < 4 → 0 ≤ T 46 j ∧ T 46 j ≤ 12) : IM T := by
  obtain ⟨a, b, -, d, e, f, g, i, j, k, -⟩ := h
  unfold IM
  rw [h6, h1, h17, hr 34 (by decide) (by decide), hr 35 (by decide) (by decide), hr 36 (by decide) (by decide), hr 37 (by decide) (by decide), hr 38 (by decide) (by decide), hr 39 (by decide) (by decide), hr 40 (by decide) (by decide), hr 41 (by decide) (by decide), hr 42 (by decide) (by decide), hr 43 (by decide) (by decide), hr 44 (by decide) (by decide), hr 45 (by decide) (by decide)]
  exact ⟨a, b, h14, d, e, f, g, i, j, k, h46⟩
theorem kN_r (h : IM S) : kN S ≤ 4 ∧ ∀ j, j < kN S → (j : Int) < S 33 6 := by
  have := h.1
  unfold kN
  exact ⟨by omega, fun j hj => by omega⟩
theorem wM_r (h : IM S) : 0 ≤ wM S ∧ wM S ≤ 48000 := by
  obtain ⟨k1, k2⟩ := kN_r h
  obtain ⟨-, -, -, -, -, -, g, -, -, -, t⟩ := h
  have := sumN_r (g := fun j => S 46 j * S 39 j) (M := 12000) (kN S) (fun j hj => by
    have a := g j (by omega) (k2 j hj)
    have := mul_r (t j (by omega)) (show 0 ≤ S 39 j ∧ S 39 j ≤ 1000 by omega)
    omega)
  unfold wM
  omega
theorem cM_r (h : IM S) : 0 ≤ cM S ∧ cM S ≤ 4800000 := by
  obtain ⟨k1, k2⟩ := kN_r h
  obtain ⟨-, -, -, -, -, -, g, -, -, -, t⟩ := h
  have := sumN_r (g := fun j => S 46 j * S 38 j) (M := 1200000) (kN S) (fun j hj => by
    have a := g j (by omega) (k2 j hj)
    have := mul_r (t j (by omega)) a.1
    omega)
  unfold cM
  omega
theorem uM_r (h : IM S) : 0 ≤ uM S ∧ uM S ≤ 4 := by
  obtain ⟨k1, k2⟩ := kN_r h
  have := sumN_r (g := fun j => bi (0 < S 46 j)) (M := 1) (kN S) (fun j hj => by rcases bi_01 (0 < S 46 j) with q | q <;> simp only [q] <;> decide)
  unfold uM
  omega
theorem qM_r (h : IM S) : 0 ≤ qM S ∧ qM S ≤ 48000000 := by
  obtain ⟨k1, k2⟩ := kN_r h
  obtain ⟨-, -, -, -, -, -, g, c, -, -, t⟩ := h
  have := sumN_r (g := fun j => S 46 j * S 39 j * S 44 j) (M := 12000000) (kN S) (fun j hj => by
    have a := g j (by omega) (k2 j hj)
    have := mul_r (mul_r (t j (by omega)) (show 0 ≤ S 39 j ∧ S 39 j ≤ 1000 by omega)) (c j (by omega)).2
    omega)
  unfold qM
  omega
theorem aM_r (h : IM S) (hq : q < 4) : 0 ≤ aM S q x ∧ aM S q x ≤ 12000000000000 := by
  obtain ⟨k1, k2⟩ := kN_r h
  obtain ⟨-, h1, -, -, e, -, g, c, d, -, t⟩ := h
  have s := sumN_r (g := aF S q x) (M := 1200000000000) (kN S) (fun j hj => by
    have a := g j (by omega) (k2 j hj)
    have b := d (4 * j + q) (by omega)
    have := mul_r (mul_r (mul_r (t j (by omega)) (show 0 ≤ S 39 j ∧ S 39 j ≤ 1000 by omega)) (c j (by omega)).1) (show 0 ≤ (if x = 0 then S 41 (4 * j + q) else S 42 (4 * j + q)) ∧ (if x = 0 then S 41 (4 * j + q) else S 42 (4 * j + q)) ≤ 100000 by split <;> omega)
    unfold aF
    omega)
  have b := e q hq
  have p := mul_r (mul_r (A := 1000) (B := 65536) ⟨by decide, Int.le_refl 1000⟩ (show 0 ≤ S 33 1 ∧ S 33 1 ≤ 65536 by omega)) (show 0 ≤ (if x = 0 then S 34 q else S 35 q) ∧ (if x = 0 then S 34 q else S 35 q) ≤ 100000 by split <;> omega)
  unfold aM
  omega
/-- the sums read rows 33 .. 46 alone -/
theorem kN_c (h : T 33 6 = S 33 6) : kN T = kN S := by unfold kN; rw [h]
theorem wM_c (h6 : T 33 6 = S 33 6) (h : T 46 = S 46) (h9 : T 39 = S 39) : wM T = wM S := by unfold wM; rw [kN_c h6, h, h9]
theorem cM_c (h6 : T 33 6 = S 33 6) (h : T 46 = S 46) (h9 : T 38 = S 38) : cM T = cM S := by unfold cM; rw [kN_c h6, h, h9]
theorem aM_c (h6 : T 33 6 = S 33 6) (h1 : T 33 1 = S 33 1) (h34 : T 34 q = S 34 q) (h35 : T 35 q = S 35 q) (hr : ∀ y, 39 ≤ y → y ≤ 46 → T y = S y) : aM T q x = aM S q x := by
  have e : aF T q x = aF S q x := by
    funext j
    unfold aF
    rw [hr 46 (by decide) (by decide), hr 39 (by decide) (by decide), hr 43 (by decide) (by decide), hr 41 (by decide) (by decide), hr 42 (by decide) (by decide)]
  unfold aM
  rw [kN_c h6, h1, h34, h35, e]
theorem setD_46 {c : Int} (hc : 0 ≤ c) : ∀ j, j < 4 → 0 ≤ setD S c 46 j ∧ setD S c 46 j ≤ 12 := by
  have d1 : 0 ≤ Int.tdiv c 13 := Int.tdiv_nonneg hc (by decide)
  have d2 : 0 ≤ Int.tdiv (Int.tdiv c 13) 13 := Int.tdiv_nonneg d1 (by decide)
  have d3 : 0 ≤ Int.tdiv (Int.tdiv (Int.tdiv c 13) 13) 13 := Int.tdiv_nonneg d2 (by decide)
  have r : ∀ a : Int, 0 ≤ a → 0 ≤ Int.tmod a 13 ∧ Int.tmod a 13 ≤ 12 := fun a ha => by
    have m1 := Int.tmod_nonneg (13 : Int) ha
    have m2 := Int.tmod_lt_of_pos a (show (0 : Int) < 13 by decide)
    omega
  intro j hj
  match j, hj with
  | 0, _ => exact r _ d3
  | 1, _ => exact r _ d2
  | 2, _ => exact r _ d1
  | 3, _ => exact r _ hc
theorem setD_ne {c : Int} {y : Nat} (h : y ≠ 46) : setD S c y = S y := by unfold setD; rw [u2_ne h, u2_ne h, u2_ne h, u2_ne h]
theorem setD_setD (a b : Int) : setD (setD S a) b = setD S b := by
  funext y j
  by_cases h : y = 46
  · subst h
    unfold setD u2 updI
    simp only [if_true]
    by_cases j0 : j = 0
    · simp [j0]
    · by_cases j1 : j = 1
      · simp [j1]
      · by_cases j2 : j = 2
        · simp [j2]
        · by_cases j3 : j = 3
          · simp [j3]
          · simp [j0, j1, j2, j3]
  · rw [setD_ne h, setD_ne h, setD_ne h]
theorem IM_set {c : Int} (h : IM S) (hc : 0 ≤ c) : IM (setD S c) := IM_of h rfl rfl h.2.2.1 rfl (fun y _ h2 => setD_ne (by omega)) (setD_46 hc)
theorem limM_set {c : Int} (k : Nat) : limM (setD S c) k = limM S k := by
  unfold limM
  rw [setD_ne (show 40 ≠ 46 by decide), setD_ne (show 33 ≠ 46 by decide)]
end MB
