/-! bounds of what is held, of the search's start, of Euclid's way: pure rows -/
section BND
variable {S T : Nat → Nat → Int} {N n q : Nat}
theorem mul_r {a b A B : Int} (ha : 0 ≤ a ∧ a ≤ A) (hb : 0 ≤ b ∧ b ≤ B) : 0 ≤ a * b ∧ a * b ≤ A * B := by
  refine ⟨Int.mul_nonneg ha.1 hb.1, ?_⟩
  calc a * b ≤ A * b := Int.mul_le_mul_of_nonneg_right ha.2 hb.1
    _ ≤ A * B := Int.mul_le_mul_of_nonneg_left hb.2 (by omega)
theorem sumN_r {g : Nat → Int} {M : Int} (n : Nat) (h : ∀ j, j < n → 0 ≤ g j ∧ g j ≤ M) : 0 ≤ sumN g n ∧ sumN g n ≤ (n : Int) * M := by
  induction n with
  | zero => exact ⟨Int.le_refl 0, by simp [sumN]⟩
  | succ n ih =>
    have h1 := ih (fun j hj => h j (by omega))
    have h2 := h n (by omega)
    have e : ((n + 1 : Nat) : Int) * M = (n : Int) * M + M := by rw [Int.natCast_add, Int.add_mul]; simp
    show 0 ≤ sumN g n + g n ∧ sumN g n + g n ≤ ((n + 1 : Nat) : Int) * M
    rw [e]
    omega
theorem sumN_congr {g h : Nat → Int} (n : Nat) (e : ∀ j, j < n → g j = h j) : sumN g n = sumN h n := by
  induction n with
  | zero => rfl
  | succ n ih =>
    show sumN g n + g n = sumN h n + h n
    rw [ih (fun j hj => e j (by omega)), e n (by omega)]
theorem heldH_r (h1 : 1 ≤ S 1 0 ∧ S 1 0 ≤ 65536) (h2 : 0 ≤ S 2 q ∧ S 2 q ≤ 100000) : 0 ≤ heldH S q ∧ heldH S q ≤ 6553600000000 := by
  have a := mul_r (A := 1000) (B := 65536) ⟨by decide, Int.le_refl 1000⟩ (show 0 ≤ S 1 0 ∧ S 1 0 ≤ 65536 by omega)
  have b := mul_r a h2
  unfold heldH
  omega
theorem heldA_r {j : Nat} (h1 : 1 ≤ S (11 + j) 1 ∧ S (11 + j) 1 ≤ 1000) (h2 : 0 ≤ S (15 + j) q ∧ S (15 + j) q ≤ 100000) (h3 : 0 ≤ S (11 + j) 3 ∧ S (11 + j) 3 ≤ 1000) : 0 ≤ heldA S j q ∧ heldA S j q ≤ 100000000000 := by
  have a := mul_r (show 0 ≤ S (11 + j) 1 ∧ S (11 + j) 1 ≤ 1000 by omega) h2
  have b := mul_r a h3
  unfold heldA
  omega
theorem heldP_r (hq : q < 8) (hn : n ≤ 4) (hI : IC N S) : 0 ≤ heldP S q n ∧ heldP S q n ≤ 12000000000000 := by
  obtain ⟨-, h1, -, -, hpr, -, -, -, -, -, -, h6, -, hRD, hal⟩ := hI
  have a := heldH_r h1 (hpr q hq)
  have b := sumN_r (g := fun j => S 6 j * heldA S j q) (M := 1200000000000) n (fun j hj => by
    have c := mul_r (h6 j (by omega)) (heldA_r (q := q) (hRD j (by omega)).2.1 ((hal j (by omega)).2 q hq) (hal j (by omega)).1)
    omega)
  unfold heldP
  omega
theorem eu_r : ∀ (n : Nat) (a b : Int), 0 ≤ a ∧ a ≤ 4000000000000000000 → 0 ≤ b ∧ b ≤ 4000000000000000000 → 0 ≤ eu n a b ∧ eu n a b ≤ 4000000000000000000 := by
  intro n
  induction n with
  | zero => intro a b ha hb; exact ha
  | succ n ih =>
    intro a b ha hb
    show 0 ≤ (if b = 0 then a else eu n b (a.tmod b)) ∧ (if b = 0 then a else eu n b (a.tmod b)) ≤ 4000000000000000000
    split
    · exact ha
    · have m1 := Int.tmod_nonneg b ha.1
      have m2 := Int.tmod_lt_of_pos a (show 0 < b by omega)
      exact ih b _ hb ⟨m1, by omega⟩
theorem asked_r {a b A : Int} (ha : 0 ≤ a ∧ a ≤ A) (hb : 0 ≤ b ∧ b ≤ 100000) : 0 ≤ 1000 * a * b ∧ 1000 * a * b ≤ 1000 * A * 100000 := mul_r (mul_r (A := 1000) (B := A) ⟨by decide, Int.le_refl 1000⟩ ha) hb
theorem gainA_r {j : Nat} (h1 : 1 ≤ S (11 + j) 1 ∧ S (11 + j) 1 ≤ 1000) (h2 : 0 ≤ S (15 + j) q ∧ S (15 + j) q ≤ 100000) (h3 : 0 ≤ S (11 + j) 3 ∧ S (11 + j) 3 ≤ 1000) (h4 : 0 ≤ S 3 q ∧ S 3 q ≤ 100000) : -100000000000 ≤ gainA S j q ∧ gainA S j q ≤ 100000000000 := by
  have a := heldA_r (q := q) h1 h2 h3
  have b := asked_r (A := 1000) (show 0 ≤ S (11 + j) 1 ∧ S (11 + j) 1 ≤ 1000 by omega) h4
  unfold gainA
  split <;> omega
theorem surH_r (h1 : 1 ≤ S 1 0 ∧ S 1 0 ≤ 65536) (h2 : 0 ≤ S 2 q ∧ S 2 q ≤ 100000) (h3 : 0 ≤ S 3 q ∧ S 3 q ≤ 100000) : -7000000000000 ≤ surH S q ∧ surH S q ≤ 7000000000000 := by
  have a := heldH_r h1 h2
  have b := asked_r (A := 65536) (show 0 ≤ S 1 0 ∧ S 1 0 ≤ 65536 by omega) h3
  unfold surH
  split <;> omega
theorem gS_at (S : Nat → Nat → Int) (n j m : Nat) (hj : j < n) (hm : m < 8) : gS S n (19 + j) m = gainA (gS S j) j m := by
  induction n with
  | zero => omega
  | succ n ih =>
    show uA (gS S n) (19 + n) 8 (gainA (gS S n) n) (19 + j) m = _
    by_cases h : j = n
    · subst h
      rw [uA_lt hm]
    · rw [uA_ne (by omega)]
      exact ih (by omega)
theorem gainA_gS (S : Nat → Nat → Int) (n j m : Nat) (hj : j < 4) : gainA (gS S n) j m = gainA S j m := by
  unfold gainA heldA
  rw [gS_ne S n (11 + j) (by omega), gS_ne S n (15 + j) (by omega), gS_ne S n 3 (by omega)]
theorem heatS_ne {x : Int} {y : Nat} (h1 : y ≠ 23) (h2 : y ≠ 28) : heatS S x y = S y := by
  unfold heatS
  rw [uA_ne h2, u2_ne h1, u2_ne h1, u2_ne h1]
/-- the search's start -/
theorem begin_ok {x : Int} (hI : IC N S) (hx : 0 ≤ x ∧ x ≤ 100000000) (hn : n ≤ 4) : RD (beginS (u2 S 5 0 0) x n) ∧ RS (beginS (u2 S 5 0 0) x n) ∧ RM (beginS (u2 S 5 0 0) x n) 0 := by
  obtain ⟨-, h1, -, -, hpr, ham, -, -, -, -, -, h6, hRS, hRD, hal⟩ := hI
  obtain ⟨-, -, r3, r4, r9, r8⟩ := hRS
  unfold beginS
  refine ⟨fun j hj => ?_, ⟨Or.inl ?_, ?_, ?_, ?_, ?_, ?_⟩, ?_⟩
  · obtain ⟨d0, d1, d2, d4, dg⟩ := hRD j hj
    have e1 : heatS (gS (u2 (u2 (u2 S 5 0 0) 7 0 0) 7 1 0) n) x (11 + j) = S (11 + j) := by rw [heatS_ne (by omega) (by omega), gS_ne _ _ _ (by omega), u2_ne (by omega), u2_ne (by omega), u2_ne (by omega)]
    rw [e1, heatS_ne (show 19 + j ≠ 23 by omega) (show 19 + j ≠ 28 by omega)]
    refine ⟨d0, d1, d2, d4, fun m hm => ?_⟩
    by_cases hjn : j < n
    · rw [gS_at _ _ _ _ hjn hm, gainA_gS _ _ _ _ hj]
      have e2 : gainA (u2 (u2 (u2 S 5 0 0) 7 0 0) 7 1 0) j m = gainA S j m := by
        unfold gainA heldA
        rw [u2_ne (show 11 + j ≠ 7 by omega), u2_ne (show 11 + j ≠ 7 by omega), u2_ne (show 11 + j ≠ 5 by omega), u2_ne (show 15 + j ≠ 7 by omega), u2_ne (show 15 + j ≠ 7 by omega), u2_ne (show 15 + j ≠ 5 by omega)]
        rfl
      rw [e2]
      exact gainA_r d1 ((hal j hj).2 m hm) (hal j hj).1 (ham m hm)
    · rw [gS_ne _ _ _ (by omega), u2_ne (by omega), u2_ne (by omega), u2_ne (by omega)]
      exact dg m hm
  · rw [heatS_ne (by decide) (by decide), gS_ne _ _ _ (by omega)]; rfl
  · rw [heatS_ne (by decide) (by decide), gS_ne _ _ _ (by omega)]; exact ⟨Int.le_refl 0, show (0 : Int) ≤ 4 by decide⟩
  · rw [heatS_ne (by decide) (by decide), gS_ne _ _ _ (by omega)]; exact r3
  · rw [heatS_ne (by decide) (by decide), gS_ne _ _ _ (by omega)]; exact r4
  · intro j hj
    rw [heatS_ne (by decide) (by decide), gS_ne _ _ _ (by omega)]; exact r9 j hj
  · intro j hj
    rw [heatS_ne (by decide) (by decide), gS_ne _ _ _ (by omega)]; exact r8 j hj
  · refine ⟨⟨Int.le_refl 0, Int.le_refl 0⟩, ⟨Int.le_refl 0, Int.le_refl 0⟩, hx, fun m hm => ?_⟩
    have e1 : heatS (gS (u2 (u2 (u2 S 5 0 0) 7 0 0) 7 1 0) n) x (28 + 0) m = surH (gS (u2 (u2 (u2 S 5 0 0) 7 0 0) 7 1 0) n) m := by unfold heatS; rw [uA_lt hm]
    have e2 : surH (gS (u2 (u2 (u2 S 5 0 0) 7 0 0) 7 1 0) n) m = surH S m := by
      unfold surH heldH
      rw [gS_ne _ _ 1 (by omega), gS_ne _ _ 2 (by omega), gS_ne _ _ 3 (by omega)]
      rfl
    rw [e1, e2]
    have := surH_r h1 (hpr m hm) (ham m hm)
    simp only [Int.natCast_zero, Int.zero_mul, Int.sub_zero, Int.add_zero]
    omega
end BND
