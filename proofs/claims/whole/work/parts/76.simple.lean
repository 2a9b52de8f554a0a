section M16
variable {l : Launch} {D : va_G} {cd : Nat → ClassId} {ad : Nat → Nat} {L : List Nat} {f f0 : Nat → va_E} {S : Nat → Nat → Int}
theorem gv_a {p : Prop} [Decidable p] {b : Int} (h : ¬ p) : gv (bi p) b = 1 := by rw [bi_neg h]; rfl
theorem gv_b {p q : Prop} [Decidable p] [Decidable q] (h : p) (h2 : ¬ q) : gv (bi p) (bi q) = 2 := by rw [bi_pos h, bi_neg h2]; rfl
theorem gv_c {p q : Prop} [Decidable p] [Decidable q] (h : p) (h2 : q) : gv (bi p) (bi q) = 0 := by rw [bi_pos h, bi_pos h2]; rfl
theorem INV_th {N : Nat} {z : Int} (h : INV N S) : INV (N + 1) (u2 S 33 0 z) := INV_fr (by omega) (fun y h1 h2 h3 => u2_ne h3) (fun j hj => u2_j hj) h.2.1.2.2.2.2.2.2.2.2.2.2 h
theorem INV_mk {N : Nat} {T : Nat → Nat → Int} (hV : INV N S) (f1 : T 1 1 = S 1 1 ∧ T 1 2 = S 1 2 ∧ T 33 17 = S 33 17 ∧ T 33 18 = S 33 18) (f10 : (1 ≤ T 1 0 ∧ T 1 0 ≤ 65536) ∧ T 33 1 = T 1 0) (f04 : (0 ≤ T 0 4 ∧ T 0 4 ≤ 4) ∧ T 33 6 = T 0 4) (f5 : T 5 0 = 0 ∧ T 33 14 = 0 ∧ ∀ j, j ≠ 0 → T 5 j = S 5 j)
    (f6 : T 6 = S 6 ∧ T 7 = S 7 ∧ T 8 = S 8 ∧ T 9 = S 9 ∧ T 45 = S 45 ∧ T 46 = S 46) (f19 : ∀ j, j < 4 → T (19 + j) = S (19 + j)) (g2 : ∀ n, n < 8 → 0 ≤ T 2 n ∧ T 2 n ≤ 100000) (g3 : ∀ n, n < 8 → 0 ≤ T 3 n ∧ T 3 n ≤ 100000)
    (g11 : ∀ j, j < 4 → (0 ≤ T (11 + j) 0 ∧ T (11 + j) 0 ≤ 100000) ∧ (1 ≤ T (11 + j) 1 ∧ T (11 + j) 1 ≤ 1000) ∧ (0 ≤ T (11 + j) 2 ∧ T (11 + j) 2 ≤ 12) ∧ (0 ≤ T (11 + j) 3 ∧ T (11 + j) 3 ≤ 1000) ∧ (0 ≤ T (11 + j) 4 ∧ T (11 + j) 4 ≤ 1000)) (g15 : ∀ j, j < 4 → ∀ n, n < 8 → 0 ≤ T (15 + j) n ∧ T (15 + j) n ≤ 100000) (g43 : ∀ j, j < 4 → 0 ≤ T 43 j ∧ T 43 j ≤ 1000)
    (R6 : ∀ e, e < 4 → T 34 e = T 2 (2 * e) ∧ T 35 e = T 2 (2 * e + 1) ∧ T 36 e = T 3 (2 * e) ∧ T 37 e = T 3 (2 * e + 1))
    (R7 : ∀ k : Nat, k < 4 → (k : Int) < T 33 6 → T 38 k = T (11 + k) 0 ∧ T 39 k = T (11 + k) 1 ∧ T 40 k = T (11 + k) 2 ∧ T 43 k = T (11 + k) 3) (R8 : ∀ k : Nat, k < 4 → ¬ (k : Int) < T 33 6 → T (11 + k) 3 = 1000)
    (R9 : ∀ k, k < 4 → T 44 k = T (11 + k) 4 ∧ ∀ e, e < 4 → T 41 (4 * k + e) = T (15 + k) (2 * e) ∧ T 42 (4 * k + e) = T (15 + k) (2 * e + 1)) : INV (N + 1) T := by
  obtain ⟨hI, hM, hR⟩ := hV
  obtain ⟨r1, r2, r3, r4, r5, r6, r7, r8, r9, r10⟩ := hR
  obtain ⟨⟨i0, j0⟩, ⟨i1, j1⟩, ⟨i2, j2⟩, ⟨i3, j3⟩, hpr, ham, i5, ⟨i6, j6⟩, ⟨i7, j7⟩, ⟨i8, j8⟩, ⟨i9, j9⟩, h6, hRS, hRD, hal⟩ := hI
  obtain ⟨⟨u0, v0⟩, ⟨u1, v1⟩, ⟨u2', v2⟩, ⟨u3, v3⟩, m34, m36, m38, m43, m41, m45, m46⟩ := hM
  obtain ⟨k1, k2, k3, k4⟩ := f1
  obtain ⟨k5, k6, k7⟩ := f5
  obtain ⟨l6, l7, l8, l9, l45, l46⟩ := f6
  refine ⟨⟨f04.1, f10.1, by omega, by omega, g2, g3, Or.inl k5, ?_, ?_, ?_, ?_, ?_, RS_of l7 l8 l9 hRS, fun j hj => ?_, fun j hj => ⟨(g11 j hj).2.2.2.1, g15 j hj⟩⟩, ⟨by omega, by omega, by omega, by omega, fun e he => ?_, fun e he => ?_, fun j hj hk => ?_, fun j hj => ⟨g43 j hj, by rw [(R9 j hj).1]; exact (g11 j hj).2.2.2.2⟩, fun m hm => ?_, ?_, ?_⟩, ⟨f10.2, f04.2, by omega, by omega, by omega, R6, R7, R8, R9, fun h => by omega⟩⟩
  · rw [k7 1 (by decide)]; exact ⟨i6, j6⟩
  · rw [k7 2 (by decide)]; exact ⟨i7, j7⟩
  · rw [k7 3 (by decide)]; exact ⟨i8, j8⟩
  · rw [k7 4 (by decide)]; exact ⟨i9, j9⟩
  · rw [l6]; exact h6
  · have q := g11 j hj
    exact ⟨q.1, q.2.1, q.2.2.1, q.2.2.2.2, by rw [f19 j hj]; exact (hRD j hj).2.2.2.2⟩
  · have q := R6 e he
    rw [q.1, q.2.1]
    exact ⟨g2 _ (by omega), g2 _ (by omega)⟩
  · have q := R6 e he
    rw [q.2.2.1, q.2.2.2]
    exact ⟨g3 _ (by omega), g3 _ (by omega)⟩
  · have q := R7 j hj hk
    have g := g11 j hj
    rw [q.1, q.2.1, q.2.2.1]
    exact ⟨g.1, g.2.1, g.2.2.1⟩
  · have q := (R9 (m / 4) (by omega)).2 (m % 4) (by omega)
    rw [show 4 * (m / 4) + m % 4 = m by omega] at q
    rw [q.1, q.2]
    exact ⟨g15 _ (by omega) _ (by omega), g15 _ (by omega) _ (by omega)⟩
  · rw [l45]; exact m45
  · rw [l46]; exact m46
set_option maxHeartbeats 4000000 in
theorem lm_heat {N : Nat} (hV : INV N S) (x : Int) : m_heat (w_heat S x) x 33 0 = k_heat S x ∧ INV (N + 1) (m_heat (w_heat S x) x) := by
  obtain ⟨hI, hM, hR⟩ := id hV
  obtain ⟨r1, r2, r3, r4, r5, r6, r7, r8, r9, r10⟩ := id hR
  obtain ⟨⟨i0, j0⟩, ⟨i1, j1⟩, ⟨i2, j2⟩, ⟨i3, j3⟩, hpr, ham, i5, ⟨i6, j6⟩, ⟨i7, j7⟩, ⟨i8, j8⟩, ⟨i9, j9⟩, h6, hRS, hRD, hal⟩ := id hI
  have m43 := hM.2.2.2.2.2.2.2.1
  by_cases c1 : 0 < S 1 1
  · have hk : k_heat S x = 1 := by unfold k_heat; rw [if_pos c1]
    have hw : w_heat S x = S := by unfold w_heat; rw [if_pos c1]
    have hg : gv (bi (S 33 17 = 0)) (bi (1 ≤ x ∧ x ≤ 65536)) = 1 := gv_a (by omega)
    have hm : m_heat S x = u2 S 33 0 1 := by unfold m_heat; rw [hg, if_neg (by decide)]
    rw [hk, hw, hm]
    exact ⟨rfl, INV_th hV⟩
  by_cases c2 : ¬ 0 < S 1 1 ∧ ¬ (1 ≤ x ∧ x ≤ 65536)
  · have hk : k_heat S x = 2 := by unfold k_heat; rw [if_neg c1, if_pos c2]
    have hw : w_heat S x = S := by unfold w_heat; rw [if_neg c1, if_pos c2]
    have hg : gv (bi (S 33 17 = 0)) (bi (1 ≤ x ∧ x ≤ 65536)) = 2 := gv_b (by omega) (by omega)
    have hm : m_heat S x = u2 S 33 0 2 := by unfold m_heat; rw [hg, if_neg (by decide)]
    rw [hk, hw, hm]
    exact ⟨rfl, INV_th hV⟩
  have hk : k_heat S x = 0 := by unfold k_heat; rw [if_neg c1, if_neg c2]
  have hw : w_heat S x = u2 (u2 S 1 0 x) 5 0 0 := by unfold w_heat; rw [if_neg c1, if_neg c2]
  have hg : gv (bi (S 33 17 = 0)) (bi (1 ≤ x ∧ x ≤ 65536)) = 0 := gv_c (by omega) (by omega)
  obtain ⟨T, hT⟩ : ∃ T, T = (u2 (u2 (u2 (u2 (u2 S 1 0 x) 5 0 0) 33 0 0) 33 1 x) 33 14 0) := ⟨_, rfl⟩
  have hm : m_heat (w_heat S x) x = T := by
    obtain ⟨V, hVV⟩ : ∃ V, V = w_heat S x := ⟨_, rfl⟩
    have h33 : V 33 = S 33 := by rw [hVV, hw, u2_ne (by omega), u2_ne (by omega)]
    rw [← hVV]; unfold m_heat; rw [h33, hg, if_pos rfl, hVV, hw, hT]
  rw [hk, hm]
  have fr : ∀ y, y ≠ 1 → y ≠ 5 → y ≠ 33 → T y = S y := fun y h0 h1 h2 => by rw [hT, u2_ne (by omega), u2_ne (by omega), u2_ne (by omega), u2_ne (by omega), u2_ne (by omega)]
  have t04 : T 0 4 = S 0 4 := by rw [hT, u2_ne (by omega), u2_ne (by omega), u2_ne (by omega), u2_ne (by omega), u2_ne (by omega)]
  have t336 : T 33 6 = S 33 6 := by rw [hT, u2_j (by omega), u2_j (by omega), u2_j (by omega), u2_ne (by omega), u2_ne (by omega)]
  refine ⟨by rw [hT, u2_j (by omega), u2_j (by omega), u2_eq], INV_mk hV ⟨by rw [hT, u2_ne (by omega), u2_ne (by omega), u2_ne (by omega), u2_ne (by omega), u2_j (by omega)], by rw [hT, u2_ne (by omega), u2_ne (by omega), u2_ne (by omega), u2_ne (by omega), u2_j (by omega)], by rw [hT, u2_j (by omega), u2_j (by omega), u2_j (by omega), u2_ne (by omega), u2_ne (by omega)], by rw [hT, u2_j (by omega), u2_j (by omega), u2_j (by omega), u2_ne (by omega), u2_ne (by omega)]⟩ ⟨by rw [hT, u2_ne (by decide), u2_ne (by decide), u2_ne (by decide), u2_ne (by decide), u2_eq]; omega, by rw [hT]; rfl⟩ ⟨by rw [t04]; exact ⟨i0, j0⟩, by rw [t336, t04]; exact r2⟩ ⟨by rw [hT, u2_ne (by omega), u2_ne (by omega), u2_ne (by omega), u2_eq], by rw [hT, u2_eq], fun j hj => by rw [hT, u2_ne (by omega), u2_ne (by omega), u2_ne (by omega), u2_j (by omega), u2_ne (by omega)]⟩ ⟨(fr 6 (by omega) (by omega) (by omega)), (fr 7 (by omega) (by omega) (by omega)), (fr 8 (by omega) (by omega) (by omega)), (fr 9 (by omega) (by omega) (by omega)), (fr 45 (by omega) (by omega) (by omega)), (fr 46 (by omega) (by omega) (by omega))⟩ (fun j hj => (fr (19 + j) (by omega) (by omega) (by omega))) (by rw [(fr 2 (by omega) (by omega) (by omega))]; exact hpr) (by rw [(fr 3 (by omega) (by omega) (by omega))]; exact ham) (fun j hj => by rw [(fr (11 + j) (by omega) (by omega) (by omega))]; exact ⟨(hRD j hj).1, (hRD j hj).2.1, (hRD j hj).2.2.1, (hal j hj).1, (hRD j hj).2.2.2.1⟩) (fun j hj => by rw [(fr (15 + j) (by omega) (by omega) (by omega))]; exact (hal j hj).2) (by rw [(fr 43 (by omega) (by omega) (by omega))]; exact fun j hj => (m43 j hj).1) (by rw [(fr 34 (by omega) (by omega) (by omega)), (fr 35 (by omega) (by omega) (by omega)), (fr 36 (by omega) (by omega) (by omega)), (fr 37 (by omega) (by omega) (by omega)), (fr 2 (by omega) (by omega) (by omega)), (fr 3 (by omega) (by omega) (by omega))]; exact r6) (fun k hk h => by rw [(fr 38 (by omega) (by omega) (by omega)), (fr 39 (by omega) (by omega) (by omega)), (fr 40 (by omega) (by omega) (by omega)), (fr 43 (by omega) (by omega) (by omega)), (fr (11 + k) (by omega) (by omega) (by omega))]; exact r7 k hk (by rw [← t336]; exact h)) (fun k hk h => by rw [(fr (11 + k) (by omega) (by omega) (by omega))]; exact r8 k hk (by rw [← t336]; exact h)) (fun k hk => by rw [(fr 44 (by omega) (by omega) (by omega)), (fr 41 (by omega) (by omega) (by omega)), (fr 42 (by omega) (by omega) (by omega)), (fr (11 + k) (by omega) (by omega) (by omega)), (fr (15 + k) (by omega) (by omega) (by omega))]; exact r9 k hk)⟩
set_option maxHeartbeats 4000000 in
theorem lm_present {N : Nat} (hV : INV N S) (x y z : Int) : m_present (w_present S x y z) x y z 33 0 = k_present S x y z ∧ INV (N + 1) (m_present (w_present S x y z) x y z) := by
  obtain ⟨hI, hM, hR⟩ := id hV
  obtain ⟨r1, r2, r3, r4, r5, r6, r7, r8, r9, r10⟩ := id hR
  obtain ⟨⟨i0, j0⟩, ⟨i1, j1⟩, ⟨i2, j2⟩, ⟨i3, j3⟩, hpr, ham, i5, ⟨i6, j6⟩, ⟨i7, j7⟩, ⟨i8, j8⟩, ⟨i9, j9⟩, h6, hRS, hRD, hal⟩ := id hI
  have m43 := hM.2.2.2.2.2.2.2.1
  by_cases c1 : ¬ (0 ≤ x ∧ x ≤ 3)
  · have hk : k_present S x y z = 1 := by unfold k_present; rw [if_pos c1]
    have hw : w_present S x y z = S := by unfold w_present; rw [if_pos c1]
    have hg : gv (bi (0 ≤ x ∧ x ≤ 3)) (bi (0 ≤ y ∧ y ≤ z ∧ z ≤ 100000)) = 1 := gv_a (by omega)
    have hm : m_present S x y z = u2 S 33 0 1 := by unfold m_present; rw [hg, if_neg (by decide)]
    rw [hk, hw, hm]
    exact ⟨rfl, INV_th hV⟩
  by_cases c2 : (0 ≤ x ∧ x ≤ 3) ∧ ¬ (0 ≤ y ∧ y ≤ z ∧ z ≤ 100000)
  · have hk : k_present S x y z = 2 := by unfold k_present; rw [if_neg c1, if_pos c2]
    have hw : w_present S x y z = S := by unfold w_present; rw [if_neg c1, if_pos c2]
    have hg : gv (bi (0 ≤ x ∧ x ≤ 3)) (bi (0 ≤ y ∧ y ≤ z ∧ z ≤ 100000)) = 2 := gv_b (by omega) (by omega)
    have hm : m_present S x y z = u2 S 33 0 2 := by unfold m_present; rw [hg, if_neg (by decide)]
    rw [hk, hw, hm]
    exact ⟨rfl, INV_th hV⟩
  have hk : k_present S x y z = 0 := by unfold k_present; rw [if_neg c1, if_neg c2]
  have hw : w_present S x y z = u2 (u2 (u2 S 2 (2 * x.toNat) y) 2 (2 * x.toNat + 1) z) 5 0 0 := by unfold w_present; rw [if_neg c1, if_neg c2]
  obtain ⟨nx, hnnx⟩ : ∃ nx : Nat, x = (nx : Int) := ⟨Int.toNat x, by omega⟩
  subst hnnx
  have hg : gv (bi (0 ≤ (nx : Int) ∧ (nx : Int) ≤ 3)) (bi (0 ≤ y ∧ y ≤ z ∧ z ≤ 100000)) = 0 := gv_c (by omega) (by omega)
  obtain ⟨T, hT⟩ : ∃ T, T = (u2 (u2 (u2 (u2 (u2 (u2 (u2 S 2 (2 * nx) y) 2 (2 * nx + 1) z) 5 0 0) 33 0 0) 34 nx y) 35 nx z) 33 14 0) := ⟨_, rfl⟩
  have hm : m_present (w_present S (nx : Int) y z) (nx : Int) y z = T := by
    obtain ⟨V, hVV⟩ : ∃ V, V = w_present S (nx : Int) y z := ⟨_, rfl⟩
    have h33 : V 33 = S 33 := by rw [hVV, hw, u2_ne (by omega), u2_ne (by omega), u2_ne (by omega)]
    rw [← hVV]; unfold m_present; rw [hg, if_pos rfl, hVV, hw, hT]
    rw [Int.toNat_natCast]
  rw [hk, hm]
  have fr : ∀ y, y ≠ 2 → y ≠ 5 → y ≠ 33 → y ≠ 34 → y ≠ 35 → T y = S y := fun y h0 h1 h2 h3 h4 => by rw [hT, u2_ne (by omega), u2_ne (by omega), u2_ne (by omega), u2_ne (by omega), u2_ne (by omega), u2_ne (by omega), u2_ne (by omega)]
  have tc : ∀ n, T 2 n = if n = 2 * nx + 1 then z else if n = 2 * nx then y else S 2 n := fun n => by rw [hT]; simp [u2, updI]
  have ta : ∀ n, T 34 n = if n = nx then y else S 34 n := fun n => by rw [hT]; simp [u2, updI]
  have tb : ∀ n, T 35 n = if n = nx then z else S 35 n := fun n => by rw [hT]; simp [u2, updI]
  have t331 : T 33 1 = S 33 1 := by rw [hT, u2_j (by omega), u2_ne (by omega), u2_ne (by omega), u2_j (by omega), u2_ne (by omega), u2_ne (by omega), u2_ne (by omega)]
  have t10 : T 1 0 = S 1 0 := by rw [hT, u2_ne (by omega), u2_ne (by omega), u2_ne (by omega), u2_ne (by omega), u2_ne (by omega), u2_ne (by omega), u2_ne (by omega)]
  have t04 : T 0 4 = S 0 4 := by rw [hT, u2_ne (by omega), u2_ne (by omega), u2_ne (by omega), u2_ne (by omega), u2_ne (by omega), u2_ne (by omega), u2_ne (by omega)]
  have t336 : T 33 6 = S 33 6 := by rw [hT, u2_j (by omega), u2_ne (by omega), u2_ne (by omega), u2_j (by omega), u2_ne (by omega), u2_ne (by omega), u2_ne (by omega)]
  have R6' : ∀ e, e < 4 → T 34 e = T 2 (2 * e) ∧ T 35 e = T 2 (2 * e + 1) ∧ T 36 e = T 3 (2 * e) ∧ T 37 e = T 3 (2 * e + 1) := by
    intro e he
    have q := r6 e he
    rw [fr 3 (by omega) (by omega) (by omega) (by omega) (by omega), fr 36 (by omega) (by omega) (by omega) (by omega) (by omega), fr 37 (by omega) (by omega) (by omega) (by omega) (by omega), ta, tb, tc, tc]
    by_cases h : e = nx
    · rw [if_pos h, if_pos h, if_neg (by omega), if_pos (by omega), if_pos (by omega)]; omega
    · rw [if_neg h, if_neg h, if_neg (by omega), if_neg (by omega), if_neg (by omega), if_neg (by omega)]; exact q
  refine ⟨by rw [hT, u2_j (by omega), u2_ne (by omega), u2_ne (by omega), u2_eq], INV_mk hV ⟨by rw [hT, u2_ne (by omega), u2_ne (by omega), u2_ne (by omega), u2_ne (by omega), u2_ne (by omega), u2_ne (by omega), u2_ne (by omega)], by rw [hT, u2_ne (by omega), u2_ne (by omega), u2_ne (by omega), u2_ne (by omega), u2_ne (by omega), u2_ne (by omega), u2_ne (by omega)], by rw [hT, u2_j (by omega), u2_ne (by omega), u2_ne (by omega), u2_j (by omega), u2_ne (by omega), u2_ne (by omega), u2_ne (by omega)], by rw [hT, u2_j (by omega), u2_ne (by omega), u2_ne (by omega), u2_j (by omega), u2_ne (by omega), u2_ne (by omega), u2_ne (by omega)]⟩ ⟨by rw [t10]; exact ⟨i1, j1⟩, by rw [t331, t10]; exact r1⟩ ⟨by rw [t04]; exact ⟨i0, j0⟩, by rw [t336, t04]; exact r2⟩ ⟨by rw [hT, u2_ne (by omega), u2_ne (by omega), u2_ne (by omega), u2_ne (by omega), u2_eq], by rw [hT, u2_eq], fun j hj => by rw [hT, u2_ne (by omega), u2_ne (by omega), u2_ne (by omega), u2_ne (by omega), u2_j (by omega), u2_ne (by omega), u2_ne (by omega)]⟩ ⟨(fr 6 (by omega) (by omega) (by omega) (by omega) (by omega)), (fr 7 (by omega) (by omega) (by omega) (by omega) (by omega)), (fr 8 (by omega) (by omega) (by omega) (by omega) (by omega)), (fr 9 (by omega) (by omega) (by omega) (by omega) (by omega)), (fr 45 (by omega) (by omega) (by omega) (by omega) (by omega)), (fr 46 (by omega) (by omega) (by omega) (by omega) (by omega))⟩ (fun j hj => (fr (19 + j) (by omega) (by omega) (by omega) (by omega) (by omega))) (fun n hn => by have := hpr n hn; rw [tc]; repeat' split; all_goals omega) (by rw [(fr 3 (by omega) (by omega) (by omega) (by omega) (by omega))]; exact ham) (fun j hj => by rw [(fr (11 + j) (by omega) (by omega) (by omega) (by omega) (by omega))]; exact ⟨(hRD j hj).1, (hRD j hj).2.1, (hRD j hj).2.2.1, (hal j hj).1, (hRD j hj).2.2.2.1⟩) (fun j hj => by rw [(fr (15 + j) (by omega) (by omega) (by omega) (by omega) (by omega))]; exact (hal j hj).2) (by rw [(fr 43 (by omega) (by omega) (by omega) (by omega) (by omega))]; exact fun j hj => (m43 j hj).1) R6' (fun k hk h => by rw [(fr 38 (by omega) (by omega) (by omega) (by omega) (by omega)), (fr 39 (by omega) (by omega) (by omega) (by omega) (by omega)), (fr 40 (by omega) (by omega) (by omega) (by omega) (by omega)), (fr 43 (by omega) (by omega) (by omega) (by omega) (by omega)), (fr (11 + k) (by omega) (by omega) (by omega) (by omega) (by omega))]; exact r7 k hk (by rw [← t336]; exact h)) (fun k hk h => by rw [(fr (11 + k) (by omega) (by omega) (by omega) (by omega) (by omega))]; exact r8 k hk (by rw [← t336]; exact h)) (fun k hk => by rw [(fr 44 (by omega) (by omega) (by omega) (by omega) (by omega)), (fr 41 (by omega) (by omega) (by omega) (by omega) (by omega)), (fr 42 (by omega) (by omega) (by omega) (by omega) (by omega)), (fr (11 + k) (by omega) (by omega) (by omega) (by omega) (by omega)), (fr (15 + k) (by omega) (by omega) (by omega) (by omega) (by omega))]; exact r9 k hk)⟩
set_option maxHeartbeats 4000000 in
theorem lm_aim {N : Nat} (hV : INV N S) (x y z : Int) : m_aim (w_aim S x y z) x y z 33 0 = k_aim S x y z ∧ INV (N + 1) (m_aim (w_aim S x y z) x y z) := by
  obtain ⟨hI, hM, hR⟩ := id hV
  obtain ⟨r1, r2, r3, r4, r5, r6, r7, r8, r9, r10⟩ := id hR
  obtain ⟨⟨i0, j0⟩, ⟨i1, j1⟩, ⟨i2, j2⟩, ⟨i3, j3⟩, hpr, ham, i5, ⟨i6, j6⟩, ⟨i7, j7⟩, ⟨i8, j8⟩, ⟨i9, j9⟩, h6, hRS, hRD, hal⟩ := id hI
  have m43 := hM.2.2.2.2.2.2.2.1
  by_cases c1 : ¬ (0 ≤ x ∧ x ≤ 3)
  · have hk : k_aim S x y z = 1 := by unfold k_aim; rw [if_pos c1]
    have hw : w_aim S x y z = S := by unfold w_aim; rw [if_pos c1]
    have hg : gv (bi (0 ≤ x ∧ x ≤ 3)) (bi (0 ≤ y ∧ y ≤ z ∧ z ≤ 100000)) = 1 := gv_a (by omega)
    have hm : m_aim S x y z = u2 S 33 0 1 := by unfold m_aim; rw [hg, if_neg (by decide)]
    rw [hk, hw, hm]
    exact ⟨rfl, INV_th hV⟩
  by_cases c2 : (0 ≤ x ∧ x ≤ 3) ∧ ¬ (0 ≤ y ∧ y ≤ z ∧ z ≤ 100000)
  · have hk : k_aim S x y z = 2 := by unfold k_aim; rw [if_neg c1, if_pos c2]
    have hw : w_aim S x y z = S := by unfold w_aim; rw [if_neg c1, if_pos c2]
    have hg : gv (bi (0 ≤ x ∧ x ≤ 3)) (bi (0 ≤ y ∧ y ≤ z ∧ z ≤ 100000)) = 2 := gv_b (by omega) (by omega)
    have hm : m_aim S x y z = u2 S 33 0 2 := by unfold m_aim; rw [hg, if_neg (by decide)]
    rw [hk, hw, hm]
    exact ⟨rfl, INV_th hV⟩
  have hk : k_aim S x y z = 0 := by unfold k_aim; rw [if_neg c1, if_neg c2]
  have hw : w_aim S x y z = u2 (u2 (u2 S 3 (2 * x.toNat) y) 3 (2 * x.toNat + 1) z) 5 0 0 := by unfold w_aim; rw [if_neg c1, if_neg c2]
  obtain ⟨nx, hnnx⟩ : ∃ nx : Nat, x = (nx : Int) := ⟨Int.toNat x, by omega⟩
  subst hnnx
  have hg : gv (bi (0 ≤ (nx : Int) ∧ (nx : Int) ≤ 3)) (bi (0 ≤ y ∧ y ≤ z ∧ z ≤ 100000)) = 0 := gv_c (by omega) (by omega)
  obtain ⟨T, hT⟩ : ∃ T, T = (u2 (u2 (u2 (u2 (u2 (u2 (u2 S 3 (2 * nx) y) 3 (2 * nx + 1) z) 5 0 0) 33 0 0) 36 nx y) 37 nx z) 33 14 0) := ⟨_, rfl⟩
  have hm : m_aim (w_aim S (nx : Int) y z) (nx : Int) y z = T := by
    obtain ⟨V, hVV⟩ : ∃ V, V = w_aim S (nx : Int) y z := ⟨_, rfl⟩
    have h33 : V 33 = S 33 := by rw [hVV, hw, u2_ne (by omega), u2_ne (by omega), u2_ne (by omega)]
    rw [← hVV]; unfold m_aim; rw [hg, if_pos rfl, hVV, hw, hT]
    rw [Int.toNat_natCast]
  rw [hk, hm]
  have fr : ∀ y, y ≠ 3 → y ≠ 5 → y ≠ 33 → y ≠ 36 → y ≠ 37 → T y = S y := fun y h0 h1 h2 h3 h4 => by rw [hT, u2_ne (by omega), u2_ne (by omega), u2_ne (by omega), u2_ne (by omega), u2_ne (by omega), u2_ne (by omega), u2_ne (by omega)]
  have tc : ∀ n, T 3 n = if n = 2 * nx + 1 then z else if n = 2 * nx then y else S 3 n := fun n => by rw [hT]; simp [u2, updI]
  have ta : ∀ n, T 36 n = if n = nx then y else S 36 n := fun n => by rw [hT]; simp [u2, updI]
  have tb : ∀ n, T 37 n = if n = nx then z else S 37 n := fun n => by rw [hT]; simp [u2, updI]
  have t331 : T 33 1 = S 33 1 := by rw [hT, u2_j (by omega), u2_ne (by omega), u2_ne (by omega), u2_j (by omega), u2_ne (by omega), u2_ne (by omega), u2_ne (by omega)]
  have t10 : T 1 0 = S 1 0 := by rw [hT, u2_ne (by omega), u2_ne (by omega), u2_ne (by omega), u2_ne (by omega), u2_ne (by omega), u2_ne (by omega), u2_ne (by omega)]
  have t04 : T 0 4 = S 0 4 := by rw [hT, u2_ne (by omega), u2_ne (by omega), u2_ne (by omega), u2_ne (by omega), u2_ne (by omega), u2_ne (by omega), u2_ne (by omega)]
  have t336 : T 33 6 = S 33 6 := by rw [hT, u2_j (by omega), u2_ne (by omega), u2_ne (by omega), u2_j (by omega), u2_ne (by omega), u2_ne (by omega), u2_ne (by omega)]
  have R6' : ∀ e, e < 4 → T 34 e = T 2 (2 * e) ∧ T 35 e = T 2 (2 * e + 1) ∧ T 36 e = T 3 (2 * e) ∧ T 37 e = T 3 (2 * e + 1) := by
    intro e he
    have q := r6 e he
    rw [fr 2 (by omega) (by omega) (by omega) (by omega) (by omega), fr 34 (by omega) (by omega) (by omega) (by omega) (by omega), fr 35 (by omega) (by omega) (by omega) (by omega) (by omega), ta, tb, tc, tc]
    by_cases h : e = nx
    · rw [if_pos h, if_pos h, if_neg (by omega), if_pos (by omega), if_pos (by omega)]; omega
    · rw [if_neg h, if_neg h, if_neg (by omega), if_neg (by omega), if_neg (by omega), if_neg (by omega)]; exact q
  refine ⟨by rw [hT, u2_j (by omega), u2_ne (by omega), u2_ne (by omega), u2_eq], INV_mk hV ⟨by rw [hT, u2_ne (by omega), u2_ne (by omega), u2_ne (by omega), u2_ne (by omega), u2_ne (by omega), u2_ne (by omega), u2_ne (by omega)], by rw [hT, u2_ne (by omega), u2_ne (by omega), u2_ne (by omega), u2_ne (by omega), u2_ne (by omega), u2_ne (by omega), u2_ne (by omega)], by rw [hT, u2_j (by omega), u2_ne (by omega), u2_ne (by omega), u2_j (by omega), u2_ne (by omega), u2_ne (by omega), u2_ne (by omega)], by rw [hT, u2_j (by omega), u2_ne (by omega), u2_ne (by omega), u2_j (by omega), u2_ne (by omega), u2_ne (by omega), u2_ne (by omega)]⟩ ⟨by rw [t10]; exact ⟨i1, j1⟩, by rw [t331, t10]; exact r1⟩ ⟨by rw [t04]; exact ⟨i0, j0⟩, by rw [t336, t04]; exact r2⟩ ⟨by rw [hT, u2_ne (by omega), u2_ne (by omega), u2_ne (by omega), u2_ne (by omega), u2_eq], by rw [hT, u2_eq], fun j hj => by rw [hT, u2_ne (by omega), u2_ne (by omega), u2_ne (by omega), u2_ne (by omega), u2_j (by omega), u2_ne (by omega), u2_ne (by omega)]⟩ ⟨(fr 6 (by omega) (by omega) (by omega) (by omega) (by omega)), (fr 7 (by omega) (by omega) (by omega) (by omega) (by omega)), (fr 8 (by omega) (by omega) (by omega) (by omega) (by omega)), (fr 9 (by omega) (by omega) (by omega) (by omega) (by omega)), (fr 45 (by omega) (by omega) (by omega) (by omega) (by omega)), (fr 46 (by omega) (by omega) (by omega) (by omega) (by omega))⟩ (fun j hj => (fr (19 + j) (by omega) (by omega) (by omega) (by omega) (by omega))) (by rw [(fr 2 (by omega) (by omega) (by omega) (by omega) (by omega))]; exact hpr) (fun n hn => by have := ham n hn; rw [tc]; repeat' split; all_goals omega) (fun j hj => by rw [(fr (11 + j) (by omega) (by omega) (by omega) (by omega) (by omega))]; exact ⟨(hRD j hj).1, (hRD j hj).2.1, (hRD j hj).2.2.1, (hal j hj).1, (hRD j hj).2.2.2.1⟩) (fun j hj => by rw [(fr (15 + j) (by omega) (by omega) (by omega) (by omega) (by omega))]; exact (hal j hj).2) (by rw [(fr 43 (by omega) (by omega) (by omega) (by omega) (by omega))]; exact fun j hj => (m43 j hj).1) R6' (fun k hk h => by rw [(fr 38 (by omega) (by omega) (by omega) (by omega) (by omega)), (fr 39 (by omega) (by omega) (by omega) (by omega) (by omega)), (fr 40 (by omega) (by omega) (by omega) (by omega) (by omega)), (fr 43 (by omega) (by omega) (by omega) (by omega) (by omega)), (fr (11 + k) (by omega) (by omega) (by omega) (by omega) (by omega))]; exact r7 k hk (by rw [← t336]; exact h)) (fun k hk h => by rw [(fr (11 + k) (by omega) (by omega) (by omega) (by omega) (by omega))]; exact r8 k hk (by rw [← t336]; exact h)) (fun k hk => by rw [(fr 44 (by omega) (by omega) (by omega) (by omega) (by omega)), (fr 41 (by omega) (by omega) (by omega) (by omega) (by omega)), (fr 42 (by omega) (by omega) (by omega) (by omega) (by omega)), (fr (11 + k) (by omega) (by omega) (by omega) (by omega) (by omega)), (fr (15 + k) (by omega) (by omega) (by omega) (by omega) (by omega))]; exact r9 k hk)⟩
set_option maxHeartbeats 4000000 in
theorem lm_kind {N : Nat} (hV : INV N S) (x y z : Int) : m_kind (w_kind S x y z) x y z 33 0 = k_kind S x y z ∧ INV (N + 1) (m_kind (w_kind S x y z) x y z) ∧ (k_kind S x y z = 0 → r64 (m_kind (w_kind S x y z) x y z 47 0) ∧ r32 (b_kind (w_kind S x y z) x y z) ∧ m_kind (w_kind S x y z) x y z 47 0 = b_kind (w_kind S x y z) x y z) := by
  obtain ⟨hI, hM, hR⟩ := id hV
  obtain ⟨r1, r2, r3, r4, r5, r6, r7, r8, r9, r10⟩ := id hR
  obtain ⟨⟨i0, j0⟩, ⟨i1, j1⟩, ⟨i2, j2⟩, ⟨i3, j3⟩, hpr, ham, i5, ⟨i6, j6⟩, ⟨i7, j7⟩, ⟨i8, j8⟩, ⟨i9, j9⟩, h6, hRS, hRD, hal⟩ := id hI
  have m43 := hM.2.2.2.2.2.2.2.1
  by_cases c1 : ¬ ((0 ≤ x ∧ x ≤ 100000) ∧ (1 ≤ y ∧ y ≤ 1000) ∧ (0 ≤ z ∧ z ≤ 12))
  · have hk : k_kind S x y z = 1 := by unfold k_kind; rw [if_pos c1]
    have hw : w_kind S x y z = S := by unfold w_kind; rw [if_pos c1]
    have hg : gv (bi ((0 ≤ x ∧ x ≤ 100000) ∧ (1 ≤ y ∧ y ≤ 1000) ∧ (0 ≤ z ∧ z ≤ 12))) (bi (S 33 6 < 4)) = 1 := gv_a (by omega)
    have hm : m_kind S x y z = u2 S 33 0 1 := by unfold m_kind; rw [hg, if_neg (by decide)]
    rw [hk, hw, hm]
    exact ⟨rfl, INV_th hV, fun h => absurd h (by decide)⟩
  by_cases c2 : ((0 ≤ x ∧ x ≤ 100000) ∧ (1 ≤ y ∧ y ≤ 1000) ∧ (0 ≤ z ∧ z ≤ 12)) ∧ ¬ S 0 4 < 4
  · have hk : k_kind S x y z = 2 := by unfold k_kind; rw [if_neg c1, if_pos c2]
    have hw : w_kind S x y z = S := by unfold w_kind; rw [if_neg c1, if_pos c2]
    have hg : gv (bi ((0 ≤ x ∧ x ≤ 100000) ∧ (1 ≤ y ∧ y ≤ 1000) ∧ (0 ≤ z ∧ z ≤ 12))) (bi (S 33 6 < 4)) = 2 := gv_b (by omega) (by omega)
    have hm : m_kind S x y z = u2 S 33 0 2 := by unfold m_kind; rw [hg, if_neg (by decide)]
    rw [hk, hw, hm]
    exact ⟨rfl, INV_th hV, fun h => absurd h (by decide)⟩
  have hk : k_kind S x y z = 0 := by unfold k_kind; rw [if_neg c1, if_neg c2]
  have hw : w_kind S x y z = u2 (u2 (u2 (u2 (u2 (u2 S (11 + (S 0 4).toNat) 0 x) (11 + (S 0 4).toNat) 1 y) (11 + (S 0 4).toNat) 2 z) 0 4 (S 0 4 + 1)) 5 0 0) 47 0 (S 0 4) := by unfold w_kind; rw [if_neg c1, if_neg c2]
  obtain ⟨nk, hnnk⟩ : ∃ nk : Nat, S 0 4 = (nk : Int) := ⟨Int.toNat (S 0 4), by omega⟩
  have hg : gv (bi ((0 ≤ x ∧ x ≤ 100000) ∧ (1 ≤ y ∧ y ≤ 1000) ∧ (0 ≤ z ∧ z ≤ 12))) (bi (S 33 6 < 4)) = 0 := gv_c (by omega) (by omega)
  obtain ⟨T, hT⟩ : ∃ T, T = (u2 (u2 (u2 (u2 (u2 (u2 (u2 (u2 (u2 (u2 (u2 (u2 (u2 S (11 + nk) 0 x) (11 + nk) 1 y) (11 + nk) 2 z) 0 4 (S 0 4 + 1)) 5 0 0) 47 0 (S 0 4)) 33 0 0) 38 nk x) 39 nk y) 40 nk z) 43 nk 1000) 33 14 0) 33 6 (S 33 6 + 1)) := ⟨_, rfl⟩
  have hm : m_kind (w_kind S x y z) x y z = T := by
    obtain ⟨V, hVV⟩ : ∃ V, V = w_kind S x y z := ⟨_, rfl⟩
    have h33 : V 33 = S 33 := by rw [hVV, hw, u2_ne (by omega), u2_ne (by omega), u2_ne (by omega), u2_ne (by omega), u2_ne (by omega), u2_ne (by omega)]
    rw [← hVV]; unfold m_kind; rw [h33, hg, if_pos rfl, hVV, hw, hT]
    rw [show (S 0 4).toNat = nk by omega, show (S 33 6).toNat = nk by omega]
  rw [hk, hm]
  have fr : ∀ y, y ≠ (11 + nk) → y ≠ 0 → y ≠ 5 → y ≠ 47 → y ≠ 33 → y ≠ 38 → y ≠ 39 → y ≠ 40 → y ≠ 43 → T y = S y := fun y h0 h1 h2 h3 h4 h5 h6 h7 h8 => by rw [hT, u2_ne (by omega), u2_ne (by omega), u2_ne (by omega), u2_ne (by omega), u2_ne (by omega), u2_ne (by omega), u2_ne (by omega), u2_ne (by omega), u2_ne (by omega), u2_ne (by omega), u2_ne (by omega), u2_ne (by omega), u2_ne (by omega)]
  have t04 : T 0 4 = S 0 4 + 1 := by rw [hT, u2_ne (by omega), u2_ne (by omega), u2_ne (by omega), u2_ne (by omega), u2_ne (by omega), u2_ne (by omega), u2_ne (by omega), u2_ne (by omega), u2_ne (by omega), u2_eq]
  have t336 : T 33 6 = S 33 6 + 1 := by rw [hT, u2_eq]
  have t11 : ∀ j, j < 4 → ∀ i, T (11 + j) i = if j = nk then (if i = 2 then z else if i = 1 then y else if i = 0 then x else S (11 + j) i) else S (11 + j) i := by
    intro j hj i
    rw [hT, u2_ne (by omega), u2_ne (by omega), u2_ne (by omega), u2_ne (by omega), u2_ne (by omega), u2_ne (by omega), u2_ne (by omega), u2_ne (by omega), u2_ne (by omega), u2_ne (by omega)]
    by_cases h : j = nk
    · subst h; simp [u2, updI]
    · rw [if_neg h, u2_ne (by omega), u2_ne (by omega), u2_ne (by omega)]
  have t38 : ∀ j, T 38 j = if j = nk then x else S 38 j := fun j => by rw [hT]; simp [u2, updI, show ¬ 38 = 11 + nk by omega]
  have t39 : ∀ j, T 39 j = if j = nk then y else S 39 j := fun j => by rw [hT]; simp [u2, updI, show ¬ 39 = 11 + nk by omega]
  have t40 : ∀ j, T 40 j = if j = nk then z else S 40 j := fun j => by rw [hT]; simp [u2, updI, show ¬ 40 = 11 + nk by omega]
  have t43 : ∀ j, T 43 j = if j = nk then 1000 else S 43 j := fun j => by rw [hT]; simp [u2, updI, show ¬ 43 = 11 + nk by omega]
  have t331 : T 33 1 = S 33 1 := by rw [hT, u2_j (by omega), u2_j (by omega), u2_ne (by omega), u2_ne (by omega), u2_ne (by omega), u2_ne (by omega), u2_j (by omega), u2_ne (by omega), u2_ne (by omega), u2_ne (by omega), u2_ne (by omega), u2_ne (by omega), u2_ne (by omega)]
  have t10 : T 1 0 = S 1 0 := by rw [hT, u2_ne (by omega), u2_ne (by omega), u2_ne (by omega), u2_ne (by omega), u2_ne (by omega), u2_ne (by omega), u2_ne (by omega), u2_ne (by omega), u2_ne (by omega), u2_ne (by omega), u2_ne (by omega), u2_ne (by omega), u2_ne (by omega)]
  have R7' : ∀ k : Nat, k < 4 → (k : Int) < T 33 6 → T 38 k = T (11 + k) 0 ∧ T 39 k = T (11 + k) 1 ∧ T 40 k = T (11 + k) 2 ∧ T 43 k = T (11 + k) 3 := by
    intro k hk h
    rw [t336] at h
    rw [t38, t39, t40, t43, t11 k hk, t11 k hk, t11 k hk, t11 k hk]
    by_cases hn : k = nk
    · have q := r8 k hk (by omega)
      simp only [if_pos hn]; simp; omega
    · simp only [if_neg hn]; exact r7 k hk (by omega)
  have R8' : ∀ k : Nat, k < 4 → ¬ (k : Int) < T 33 6 → T (11 + k) 3 = 1000 := by
    intro k hk h
    rw [t336] at h
    rw [t11 k hk, if_neg (by omega)]
    exact r8 k hk (by omega)
  have R9' : ∀ k, k < 4 → T 44 k = T (11 + k) 4 ∧ ∀ e, e < 4 → T 41 (4 * k + e) = T (15 + k) (2 * e) ∧ T 42 (4 * k + e) = T (15 + k) (2 * e + 1) := by
    intro k hk
    rw [t11 k hk]
    have f9 : ∀ y, y ≠ 0 → y ≠ 5 → y ≠ 33 → ¬ (11 ≤ y ∧ y ≤ 14) → y ≠ 38 → y ≠ 39 → y ≠ 40 → y ≠ 43 → y ≠ 47 → T y = S y := fun y a b c d e f g h i => fr y (by omega) (by omega) (by omega) (by omega) (by omega) (by omega) (by omega) (by omega) (by omega)
    rw [f9 44 (by omega) (by omega) (by omega) (by omega) (by omega) (by omega) (by omega) (by omega) (by omega), f9 41 (by omega) (by omega) (by omega) (by omega) (by omega) (by omega) (by omega) (by omega) (by omega), f9 42 (by omega) (by omega) (by omega) (by omega) (by omega) (by omega) (by omega) (by omega) (by omega), f9 (15 + k) (by omega) (by omega) (by omega) (by omega) (by omega) (by omega) (by omega) (by omega) (by omega)]
    have q := r9 k hk
    refine ⟨?_, q.2⟩
    split
    · simp; exact q.1
    · exact q.1
  refine ⟨by rw [hT, u2_j (by omega), u2_j (by omega), u2_ne (by omega), u2_ne (by omega), u2_ne (by omega), u2_ne (by omega), u2_eq], INV_mk hV ⟨by rw [hT, u2_ne (by omega), u2_ne (by omega), u2_ne (by omega), u2_ne (by omega), u2_ne (by omega), u2_ne (by omega), u2_ne (by omega), u2_ne (by omega), u2_ne (by omega), u2_ne (by omega), u2_ne (by omega), u2_ne (by omega), u2_ne (by omega)], by rw [hT, u2_ne (by omega), u2_ne (by omega), u2_ne (by omega), u2_ne (by omega), u2_ne (by omega), u2_ne (by omega), u2_ne (by omega), u2_ne (by omega), u2_ne (by omega), u2_ne (by omega), u2_ne (by omega), u2_ne (by omega), u2_ne (by omega)], by rw [hT, u2_j (by omega), u2_j (by omega), u2_ne (by omega), u2_ne (by omega), u2_ne (by omega), u2_ne (by omega), u2_j (by omega), u2_ne (by omega), u2_ne (by omega), u2_ne (by omega), u2_ne (by omega), u2_ne (by omega), u2_ne (by omega)], by rw [hT, u2_j (by omega), u2_j (by omega), u2_ne (by omega), u2_ne (by omega), u2_ne (by omega), u2_ne (by omega), u2_j (by omega), u2_ne (by omega), u2_ne (by omega), u2_ne (by omega), u2_ne (by omega), u2_ne (by omega), u2_ne (by omega)]⟩ ⟨by rw [t10]; exact ⟨i1, j1⟩, by rw [t331, t10]; exact r1⟩ ⟨by omega, by omega⟩ ⟨by rw [hT, u2_ne (by omega), u2_ne (by omega), u2_ne (by omega), u2_ne (by omega), u2_ne (by omega), u2_ne (by omega), u2_ne (by omega), u2_ne (by omega), u2_eq], by rw [hT, u2_j (by omega), u2_eq], fun j hj => by rw [hT, u2_ne (by omega), u2_ne (by omega), u2_ne (by omega), u2_ne (by omega), u2_ne (by omega), u2_ne (by omega), u2_ne (by omega), u2_ne (by omega), u2_j (by omega), u2_ne (by omega), u2_ne (by omega), u2_ne (by omega), u2_ne (by omega)]⟩ ⟨(fr 6 (by omega) (by omega) (by omega) (by omega) (by omega) (by omega) (by omega) (by omega) (by omega)), (fr 7 (by omega) (by omega) (by omega) (by omega) (by omega) (by omega) (by omega) (by omega) (by omega)), (fr 8 (by omega) (by omega) (by omega) (by omega) (by omega) (by omega) (by omega) (by omega) (by omega)), (fr 9 (by omega) (by omega) (by omega) (by omega) (by omega) (by omega) (by omega) (by omega) (by omega)), (fr 45 (by omega) (by omega) (by omega) (by omega) (by omega) (by omega) (by omega) (by omega) (by omega)), (fr 46 (by omega) (by omega) (by omega) (by omega) (by omega) (by omega) (by omega) (by omega) (by omega))⟩ (fun j hj => (fr (19 + j) (by omega) (by omega) (by omega) (by omega) (by omega) (by omega) (by omega) (by omega) (by omega))) (by rw [(fr 2 (by omega) (by omega) (by omega) (by omega) (by omega) (by omega) (by omega) (by omega) (by omega))]; exact hpr) (by rw [(fr 3 (by omega) (by omega) (by omega) (by omega) (by omega) (by omega) (by omega) (by omega) (by omega))]; exact ham) (fun j hj => by have q := hRD j hj; have q2 := hal j hj; rw [t11 j hj, t11 j hj, t11 j hj, t11 j hj, t11 j hj]; by_cases h : j = nk; (simp only [if_pos h]; exact ⟨by simp; omega, by simp; omega, by simp; omega, by simp; omega, by simp; omega⟩); (simp only [if_neg h]; exact ⟨q.1, q.2.1, q.2.2.1, q2.1, q.2.2.2.1⟩)) (fun j hj => by rw [(fr (15 + j) (by omega) (by omega) (by omega) (by omega) (by omega) (by omega) (by omega) (by omega) (by omega))]; exact (hal j hj).2) (fun j hj => by have := m43 j hj; rw [t43]; split <;> omega) (by rw [(fr 34 (by omega) (by omega) (by omega) (by omega) (by omega) (by omega) (by omega) (by omega) (by omega)), (fr 35 (by omega) (by omega) (by omega) (by omega) (by omega) (by omega) (by omega) (by omega) (by omega)), (fr 36 (by omega) (by omega) (by omega) (by omega) (by omega) (by omega) (by omega) (by omega) (by omega)), (fr 37 (by omega) (by omega) (by omega) (by omega) (by omega) (by omega) (by omega) (by omega) (by omega)), (fr 2 (by omega) (by omega) (by omega) (by omega) (by omega) (by omega) (by omega) (by omega) (by omega)), (fr 3 (by omega) (by omega) (by omega) (by omega) (by omega) (by omega) (by omega) (by omega) (by omega))]; exact r6) R7' R8' R9', fun _ => ?_⟩
  have hb : b_kind (w_kind S x y z) x y z = S 33 6 := by
    obtain ⟨V, hVV⟩ : ∃ V, V = w_kind S x y z := ⟨_, rfl⟩
    have h33 : V 33 = S 33 := by rw [hVV, hw, u2_ne (by omega), u2_ne (by omega), u2_ne (by omega), u2_ne (by omega), u2_ne (by omega), u2_ne (by omega)]
    rw [← hVV]; unfold b_kind; rw [h33, hg, if_pos rfl]; omega
  have h47 : T 47 0 = S 0 4 := by rw [hT, u2_ne (by omega), u2_ne (by omega), u2_ne (by omega), u2_ne (by omega), u2_ne (by omega), u2_ne (by omega), u2_ne (by omega), u2_eq]
  rw [hb, h47]
  exact ⟨⟨by omega, by omega⟩, ⟨by omega, by omega⟩, by omega⟩
set_option maxHeartbeats 4000000 in
theorem lm_holds {N : Nat} (hV : INV N S) (x y z u : Int) : m_holds (w_holds S x y z u) x y z u 33 0 = k_holds S x y z u ∧ INV (N + 1) (m_holds (w_holds S x y z u) x y z u) := by
  obtain ⟨hI, hM, hR⟩ := id hV
  obtain ⟨r1, r2, r3, r4, r5, r6, r7, r8, r9, r10⟩ := id hR
  obtain ⟨⟨i0, j0⟩, ⟨i1, j1⟩, ⟨i2, j2⟩, ⟨i3, j3⟩, hpr, ham, i5, ⟨i6, j6⟩, ⟨i7, j7⟩, ⟨i8, j8⟩, ⟨i9, j9⟩, h6, hRS, hRD, hal⟩ := id hI
  have m43 := hM.2.2.2.2.2.2.2.1
  by_cases c1 : ¬ ((0 ≤ x ∧ x < S 0 4) ∧ (0 ≤ y ∧ y ≤ 3))
  · have hk : k_holds S x y z u = 1 := by unfold k_holds; rw [if_pos c1]
    have hw : w_holds S x y z u = S := by unfold w_holds; rw [if_pos c1]
    have hg : gv (bi ((0 ≤ x ∧ x ≤ S 33 6 - 1) ∧ (0 ≤ y ∧ y ≤ 3))) (bi (0 ≤ z ∧ z ≤ u ∧ u ≤ 100000)) = 1 := gv_a (by omega)
    have hm : m_holds S x y z u = u2 S 33 0 1 := by unfold m_holds; rw [hg, if_neg (by decide)]
    rw [hk, hw, hm]
    exact ⟨rfl, INV_th hV⟩
  by_cases c2 : ((0 ≤ x ∧ x < S 0 4) ∧ (0 ≤ y ∧ y ≤ 3)) ∧ ¬ (0 ≤ z ∧ z ≤ u ∧ u ≤ 100000)
  · have hk : k_holds S x y z u = 2 := by unfold k_holds; rw [if_neg c1, if_pos c2]
    have hw : w_holds S x y z u = S := by unfold w_holds; rw [if_neg c1, if_pos c2]
    have hg : gv (bi ((0 ≤ x ∧ x ≤ S 33 6 - 1) ∧ (0 ≤ y ∧ y ≤ 3))) (bi (0 ≤ z ∧ z ≤ u ∧ u ≤ 100000)) = 2 := gv_b (by omega) (by omega)
    have hm : m_holds S x y z u = u2 S 33 0 2 := by unfold m_holds; rw [hg, if_neg (by decide)]
    rw [hk, hw, hm]
    exact ⟨rfl, INV_th hV⟩
  have hk : k_holds S x y z u = 0 := by unfold k_holds; rw [if_neg c1, if_neg c2]
  have hw : w_holds S x y z u = u2 (u2 (u2 S (15 + x.toNat) (2 * y.toNat) z) (15 + x.toNat) (2 * y.toNat + 1) u) 5 0 0 := by unfold w_holds; rw [if_neg c1, if_neg c2]
  obtain ⟨nx, hnnx⟩ : ∃ nx : Nat, x = (nx : Int) := ⟨Int.toNat x, by omega⟩
  subst hnnx
  obtain ⟨ny, hnny⟩ : ∃ ny : Nat, y = (ny : Int) := ⟨Int.toNat y, by omega⟩
  subst hnny
  have hg : gv (bi ((0 ≤ (nx : Int) ∧ (nx : Int) ≤ S 33 6 - 1) ∧ (0 ≤ (ny : Int) ∧ (ny : Int) ≤ 3))) (bi (0 ≤ z ∧ z ≤ u ∧ u ≤ 100000)) = 0 := gv_c (by omega) (by omega)
  obtain ⟨T, hT⟩ : ∃ T, T = (u2 (u2 (u2 (u2 (u2 (u2 (u2 S (15 + nx) (2 * ny) z) (15 + nx) (2 * ny + 1) u) 5 0 0) 33 0 0) 41 (4 * nx + ny) z) 42 (4 * nx + ny) u) 33 14 0) := ⟨_, rfl⟩
  have hm : m_holds (w_holds S (nx : Int) (ny : Int) z u) (nx : Int) (ny : Int) z u = T := by
    obtain ⟨V, hVV⟩ : ∃ V, V = w_holds S (nx : Int) (ny : Int) z u := ⟨_, rfl⟩
    have h33 : V 33 = S 33 := by rw [hVV, hw, u2_ne (by omega), u2_ne (by omega), u2_ne (by omega)]
    rw [← hVV]; unfold m_holds; rw [h33, hg, if_pos rfl, hVV, hw, hT]
    rw [Int.toNat_natCast, Int.toNat_natCast, show (4 * (nx : Int) + (ny : Int)).toNat = 4 * nx + ny by omega]
  rw [hk, hm]
  have fr : ∀ y, y ≠ (15 + nx) → y ≠ 5 → y ≠ 33 → y ≠ 41 → y ≠ 42 → T y = S y := fun y h0 h1 h2 h3 h4 => by rw [hT, u2_ne (by omega), u2_ne (by omega), u2_ne (by omega), u2_ne (by omega), u2_ne (by omega), u2_ne (by omega), u2_ne (by omega)]
  have t15 : ∀ j, j < 4 → ∀ i, T (15 + j) i = if j = nx then (if i = 2 * ny + 1 then u else if i = 2 * ny then z else S (15 + j) i) else S (15 + j) i := by
    intro j hj i
    rw [hT, u2_ne (by omega), u2_ne (by omega), u2_ne (by omega), u2_ne (by omega), u2_ne (by omega)]
    by_cases h : j = nx
    · subst h; simp [u2, updI]
    · rw [if_neg h, u2_ne (by omega), u2_ne (by omega)]
  have t41 : ∀ j, T 41 j = if j = 4 * nx + ny then z else S 41 j := fun j => by rw [hT]; simp [u2, updI, show ¬ 41 = 15 + nx by omega]
  have t42 : ∀ j, T 42 j = if j = 4 * nx + ny then u else S 42 j := fun j => by rw [hT]; simp [u2, updI, show ¬ 42 = 15 + nx by omega]
  have t331 : T 33 1 = S 33 1 := by rw [hT, u2_j (by omega), u2_ne (by omega), u2_ne (by omega), u2_j (by omega), u2_ne (by omega), u2_ne (by omega), u2_ne (by omega)]
  have t10 : T 1 0 = S 1 0 := by rw [hT, u2_ne (by omega), u2_ne (by omega), u2_ne (by omega), u2_ne (by omega), u2_ne (by omega), u2_ne (by omega), u2_ne (by omega)]
  have t04 : T 0 4 = S 0 4 := by rw [hT, u2_ne (by omega), u2_ne (by omega), u2_ne (by omega), u2_ne (by omega), u2_ne (by omega), u2_ne (by omega), u2_ne (by omega)]
  have t336 : T 33 6 = S 33 6 := by rw [hT, u2_j (by omega), u2_ne (by omega), u2_ne (by omega), u2_j (by omega), u2_ne (by omega), u2_ne (by omega), u2_ne (by omega)]
  have R9' : ∀ k, k < 4 → T 44 k = T (11 + k) 4 ∧ ∀ e, e < 4 → T 41 (4 * k + e) = T (15 + k) (2 * e) ∧ T 42 (4 * k + e) = T (15 + k) (2 * e + 1) := by
    intro k hk
    rw [fr 44 (by omega) (by omega) (by omega) (by omega) (by omega), fr (11 + k) (by omega) (by omega) (by omega) (by omega) (by omega)]
    refine ⟨(r9 k hk).1, fun e he => ?_⟩
    have q := (r9 k hk).2 e he
    rw [t15 k hk, t15 k hk, t41, t42]
    by_cases h1 : k = nx
    · simp only [if_pos h1]
      by_cases h2 : e = ny
      · subst h1; subst h2; simp
      · simp only [if_neg (show ¬ 4 * k + e = 4 * nx + ny by omega), if_neg (show ¬ 2 * e = 2 * ny + 1 by omega), if_neg (show ¬ 2 * e = 2 * ny by omega), if_neg (show ¬ 2 * e + 1 = 2 * ny + 1 by omega), if_neg (show ¬ 2 * e + 1 = 2 * ny by omega)]; exact q
    · simp only [if_neg h1, if_neg (show ¬ 4 * k + e = 4 * nx + ny by omega)]; exact q
  refine ⟨by rw [hT, u2_j (by omega), u2_ne (by omega), u2_ne (by omega), u2_eq], INV_mk hV ⟨by rw [hT, u2_ne (by omega), u2_ne (by omega), u2_ne (by omega), u2_ne (by omega), u2_ne (by omega), u2_ne (by omega), u2_ne (by omega)], by rw [hT, u2_ne (by omega), u2_ne (by omega), u2_ne (by omega), u2_ne (by omega), u2_ne (by omega), u2_ne (by omega), u2_ne (by omega)], by rw [hT, u2_j (by omega), u2_ne (by omega), u2_ne (by omega), u2_j (by omega), u2_ne (by omega), u2_ne (by omega), u2_ne (by omega)], by rw [hT, u2_j (by omega), u2_ne (by omega), u2_ne (by omega), u2_j (by omega), u2_ne (by omega), u2_ne (by omega), u2_ne (by omega)]⟩ ⟨by rw [t10]; exact ⟨i1, j1⟩, by rw [t331, t10]; exact r1⟩ ⟨by rw [t04]; exact ⟨i0, j0⟩, by rw [t336, t04]; exact r2⟩ ⟨by rw [hT, u2_ne (by omega), u2_ne (by omega), u2_ne (by omega), u2_ne (by omega), u2_eq], by rw [hT, u2_eq], fun j hj => by rw [hT, u2_ne (by omega), u2_ne (by omega), u2_ne (by omega), u2_ne (by omega), u2_j (by omega), u2_ne (by omega), u2_ne (by omega)]⟩ ⟨(fr 6 (by omega) (by omega) (by omega) (by omega) (by omega)), (fr 7 (by omega) (by omega) (by omega) (by omega) (by omega)), (fr 8 (by omega) (by omega) (by omega) (by omega) (by omega)), (fr 9 (by omega) (by omega) (by omega) (by omega) (by omega)), (fr 45 (by omega) (by omega) (by omega) (by omega) (by omega)), (fr 46 (by omega) (by omega) (by omega) (by omega) (by omega))⟩ (fun j hj => (fr (19 + j) (by omega) (by omega) (by omega) (by omega) (by omega))) (by rw [(fr 2 (by omega) (by omega) (by omega) (by omega) (by omega))]; exact hpr) (by rw [(fr 3 (by omega) (by omega) (by omega) (by omega) (by omega))]; exact ham) (fun j hj => by rw [(fr (11 + j) (by omega) (by omega) (by omega) (by omega) (by omega))]; exact ⟨(hRD j hj).1, (hRD j hj).2.1, (hRD j hj).2.2.1, (hal j hj).1, (hRD j hj).2.2.2.1⟩) (fun j hj n hn => by have q := (hal j hj).2 n hn; rw [t15 j hj]; repeat' split; all_goals omega) (by rw [(fr 43 (by omega) (by omega) (by omega) (by omega) (by omega))]; exact fun j hj => (m43 j hj).1) (by rw [(fr 34 (by omega) (by omega) (by omega) (by omega) (by omega)), (fr 35 (by omega) (by omega) (by omega) (by omega) (by omega)), (fr 36 (by omega) (by omega) (by omega) (by omega) (by omega)), (fr 37 (by omega) (by omega) (by omega) (by omega) (by omega)), (fr 2 (by omega) (by omega) (by omega) (by omega) (by omega)), (fr 3 (by omega) (by omega) (by omega) (by omega) (by omega))]; exact r6) (fun k hk h => by rw [(fr 38 (by omega) (by omega) (by omega) (by omega) (by omega)), (fr 39 (by omega) (by omega) (by omega) (by omega) (by omega)), (fr 40 (by omega) (by omega) (by omega) (by omega) (by omega)), (fr 43 (by omega) (by omega) (by omega) (by omega) (by omega)), (fr (11 + k) (by omega) (by omega) (by omega) (by omega) (by omega))]; exact r7 k hk (by rw [← t336]; exact h)) (fun k hk h => by rw [(fr (11 + k) (by omega) (by omega) (by omega) (by omega) (by omega))]; exact r8 k hk (by rw [← t336]; exact h)) R9'⟩
set_option maxHeartbeats 4000000 in
theorem lm_yields {N : Nat} (hV : INV N S) (x y z : Int) : m_yields (w_yields S x y z) x y z 33 0 = k_yields S x y z ∧ INV (N + 1) (m_yields (w_yields S x y z) x y z) := by
  obtain ⟨hI, hM, hR⟩ := id hV
  obtain ⟨r1, r2, r3, r4, r5, r6, r7, r8, r9, r10⟩ := id hR
  obtain ⟨⟨i0, j0⟩, ⟨i1, j1⟩, ⟨i2, j2⟩, ⟨i3, j3⟩, hpr, ham, i5, ⟨i6, j6⟩, ⟨i7, j7⟩, ⟨i8, j8⟩, ⟨i9, j9⟩, h6, hRS, hRD, hal⟩ := id hI
  have m43 := hM.2.2.2.2.2.2.2.1
  by_cases c1 : ¬ (0 ≤ x ∧ x < S 0 4)
  · have hk : k_yields S x y z = 1 := by unfold k_yields; rw [if_pos c1]
    have hw : w_yields S x y z = S := by unfold w_yields; rw [if_pos c1]
    have hg : gv (bi (0 ≤ x ∧ x ≤ S 33 6 - 1)) (bi ((0 ≤ y ∧ y ≤ 1000) ∧ (0 ≤ z ∧ z ≤ 1000))) = 1 := gv_a (by omega)
    have hm : m_yields S x y z = u2 S 33 0 1 := by unfold m_yields; rw [hg, if_neg (by decide)]
    rw [hk, hw, hm]
    exact ⟨rfl, INV_th hV⟩
  by_cases c2 : (0 ≤ x ∧ x < S 0 4) ∧ ¬ ((0 ≤ y ∧ y ≤ 1000) ∧ (0 ≤ z ∧ z ≤ 1000))
  · have hk : k_yields S x y z = 2 := by unfold k_yields; rw [if_neg c1, if_pos c2]
    have hw : w_yields S x y z = S := by unfold w_yields; rw [if_neg c1, if_pos c2]
    have hg : gv (bi (0 ≤ x ∧ x ≤ S 33 6 - 1)) (bi ((0 ≤ y ∧ y ≤ 1000) ∧ (0 ≤ z ∧ z ≤ 1000))) = 2 := gv_b (by omega) (by omega)
    have hm : m_yields S x y z = u2 S 33 0 2 := by unfold m_yields; rw [hg, if_neg (by decide)]
    rw [hk, hw, hm]
    exact ⟨rfl, INV_th hV⟩
  have hk : k_yields S x y z = 0 := by unfold k_yields; rw [if_neg c1, if_neg c2]
  have hw : w_yields S x y z = u2 (u2 (u2 S (11 + x.toNat) 3 y) (11 + x.toNat) 4 z) 5 0 0 := by unfold w_yields; rw [if_neg c1, if_neg c2]
  obtain ⟨nx, hnnx⟩ : ∃ nx : Nat, x = (nx : Int) := ⟨Int.toNat x, by omega⟩
  subst hnnx
  have hg : gv (bi (0 ≤ (nx : Int) ∧ (nx : Int) ≤ S 33 6 - 1)) (bi ((0 ≤ y ∧ y ≤ 1000) ∧ (0 ≤ z ∧ z ≤ 1000))) = 0 := gv_c (by omega) (by omega)
  obtain ⟨T, hT⟩ : ∃ T, T = (u2 (u2 (u2 (u2 (u2 (u2 (u2 S (11 + nx) 3 y) (11 + nx) 4 z) 5 0 0) 33 0 0) 43 nx y) 44 nx z) 33 14 0) := ⟨_, rfl⟩
  have hm : m_yields (w_yields S (nx : Int) y z) (nx : Int) y z = T := by
    obtain ⟨V, hVV⟩ : ∃ V, V = w_yields S (nx : Int) y z := ⟨_, rfl⟩
    have h33 : V 33 = S 33 := by rw [hVV, hw, u2_ne (by omega), u2_ne (by omega), u2_ne (by omega)]
    rw [← hVV]; unfold m_yields; rw [h33, hg, if_pos rfl, hVV, hw, hT]
    rw [Int.toNat_natCast]
  rw [hk, hm]
  have fr : ∀ y, y ≠ (11 + nx) → y ≠ 5 → y ≠ 33 → y ≠ 43 → y ≠ 44 → T y = S y := fun y h0 h1 h2 h3 h4 => by rw [hT, u2_ne (by omega), u2_ne (by omega), u2_ne (by omega), u2_ne (by omega), u2_ne (by omega), u2_ne (by omega), u2_ne (by omega)]
  have t11 : ∀ j, j < 4 → ∀ i, T (11 + j) i = if j = nx then (if i = 4 then z else if i = 3 then y else S (11 + j) i) else S (11 + j) i := by
    intro j hj i
    rw [hT, u2_ne (by omega), u2_ne (by omega), u2_ne (by omega), u2_ne (by omega), u2_ne (by omega)]
    by_cases h : j = nx
    · subst h; simp [u2, updI]
    · rw [if_neg h, u2_ne (by omega), u2_ne (by omega)]
  have t43 : ∀ j, T 43 j = if j = nx then y else S 43 j := fun j => by rw [hT]; simp [u2, updI, show ¬ 43 = 11 + nx by omega]
  have t44 : ∀ j, T 44 j = if j = nx then z else S 44 j := fun j => by rw [hT]; simp [u2, updI, show ¬ 44 = 11 + nx by omega]
  have t331 : T 33 1 = S 33 1 := by rw [hT, u2_j (by omega), u2_ne (by omega), u2_ne (by omega), u2_j (by omega), u2_ne (by omega), u2_ne (by omega), u2_ne (by omega)]
  have t10 : T 1 0 = S 1 0 := by rw [hT, u2_ne (by omega), u2_ne (by omega), u2_ne (by omega), u2_ne (by omega), u2_ne (by omega), u2_ne (by omega), u2_ne (by omega)]
  have t04 : T 0 4 = S 0 4 := by rw [hT, u2_ne (by omega), u2_ne (by omega), u2_ne (by omega), u2_ne (by omega), u2_ne (by omega), u2_ne (by omega), u2_ne (by omega)]
  have t336 : T 33 6 = S 33 6 := by rw [hT, u2_j (by omega), u2_ne (by omega), u2_ne (by omega), u2_j (by omega), u2_ne (by omega), u2_ne (by omega), u2_ne (by omega)]
  have R7' : ∀ k : Nat, k < 4 → (k : Int) < T 33 6 → T 38 k = T (11 + k) 0 ∧ T 39 k = T (11 + k) 1 ∧ T 40 k = T (11 + k) 2 ∧ T 43 k = T (11 + k) 3 := by
    intro k hk h
    rw [t336] at h
    have q := r7 k hk h
    rw [t43, t11 k hk, t11 k hk, t11 k hk, t11 k hk, fr 38 (by omega) (by omega) (by omega) (by omega) (by omega), fr 39 (by omega) (by omega) (by omega) (by omega) (by omega), fr 40 (by omega) (by omega) (by omega) (by omega) (by omega)]
    by_cases hn : k = nx
    · simp only [if_pos hn]; simp; omega
    · simp only [if_neg hn]; exact q
  have R8' : ∀ k : Nat, k < 4 → ¬ (k : Int) < T 33 6 → T (11 + k) 3 = 1000 := by
    intro k hk h
    rw [t336] at h
    rw [t11 k hk, if_neg (by omega)]
    exact r8 k hk h
  have R9' : ∀ k, k < 4 → T 44 k = T (11 + k) 4 ∧ ∀ e, e < 4 → T 41 (4 * k + e) = T (15 + k) (2 * e) ∧ T 42 (4 * k + e) = T (15 + k) (2 * e + 1) := by
    intro k hk
    rw [t44, t11 k hk, fr 41 (by omega) (by omega) (by omega) (by omega) (by omega), fr 42 (by omega) (by omega) (by omega) (by omega) (by omega), fr (15 + k) (by omega) (by omega) (by omega) (by omega) (by omega)]
    have q := r9 k hk
    refine ⟨?_, q.2⟩
    by_cases hn : k = nx
    · simp only [if_pos hn]; simp
    · simp only [if_neg hn]; exact q.1
  refine ⟨by rw [hT, u2_j (by omega), u2_ne (by omega), u2_ne (by omega), u2_eq], INV_mk hV ⟨by rw [hT, u2_ne (by omega), u2_ne (by omega), u2_ne (by omega), u2_ne (by omega), u2_ne (by omega), u2_ne (by omega), u2_ne (by omega)], by rw [hT, u2_ne (by omega), u2_ne (by omega), u2_ne (by omega), u2_ne (by omega), u2_ne (by omega), u2_ne (by omega), u2_ne (by omega)], by rw [hT, u2_j (by omega), u2_ne (by omega), u2_ne (by omega), u2_j (by omega), u2_ne (by omega), u2_ne (by omega), u2_ne (by omega)], by rw [hT, u2_j (by omega), u2_ne (by omega), u2_ne (by omega), u2_j (by omega), u2_ne (by omega), u2_ne (by omega), u2_ne (by omega)]⟩ ⟨by rw [t10]; exact ⟨i1, j1⟩, by rw [t331, t10]; exact r1⟩ ⟨by rw [t04]; exact ⟨i0, j0⟩, by rw [t336, t04]; exact r2⟩ ⟨by rw [hT, u2_ne (by omega), u2_ne (by omega), u2_ne (by omega), u2_ne (by omega), u2_eq], by rw [hT, u2_eq], fun j hj => by rw [hT, u2_ne (by omega), u2_ne (by omega), u2_ne (by omega), u2_ne (by omega), u2_j (by omega), u2_ne (by omega), u2_ne (by omega)]⟩ ⟨(fr 6 (by omega) (by omega) (by omega) (by omega) (by omega)), (fr 7 (by omega) (by omega) (by omega) (by omega) (by omega)), (fr 8 (by omega) (by omega) (by omega) (by omega) (by omega)), (fr 9 (by omega) (by omega) (by omega) (by omega) (by omega)), (fr 45 (by omega) (by omega) (by omega) (by omega) (by omega)), (fr 46 (by omega) (by omega) (by omega) (by omega) (by omega))⟩ (fun j hj => (fr (19 + j) (by omega) (by omega) (by omega) (by omega) (by omega))) (by rw [(fr 2 (by omega) (by omega) (by omega) (by omega) (by omega))]; exact hpr) (by rw [(fr 3 (by omega) (by omega) (by omega) (by omega) (by omega))]; exact ham) (fun j hj => by have q := hRD j hj; have q2 := hal j hj; rw [t11 j hj, t11 j hj, t11 j hj, t11 j hj, t11 j hj]; by_cases h : j = nx; (simp only [if_pos h]; exact ⟨by simp; omega, by simp; omega, by simp; omega, by simp; omega, by simp; omega⟩); (simp only [if_neg h]; exact ⟨q.1, q.2.1, q.2.2.1, q2.1, q.2.2.2.1⟩)) (fun j hj => by rw [(fr (15 + j) (by omega) (by omega) (by omega) (by omega) (by omega))]; exact (hal j hj).2) (fun j hj => by have := m43 j hj; rw [t43]; split <;> omega) (by rw [(fr 34 (by omega) (by omega) (by omega) (by omega) (by omega)), (fr 35 (by omega) (by omega) (by omega) (by omega) (by omega)), (fr 36 (by omega) (by omega) (by omega) (by omega) (by omega)), (fr 37 (by omega) (by omega) (by omega) (by omega) (by omega)), (fr 2 (by omega) (by omega) (by omega) (by omega) (by omega)), (fr 3 (by omega) (by omega) (by omega) (by omega) (by omega))]; exact r6) R7' R8' R9'⟩
end M16
