section GEN
variable {S T : Nat → Nat → Int} {N : Nat}
theorem INV_gen (f1 : (0 ≤ T 1 1 ∧ T 1 1 ≤ (N : Int)) ∧ (0 ≤ T 1 2 ∧ T 1 2 ≤ (N : Int) * 4800000) ∧ T 33 17 = T 1 1 ∧ T 33 18 = T 1 2 ∧ N ≤ 100000) (f10 : (1 ≤ T 1 0 ∧ T 1 0 ≤ 65536) ∧ T 33 1 = T 1 0) (f04 : (0 ≤ T 0 4 ∧ T 0 4 ≤ 4) ∧ T 33 6 = T 0 4)
    (f5 : (T 5 0 = 0 ∨ T 5 0 = 1) ∧ T 33 14 = T 5 0 ∧ (0 ≤ T 5 1 ∧ T 5 1 ≤ 4800000) ∧ (0 ≤ T 5 2 ∧ T 5 2 ≤ 48000) ∧ (0 ≤ T 5 3 ∧ T 5 3 ≤ 4) ∧ (0 ≤ T 5 4 ∧ T 5 4 ≤ 48000000)) (f6 : ∀ j, j < 4 → 0 ≤ T 6 j ∧ T 6 j ≤ 12) (f45 : ∀ j, j < 4 → 0 ≤ T 45 j ∧ T 45 j ≤ 12) (f46 : ∀ j, j < 4 → 0 ≤ T 46 j ∧ T 46 j ≤ 12) (hRS : RS T) (hRD : RD T)
    (g2 : ∀ n, n < 8 → 0 ≤ T 2 n ∧ T 2 n ≤ 100000) (g3 : ∀ n, n < 8 → 0 ≤ T 3 n ∧ T 3 n ≤ 100000) (g15 : ∀ j, j < 4 → (0 ≤ T (11 + j) 3 ∧ T (11 + j) 3 ≤ 1000) ∧ ∀ n, n < 8 → 0 ≤ T (15 + j) n ∧ T (15 + j) n ≤ 100000) (g43 : ∀ j, j < 4 → 0 ≤ T 43 j ∧ T 43 j ≤ 1000)
    (R6 : ∀ e, e < 4 → T 34 e = T 2 (2 * e) ∧ T 35 e = T 2 (2 * e + 1) ∧ T 36 e = T 3 (2 * e) ∧ T 37 e = T 3 (2 * e + 1))
    (R7 : ∀ k : Nat, k < 4 → (k : Int) < T 33 6 → T 38 k = T (11 + k) 0 ∧ T 39 k = T (11 + k) 1 ∧ T 40 k = T (11 + k) 2 ∧ T 43 k = T (11 + k) 3) (R8 : ∀ k : Nat, k < 4 → ¬ (k : Int) < T 33 6 → T (11 + k) 3 = 1000)
    (R9 : ∀ k, k < 4 → T 44 k = T (11 + k) 4 ∧ ∀ e, e < 4 → T 41 (4 * k + e) = T (15 + k) (2 * e) ∧ T 42 (4 * k + e) = T (15 + k) (2 * e + 1))
    (R10 : T 5 0 = 1 → (∀ k : Nat, k < 4 → (k : Int) < T 33 6 → T 45 k = T 6 k) ∧ T 5 1 = sumN (fun j => T 6 j * T (11 + j) 0) (T 0 4).toNat ∧ T 5 2 = sumN (fun j => T 6 j * T (11 + j) 1) (T 0 4).toNat ∧ T 5 3 = sumN (fun j => bi (0 < T 6 j)) (T 0 4).toNat ∧ T 5 4 = sumN (fun j => T 6 j * (T (11 + j) 1 * T (11 + j) 4)) (T 0 4).toNat) : INV N T := by
  obtain ⟨k1, k2, k3, k4, k0⟩ := f1
  obtain ⟨k5, k6, k7, k8, k9, k10⟩ := f5
  refine ⟨⟨f04.1, f10.1, k1, k2, g2, g3, k5, k7, k8, k9, k10, f6, hRS, hRD, g15⟩, ⟨by omega, by omega, by omega, by omega, fun e he => ?_, fun e he => ?_, fun j hj hk => ?_, fun j hj => ⟨g43 j hj, by rw [(R9 j hj).1]; exact (hRD j hj).2.2.2.1⟩, fun m hm => ?_, f45, f46⟩, ⟨f10.2, f04.2, k6, k3, k4, R6, R7, R8, R9, R10⟩⟩
  · have q := R6 e he
    rw [q.1, q.2.1]
    exact ⟨g2 _ (by omega), g2 _ (by omega)⟩
  · have q := R6 e he
    rw [q.2.2.1, q.2.2.2]
    exact ⟨g3 _ (by omega), g3 _ (by omega)⟩
  · have q := R7 j hj hk
    have g := hRD j hj
    rw [q.1, q.2.1, q.2.2.1]
    exact ⟨g.1, g.2.1, g.2.2.1⟩
  · have q := (R9 (m / 4) (by omega)).2 (m % 4) (by omega)
    rw [show 4 * (m / 4) + m % 4 = m by omega] at q
    rw [q.1, q.2]
    exact ⟨(g15 _ (by omega)).2 _ (by omega), (g15 _ (by omega)).2 _ (by omega)⟩
theorem ld_self : LD S (ldM S) := ⟨fun j hj => uA_lt hj, rfl, rfl, fun y h1 h2 => uA_ne (by omega)⟩
theorem ldM_inv {z : Int} (h : INV N S) : INV (N + 1) (u2 (ldM S) 33 0 z) :=
  INV_fr (by omega) (fun y h1 h2 h3 => by rw [u2_ne h3]; exact uA_ne h1) (fun j hj => by rw [u2_j hj]; rfl) (fun j hj => by rw [u2_ne (by decide)]; show 0 ≤ uA S 46 4 (S 45) 46 j ∧ uA S 46 4 (S 45) 46 j ≤ 12; rw [uA_lt hj]; exact h.2.1.2.2.2.2.2.2.2.2.2.1 j hj) h
theorem gv_0 {b : Int} : gv 0 b = 1 := rfl
theorem gv_1 {a : Int} {p : Prop} [Decidable p] (h : ¬ a = 0) (h2 : ¬ p) : gv a (bi p) = 2 := by rw [bi_neg h2]; unfold gv; rw [if_neg h, if_pos rfl]
theorem gv_2 {a : Int} {p : Prop} [Decidable p] (h : ¬ a = 0) (h2 : p) : gv a (bi p) = 0 := by rw [bi_pos h2]; unfold gv; rw [if_neg h, if_neg (by decide)]
set_option maxHeartbeats 4000000 in
theorem lm_add (hN : N ≤ 1000) (hV : INV N S) : m_add (w_add S) 33 0 = k_add S ∧ INV (N + 1) (m_add (w_add S)) ∧ (k_add S = 0 → r64 (m_add (w_add S) 47 0) ∧ r32 (b_add (w_add S)) ∧ m_add (w_add S) 47 0 = b_add (w_add S)) := by
  obtain ⟨hI, hM, hR⟩ := id hV
  obtain ⟨r1, r2, r3, r4, r5, r6, r7, r8, r9, r10⟩ := id hR
  obtain ⟨⟨i0, j0⟩, ⟨i1, j1⟩, ⟨i2, j2⟩, ⟨i3, j3⟩, hpr, ham, i5, ⟨i6, j6⟩, ⟨i7, j7⟩, ⟨i8, j8⟩, ⟨i9, j9⟩, h6, hRS, hRD, hal⟩ := id hI
  have m43 := hM.2.2.2.2.2.2.2.1
  have m45 := hM.2.2.2.2.2.2.2.2.2.1
  by_cases c1 : S 5 0 = 0
  · have hk : k_add S = 1 := by unfold k_add; rw [if_pos c1]
    have hw : w_add S = S := by unfold w_add; rw [if_pos c1]
    have hm : m_add S = u2 (ldM S) 33 0 1 := by unfold m_add; rw [r3, c1, gv_0, if_neg (by decide)]
    rw [hk, hw, hm]
    exact ⟨rfl, ldM_inv hV, fun h => absurd h (by decide)⟩
  have hp : S 5 0 = 1 := by omega
  obtain ⟨s1, s2, s3, s4⟩ := ld_sums hV hp (ld_self (S := S))
  by_cases c2 : ¬ S 5 0 = 0 ∧ ¬ S 1 0 + S 5 2 ≤ 65536
  · have hk : k_add S = 2 := by unfold k_add; rw [if_neg c1, if_pos c2]
    have hw : w_add S = S := by unfold w_add; rw [if_neg c1, if_pos c2]
    have hg : gv (S 33 14) (bi (S 33 1 + wM (ldM S) ≤ 65536)) = 2 := gv_1 (by omega) (by omega)
    have hm : m_add S = u2 (ldM S) 33 0 2 := by unfold m_add; rw [hg, if_neg (by decide)]
    rw [hk, hw, hm]
    exact ⟨rfl, ldM_inv hV, fun h => absurd h (by decide)⟩
  have hk : k_add S = 0 := by unfold k_add; rw [if_neg c1, if_neg c2]
  obtain ⟨V, hVV⟩ : ∃ V, V = u2 (u2 (u2 (u2 (u2 (uA S 2 8 (rndP S)) 1 0 (S 1 0 + S 5 2)) 1 2 (S 1 2 + S 5 1)) 1 1 (S 1 1 + 1)) 5 0 0) 47 0 (S 1 1 + 1 - 1) := ⟨_, rfl⟩
  have hw : w_add S = V := by unfold w_add; rw [if_neg c1, if_neg c2, hVV]
  have hne : ∀ y, y ≠ 1 → y ≠ 2 → y ≠ 5 → y ≠ 47 → V y = S y := fun y a b c d => by rw [hVV, u2_ne d, u2_ne c, u2_ne a, u2_ne a, u2_ne a, uA_ne b]
  have hL0 : LD S (ldM V) := ⟨fun j hj => by show uA V 46 4 (V 45) 46 j = _; rw [uA_lt hj, hne 45 (by decide) (by decide) (by decide) (by decide)], by show V 33 6 = _; rw [hne 33 (by decide) (by decide) (by decide) (by decide)], by show V 33 1 = _; rw [hne 33 (by decide) (by decide) (by decide) (by decide)], fun y h1 h2 => by show uA V 46 4 (V 45) y = _; rw [uA_ne (by omega), hne y (by omega) (by omega) (by omega) (by omega)]⟩
  obtain ⟨t1, t2, t3, t4⟩ := ld_sums hV hp hL0
  have hg : gv (S 33 14) (bi (S 33 1 + wM (ldM V) ≤ 65536)) = 0 := gv_2 (by omega) (by omega)
  obtain ⟨U, hU⟩ : ∃ U, U = u2 (ldM V) 33 0 0 := ⟨_, rfl⟩
  have hL : LD S U := ⟨fun j hj => by rw [hU, u2_ne (by decide)]; exact hL0.1 j hj, by rw [hU, u2_j (by decide)]; exact hL0.2.1, by rw [hU, u2_j (by decide)]; exact hL0.2.2.1, fun y h1 h2 => by rw [hU, u2_ne (by omega)]; exact hL0.2.2.2 y h1 h2⟩
  obtain ⟨u1, u2', u3, u4⟩ := ld_sums hV hp hL
  obtain ⟨T, hT⟩ : ∃ T, T = addM U (S 33 1) (S 33 17) (S 33 18) := ⟨_, rfl⟩
  have hm : m_add V = T := by
    unfold m_add
    rw [hne 33 (by decide) (by decide) (by decide) (by decide), hg, if_pos rfl, ← hU, hT]
  have hb : b_add V = S 33 17 := by
    unfold b_add
    rw [hne 33 (by decide) (by decide) (by decide) (by decide), hg, if_pos rfl]
    omega
  have hIMU : IM U := by
    rw [hU]
    refine th_IM (ldM_IM (IM_of hM ?_ ?_ ?_ ?_ (fun y h1 h2 => hne y (by omega) (by omega) (by omega) (by omega)) ?_)) <;> rw [hne _ (by decide) (by decide) (by decide) (by decide)]
    · exact hM.2.2.1
    · exact hM.2.2.2.2.2.2.2.2.2.2
  have hall : allM U = 1000 * (S 1 0 + S 5 2) := by unfold allM; rw [u2', hL.2.2.1, r1]
  have hUy : ∀ y, y ≠ 33 → y ≠ 46 → U y = V y := fun y a b => by rw [hU, u2_ne a]; exact uA_ne b
  have hU33 : ∀ j, j ≠ 0 → U 33 j = V 33 j := fun j hj => by rw [hU, u2_j hj]; rfl
  have hTy : ∀ y, y ≠ 33 → y ≠ 34 → y ≠ 35 → T y = U y := fun y a b c => by rw [hT]; unfold addM; rw [u2_ne a, u2_ne a, u2_ne a, u2_ne a, uA_ne c, uA_ne b]
  have hTS : ∀ y, y ≠ 1 → y ≠ 2 → y ≠ 5 → y ≠ 33 → y ≠ 34 → y ≠ 35 → y ≠ 46 → y ≠ 47 → T y = S y := fun y a b c d e f g h => by rw [hTy y d e f, hUy y d g, hne y a b c h]
  have e33 : ∀ j, j ≠ 0 → j ≠ 1 → j ≠ 14 → j ≠ 17 → j ≠ 18 → T 33 j = S 33 j := fun j a b c d e => by
    rw [hT]; unfold addM; rw [u2_j d, u2_j c, u2_j b, u2_j e, uA_ne (by decide), uA_ne (by decide), hU33 j a, hne 33 (by decide) (by decide) (by decide) (by decide)]
  have T0 : T 33 0 = 0 := by rw [hT]; unfold addM; rw [u2_j (by decide), u2_j (by decide), u2_j (by decide), u2_j (by decide), uA_ne (by decide), uA_ne (by decide), hU, u2_eq]
  have T1 : T 33 1 = S 33 1 + wM U := by rw [hT]; unfold addM; rw [u2_j (by decide), u2_j (by decide), u2_eq]
  have T14 : T 33 14 = 0 := by rw [hT]; unfold addM; rw [u2_j (by decide), u2_eq]
  have T17 : T 33 17 = S 33 17 + 1 := by rw [hT]; unfold addM; rw [u2_eq]
  have T18 : T 33 18 = S 33 18 + cM U := by rw [hT]; unfold addM; rw [u2_j (by decide), u2_j (by decide), u2_j (by decide), u2_eq]
  have T34 : ∀ e, e < 4 → T 34 e = loM U e := fun e he => by rw [hT]; unfold addM; rw [u2_ne (by decide), u2_ne (by decide), u2_ne (by decide), u2_ne (by decide), uA_ne (by decide), uA_lt he]
  have T35 : ∀ e, e < 4 → T 35 e = hiM U e := fun e he => by rw [hT]; unfold addM; rw [u2_ne (by decide), u2_ne (by decide), u2_ne (by decide), u2_ne (by decide), uA_lt he]
  have V1 : T 1 = V 1 := by rw [hTy 1 (by decide) (by decide) (by decide), hUy 1 (by decide) (by decide)]
  have V2 : T 2 = V 2 := by rw [hTy 2 (by decide) (by decide) (by decide), hUy 2 (by decide) (by decide)]
  have V5 : T 5 = V 5 := by rw [hTy 5 (by decide) (by decide) (by decide), hUy 5 (by decide) (by decide)]
  have T10 : T 1 0 = S 1 0 + S 5 2 := by rw [V1, hVV]; rfl
  have T11 : T 1 1 = S 1 1 + 1 := by rw [V1, hVV]; rfl
  have T12 : T 1 2 = S 1 2 + S 5 1 := by rw [V1, hVV]; rfl
  have T50 : T 5 0 = 0 := by rw [V5, hVV]; rfl
  have T5 : ∀ j, j ≠ 0 → T 5 j = S 5 j := fun j hj => by rw [V5, hVV, u2_ne (by decide), u2_j hj, u2_ne (by decide), u2_ne (by decide), u2_ne (by decide), uA_ne (by decide)]
  have T2 : ∀ n, n < 8 → T 2 n = rndP S n := fun n hn => by rw [V2, hVV, u2_ne (by decide), u2_ne (by decide), u2_ne (by decide), u2_ne (by decide), u2_ne (by decide), uA_lt hn]
  have T47 : T 47 0 = S 1 1 + 1 - 1 := by rw [hTy 47 (by decide) (by decide) (by decide), hUy 47 (by decide) (by decide), hVV, u2_eq]
  have T46 : ∀ j, j < 4 → T 46 j = S 45 j := fun j hj => by rw [hTy 46 (by decide) (by decide) (by decide)]; exact hL.1 j hj
  have hlo : ∀ e, e < 4 → rndP S (2 * e) = loM U e ∧ rndP S (2 * e + 1) = hiM U e := by
    intro e he
    obtain ⟨a0, a1⟩ := ld_held hV hp hL e he
    unfold rndP loM hiM
    rw [hall, a0, a1]
    have hW0 : 0 < 1000 * (S 1 0 + S 5 2) := by omega
    have q1 : Int.tmod ((2 * e : Nat) : Int) 2 = 0 := by rw [Int.tmod_eq_emod_of_nonneg (by omega)]; omega
    have q2 : ¬ Int.tmod ((2 * e + 1 : Nat) : Int) 2 = 0 := by rw [Int.tmod_eq_emod_of_nonneg (by omega)]; omega
    simp only [if_pos hW0, if_pos q1, if_neg q2, and_self]
  have hr2 : ∀ e, e < 4 → (0 ≤ loM U e ∧ loM U e ≤ 100000) ∧ (0 ≤ hiM U e ∧ hiM U e ≤ 100000) := by
    intro e he
    have p0 := aM_r (x := 0) hIMU he
    have p1 := aM_r (x := 1) hIMU he
    exact ⟨lo_r p0.1 (by rw [hall]; omega) (aM_avg hIMU he), hi_r p1.1 (by rw [hall]; omega) (aM_avg hIMU he)⟩
  have T3 : T 3 = S 3 := hTS 3 (by decide) (by decide) (by decide) (by decide) (by decide) (by decide) (by decide) (by decide)
  have f9 : ∀ y, 6 ≤ y → y ≤ 32 → T y = S y := fun y h1 h2 => hTS y (by omega) (by omega) (by omega) (by omega) (by omega) (by omega) (by omega) (by omega)
  have f8 : ∀ y, 36 ≤ y → y ≤ 45 → T y = S y := fun y h1 h2 => hTS y (by omega) (by omega) (by omega) (by omega) (by omega) (by omega) (by omega) (by omega)
  have T04 : T 0 = S 0 := hTS 0 (by decide) (by decide) (by decide) (by decide) (by decide) (by decide) (by decide) (by decide)
  have T6 : T 33 6 = S 33 6 := e33 6 (by decide) (by decide) (by decide) (by decide) (by decide)
  rw [hk, hw, hm, hb, T47]
  refine ⟨T0, INV_gen ⟨by omega, by omega, by omega, by omega, by omega⟩ ⟨by omega, by omega⟩ ⟨by rw [T04]; exact ⟨i0, j0⟩, by rw [T6, T04]; exact r2⟩ ⟨Or.inl T50, by omega, by rw [T5 1 (by decide)]; exact ⟨i6, j6⟩, by rw [T5 2 (by decide)]; exact ⟨i7, j7⟩, by rw [T5 3 (by decide)]; exact ⟨i8, j8⟩, by rw [T5 4 (by decide)]; exact ⟨i9, j9⟩⟩ (by rw [f9 6 (by decide) (by decide)]; exact h6) (by rw [f8 45 (by decide) (by decide)]; exact m45) (fun j hj => by rw [T46 j hj]; exact m45 j hj) (RS_of (f9 7 (by decide) (by decide)) (f9 8 (by decide) (by decide)) (f9 9 (by decide) (by decide)) hRS) (RD_of hRD (fun y h1 h2 => f9 y (by omega) (by omega))) (fun n hn => ?_) (by rw [T3]; exact ham) (fun j hj => by rw [f9 (11 + j) (by omega) (by omega), f9 (15 + j) (by omega) (by omega)]; exact hal j hj) (fun j hj => by rw [f8 43 (by decide) (by decide)]; exact (m43 j hj).1) (fun e he => ?_) (fun k hk h => by rw [T6] at h; rw [f8 38 (by decide) (by decide), f8 39 (by decide) (by decide), f8 40 (by decide) (by decide), f8 43 (by decide) (by decide), f9 (11 + k) (by omega) (by omega)]; exact r7 k hk h) (fun k hk h => by rw [T6] at h; rw [f9 (11 + k) (by omega) (by omega)]; exact r8 k hk h) (fun k hk => by rw [f8 44 (by decide) (by decide), f8 41 (by decide) (by decide), f8 42 (by decide) (by decide), f9 (11 + k) (by omega) (by omega), f9 (15 + k) (by omega) (by omega)]; exact r9 k hk) (fun h => by omega), fun _ => ⟨⟨by omega, by omega⟩, ⟨by omega, by omega⟩, by omega⟩⟩
  · rw [T2 n hn]
    have q := hlo (n / 2) (by omega)
    have q2 := hr2 (n / 2) (by omega)
    rcases (show n = 2 * (n / 2) ∨ n = 2 * (n / 2) + 1 by omega) with h | h
    · rw [h, q.1]; exact q2.1
    · rw [h, q.2]; exact q2.2
  · have q := hlo e he
    have q6 := r6 e he
    rw [T34 e he, T35 e he, T2 (2 * e) (by omega), T2 (2 * e + 1) (by omega), q.1, q.2, f8 36 (by decide) (by decide), f8 37 (by decide) (by decide), T3]
    exact ⟨rfl, rfl, q6.2.2.1, q6.2.2.2⟩
end GEN
