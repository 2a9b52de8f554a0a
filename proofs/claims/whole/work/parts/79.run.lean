section RUN
variable {S T : Nat → Nat → Int} {N : Nat} {x : Int}
/-- the search's start, cell by cell -/
theorem bg_ne {n y : Nat} (h5 : y ≠ 5) (h7 : y ≠ 7) (h19 : y < 19 ∨ 19 + n ≤ y) (h23 : y ≠ 23) (h28 : y ≠ 28) : beginS (u2 S 5 0 0) x n y = S y := by
  unfold beginS
  rw [heatS_ne h23 h28, gS_ne _ _ _ h19, u2_ne h7, u2_ne h7, u2_ne h5]
theorem bg_gain {n j m : Nat} (hj : j < 4) (hjn : j < n) (hm : m < 8) : beginS (u2 S 5 0 0) x n (19 + j) m = gainA S j m := by
  unfold beginS
  rw [heatS_ne (by omega) (by omega), gS_at _ _ _ _ hjn hm, gainA_gS _ _ _ _ hj]
  unfold gainA heldA
  rw [u2_ne (show 11 + j ≠ 7 by omega), u2_ne (show 11 + j ≠ 7 by omega), u2_ne (show 11 + j ≠ 5 by omega), u2_ne (show 15 + j ≠ 7 by omega), u2_ne (show 15 + j ≠ 7 by omega), u2_ne (show 15 + j ≠ 5 by omega)]
  rfl
theorem bg_28 {n m : Nat} (hm : m < 8) : beginS (u2 S 5 0 0) x n 28 m = surH S m := by
  have e1 : heatS (gS (u2 (u2 (u2 S 5 0 0) 7 0 0) 7 1 0) n) x (28 + 0) m = surH (gS (u2 (u2 (u2 S 5 0 0) 7 0 0) 7 1 0) n) m := by unfold heatS; rw [uA_lt hm]
  have e2 : surH (gS (u2 (u2 (u2 S 5 0 0) 7 0 0) 7 1 0) n) m = surH S m := by
    unfold surH heldH
    rw [gS_ne _ _ 1 (by omega), gS_ne _ _ 2 (by omega), gS_ne _ _ 3 (by omega)]
    rfl
  exact e1.trans e2
theorem bg_7 {n : Nat} : beginS (u2 S 5 0 0) x n 7 0 = 0 ∧ beginS (u2 S 5 0 0) x n 7 1 = 0 := by
  unfold beginS
  rw [heatS_ne (by decide) (by decide), gS_ne _ _ _ (by omega)]
  exact ⟨rfl, rfl⟩
theorem tm_even (q : Nat) : Int.tmod ((2 * q : Nat) : Int) 2 = 0 := by rw [Int.tmod_eq_emod_of_nonneg (by omega)]; omega
theorem tm_odd (q : Nat) : ¬ Int.tmod ((2 * q + 1 : Nat) : Int) 2 = 0 := by rw [Int.tmod_eq_emod_of_nonneg (by omega)]; omega
theorem run_cr {M : Nat → Nat → Int} (hV : INV N S) (h33 : ∀ j, j ≠ 0 → M 33 j = S 33 j) (hM : ∀ y, 34 ≤ y → y ≤ 45 → M y = S y) : CR (beginS (u2 S 5 0 0) x (S 0 4).toNat) M (S 0 4) := by
  obtain ⟨hI, -, hR⟩ := hV
  obtain ⟨r1, r2, r3, r4, r5, r6, r7, r8, r9, r10⟩ := hR
  obtain ⟨⟨i0, j0⟩, -, -, -, hpr, ham, -, -, -, -, -, h6, hRS, hRD, hal⟩ := hI
  refine ⟨⟨i0, j0⟩, by rw [h33 6 (by decide)]; exact r2, fun j hj hjk => ?_, fun q hq => ?_⟩
  · have a := r7 j hj (by omega)
    have b := r9 j hj
    have d := hRD j hj
    rw [bg_ne (by omega) (by omega) (by omega) (by omega) (by omega), hM 38 (by decide) (by decide), hM 39 (by decide) (by decide), hM 40 (by decide) (by decide), hM 44 (by decide) (by decide), hM 41 (by decide) (by decide), hM 42 (by decide) (by decide), hM 43 (by decide) (by decide), hM 36 (by decide) (by decide), hM 37 (by decide) (by decide)]
    refine ⟨⟨a.1, a.2.1, a.2.2.1, b.1⟩, ⟨d.1.1, by omega, d.2.2.1, d.2.2.2.1.1⟩, fun q hq => ?_⟩
    have c := b.2 q hq
    have e := r6 q hq
    rw [bg_gain hj (by omega) (by omega), bg_gain hj (by omega) (by omega)]
    unfold gainA heldA
    rw [if_pos (tm_even q), if_neg (tm_odd q), a.2.1, a.2.2.2, c.1, c.2, e.2.2.1, e.2.2.2]
    exact ⟨rfl, rfl⟩
  · have e := r6 q hq
    rw [bg_28 (by omega), bg_28 (by omega), h33 1 (by decide), hM 34 (by decide) (by decide), hM 35 (by decide) (by decide), hM 36 (by decide) (by decide), hM 37 (by decide) (by decide)]
    unfold surH heldH
    rw [if_pos (tm_even q), if_neg (tm_odd q), r1, e.1, e.2.1, e.2.2.1, e.2.2.2]
    exact ⟨rfl, rfl⟩
theorem run_re {M : Nat → Nat → Int} (hV : INV N S) (hx : 0 ≤ x ∧ x ≤ 100000000) (h33 : ∀ j, j ≠ 0 → M 33 j = S 33 j) (hM : ∀ y, 34 ≤ y → y ≤ 45 → M y = S y) : RE (S 0 4) (trS S x) (resM M x) := by
  have i0 := hV.1.1
  obtain ⟨b1, b2, b3⟩ := begin_ok (n := (S 0 4).toNat) hV.1 hx (by omega)
  obtain ⟨c0, c1⟩ := bg_7 (S := S) (x := x) (n := (S 0 4).toNat)
  have key := try_re (x := x) (run_cr (x := x) hV h33 hM) 4 0 0 (beginS (u2 S 5 0 0) x (S 0 4).toNat) r0M rfl (by omega) (fun j hj => by omega) (fun y _ _ => rfl) b1 b2 b3 ⟨rfl, rfl, ?_, fun m hm => ?_, fun j hj => by omega⟩ ⟨hx.1, Or.inl c0⟩ ⟨⟨c1, by show (0 : Int) ≤ 4; decide⟩, Or.inl ⟨c0, by show (-1 : Int) < 0; decide⟩⟩
  · exact key
  · show x = x - 0
    omega
  · show beginS (u2 S 5 0 0) x (S 0 4).toNat 28 m = beginS (u2 S 5 0 0) x (S 0 4).toNat 28 m + 0
    omega
/-- what the search leaves as it was -/
theorem tr_ne (hV : INV N S) (hx : 0 ≤ x ∧ x ≤ 100000000) {y : Nat} (h5 : y ≠ 5) (h : ¬ (7 ≤ y ∧ y ≤ 9)) (h2 : ¬ (19 ≤ y ∧ y ≤ 32)) : trS S x y = S y := by
  have i0 := hV.1.1
  rw [(trS_ok hV.1 hx).1.1 y (by omega) (by omega) (by omega) (by omega) (by omega)]
  exact bg_ne h5 (by omega) (by omega) (by omega) (by omega)
theorem tr_5 (hV : INV N S) (hx : 0 ≤ x ∧ x ≤ 100000000) : trS S x 5 0 = 0 ∧ ∀ j, j ≠ 0 → trS S x 5 j = S 5 j := by
  rw [(trS_ok hV.1 hx).1.1 5 (by omega) (by omega) (by omega) (by omega) (by omega)]
  unfold beginS
  rw [heatS_ne (by decide) (by decide), gS_ne _ _ _ (by omega), u2_ne (by decide), u2_ne (by decide)]
  exact ⟨u2_eq, fun j hj => u2_j hj⟩
set_option maxHeartbeats 4000000 in
theorem lm_run (hN : N ≤ 1000) (hV : INV N S) (x : Int) : m_run (w_run S x) x 33 0 = k_run S x ∧ INV (N + 1) (m_run (w_run S x) x) ∧ (k_run S x = 0 → r64 (m_run (w_run S x) x 47 0) ∧ r32 (b_run (w_run S x) x) ∧ m_run (w_run S x) x 47 0 = b_run (w_run S x) x) := by
  obtain ⟨hI, hM, hR⟩ := id hV
  obtain ⟨r1, r2, r3, r4, r5, r6, r7, r8, r9, r10⟩ := id hR
  obtain ⟨⟨i0, j0⟩, ⟨i1, j1⟩, ⟨i2, j2⟩, ⟨i3, j3⟩, hpr, ham, i5, ⟨i6, j6⟩, ⟨i7, j7⟩, ⟨i8, j8⟩, ⟨i9, j9⟩, h6, hRS, hRD, hal⟩ := id hI
  have m43 := hM.2.2.2.2.2.2.2.1
  have m45 := hM.2.2.2.2.2.2.2.2.2.1
  by_cases c1 : ¬ (0 ≤ x ∧ x ≤ 100000000)
  · have hk : k_run S x = 1 := by unfold k_run; rw [if_pos c1]
    have hw : w_run S x = S := by unfold w_run; rw [if_pos c1]
    have hg : gv (bi (0 ≤ x ∧ x ≤ 100000000)) 1 = 1 := gv_a c1
    have hm : m_run S x = u2 S 33 0 1 := by unfold m_run; rw [hg, if_neg (by decide)]
    rw [hk, hw, hm]
    exact ⟨rfl, INV_th hV, fun h => absurd h (by decide)⟩
  have hx : 0 ≤ x ∧ x ≤ 100000000 := by omega
  have hk : k_run S x = 0 := by unfold k_run; rw [if_neg c1]
  obtain ⟨v, hv⟩ : ∃ v, v = (if trS S x 7 0 = 0 then 1 + trS S x 7 1 else 0) := ⟨_, rfl⟩
  have hw : w_run S x = u2 (runS S x) 47 0 v := by unfold w_run; rw [if_neg c1, hv]
  have hg : gv (bi (0 ≤ x ∧ x ≤ 100000000)) 1 = 0 := gv_e hx (by decide)
  -- its world behind the run
  have hrn : ∀ y, y ≠ 5 → y ≠ 6 → runS S x y = trS S x y := by
    intro y h5 h6
    unfold runS
    split
    · rfl
    · unfold setP
      rw [u2_ne h5]
      unfold setS
      rw [if_neg h5, if_neg h6]
  obtain ⟨M, hMM⟩ : ∃ M, M = u2 (u2 (runS S x) 47 0 v) 33 0 0 := ⟨_, rfl⟩
  have hMy : ∀ y, y ≠ 33 → y ≠ 47 → M y = runS S x y := fun y a b => by rw [hMM, u2_ne a, u2_ne b]
  have hM33 : ∀ j, j ≠ 0 → M 33 j = S 33 j := fun j hj => by rw [hMM, u2_j hj, u2_ne (by decide), hrn 33 (by decide) (by decide), tr_ne hV hx (by decide) (by decide) (by decide)]
  have hMh : ∀ y, 34 ≤ y → y ≤ 45 → M y = S y := fun y h1 h2 => by rw [hMy y (by omega) (by omega), hrn y (by omega) (by omega), tr_ne hV hx (by omega) (by omega) (by omega)]
  have hRE := run_re hV hx hM33 hMh
  obtain ⟨⟨e1, e1'⟩, e2⟩ := hRE
  have hm : m_run (w_run S x) x = runM M x := by rw [hw]; unfold m_run; rw [hg, if_pos rfl, hMM]
  have hb : b_run (w_run S x) x = (if (resM M x).1 < 0 then 1 + (resM M x).2.2.2 else 0) := by rw [hw]; unfold b_run; rw [hg, if_pos rfl, hMM]
  have hbv : b_run (w_run S x) x = v := by
    rw [hb, hv]
    rcases e2 with ⟨q0, q1⟩ | ⟨q0, ⟨n, q1, -⟩, -⟩
    · rw [if_pos q0, if_pos q1, e1]
    · rw [if_neg (by omega), if_neg (by omega)]
  obtain ⟨T, hT⟩ : ∃ T, T = runM M x := ⟨_, rfl⟩
  have hTy : ∀ y, y ≠ 33 → y ≠ 45 → y ≠ 46 → T y = M y := by
    intro y a b c
    rw [hT]
    unfold runM
    split
    · rw [u2_ne a, tN_ne _ _ c]
    · unfold plM
      rw [uA_ne b, setD_ne c, u2_ne a, tN_ne _ _ c]
  have hT33 : ∀ j, j ≠ 14 → T 33 j = M 33 j := by
    intro j a
    rw [hT]
    unfold runM
    split
    · rw [u2_j a, tN_ne _ _ (by decide)]
    · unfold plM
      rw [uA_ne (by decide), setD_ne (by decide), u2_j a, tN_ne _ _ (by decide)]
  have hT46 : ∀ j, j < 4 → 0 ≤ T 46 j ∧ T 46 j ≤ 12 := by
    rw [hT]
    unfold runM
    split
    · intro j hj
      rw [u2_ne (by decide)]
      exact setD_46 (by omega) j hj
    · next h9 =>
      intro j hj
      unfold plM
      rw [uA_ne (by decide)]
      exact setD_46 (by omega) j hj
  have T33 : ∀ j, j ≠ 0 → j ≠ 14 → T 33 j = S 33 j := fun j a b => by rw [hT33 j b, hM33 j a]
  have T0 : T 33 0 = 0 := by rw [hT33 0 (by decide), hMM, u2_eq]
  have T47 : T 47 0 = v := by rw [hTy 47 (by decide) (by decide) (by decide), hMM, u2_ne (by decide), u2_eq]
  have Tt : ∀ y, y ≠ 5 → y ≠ 6 → y < 33 → T y = trS S x y := fun y a b c => by rw [hTy y (by omega) (by omega) (by omega), hMy y (by omega) (by omega), hrn y a b]
  have Ts : ∀ y, y ≠ 5 → y ≠ 6 → y < 33 → ¬ (7 ≤ y ∧ y ≤ 9) → ¬ (19 ≤ y ∧ y ≤ 32) → T y = S y := fun y a b c d e => by rw [Tt y a b c, tr_ne hV hx a d e]
  have Th : ∀ y, 34 ≤ y → y ≤ 44 → T y = S y := fun y a b => by rw [hTy y (by omega) (by omega) (by omega), hMh y a (by omega)]
  have hok := trS_ok hI hx
  have hRS' : RS T := RS_of (Tt 7 (by decide) (by decide) (by decide)) (Tt 8 (by decide) (by decide) (by decide)) (Tt 9 (by decide) (by decide) (by decide)) hok.2
  have hRDt : RD (trS S x) := FR_RD hok.1 (begin_ok (n := (S 0 4).toNat) hI hx (by omega)).1
  have hRD' : RD T := RD_of hRDt (fun y h1 h2 => Tt y (by omega) (by omega) (by omega))
  have E1 : T 1 = S 1 := Ts 1 (by decide) (by decide) (by decide) (by decide) (by decide)
  have E0 : T 0 = S 0 := Ts 0 (by decide) (by decide) (by decide) (by decide) (by decide)
  have E2 : T 2 = S 2 := Ts 2 (by decide) (by decide) (by decide) (by decide) (by decide)
  have E3 : T 3 = S 3 := Ts 3 (by decide) (by decide) (by decide) (by decide) (by decide)
  have E11 : ∀ j, j < 4 → T (11 + j) = S (11 + j) := fun j hj => Ts _ (by omega) (by omega) (by omega) (by omega) (by omega)
  have E15 : ∀ j, j < 4 → T (15 + j) = S (15 + j) := fun j hj => Ts _ (by omega) (by omega) (by omega) (by omega) (by omega)
  have T6 : T 33 6 = S 33 6 := T33 6 (by decide) (by decide)
  rw [hk, hbv, hm, ← hT, T47]
  have hr : r32 v := by rw [hv]; exact run_r hI hx
  have h5r : ((T 5 0 = 0 ∨ T 5 0 = 1) ∧ T 33 14 = T 5 0 ∧ (0 ≤ T 5 1 ∧ T 5 1 ≤ 4800000) ∧ (0 ≤ T 5 2 ∧ T 5 2 ≤ 48000) ∧ (0 ≤ T 5 3 ∧ T 5 3 ≤ 4) ∧ (0 ≤ T 5 4 ∧ T 5 4 ≤ 48000000)) ∧ (∀ j, j < 4 → 0 ≤ T 6 j ∧ T 6 j ≤ 12) ∧ (∀ j, j < 4 → 0 ≤ T 45 j ∧ T 45 j ≤ 12) ∧ (T 5 0 = 1 → (∀ k : Nat, k < 4 → (k : Int) < T 33 6 → T 45 k = T 6 k) ∧ T 5 1 = sumN (fun j => T 6 j * T (11 + j) 0) (T 0 4).toNat ∧ T 5 2 = sumN (fun j => T 6 j * T (11 + j) 1) (T 0 4).toNat ∧ T 5 3 = sumN (fun j => bi (0 < T 6 j)) (T 0 4).toNat ∧ T 5 4 = sumN (fun j => T 6 j * (T (11 + j) 1 * T (11 + j) 4)) (T 0 4).toNat) := by
    have hT5 : T 5 = runS S x 5 := by rw [hTy 5 (by decide) (by decide) (by decide), hMy 5 (by decide) (by decide)]
    have hT6 : T 6 = runS S x 6 := by rw [hTy 6 (by decide) (by decide) (by decide), hMy 6 (by decide) (by decide)]
    rcases e2 with ⟨q0, q1⟩ | ⟨q0, ⟨n, q1, q8⟩, -⟩
    · have hrs : runS S x = trS S x := by unfold runS; rw [if_pos q0]
      have t5 := tr_5 hV hx
      have g0 : T 5 0 = 0 := by rw [hT5, hrs]; exact t5.1
      have gj : ∀ j, j ≠ 0 → T 5 j = S 5 j := fun j hj => by rw [hT5, hrs]; exact t5.2 j hj
      have g6 : T 6 = S 6 := by rw [hT6, hrs]; exact tr_ne hV hx (by decide) (by decide) (by decide)
      have g14 : T 33 14 = 0 := by rw [hT]; unfold runM; rw [if_pos q1, u2_eq]
      have g45 : T 45 = S 45 := by rw [hT]; unfold runM; rw [if_pos q1, u2_ne (by decide), tN_ne _ _ (by decide)]; exact hMh 45 (by decide) (by decide)
      refine ⟨⟨Or.inl g0, by omega, by rw [gj 1 (by decide)]; exact ⟨i6, j6⟩, by rw [gj 2 (by decide)]; exact ⟨i7, j7⟩, by rw [gj 3 (by decide)]; exact ⟨i8, j8⟩, by rw [gj 4 (by decide)]; exact ⟨i9, j9⟩⟩, by rw [g6]; exact h6, by rw [g45]; exact m45, fun h => by omega⟩
    · obtain ⟨K, hK⟩ : ∃ K, K = (S 0 4).toNat := ⟨_, rfl⟩
      have hrs : runS S x = setP (trS S x) K := by unfold runS; rw [if_neg (by omega), hK]
      have hT0 : (T 0 4).toNat = K := by rw [E0, hK]
      have g0 : T 5 0 = 1 := by rw [hT5, hrs]; unfold setP; rw [u2_eq]
      have gj : ∀ j, j ≠ 0 → T 5 j = setS (trS S x) (cS (trS S x) K) (kS (trS S x) K) (mS (trS S x) K) (qS (trS S x) K) K 5 j := fun j hj => by rw [hT5, hrs]; unfold setP; rw [u2_j hj]
      have t8 : ∀ j, j < 4 → 0 ≤ trS S x 8 j ∧ trS S x 8 j ≤ 12 := hok.2.2.2.2.2.2
      have g6 : ∀ j, T 6 j = if j < K then trS S x 8 j else S 6 j := fun j => by
        rw [hT6, hrs]; unfold setP; rw [u2_ne (by decide)]
        show (if j < K then trS S x 8 j else trS S x 6 j) = _
        rw [tr_ne hV hx (y := 6) (by decide) (by decide) (by decide)]
      have gl : ∀ j, j < K → T 6 j = trS S x 8 j := fun j hj => by rw [g6 j, if_pos hj]
      have hq1 : ¬ (resM M x).1 < 0 := by omega
      have g14 : T 33 14 = 1 := by rw [hT]; unfold runM; rw [if_neg hq1]; unfold plM; rw [uA_ne (by decide), setD_ne (by decide), u2_eq]
      have g45 : ∀ j, j < 4 → T 45 j = (DG n j : Int) := fun j hj => by rw [hT]; unfold runM; rw [if_neg hq1]; unfold plM; rw [uA_lt hj, q1]; exact setD_at _ n j hj
      have hRDj := fun j (hj : j < K) => hRDt j (by omega)
      have s1 : T 5 1 = sumN (fun j => T 6 j * T (11 + j) 0) K := (gj 1 (by decide)).trans (sumN_congr K (fun j hj => by show trS S x 8 j * trS S x (11 + j) 0 = _; rw [gl j hj, Tt (11 + j) (by omega) (by omega) (by omega)]))
      have s2 : T 5 2 = sumN (fun j => T 6 j * T (11 + j) 1) K := (gj 2 (by decide)).trans (sumN_congr K (fun j hj => by show trS S x 8 j * trS S x (11 + j) 1 = _; rw [gl j hj, Tt (11 + j) (by omega) (by omega) (by omega)]))
      have s3 : T 5 3 = sumN (fun j => bi (0 < T 6 j)) K := (gj 3 (by decide)).trans (sumN_congr K (fun j hj => by show bi (0 < trS S x 8 j) = _; rw [gl j hj]))
      have s4 : T 5 4 = sumN (fun j => T 6 j * (T (11 + j) 1 * T (11 + j) 4)) K := (gj 4 (by decide)).trans (sumN_congr K (fun j hj => by show trS S x 8 j * (trS S x (11 + j) 1 * trS S x (11 + j) 4) = _; rw [gl j hj, Tt (11 + j) (by omega) (by omega) (by omega)]))
      have hK4 : K ≤ 4 := by omega
      have b6 : ∀ j, j < 4 → 0 ≤ T 6 j ∧ T 6 j ≤ 12 := fun j hj => by rw [g6 j]; split; exact t8 j hj; exact h6 j hj
      have w1 := sumN_r (g := fun j => T 6 j * T (11 + j) 0) (M := 12 * 100000) K (fun j hj => mul_r (b6 j (by omega)) (by rw [E11 j (by omega)]; exact (hRD j (by omega)).1))
      have w2 := sumN_r (g := fun j => T 6 j * T (11 + j) 1) (M := 12 * 1000) K (fun j hj => mul_r (b6 j (by omega)) (by rw [E11 j (by omega)]; have := (hRD j (by omega)).2.1; omega))
      have w3 := sumN_r (g := fun j => bi (0 < T 6 j)) (M := 1) K (fun j hj => by rcases bi_01 (0 < T 6 j) with h | h <;> rw [h] <;> decide)
      have w4 := sumN_r (g := fun j => T 6 j * (T (11 + j) 1 * T (11 + j) 4)) (M := 12 * (1000 * 1000)) K (fun j hj => mul_r (b6 j (by omega)) (mul_r (A := 1000) (B := 1000) (by rw [E11 j (by omega)]; have := (hRD j (by omega)).2.1; omega) (by rw [E11 j (by omega)]; exact (hRD j (by omega)).2.2.2.1)))
      rw [hT0]
      refine ⟨⟨Or.inr g0, by omega, by omega, by omega, by omega, by omega⟩, b6, fun j hj => by rw [g45 j hj]; have := DG_le n j; omega, fun _ => ⟨fun k hk h => ?_, s1, s2, s3, s4⟩⟩
      rw [T6, r2] at h
      rw [g45 k hk, gl k (by omega), q8 k hk h]
  obtain ⟨p5, p6, p45, p10⟩ := h5r
  refine ⟨T0, INV_gen ⟨by rw [E1]; omega, by rw [E1]; omega, by rw [T33 17 (by decide) (by decide), E1]; exact r4, by rw [T33 18 (by decide) (by decide), E1]; exact r5, by omega⟩ ⟨by rw [E1]; exact ⟨i1, j1⟩, by rw [T33 1 (by decide) (by decide), E1]; exact r1⟩ ⟨by rw [E0]; exact ⟨i0, j0⟩, by rw [T6, E0]; exact r2⟩ p5 p6 p45 hT46 hRS' hRD' (by rw [E2]; exact hpr) (by rw [E3]; exact ham) (fun j hj => by rw [E11 j hj, E15 j hj]; exact hal j hj) (fun j hj => by rw [Th 43 (by decide) (by decide)]; exact (m43 j hj).1) (by rw [Th 34 (by decide) (by decide), Th 35 (by decide) (by decide), Th 36 (by decide) (by decide), Th 37 (by decide) (by decide), E2, E3]; exact r6) (fun k hk h => by rw [T6] at h; rw [Th 38 (by decide) (by decide), Th 39 (by decide) (by decide), Th 40 (by decide) (by decide), Th 43 (by decide) (by decide), E11 k hk]; exact r7 k hk h) (fun k hk h => by rw [T6] at h; rw [E11 k hk]; exact r8 k hk h) (fun k hk => by rw [Th 44 (by decide) (by decide), Th 41 (by decide) (by decide), Th 42 (by decide) (by decide), E11 k hk, E15 k hk]; exact r9 k hk) p10, fun _ => ⟨⟨by have := hr.1; omega, by have := hr.2; omega⟩, hr, rfl⟩⟩
end RUN
