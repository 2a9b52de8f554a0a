section M2
variable {l : Launch} {D : va_G} {cd : Nat → ClassId} {ad : Nat → Nat} {L : List Nat} {f f0 : Nat → va_E} {S : Nat → Nat → Int}
abbrev rm_E_heldAt : Room := { frames := 0, cells := 0, slots := 0, locals := 0 }
set_option maxHeartbeats 4000000 in
set_option maxRecDepth 100000 in
theorem t_E_heldAt (G : LO ad L) (n : Nat) (hn : n < 8) (h1 : r32 (S 1 0)) (h2 : r32 (S 2 n)) : FM l y_E_heldAt c_E_heldAt 2 (some .long) rm_E_heldAt D cd L (wd cd ad S f0) [.ref (ad 1), iv ((n : Int))] (some (jv (heldH S n))) (wd cd ad S f0) := by
  refine g_of (by decide) (Nat.le_of_ble_eq_true rfl) ?_
  intro p e s m args below meth c A sz hA hsz C hr hl hnm
  have C : gC p s m args c D CL (TY cd) A c_E_heldAt "AlloyPlans$Melt" 2 := C
  change gW _ _ _ _ _ _ _ _ _ _ _ _ _ _ _ _ _ _ _ 0 [(0, .ref (ad 1)), (1, iv ((n : Int)))] []
  obtain ⟨u0, v0⟩ := h1
  obtain ⟨u1, v1⟩ := h2
  refine g_ldc2 C (z := 1000) d_E_heldAt_0 3 rfl rfl kd_E_27 ?_
  refine g_aload_n C d_E_heldAt_3 4 rfl rfl 0 rfl ?_
  refine gt_E_kilos C G d_E_heldAt_4 7 rfl fl_E_9 ?_
  refine g_i2l C d_E_heldAt_7 8 rfl (show r32 (S 1 0) from ⟨by omega, by omega⟩) ?_
  refine g_lmul C d_E_heldAt_8 9 rfl ?_
  refine g_aload_n C d_E_heldAt_9 10 rfl rfl 0 rfl ?_
  refine gt_E_presentEnds C G d_E_heldAt_10 13 rfl fl_E_15 ?_
  refine g_iload_n C d_E_heldAt_13 14 rfl rfl 1 rfl ?_
  refine ld_2 C G d_E_heldAt_14 15 rfl n (by omega) rfl ?_
  refine g_i2l C d_E_heldAt_15 16 rfl (show r32 (S 2 n) from ⟨by omega, by omega⟩) ?_
  refine g_lmul C d_E_heldAt_16 17 rfl ?_
  exact g_lret C hA hsz hr hl d_E_heldAt_17 (by decide) (by decide) ⟨rfl, rfl, rfl⟩
abbrev rm_E_surplusOfHeat : Room := { frames := 2, cells := 0, slots := 0, locals := 44 }
set_option maxHeartbeats 4000000 in
set_option maxRecDepth 100000 in
theorem t_E_surplusOfHeat (G : LO ad L) (n : Nat) (hn : n < 8) (h1 : r32 (S 1 0)) (h2 : r32 (S 2 n)) (h3 : r32 (S 3 n)) : FM l y_E_surplusOfHeat c_E_surplusOfHeat 2 (some .long) rm_E_surplusOfHeat D cd L (wd cd ad S f0) [.ref (ad 1), iv ((n : Int))] (some (jv (surH S n))) (wd cd ad S f0) := by
  refine g_of (by decide) (Nat.le_of_ble_eq_true rfl) ?_
  intro p e s m args below meth c A sz hA hsz C hr hl hnm
  have C : gC p s m args c D CL (TY cd) A c_E_surplusOfHeat "AlloyPlans$Melt" 2 := C
  change gW _ _ _ _ _ _ _ _ _ _ _ _ _ _ _ _ _ _ _ 0 [(0, .ref (ad 1)), (1, iv ((n : Int)))] []
  obtain ⟨u0, v0⟩ := h1
  obtain ⟨u1, v1⟩ := h2
  obtain ⟨u2, v2⟩ := h3
  refine g_iload_n C d_E_surplusOfHeat_0 1 rfl rfl 1 rfl ?_
  refine g_aload_n C d_E_surplusOfHeat_1 2 rfl rfl 0 rfl ?_
  refine g_iload_n C d_E_surplusOfHeat_2 3 rfl rfl 1 rfl ?_
  refine fcV1 C (rest := [iv ((n : Int))]) d_E_surplusOfHeat_3 6 rfl (t_E_heldAt G (S := S) n (by omega) (show r32 (S 1 0) from ⟨by omega, by omega⟩) (show r32 (S 2 n) from ⟨by omega, by omega⟩)) rfl (G.1 1 (by decide)) (at_E G) ⟨ml_E_29, im_E_heldAt, se_E_heldAt, ci_E⟩ w_E_heldAt rfl 1 gy_E_heldAt rfl 0 rfl 0 rfl rfl rfl (Nat.le_of_ble_eq_true rfl) ?_
  refine g_ldc2 C (z := 1000) d_E_surplusOfHeat_6 9 rfl rfl kd_E_27 ?_
  refine g_aload_n C d_E_surplusOfHeat_9 10 rfl rfl 0 rfl ?_
  refine gt_E_kilos C G d_E_surplusOfHeat_10 13 rfl fl_E_9 ?_
  refine g_i2l C d_E_surplusOfHeat_13 14 rfl (show r32 (S 1 0) from ⟨by omega, by omega⟩) ?_
  refine g_lmul C d_E_surplusOfHeat_14 15 rfl ?_
  refine g_aload_n C d_E_surplusOfHeat_15 16 rfl rfl 0 rfl ?_
  refine gt_E_aimEnds C G d_E_surplusOfHeat_16 19 rfl fl_E_19 ?_
  refine g_iload_n C d_E_surplusOfHeat_19 20 rfl rfl 1 rfl ?_
  refine ld_3 C G d_E_surplusOfHeat_20 21 rfl n (by omega) rfl ?_
  refine g_i2l C d_E_surplusOfHeat_21 22 rfl (show r32 (S 3 n) from ⟨by omega, by omega⟩) ?_
  refine g_lmul C d_E_surplusOfHeat_22 23 rfl ?_
  refine fcN1 C (rest := []) d_E_surplusOfHeat_23 26 rfl (t_P_surplusAt ((n : Int)) (heldH S n) ((1000 * (S 1 0)) * (S 3 n)) (show r32 ((n : Int)) from ⟨by omega, by omega⟩)) (gN_n_E33 C.2.1.2.1) ⟨ci_P, sm_P_surplusAt⟩ w_P_surplusAt 3 gy_P_surplusAt rfl 0 rfl 0 rfl rfl rfl (Nat.le_of_ble_eq_true rfl) ?_
  exact g_lret C hA hsz hr hl d_E_surplusOfHeat_26 (by decide) (by decide) ⟨rfl, rfl, rfl⟩
abbrev rm_A_coolingOfStep : Room := { frames := 0, cells := 0, slots := 0, locals := 0 }
set_option maxHeartbeats 4000000 in
set_option maxRecDepth 100000 in
theorem t_A_coolingOfStep (G : LO ad L) (i : Nat) (hi : i < 4) : FM l y_A_coolingOfStep c_A_coolingOfStep 1 (some .int) rm_A_coolingOfStep D cd L (wd cd ad S f0) [.ref (ad (11 + i))] (some (iv (S (11 + i) 1 * S (11 + i) 4))) (wd cd ad S f0) := by
  refine g_of (by decide) (Nat.le_of_ble_eq_true rfl) ?_
  intro p e s m args below meth c A sz hA hsz C hr hl hnm
  have C : gC p s m args c D CL (TY cd) A c_A_coolingOfStep "AlloyPlans$Alloy" 1 := C
  change gW _ _ _ _ _ _ _ _ _ _ _ _ _ _ _ _ _ _ _ 0 [(0, .ref (ad (11 + i)))] []
  refine g_aload_n C d_A_coolingOfStep_0 1 rfl rfl 0 rfl ?_
  refine gt_A_kilos C G d_A_coolingOfStep_1 4 rfl i (by omega) fl_A_9 ?_
  refine g_aload_n C d_A_coolingOfStep_4 5 rfl rfl 0 rfl ?_
  refine gt_A_cooling C G d_A_coolingOfStep_5 8 rfl i (by omega) fl_A_26 ?_
  refine g_imul C d_A_coolingOfStep_8 9 rfl ?_
  exact g_iret C hA hsz hr hl d_A_coolingOfStep_9 (by decide) (by decide) ⟨rfl, rfl, rfl⟩
abbrev rm_A_heldInStepAt : Room := { frames := 0, cells := 0, slots := 0, locals := 0 }
set_option maxHeartbeats 4000000 in
set_option maxRecDepth 100000 in
theorem t_A_heldInStepAt (G : LO ad L) (i n : Nat) (hi : i < 4) (hn : n < 8) (h1 : r32 (S (11 + i) 1)) (h2 : r32 (S (15 + i) n)) (h3 : r32 (S (11 + i) 3)) : FM l y_A_heldInStepAt c_A_heldInStepAt 2 (some .long) rm_A_heldInStepAt D cd L (wd cd ad S f0) [.ref (ad (11 + i)), iv ((n : Int))] (some (jv (heldA S i n))) (wd cd ad S f0) := by
  refine g_of (by decide) (Nat.le_of_ble_eq_true rfl) ?_
  intro p e s m args below meth c A sz hA hsz C hr hl hnm
  have C : gC p s m args c D CL (TY cd) A c_A_heldInStepAt "AlloyPlans$Alloy" 2 := C
  change gW _ _ _ _ _ _ _ _ _ _ _ _ _ _ _ _ _ _ _ 0 [(0, .ref (ad (11 + i))), (1, iv ((n : Int)))] []
  obtain ⟨u0, v0⟩ := h1
  obtain ⟨u1, v1⟩ := h2
  obtain ⟨u2, v2⟩ := h3
  refine g_aload_n C d_A_heldInStepAt_0 1 rfl rfl 0 rfl ?_
  refine gt_A_kilos C G d_A_heldInStepAt_1 4 rfl i (by omega) fl_A_9 ?_
  refine g_i2l C d_A_heldInStepAt_4 5 rfl (show r32 (S (11 + i) 1) from ⟨by omega, by omega⟩) ?_
  refine g_aload_n C d_A_heldInStepAt_5 6 rfl rfl 0 rfl ?_
  refine gt_A_ends C G d_A_heldInStepAt_6 9 rfl i (by omega) fl_A_18 ?_
  refine g_iload_n C d_A_heldInStepAt_9 10 rfl rfl 1 rfl ?_
  refine ld_15 C G d_A_heldInStepAt_10 11 rfl i (by omega) n (by omega) rfl ?_
  refine g_i2l C d_A_heldInStepAt_11 12 rfl (show r32 (S (15 + i) n) from ⟨by omega, by omega⟩) ?_
  refine g_lmul C d_A_heldInStepAt_12 13 rfl ?_
  refine g_aload_n C d_A_heldInStepAt_13 14 rfl rfl 0 rfl ?_
  refine gt_A_thousandths C G d_A_heldInStepAt_14 17 rfl i (by omega) fl_A_15 ?_
  refine g_i2l C d_A_heldInStepAt_17 18 rfl (show r32 (S (11 + i) 3) from ⟨by omega, by omega⟩) ?_
  refine g_lmul C d_A_heldInStepAt_18 19 rfl ?_
  exact g_lret C hA hsz hr hl d_A_heldInStepAt_19 (by decide) (by decide) ⟨rfl, rfl, rfl⟩
abbrev rm_A_weighAgainst : Room := { frames := 2, cells := 0, slots := 0, locals := 44 }
set_option maxHeartbeats 4000000 in
set_option maxRecDepth 100000 in
theorem t_A_weighAgainst (G : LO ad L) (i : Nat) (hi : i < 4) (h1 : r32 (S (11 + i) 1)) (h2 : ∀ n, n < 8 → r32 (S (15 + i) n)) (h3 : r32 (S (11 + i) 3)) (h4 : ∀ n, n < 8 → r32 (S 3 n)) : FM l y_A_weighAgainst c_A_weighAgainst 3 none rm_A_weighAgainst D cd L (wd cd ad S f0) [.ref (ad (11 + i)), .ref (ad 3)] none (wd cd ad (uA S (19 + i) 8 (gainA S i)) f0) := by
  refine g_of (by decide) (Nat.le_of_ble_eq_true rfl) ?_
  intro p e s m args below meth c A sz hA hsz C hr hl hnm
  have C : gC p s m args c D CL (TY cd) A c_A_weighAgainst "AlloyPlans$Alloy" 3 := C
  change gW _ _ _ _ _ _ _ _ _ _ _ _ _ _ _ _ _ _ _ 0 [(0, .ref (ad (11 + i))), (1, .ref (ad 3))] []
  obtain ⟨u1, v1⟩ := h1
  obtain ⟨u3, v3⟩ := h3
  refine g_iconst C d_A_weighAgainst_0 1 rfl ?_
  refine g_istore_n C d_A_weighAgainst_1 2 rfl [(2, iv (0)), (0, .ref (ad (11 + i))), (1, .ref (ad 3))] rfl (by decide) rfl ?_
  have LP : ∀ (d n : Nat) (T : Nat → Nat → Int), n + d = 8 → T = uA S (19 + i) n (gainA S i) → gW p l e rm_A_weighAgainst s m args below meth c D CL A 3 (MQ below (gQ D CL L sz (fun r L' g => r = none ∧ L' = L ∧ g = (wd cd ad (uA S (19 + i) 8 (gainA S i)) f0))) args s rm_A_weighAgainst.cells rm_A_weighAgainst.slots (gA L sz)) 0 0 L (wd cd ad T f0) 2 [(2, iv ((n : Int))), (0, .ref (ad (11 + i))), (1, .ref (ad 3))] [] := by
    intro d
    induction d with
    | zero =>
      intro n T hn hT
      refine g_iload_n C d_A_weighAgainst_2 3 rfl rfl 0 rfl ?_
      refine g_aload_n C d_A_weighAgainst_3 4 rfl rfl 1 rfl ?_
      refine gt_A_gains C G d_A_weighAgainst_4 7 rfl i (by omega) fl_A_22 ?_
      refine ln_19 C G d_A_weighAgainst_7 8 rfl i (by omega) ?_
      refine g_icmp_ge C d_A_weighAgainst_8 11 rfl (show r32 ((n : Int)) from ⟨by omega, by omega⟩) (show r32 8 from ⟨by decide, by decide⟩) 52 rfl (fun (w1 : 8 ≤ (n : Int)) => ?_) (fun (w1 : ¬ 8 ≤ (n : Int)) => absurd w1 (by omega))
      exact g_vret C hA hsz hr hl d_A_weighAgainst_52 (by decide) (by decide) ⟨rfl, rfl, by rw [hT, show n = 8 by omega]⟩
    | succ d ih =>
      intro n T hn hT
      have e1 : T (11 + i) 1 = S (11 + i) 1 := by rw [hT, uA_ne (by omega)]
      have e3 : T (11 + i) 3 = S (11 + i) 3 := by rw [hT, uA_ne (by omega)]
      have e5 : T (15 + i) n = S (15 + i) n := by rw [hT, uA_ne (by omega)]
      have e7 : T 3 n = S 3 n := by rw [hT, uA_ne (by omega)]
      obtain ⟨u2, v2⟩ := h2 n (by omega)
      obtain ⟨u4, v4⟩ := h4 n (by omega)
      refine g_iload_n C d_A_weighAgainst_2 3 rfl rfl 0 rfl ?_
      refine g_aload_n C d_A_weighAgainst_3 4 rfl rfl 1 rfl ?_
      refine gt_A_gains C G d_A_weighAgainst_4 7 rfl i (by omega) fl_A_22 ?_
      refine ln_19 C G d_A_weighAgainst_7 8 rfl i (by omega) ?_
      refine g_icmp_ge C d_A_weighAgainst_8 11 rfl (show r32 ((n : Int)) from ⟨by omega, by omega⟩) (show r32 8 from ⟨by decide, by decide⟩) 52 rfl (fun (w2 : 8 ≤ (n : Int)) => absurd w2 (by omega)) (fun (w2 : ¬ 8 ≤ (n : Int)) => ?_)
      refine g_iload_n C d_A_weighAgainst_11 12 rfl rfl 0 rfl ?_
      refine g_aload_n C d_A_weighAgainst_12 13 rfl rfl 2 rfl ?_
      refine ln_3 C G d_A_weighAgainst_13 14 rfl ?_
      refine g_icmp_ge C d_A_weighAgainst_14 17 rfl (show r32 ((n : Int)) from ⟨by omega, by omega⟩) (show r32 8 from ⟨by decide, by decide⟩) 52 rfl (fun (w3 : 8 ≤ (n : Int)) => absurd w3 (by omega)) (fun (w3 : ¬ 8 ≤ (n : Int)) => ?_)
      refine g_aload_n C d_A_weighAgainst_17 18 rfl rfl 1 rfl ?_
      refine gt_A_gains C G d_A_weighAgainst_18 21 rfl i (by omega) fl_A_22 ?_
      refine g_iload_n C d_A_weighAgainst_21 22 rfl rfl 0 rfl ?_
      refine g_iload_n C d_A_weighAgainst_22 23 rfl rfl 0 rfl ?_
      refine g_aload_n C d_A_weighAgainst_23 24 rfl rfl 1 rfl ?_
      refine g_iload_n C d_A_weighAgainst_24 25 rfl rfl 0 rfl ?_
      refine fcV1 C (rest := [iv ((n : Int)), iv ((n : Int)), .ref (ad (19 + i))]) d_A_weighAgainst_25 28 rfl (t_A_heldInStepAt G (S := T) i n (by omega) (by omega) (show r32 (T (11 + i) 1) from ⟨by omega, by omega⟩) (show r32 (T (15 + i) n) from ⟨by omega, by omega⟩) (show r32 (T (11 + i) 3) from ⟨by omega, by omega⟩)) rfl (G.1 (11 + i) (by omega)) (at_A G i (by omega)) ⟨ml_A_29, im_A_heldInStepAt, se_A_heldInStepAt, ci_A⟩ w_A_heldInStepAt rfl 1 gy_A_heldInStepAt rfl 0 rfl 0 rfl rfl rfl (Nat.le_of_ble_eq_true rfl) ?_
      refine g_ldc2 C (z := 1000) d_A_weighAgainst_28 31 rfl rfl kd_A_33 ?_
      refine g_aload_n C d_A_weighAgainst_31 32 rfl rfl 1 rfl ?_
      refine gt_A_kilos C G d_A_weighAgainst_32 35 rfl i (by omega) fl_A_9 ?_
      refine g_i2l C d_A_weighAgainst_35 36 rfl (show r32 (T (11 + i) 1) from ⟨by omega, by omega⟩) ?_
      refine g_lmul C d_A_weighAgainst_36 37 rfl ?_
      refine g_aload_n C d_A_weighAgainst_37 38 rfl rfl 2 rfl ?_
      refine g_iload_n C d_A_weighAgainst_38 39 rfl rfl 0 rfl ?_
      refine ld_3 C G d_A_weighAgainst_39 40 rfl n (by omega) rfl ?_
      refine g_i2l C d_A_weighAgainst_40 41 rfl (show r32 (T 3 n) from ⟨by omega, by omega⟩) ?_
      refine g_lmul C d_A_weighAgainst_41 42 rfl ?_
      refine fcN1 C (rest := [iv ((n : Int)), .ref (ad (19 + i))]) d_A_weighAgainst_42 45 rfl (t_P_surplusAt ((n : Int)) (heldA T i n) ((1000 * (T (11 + i) 1)) * (T 3 n)) (show r32 ((n : Int)) from ⟨by omega, by omega⟩)) (gN_n_A35 C.2.1.2.1) ⟨ci_P, sm_P_surplusAt⟩ w_P_surplusAt 3 gy_P_surplusAt rfl 0 rfl 0 rfl rfl rfl (Nat.le_of_ble_eq_true rfl) ?_
      refine st_19 C G (x := if Int.tmod ((n : Int)) 2 = 0 then (heldA T i n) - ((1000 * (T (11 + i) 1)) * (T 3 n)) else ((1000 * (T (11 + i) 1)) * (T 3 n)) - (heldA T i n)) d_A_weighAgainst_45 46 rfl i (by omega) n (by omega) rfl ?_
      refine g_iinc C d_A_weighAgainst_46 49 rfl [(2, iv ((n : Int) + 1)), (0, .ref (ad (11 + i))), (1, .ref (ad 3))] 0 rfl (by decide) rfl ?_
      refine g_goto C d_A_weighAgainst_49 2 rfl ?_
      refine ih (n + 1) _ (by omega) ?_
      rw [← uA_s, ← hT]
      simp only [gainA, heldA, e1, e3, e5, e7]
  exact LP 8 0 _ rfl (uA_0 _ _ _).symm
abbrev rm_X_becomeHeat : Room := { frames := 3, cells := 0, slots := 0, locals := 65 }
set_option maxHeartbeats 4000000 in
set_option maxRecDepth 100000 in
theorem t_X_becomeHeat (G : LO ad L) (i : Nat) (x : Int) (hi : i < 5) (h1 : r32 (S 1 0)) (h2 : ∀ n, n < 8 → r32 (S 2 n)) (h3 : ∀ n, n < 8 → r32 (S 3 n)) : FM l y_X_becomeHeat c_X_becomeHeat 4 none rm_X_becomeHeat D cd L (wd cd ad S f0) [.ref (ad (23 + i)), .ref (ad 1), iv (x)] none (wd cd ad (uA (u2 (u2 (u2 S (23 + i) 0 0) (23 + i) 1 0) (23 + i) 2 x) (28 + i) 8 (surH S)) f0) := by
  refine g_of (by decide) (Nat.le_of_ble_eq_true rfl) ?_
  intro p e s m args below meth c A sz hA hsz C hr hl hnm
  have C : gC p s m args c D CL (TY cd) A c_X_becomeHeat "AlloyPlans$Mix" 4 := C
  change gW _ _ _ _ _ _ _ _ _ _ _ _ _ _ _ _ _ _ _ 0 [(0, .ref (ad (23 + i))), (1, .ref (ad 1)), (2, iv (x))] []
  obtain ⟨u1, v1⟩ := h1
  refine g_aload_n C d_X_becomeHeat_0 1 rfl rfl 0 rfl ?_
  refine g_iconst C d_X_becomeHeat_1 2 rfl ?_
  refine pt_X_cents C G (z := 0) d_X_becomeHeat_2 5 rfl i (by omega) fl_X_15 ?_
  refine g_aload_n C d_X_becomeHeat_5 6 rfl rfl 0 rfl ?_
  refine g_iconst C d_X_becomeHeat_6 7 rfl ?_
  refine pt_X_kinds C G (z := 0) d_X_becomeHeat_7 10 rfl i (by omega) fl_X_19 ?_
  refine g_aload_n C d_X_becomeHeat_10 11 rfl rfl 0 rfl ?_
  refine g_iload_n C d_X_becomeHeat_11 12 rfl rfl 2 rfl ?_
  refine pt_X_heatLeft C G (z := x) d_X_becomeHeat_12 15 rfl i (by omega) fl_X_22 ?_
  refine g_iconst C d_X_becomeHeat_15 16 rfl ?_
  refine g_istore_n C d_X_becomeHeat_16 17 rfl [(3, iv (0)), (0, .ref (ad (23 + i))), (1, .ref (ad 1)), (2, iv (x))] rfl (by decide) rfl ?_
  have LP : ∀ (d n : Nat) (T : Nat → Nat → Int), n + d = 8 → T = uA (u2 (u2 (u2 S (23 + i) 0 0) (23 + i) 1 0) (23 + i) 2 x) (28 + i) n (surH S) → gW p l e rm_X_becomeHeat s m args below meth c D CL A 4 (MQ below (gQ D CL L sz (fun r L' g => r = none ∧ L' = L ∧ g = (wd cd ad (uA (u2 (u2 (u2 S (23 + i) 0 0) (23 + i) 1 0) (23 + i) 2 x) (28 + i) 8 (surH S)) f0))) args s rm_X_becomeHeat.cells rm_X_becomeHeat.slots (gA L sz)) 0 0 L (wd cd ad T f0) 17 [(3, iv ((n : Int))), (0, .ref (ad (23 + i))), (1, .ref (ad 1)), (2, iv (x))] [] := by
    intro d
    induction d with
    | zero =>
      intro n T hn hT
      refine g_iload_n C d_X_becomeHeat_17 18 rfl rfl 0 rfl ?_
      refine g_aload_n C d_X_becomeHeat_18 19 rfl rfl 1 rfl ?_
      refine gt_X_surplus C G d_X_becomeHeat_19 22 rfl i (by omega) fl_X_9 ?_
      refine ln_28 C G d_X_becomeHeat_22 23 rfl i (by omega) ?_
      refine g_icmp_ge C d_X_becomeHeat_23 26 rfl (show r32 ((n : Int)) from ⟨by omega, by omega⟩) (show r32 8 from ⟨by decide, by decide⟩) 43 rfl (fun (w1 : 8 ≤ (n : Int)) => ?_) (fun (w1 : ¬ 8 ≤ (n : Int)) => absurd w1 (by omega))
      exact g_vret C hA hsz hr hl d_X_becomeHeat_43 (by decide) (by decide) ⟨rfl, rfl, by rw [hT, show n = 8 by omega]⟩
    | succ d ih =>
      intro n T hn hT
      have e1 : T 1 0 = S 1 0 := by rw [hT, uA_ne (by omega), u2_ne (by omega), u2_ne (by omega), u2_ne (by omega)]
      have e2 : T 2 n = S 2 n := by rw [hT, uA_ne (by omega), u2_ne (by omega), u2_ne (by omega), u2_ne (by omega)]
      have e3 : T 3 n = S 3 n := by rw [hT, uA_ne (by omega), u2_ne (by omega), u2_ne (by omega), u2_ne (by omega)]
      obtain ⟨u2, v2⟩ := h2 n (by omega)
      obtain ⟨u3, v3⟩ := h3 n (by omega)
      refine g_iload_n C d_X_becomeHeat_17 18 rfl rfl 0 rfl ?_
      refine g_aload_n C d_X_becomeHeat_18 19 rfl rfl 1 rfl ?_
      refine gt_X_surplus C G d_X_becomeHeat_19 22 rfl i (by omega) fl_X_9 ?_
      refine ln_28 C G d_X_becomeHeat_22 23 rfl i (by omega) ?_
      refine g_icmp_ge C d_X_becomeHeat_23 26 rfl (show r32 ((n : Int)) from ⟨by omega, by omega⟩) (show r32 8 from ⟨by decide, by decide⟩) 43 rfl (fun (w2 : 8 ≤ (n : Int)) => absurd w2 (by omega)) (fun (w2 : ¬ 8 ≤ (n : Int)) => ?_)
      refine g_aload_n C d_X_becomeHeat_26 27 rfl rfl 1 rfl ?_
      refine gt_X_surplus C G d_X_becomeHeat_27 30 rfl i (by omega) fl_X_9 ?_
      refine g_iload_n C d_X_becomeHeat_30 31 rfl rfl 0 rfl ?_
      refine g_aload_n C d_X_becomeHeat_31 32 rfl rfl 2 rfl ?_
      refine g_iload_n C d_X_becomeHeat_32 33 rfl rfl 0 rfl ?_
      refine fcV1 C (rest := [iv ((n : Int)), .ref (ad (28 + i))]) d_X_becomeHeat_33 36 rfl (t_E_surplusOfHeat G (S := T) n (by omega) (show r32 (T 1 0) from ⟨by omega, by omega⟩) (show r32 (T 2 n) from ⟨by omega, by omega⟩) (show r32 (T 3 n) from ⟨by omega, by omega⟩)) rfl (G.1 1 (by decide)) (at_E G) ⟨ml_X_25, im_E_surplusOfHeat, se_E_surplusOfHeat, ci_E⟩ w_E_surplusOfHeat rfl 1 gy_E_surplusOfHeat rfl 0 rfl 0 rfl rfl rfl (Nat.le_of_ble_eq_true rfl) ?_
      refine st_28 C G (x := surH T n) d_X_becomeHeat_36 37 rfl i (by omega) n (by omega) rfl ?_
      refine g_iinc C d_X_becomeHeat_37 40 rfl [(3, iv ((n : Int) + 1)), (0, .ref (ad (23 + i))), (1, .ref (ad 1)), (2, iv (x))] 0 rfl (by decide) rfl ?_
      refine g_goto C d_X_becomeHeat_40 17 rfl ?_
      refine ih (n + 1) _ (by omega) ?_
      rw [← uA_s, ← hT]
      simp only [surH, heldH, e1, e2, e3]
  exact LP 8 0 _ rfl (uA_0 _ _ _).symm
abbrev rm_X_takeStep : Room := { frames := 1, cells := 0, slots := 0, locals := 20 }
set_option maxHeartbeats 4000000 in
set_option maxRecDepth 100000 in
theorem t_X_takeStep (G : LO ad L) (i j : Nat) (x : Int) (hi : i < 5) (hj : j < 4) (hx : r32 x) : FM l y_X_takeStep c_X_takeStep 4 none rm_X_takeStep D cd L (wd cd ad S f0) [.ref (ad (23 + i)), .ref (ad (11 + j)), iv (x)] none (wd cd ad (uA (u2 (u2 (u2 S (23 + i) 0 (S (23 + i) 0 + S (11 + j) 0)) (23 + i) 1 (S (23 + i) 1 + (if x = 0 then 0 else 1))) (23 + i) 2 (S (23 + i) 2 - S (11 + j) 1 * S (11 + j) 4)) (28 + i) 8 (fun n => S (28 + i) n + S (19 + j) n)) f0) := by
  refine g_of (by decide) (Nat.le_of_ble_eq_true rfl) ?_
  intro p e s m args below meth c A sz hA hsz C hr hl hnm
  have C : gC p s m args c D CL (TY cd) A c_X_takeStep "AlloyPlans$Mix" 4 := C
  change gW _ _ _ _ _ _ _ _ _ _ _ _ _ _ _ _ _ _ _ 0 [(0, .ref (ad (23 + i))), (1, .ref (ad (11 + j))), (2, iv (x))] []
  obtain ⟨u0, v0⟩ := hx
  refine g_aload_n C d_X_takeStep_0 1 rfl rfl 0 rfl ?_
  refine g_dup C d_X_takeStep_1 2 rfl rfl ?_
  refine gt_X_cents C G d_X_takeStep_2 5 rfl i (by omega) fl_X_15 ?_
  refine g_aload_n C d_X_takeStep_5 6 rfl rfl 1 rfl ?_
  refine gt_A_cents C G d_X_takeStep_6 9 rfl j (by omega) fl_X_37 ?_
  refine g_iadd C d_X_takeStep_9 10 rfl ?_
  refine pt_X_cents C G (z := (S (23 + i) 0) + (S (11 + j) 0)) d_X_takeStep_10 13 rfl i (by omega) fl_X_15 ?_
  refine g_aload_n C d_X_takeStep_13 14 rfl rfl 0 rfl ?_
  refine g_dup C d_X_takeStep_14 15 rfl rfl ?_
  refine gt_X_kinds C G d_X_takeStep_15 18 rfl i (by omega) fl_X_19 ?_
  have J27 : ∀ zj : Int, zj = (if x = 0 then 0 else 1) → gW p l e rm_X_takeStep s m args below meth c D CL A 4 (MQ below (gQ D CL L sz (fun r L' g => r = none ∧ L' = L ∧ g = (wd cd ad (uA (u2 (u2 (u2 S (23 + i) 0 (S (23 + i) 0 + S (11 + j) 0)) (23 + i) 1 (S (23 + i) 1 + (if x = 0 then 0 else 1))) (23 + i) 2 (S (23 + i) 2 - S (11 + j) 1 * S (11 + j) 4)) (28 + i) 8 (fun n => S (28 + i) n + S (19 + j) n)) f0))) args s rm_X_takeStep.cells rm_X_takeStep.slots (gA L sz)) 0 0 L (wd cd ad (u2 S (23 + i) 0 ((S (23 + i) 0) + (S (11 + j) 0))) f0) 27 [(0, .ref (ad (23 + i))), (1, .ref (ad (11 + j))), (2, iv (x))] [iv zj, iv ((u2 S (23 + i) 0 ((S (23 + i) 0) + (S (11 + j) 0))) (23 + i) 1), .ref (ad (23 + i))] := by
    intro zj hzj
    subst hzj
    refine g_iadd C d_X_takeStep_27 28 rfl ?_
    refine pt_X_kinds C G (z := ((u2 S (23 + i) 0 ((S (23 + i) 0) + (S (11 + j) 0))) (23 + i) 1) + (if x = 0 then 0 else 1)) d_X_takeStep_28 31 rfl i (by omega) fl_X_19 ?_
    refine g_aload_n C d_X_takeStep_31 32 rfl rfl 0 rfl ?_
    refine g_dup C d_X_takeStep_32 33 rfl rfl ?_
    refine gt_X_heatLeft C G d_X_takeStep_33 36 rfl i (by omega) fl_X_22 ?_
    refine g_aload_n C d_X_takeStep_36 37 rfl rfl 1 rfl ?_
    refine fcV1 C (rest := [iv ((u2 (u2 S (23 + i) 0 ((S (23 + i) 0) + (S (11 + j) 0))) (23 + i) 1 (((u2 S (23 + i) 0 ((S (23 + i) 0) + (S (11 + j) 0))) (23 + i) 1) + (if x = 0 then 0 else 1))) (23 + i) 2), .ref (ad (23 + i))]) d_X_takeStep_37 40 rfl (t_A_coolingOfStep G (S := (u2 (u2 S (23 + i) 0 ((S (23 + i) 0) + (S (11 + j) 0))) (23 + i) 1 (((u2 S (23 + i) 0 ((S (23 + i) 0) + (S (11 + j) 0))) (23 + i) 1) + (if x = 0 then 0 else 1)))) j (by omega)) rfl (G.1 (11 + j) (by omega)) (at_A G j (by omega)) ⟨ml_X_40, im_A_coolingOfStep, se_A_coolingOfStep, ci_A⟩ w_A_coolingOfStep rfl 0 gy_A_coolingOfStep rfl 0 rfl 0 rfl rfl rfl (Nat.le_of_ble_eq_true rfl) ?_
    refine g_isub C d_X_takeStep_40 41 rfl ?_
    refine pt_X_heatLeft C G (z := ((u2 (u2 S (23 + i) 0 ((S (23 + i) 0) + (S (11 + j) 0))) (23 + i) 1 (((u2 S (23 + i) 0 ((S (23 + i) 0) + (S (11 + j) 0))) (23 + i) 1) + (if x = 0 then 0 else 1))) (23 + i) 2) - (((u2 (u2 S (23 + i) 0 ((S (23 + i) 0) + (S (11 + j) 0))) (23 + i) 1 (((u2 S (23 + i) 0 ((S (23 + i) 0) + (S (11 + j) 0))) (23 + i) 1) + (if x = 0 then 0 else 1))) (11 + j) 1) * ((u2 (u2 S (23 + i) 0 ((S (23 + i) 0) + (S (11 + j) 0))) (23 + i) 1 (((u2 S (23 + i) 0 ((S (23 + i) 0) + (S (11 + j) 0))) (23 + i) 1) + (if x = 0 then 0 else 1))) (11 + j) 4))) d_X_takeStep_41 44 rfl i (by omega) fl_X_22 ?_
    refine g_iconst C d_X_takeStep_44 45 rfl ?_
    refine g_istore_n C d_X_takeStep_45 46 rfl [(3, iv (0)), (0, .ref (ad (23 + i))), (1, .ref (ad (11 + j))), (2, iv (x))] rfl (by decide) rfl ?_
    have hS3 : (u2 (u2 (u2 S (23 + i) 0 ((S (23 + i) 0) + (S (11 + j) 0))) (23 + i) 1 (((u2 S (23 + i) 0 ((S (23 + i) 0) + (S (11 + j) 0))) (23 + i) 1) + (if x = 0 then 0 else 1))) (23 + i) 2 (((u2 (u2 S (23 + i) 0 ((S (23 + i) 0) + (S (11 + j) 0))) (23 + i) 1 (((u2 S (23 + i) 0 ((S (23 + i) 0) + (S (11 + j) 0))) (23 + i) 1) + (if x = 0 then 0 else 1))) (23 + i) 2) - (((u2 (u2 S (23 + i) 0 ((S (23 + i) 0) + (S (11 + j) 0))) (23 + i) 1 (((u2 S (23 + i) 0 ((S (23 + i) 0) + (S (11 + j) 0))) (23 + i) 1) + (if x = 0 then 0 else 1))) (11 + j) 1) * ((u2 (u2 S (23 + i) 0 ((S (23 + i) 0) + (S (11 + j) 0))) (23 + i) 1 (((u2 S (23 + i) 0 ((S (23 + i) 0) + (S (11 + j) 0))) (23 + i) 1) + (if x = 0 then 0 else 1))) (11 + j) 4)))) = (u2 (u2 (u2 S (23 + i) 0 (S (23 + i) 0 + S (11 + j) 0)) (23 + i) 1 (S (23 + i) 1 + (if x = 0 then 0 else 1))) (23 + i) 2 (S (23 + i) 2 - S (11 + j) 1 * S (11 + j) 4)) := by
      simp only [u2_j (show (1 : Nat) ≠ 0 by decide), u2_j (show (2 : Nat) ≠ 0 by decide), u2_j (show (2 : Nat) ≠ 1 by decide), u2_ne (show 11 + j ≠ 23 + i by omega)]
    have LP : ∀ (d n : Nat) (T : Nat → Nat → Int), n + d = 8 → T = uA (u2 (u2 (u2 S (23 + i) 0 (S (23 + i) 0 + S (11 + j) 0)) (23 + i) 1 (S (23 + i) 1 + (if x = 0 then 0 else 1))) (23 + i) 2 (S (23 + i) 2 - S (11 + j) 1 * S (11 + j) 4)) (28 + i) n (fun n => S (28 + i) n + S (19 + j) n) → gW p l e rm_X_takeStep s m args below meth c D CL A 4 (MQ below (gQ D CL L sz (fun r L' g => r = none ∧ L' = L ∧ g = (wd cd ad (uA (u2 (u2 (u2 S (23 + i) 0 (S (23 + i) 0 + S (11 + j) 0)) (23 + i) 1 (S (23 + i) 1 + (if x = 0 then 0 else 1))) (23 + i) 2 (S (23 + i) 2 - S (11 + j) 1 * S (11 + j) 4)) (28 + i) 8 (fun n => S (28 + i) n + S (19 + j) n)) f0))) args s rm_X_takeStep.cells rm_X_takeStep.slots (gA L sz)) 0 0 L (wd cd ad T f0) 46 [(3, iv ((n : Int))), (0, .ref (ad (23 + i))), (1, .ref (ad (11 + j))), (2, iv (x))] [] := by
      intro d
      induction d with
      | zero =>
        intro n T hn hT
        refine g_iload_n C d_X_takeStep_46 47 rfl rfl 0 rfl ?_
        refine g_aload_n C d_X_takeStep_47 48 rfl rfl 1 rfl ?_
        refine gt_X_surplus C G d_X_takeStep_48 51 rfl i (by omega) fl_X_9 ?_
        refine ln_28 C G d_X_takeStep_51 52 rfl i (by omega) ?_
        refine g_icmp_ge C d_X_takeStep_52 55 rfl (show r32 ((n : Int)) from ⟨by omega, by omega⟩) (show r32 8 from ⟨by decide, by decide⟩) 76 rfl (fun (w1 : 8 ≤ (n : Int)) => ?_) (fun (w1 : ¬ 8 ≤ (n : Int)) => absurd w1 (by omega))
        exact g_vret C hA hsz hr hl d_X_takeStep_76 (by decide) (by decide) ⟨rfl, rfl, by rw [hT, show n = 8 by omega]⟩
      | succ d ih =>
        intro n T hn hT
        have e1 : T (19 + j) n = S (19 + j) n := by rw [hT, uA_ne (by omega), u2_ne (by omega), u2_ne (by omega), u2_ne (by omega)]
        have e2 : T (28 + i) n = S (28 + i) n := by rw [hT, uA_ge (Nat.le_refl n), u2_ne (by omega), u2_ne (by omega), u2_ne (by omega)]
        refine g_iload_n C d_X_takeStep_46 47 rfl rfl 0 rfl ?_
        refine g_aload_n C d_X_takeStep_47 48 rfl rfl 1 rfl ?_
        refine gt_X_surplus C G d_X_takeStep_48 51 rfl i (by omega) fl_X_9 ?_
        refine ln_28 C G d_X_takeStep_51 52 rfl i (by omega) ?_
        refine g_icmp_ge C d_X_takeStep_52 55 rfl (show r32 ((n : Int)) from ⟨by omega, by omega⟩) (show r32 8 from ⟨by decide, by decide⟩) 76 rfl (fun (w2 : 8 ≤ (n : Int)) => absurd w2 (by omega)) (fun (w2 : ¬ 8 ≤ (n : Int)) => ?_)
        refine g_aload_n C d_X_takeStep_55 56 rfl rfl 1 rfl ?_
        refine gt_X_surplus C G d_X_takeStep_56 59 rfl i (by omega) fl_X_9 ?_
        refine g_iload_n C d_X_takeStep_59 60 rfl rfl 0 rfl ?_
        refine g_dup2_11 C d_X_takeStep_60 61 rfl rfl rfl ?_
        refine ld_28 C G d_X_takeStep_61 62 rfl i (by omega) n (by omega) rfl ?_
        refine g_aload_n C d_X_takeStep_62 63 rfl rfl 2 rfl ?_
        refine gt_A_gains C G d_X_takeStep_63 66 rfl j (by omega) fl_X_44 ?_
        refine g_iload_n C d_X_takeStep_66 67 rfl rfl 0 rfl ?_
        refine ld_19 C G d_X_takeStep_67 68 rfl j (by omega) n (by omega) rfl ?_
        refine g_ladd C d_X_takeStep_68 69 rfl ?_
        refine st_28 C G (x := (T (28 + i) n) + (T (19 + j) n)) d_X_takeStep_69 70 rfl i (by omega) n (by omega) rfl ?_
        refine g_iinc C d_X_takeStep_70 73 rfl [(3, iv ((n : Int) + 1)), (0, .ref (ad (23 + i))), (1, .ref (ad (11 + j))), (2, iv (x))] 0 rfl (by decide) rfl ?_
        refine g_goto C d_X_takeStep_73 46 rfl ?_
        refine ih (n + 1) _ (by omega) ?_
        rw [← uA_s, ← hT]
        simp only [e1, e2]
    exact LP 8 0 _ rfl (hS3.trans (uA_0 _ _ _).symm)
  refine g_iload_n C d_X_takeStep_18 19 rfl rfl 2 rfl ?_
  refine g_if_eq C d_X_takeStep_19 22 rfl (show r32 x from ⟨by omega, by omega⟩) 26 rfl (fun (w3 : x = 0) => ?_) (fun (w4 : ¬ x = 0) => ?_)
  · skip
    refine g_iconst C d_X_takeStep_26 27 rfl ?_
    exact J27 0 (by first | rw [if_pos (by omega)] | rw [if_neg (by omega)])
  · skip
    refine g_iconst C d_X_takeStep_22 23 rfl ?_
    refine g_goto C d_X_takeStep_23 27 rfl ?_
    exact J27 1 (by first | rw [if_pos (by omega)] | rw [if_neg (by omega)])
abbrev rm_X_becomeLike : Room := { frames := 1, cells := 0, slots := 0, locals := 40 }
set_option maxHeartbeats 4000000 in
set_option maxRecDepth 100000 in
theorem t_X_becomeLike (G : LO ad L) (i j : Nat) (hi : i < 5) (hj : j < 5) (hij : i ≠ j) : FM l y_X_becomeLike c_X_becomeLike 2 none rm_X_becomeLike D cd L (wd cd ad S f0) [.ref (ad (23 + i)), .ref (ad (23 + j))] none (wd cd ad (uA (u2 (u2 (u2 S (23 + i) 0 (S (23 + j) 0)) (23 + i) 1 (S (23 + j) 1)) (23 + i) 2 (S (23 + j) 2)) (28 + i) 8 (S (28 + j))) f0) := by
  refine g_of (by decide) (Nat.le_of_ble_eq_true rfl) ?_
  intro p e s m args below meth c A sz hA hsz C hr hl hnm
  have C : gC p s m args c D CL (TY cd) A c_X_becomeLike "AlloyPlans$Mix" 2 := C
  change gW _ _ _ _ _ _ _ _ _ _ _ _ _ _ _ _ _ _ _ 0 [(0, .ref (ad (23 + i))), (1, .ref (ad (23 + j)))] []
  refine g_aload_n C d_X_becomeLike_0 1 rfl rfl 0 rfl ?_
  refine g_aload_n C d_X_becomeLike_1 2 rfl rfl 1 rfl ?_
  refine gt_X_cents C G d_X_becomeLike_2 5 rfl j (by omega) fl_X_15 ?_
  refine pt_X_cents C G (z := S (23 + j) 0) d_X_becomeLike_5 8 rfl i (by omega) fl_X_15 ?_
  refine g_aload_n C d_X_becomeLike_8 9 rfl rfl 0 rfl ?_
  refine g_aload_n C d_X_becomeLike_9 10 rfl rfl 1 rfl ?_
  refine gt_X_kinds C G d_X_becomeLike_10 13 rfl j (by omega) fl_X_19 ?_
  refine pt_X_kinds C G (z := (u2 S (23 + i) 0 (S (23 + j) 0)) (23 + j) 1) d_X_becomeLike_13 16 rfl i (by omega) fl_X_19 ?_
  refine g_aload_n C d_X_becomeLike_16 17 rfl rfl 0 rfl ?_
  refine g_aload_n C d_X_becomeLike_17 18 rfl rfl 1 rfl ?_
  refine gt_X_heatLeft C G d_X_becomeLike_18 21 rfl j (by omega) fl_X_22 ?_
  refine pt_X_heatLeft C G (z := (u2 (u2 S (23 + i) 0 (S (23 + j) 0)) (23 + i) 1 ((u2 S (23 + i) 0 (S (23 + j) 0)) (23 + j) 1)) (23 + j) 2) d_X_becomeLike_21 24 rfl i (by omega) fl_X_22 ?_
  refine g_aload_n C d_X_becomeLike_24 25 rfl rfl 1 rfl ?_
  refine gt_X_surplus C G d_X_becomeLike_25 28 rfl j (by omega) fl_X_9 ?_
  refine g_iconst C d_X_becomeLike_28 29 rfl ?_
  refine g_aload_n C d_X_becomeLike_29 30 rfl rfl 0 rfl ?_
  refine gt_X_surplus C G d_X_becomeLike_30 33 rfl i (by omega) fl_X_9 ?_
  refine g_iconst C d_X_becomeLike_33 34 rfl ?_
  refine g_aload_n C d_X_becomeLike_34 35 rfl rfl 0 rfl ?_
  refine gt_X_surplus C G d_X_becomeLike_35 38 rfl i (by omega) fl_X_9 ?_
  refine ln_28 C G d_X_becomeLike_38 39 rfl i (by omega) ?_
  refine cp_28 C G d_X_becomeLike_39 42 rfl ⟨ml_X_31, wA_native, wA_static, ci_System⟩ i j (by omega) (by omega) (by decide) (by decide +kernel) ?_
  exact g_vret C hA hsz hr hl d_X_becomeLike_42 (by decide) (by decide) ⟨rfl, rfl, by simp only [u2_ne (show 23 + j ≠ 23 + i by omega), u2_ne (show 28 + j ≠ 23 + i by omega)]⟩
abbrev rm_X_countMet : Room := { frames := 0, cells := 0, slots := 0, locals := 0 }
set_option maxHeartbeats 4000000 in
set_option maxRecDepth 100000 in
theorem t_X_countMet (G : LO ad L) (i : Nat) (hi : i < 5) (hs : ∀ j, j < 8 → r64 (S (28 + i) j)) : FM l y_X_countMet c_X_countMet 2 (some .int) rm_X_countMet D cd L (wd cd ad S f0) [.ref (ad (23 + i))] (some (iv (cmet (S (28 + i))))) (wd cd ad S f0) := by
  refine g_of (by decide) (Nat.le_of_ble_eq_true rfl) ?_
  intro p e s m args below meth c A sz hA hsz C hr hl hnm
  have C : gC p s m args c D CL (TY cd) A c_X_countMet "AlloyPlans$Mix" 2 := C
  change gW _ _ _ _ _ _ _ _ _ _ _ _ _ _ _ _ _ _ _ 0 [(0, .ref (ad (23 + i)))] []
  obtain ⟨u0, v0⟩ := hs 0 (by decide)
  obtain ⟨u1, v1⟩ := hs 1 (by decide)
  obtain ⟨u2, v2⟩ := hs 2 (by decide)
  obtain ⟨u3, v3⟩ := hs 3 (by decide)
  obtain ⟨u4, v4⟩ := hs 4 (by decide)
  obtain ⟨u5, v5⟩ := hs 5 (by decide)
  obtain ⟨u6, v6⟩ := hs 6 (by decide)
  obtain ⟨u7, v7⟩ := hs 7 (by decide)
  refine g_iconst C d_X_countMet_0 1 rfl ?_
  refine g_istore_n C d_X_countMet_1 2 rfl [(1, iv (0)), (0, .ref (ad (23 + i)))] rfl (by decide) rfl ?_
  refine g_iload_n C d_X_countMet_2 3 rfl rfl 0 rfl ?_
  refine g_aload_n C d_X_countMet_3 4 rfl rfl 1 rfl ?_
  refine gt_X_surplus C G d_X_countMet_4 7 rfl i (by omega) fl_X_9 ?_
  refine ln_28 C G d_X_countMet_7 8 rfl i (by omega) ?_
  refine g_icmp_ge C d_X_countMet_8 11 rfl (show r32 0 from ⟨by decide, by decide⟩) (show r32 8 from ⟨by decide, by decide⟩) 32 rfl (fun (w1 : 8 ≤ (0 : Int)) => absurd w1 (by decide)) (fun (w1 : ¬ 8 ≤ (0 : Int)) => ?_)
  refine g_aload_n C d_X_countMet_11 12 rfl rfl 1 rfl ?_
  refine gt_X_surplus C G d_X_countMet_12 15 rfl i (by omega) fl_X_9 ?_
  refine g_iload_n C d_X_countMet_15 16 rfl rfl 0 rfl ?_
  refine ld_28 C G d_X_countMet_16 17 rfl i (by omega) 0 (by decide) rfl ?_
  refine g_lconst C (z := 0) d_X_countMet_17 18 rfl rfl ?_
  refine g_lcmp_ge C d_X_countMet_18 19 rfl 22 rfl (show r64 (S (28 + i) 0) from ⟨by omega, by omega⟩) (show r64 0 from ⟨by decide, by decide⟩) 26 rfl d_X_countMet_19 (fun (w2 : 0 ≤ S (28 + i) 0) => ?_) (fun (w3 : ¬ 0 ≤ S (28 + i) 0) => ?_)
  · skip
    refine g_iinc C d_X_countMet_26 29 rfl [(1, iv (1)), (0, .ref (ad (23 + i)))] 0 rfl (by decide) rfl ?_
    refine g_goto C d_X_countMet_29 2 rfl ?_
    refine g_iload_n C d_X_countMet_2 3 rfl rfl 0 rfl ?_
    refine g_aload_n C d_X_countMet_3 4 rfl rfl 1 rfl ?_
    refine gt_X_surplus C G d_X_countMet_4 7 rfl i (by omega) fl_X_9 ?_
    refine ln_28 C G d_X_countMet_7 8 rfl i (by omega) ?_
    refine g_icmp_ge C d_X_countMet_8 11 rfl (show r32 1 from ⟨by decide, by decide⟩) (show r32 8 from ⟨by decide, by decide⟩) 32 rfl (fun (w4 : 8 ≤ (1 : Int)) => absurd w4 (by decide)) (fun (w4 : ¬ 8 ≤ (1 : Int)) => ?_)
    refine g_aload_n C d_X_countMet_11 12 rfl rfl 1 rfl ?_
    refine gt_X_surplus C G d_X_countMet_12 15 rfl i (by omega) fl_X_9 ?_
    refine g_iload_n C d_X_countMet_15 16 rfl rfl 0 rfl ?_
    refine ld_28 C G d_X_countMet_16 17 rfl i (by omega) 1 (by decide) rfl ?_
    refine g_lconst C (z := 0) d_X_countMet_17 18 rfl rfl ?_
    refine g_lcmp_ge C d_X_countMet_18 19 rfl 22 rfl (show r64 (S (28 + i) 1) from ⟨by omega, by omega⟩) (show r64 0 from ⟨by decide, by decide⟩) 26 rfl d_X_countMet_19 (fun (w5 : 0 ≤ S (28 + i) 1) => ?_) (fun (w6 : ¬ 0 ≤ S (28 + i) 1) => ?_)
    · skip
      refine g_iinc C d_X_countMet_26 29 rfl [(1, iv (2)), (0, .ref (ad (23 + i)))] 0 rfl (by decide) rfl ?_
      refine g_goto C d_X_countMet_29 2 rfl ?_
      refine g_iload_n C d_X_countMet_2 3 rfl rfl 0 rfl ?_
      refine g_aload_n C d_X_countMet_3 4 rfl rfl 1 rfl ?_
      refine gt_X_surplus C G d_X_countMet_4 7 rfl i (by omega) fl_X_9 ?_
      refine ln_28 C G d_X_countMet_7 8 rfl i (by omega) ?_
      refine g_icmp_ge C d_X_countMet_8 11 rfl (show r32 2 from ⟨by decide, by decide⟩) (show r32 8 from ⟨by decide, by decide⟩) 32 rfl (fun (w7 : 8 ≤ (2 : Int)) => absurd w7 (by decide)) (fun (w7 : ¬ 8 ≤ (2 : Int)) => ?_)
      refine g_aload_n C d_X_countMet_11 12 rfl rfl 1 rfl ?_
      refine gt_X_surplus C G d_X_countMet_12 15 rfl i (by omega) fl_X_9 ?_
      refine g_iload_n C d_X_countMet_15 16 rfl rfl 0 rfl ?_
      refine ld_28 C G d_X_countMet_16 17 rfl i (by omega) 2 (by decide) rfl ?_
      refine g_lconst C (z := 0) d_X_countMet_17 18 rfl rfl ?_
      refine g_lcmp_ge C d_X_countMet_18 19 rfl 22 rfl (show r64 (S (28 + i) 2) from ⟨by omega, by omega⟩) (show r64 0 from ⟨by decide, by decide⟩) 26 rfl d_X_countMet_19 (fun (w8 : 0 ≤ S (28 + i) 2) => ?_) (fun (w9 : ¬ 0 ≤ S (28 + i) 2) => ?_)
      · skip
        refine g_iinc C d_X_countMet_26 29 rfl [(1, iv (3)), (0, .ref (ad (23 + i)))] 0 rfl (by decide) rfl ?_
        refine g_goto C d_X_countMet_29 2 rfl ?_
        refine g_iload_n C d_X_countMet_2 3 rfl rfl 0 rfl ?_
        refine g_aload_n C d_X_countMet_3 4 rfl rfl 1 rfl ?_
        refine gt_X_surplus C G d_X_countMet_4 7 rfl i (by omega) fl_X_9 ?_
        refine ln_28 C G d_X_countMet_7 8 rfl i (by omega) ?_
        refine g_icmp_ge C d_X_countMet_8 11 rfl (show r32 3 from ⟨by decide, by decide⟩) (show r32 8 from ⟨by decide, by decide⟩) 32 rfl (fun (w10 : 8 ≤ (3 : Int)) => absurd w10 (by decide)) (fun (w10 : ¬ 8 ≤ (3 : Int)) => ?_)
        refine g_aload_n C d_X_countMet_11 12 rfl rfl 1 rfl ?_
        refine gt_X_surplus C G d_X_countMet_12 15 rfl i (by omega) fl_X_9 ?_
        refine g_iload_n C d_X_countMet_15 16 rfl rfl 0 rfl ?_
        refine ld_28 C G d_X_countMet_16 17 rfl i (by omega) 3 (by decide) rfl ?_
        refine g_lconst C (z := 0) d_X_countMet_17 18 rfl rfl ?_
        refine g_lcmp_ge C d_X_countMet_18 19 rfl 22 rfl (show r64 (S (28 + i) 3) from ⟨by omega, by omega⟩) (show r64 0 from ⟨by decide, by decide⟩) 26 rfl d_X_countMet_19 (fun (w11 : 0 ≤ S (28 + i) 3) => ?_) (fun (w12 : ¬ 0 ≤ S (28 + i) 3) => ?_)
        · skip
          refine g_iinc C d_X_countMet_26 29 rfl [(1, iv (4)), (0, .ref (ad (23 + i)))] 0 rfl (by decide) rfl ?_
          refine g_goto C d_X_countMet_29 2 rfl ?_
          refine g_iload_n C d_X_countMet_2 3 rfl rfl 0 rfl ?_
          refine g_aload_n C d_X_countMet_3 4 rfl rfl 1 rfl ?_
          refine gt_X_surplus C G d_X_countMet_4 7 rfl i (by omega) fl_X_9 ?_
          refine ln_28 C G d_X_countMet_7 8 rfl i (by omega) ?_
          refine g_icmp_ge C d_X_countMet_8 11 rfl (show r32 4 from ⟨by decide, by decide⟩) (show r32 8 from ⟨by decide, by decide⟩) 32 rfl (fun (w13 : 8 ≤ (4 : Int)) => absurd w13 (by decide)) (fun (w13 : ¬ 8 ≤ (4 : Int)) => ?_)
          refine g_aload_n C d_X_countMet_11 12 rfl rfl 1 rfl ?_
          refine gt_X_surplus C G d_X_countMet_12 15 rfl i (by omega) fl_X_9 ?_
          refine g_iload_n C d_X_countMet_15 16 rfl rfl 0 rfl ?_
          refine ld_28 C G d_X_countMet_16 17 rfl i (by omega) 4 (by decide) rfl ?_
          refine g_lconst C (z := 0) d_X_countMet_17 18 rfl rfl ?_
          refine g_lcmp_ge C d_X_countMet_18 19 rfl 22 rfl (show r64 (S (28 + i) 4) from ⟨by omega, by omega⟩) (show r64 0 from ⟨by decide, by decide⟩) 26 rfl d_X_countMet_19 (fun (w14 : 0 ≤ S (28 + i) 4) => ?_) (fun (w15 : ¬ 0 ≤ S (28 + i) 4) => ?_)
          · skip
            refine g_iinc C d_X_countMet_26 29 rfl [(1, iv (5)), (0, .ref (ad (23 + i)))] 0 rfl (by decide) rfl ?_
            refine g_goto C d_X_countMet_29 2 rfl ?_
            refine g_iload_n C d_X_countMet_2 3 rfl rfl 0 rfl ?_
            refine g_aload_n C d_X_countMet_3 4 rfl rfl 1 rfl ?_
            refine gt_X_surplus C G d_X_countMet_4 7 rfl i (by omega) fl_X_9 ?_
            refine ln_28 C G d_X_countMet_7 8 rfl i (by omega) ?_
            refine g_icmp_ge C d_X_countMet_8 11 rfl (show r32 5 from ⟨by decide, by decide⟩) (show r32 8 from ⟨by decide, by decide⟩) 32 rfl (fun (w16 : 8 ≤ (5 : Int)) => absurd w16 (by decide)) (fun (w16 : ¬ 8 ≤ (5 : Int)) => ?_)
            refine g_aload_n C d_X_countMet_11 12 rfl rfl 1 rfl ?_
            refine gt_X_surplus C G d_X_countMet_12 15 rfl i (by omega) fl_X_9 ?_
            refine g_iload_n C d_X_countMet_15 16 rfl rfl 0 rfl ?_
            refine ld_28 C G d_X_countMet_16 17 rfl i (by omega) 5 (by decide) rfl ?_
            refine g_lconst C (z := 0) d_X_countMet_17 18 rfl rfl ?_
            refine g_lcmp_ge C d_X_countMet_18 19 rfl 22 rfl (show r64 (S (28 + i) 5) from ⟨by omega, by omega⟩) (show r64 0 from ⟨by decide, by decide⟩) 26 rfl d_X_countMet_19 (fun (w17 : 0 ≤ S (28 + i) 5) => ?_) (fun (w18 : ¬ 0 ≤ S (28 + i) 5) => ?_)
            · skip
              refine g_iinc C d_X_countMet_26 29 rfl [(1, iv (6)), (0, .ref (ad (23 + i)))] 0 rfl (by decide) rfl ?_
              refine g_goto C d_X_countMet_29 2 rfl ?_
              refine g_iload_n C d_X_countMet_2 3 rfl rfl 0 rfl ?_
              refine g_aload_n C d_X_countMet_3 4 rfl rfl 1 rfl ?_
              refine gt_X_surplus C G d_X_countMet_4 7 rfl i (by omega) fl_X_9 ?_
              refine ln_28 C G d_X_countMet_7 8 rfl i (by omega) ?_
              refine g_icmp_ge C d_X_countMet_8 11 rfl (show r32 6 from ⟨by decide, by decide⟩) (show r32 8 from ⟨by decide, by decide⟩) 32 rfl (fun (w19 : 8 ≤ (6 : Int)) => absurd w19 (by decide)) (fun (w19 : ¬ 8 ≤ (6 : Int)) => ?_)
              refine g_aload_n C d_X_countMet_11 12 rfl rfl 1 rfl ?_
              refine gt_X_surplus C G d_X_countMet_12 15 rfl i (by omega) fl_X_9 ?_
              refine g_iload_n C d_X_countMet_15 16 rfl rfl 0 rfl ?_
              refine ld_28 C G d_X_countMet_16 17 rfl i (by omega) 6 (by decide) rfl ?_
              refine g_lconst C (z := 0) d_X_countMet_17 18 rfl rfl ?_
              refine g_lcmp_ge C d_X_countMet_18 19 rfl 22 rfl (show r64 (S (28 + i) 6) from ⟨by omega, by omega⟩) (show r64 0 from ⟨by decide, by decide⟩) 26 rfl d_X_countMet_19 (fun (w20 : 0 ≤ S (28 + i) 6) => ?_) (fun (w21 : ¬ 0 ≤ S (28 + i) 6) => ?_)
              · skip
                refine g_iinc C d_X_countMet_26 29 rfl [(1, iv (7)), (0, .ref (ad (23 + i)))] 0 rfl (by decide) rfl ?_
                refine g_goto C d_X_countMet_29 2 rfl ?_
                refine g_iload_n C d_X_countMet_2 3 rfl rfl 0 rfl ?_
                refine g_aload_n C d_X_countMet_3 4 rfl rfl 1 rfl ?_
                refine gt_X_surplus C G d_X_countMet_4 7 rfl i (by omega) fl_X_9 ?_
                refine ln_28 C G d_X_countMet_7 8 rfl i (by omega) ?_
                refine g_icmp_ge C d_X_countMet_8 11 rfl (show r32 7 from ⟨by decide, by decide⟩) (show r32 8 from ⟨by decide, by decide⟩) 32 rfl (fun (w22 : 8 ≤ (7 : Int)) => absurd w22 (by decide)) (fun (w22 : ¬ 8 ≤ (7 : Int)) => ?_)
                refine g_aload_n C d_X_countMet_11 12 rfl rfl 1 rfl ?_
                refine gt_X_surplus C G d_X_countMet_12 15 rfl i (by omega) fl_X_9 ?_
                refine g_iload_n C d_X_countMet_15 16 rfl rfl 0 rfl ?_
                refine ld_28 C G d_X_countMet_16 17 rfl i (by omega) 7 (by decide) rfl ?_
                refine g_lconst C (z := 0) d_X_countMet_17 18 rfl rfl ?_
                refine g_lcmp_ge C d_X_countMet_18 19 rfl 22 rfl (show r64 (S (28 + i) 7) from ⟨by omega, by omega⟩) (show r64 0 from ⟨by decide, by decide⟩) 26 rfl d_X_countMet_19 (fun (w23 : 0 ≤ S (28 + i) 7) => ?_) (fun (w24 : ¬ 0 ≤ S (28 + i) 7) => ?_)
                · skip
                  refine g_iinc C d_X_countMet_26 29 rfl [(1, iv (8)), (0, .ref (ad (23 + i)))] 0 rfl (by decide) rfl ?_
                  refine g_goto C d_X_countMet_29 2 rfl ?_
                  refine g_iload_n C d_X_countMet_2 3 rfl rfl 0 rfl ?_
                  refine g_aload_n C d_X_countMet_3 4 rfl rfl 1 rfl ?_
                  refine gt_X_surplus C G d_X_countMet_4 7 rfl i (by omega) fl_X_9 ?_
                  refine ln_28 C G d_X_countMet_7 8 rfl i (by omega) ?_
                  refine g_icmp_ge C d_X_countMet_8 11 rfl (show r32 8 from ⟨by decide, by decide⟩) (show r32 8 from ⟨by decide, by decide⟩) 32 rfl (fun (w25 : (8 : Int) ≤ 8) => ?_) (fun (w25 : ¬ (8 : Int) ≤ 8) => absurd w25 (by decide))
                  refine g_iconst C d_X_countMet_32 33 rfl ?_
                  exact g_iret C hA hsz hr hl d_X_countMet_33 (by decide) (by decide) ⟨vi_e (by unfold cmet; rw [if_neg (by omega), if_neg (by omega), if_neg (by omega), if_neg (by omega), if_neg (by omega), if_neg (by omega), if_neg (by omega), if_neg (by omega)]), rfl, rfl⟩
                · skip
                  refine g_iload_n C d_X_countMet_22 23 rfl rfl 0 rfl ?_
                  refine g_iconst C d_X_countMet_23 24 rfl ?_
                  refine g_idiv C d_X_countMet_24 25 rfl (show r32 7 from ⟨by decide, by decide⟩) (show r32 2 from ⟨by decide, by decide⟩) (show 2 ≠ (0 : Int) by decide) ?_
                  exact g_iret C hA hsz hr hl d_X_countMet_25 (by decide) (by decide) ⟨vi_e (by unfold cmet; rw [if_neg (by omega), if_neg (by omega), if_neg (by omega), if_neg (by omega), if_neg (by omega), if_neg (by omega), if_neg (by omega), if_pos (by omega)]; rfl), rfl, rfl⟩
              · skip
                refine g_iload_n C d_X_countMet_22 23 rfl rfl 0 rfl ?_
                refine g_iconst C d_X_countMet_23 24 rfl ?_
                refine g_idiv C d_X_countMet_24 25 rfl (show r32 6 from ⟨by decide, by decide⟩) (show r32 2 from ⟨by decide, by decide⟩) (show 2 ≠ (0 : Int) by decide) ?_
                exact g_iret C hA hsz hr hl d_X_countMet_25 (by decide) (by decide) ⟨vi_e (by unfold cmet; rw [if_neg (by omega), if_neg (by omega), if_neg (by omega), if_neg (by omega), if_neg (by omega), if_neg (by omega), if_pos (by omega)]; rfl), rfl, rfl⟩
            · skip
              refine g_iload_n C d_X_countMet_22 23 rfl rfl 0 rfl ?_
              refine g_iconst C d_X_countMet_23 24 rfl ?_
              refine g_idiv C d_X_countMet_24 25 rfl (show r32 5 from ⟨by decide, by decide⟩) (show r32 2 from ⟨by decide, by decide⟩) (show 2 ≠ (0 : Int) by decide) ?_
              exact g_iret C hA hsz hr hl d_X_countMet_25 (by decide) (by decide) ⟨vi_e (by unfold cmet; rw [if_neg (by omega), if_neg (by omega), if_neg (by omega), if_neg (by omega), if_neg (by omega), if_pos (by omega)]; rfl), rfl, rfl⟩
          · skip
            refine g_iload_n C d_X_countMet_22 23 rfl rfl 0 rfl ?_
            refine g_iconst C d_X_countMet_23 24 rfl ?_
            refine g_idiv C d_X_countMet_24 25 rfl (show r32 4 from ⟨by decide, by decide⟩) (show r32 2 from ⟨by decide, by decide⟩) (show 2 ≠ (0 : Int) by decide) ?_
            exact g_iret C hA hsz hr hl d_X_countMet_25 (by decide) (by decide) ⟨vi_e (by unfold cmet; rw [if_neg (by omega), if_neg (by omega), if_neg (by omega), if_neg (by omega), if_pos (by omega)]; rfl), rfl, rfl⟩
        · skip
          refine g_iload_n C d_X_countMet_22 23 rfl rfl 0 rfl ?_
          refine g_iconst C d_X_countMet_23 24 rfl ?_
          refine g_idiv C d_X_countMet_24 25 rfl (show r32 3 from ⟨by decide, by decide⟩) (show r32 2 from ⟨by decide, by decide⟩) (show 2 ≠ (0 : Int) by decide) ?_
          exact g_iret C hA hsz hr hl d_X_countMet_25 (by decide) (by decide) ⟨vi_e (by unfold cmet; rw [if_neg (by omega), if_neg (by omega), if_neg (by omega), if_pos (by omega)]; rfl), rfl, rfl⟩
      · skip
        refine g_iload_n C d_X_countMet_22 23 rfl rfl 0 rfl ?_
        refine g_iconst C d_X_countMet_23 24 rfl ?_
        refine g_idiv C d_X_countMet_24 25 rfl (show r32 2 from ⟨by decide, by decide⟩) (show r32 2 from ⟨by decide, by decide⟩) (show 2 ≠ (0 : Int) by decide) ?_
        exact g_iret C hA hsz hr hl d_X_countMet_25 (by decide) (by decide) ⟨vi_e (by unfold cmet; rw [if_neg (by omega), if_neg (by omega), if_pos (by omega)]; rfl), rfl, rfl⟩
    · skip
      refine g_iload_n C d_X_countMet_22 23 rfl rfl 0 rfl ?_
      refine g_iconst C d_X_countMet_23 24 rfl ?_
      refine g_idiv C d_X_countMet_24 25 rfl (show r32 1 from ⟨by decide, by decide⟩) (show r32 2 from ⟨by decide, by decide⟩) (show 2 ≠ (0 : Int) by decide) ?_
      exact g_iret C hA hsz hr hl d_X_countMet_25 (by decide) (by decide) ⟨vi_e (by unfold cmet; rw [if_neg (by omega), if_pos (by omega)]; rfl), rfl, rfl⟩
  · skip
    refine g_iload_n C d_X_countMet_22 23 rfl rfl 0 rfl ?_
    refine g_iconst C d_X_countMet_23 24 rfl ?_
    refine g_idiv C d_X_countMet_24 25 rfl (show r32 0 from ⟨by decide, by decide⟩) (show r32 2 from ⟨by decide, by decide⟩) (show 2 ≠ (0 : Int) by decide) ?_
    exact g_iret C hA hsz hr hl d_X_countMet_25 (by decide) (by decide) ⟨vi_e (by unfold cmet; rw [if_pos (by omega)]; rfl), rfl, rfl⟩
abbrev rm_P_isAddedBefore : Room := { frames := 0, cells := 0, slots := 0, locals := 0 }
set_option maxHeartbeats 4000000 in
set_option maxRecDepth 100000 in
theorem t_P_isAddedBefore (G : LO ad L) (i j : Nat) (hi : i < 4) (hj : j < 4) (h1 : 0 ≤ S (11 + i) 4 ∧ S (11 + i) 4 ≤ 1000) (h2 : 0 ≤ S (11 + j) 4 ∧ S (11 + j) 4 ≤ 1000) : FM l y_P_isAddedBefore c_P_isAddedBefore 4 (some .boolean) rm_P_isAddedBefore D cd L (wd cd ad S f0) [.ref (ad 0), iv ((i : Int)), iv ((j : Int))] (some (iv (bi (befA S i j)))) (wd cd ad S f0) := by
  refine g_of (by decide) (Nat.le_of_ble_eq_true rfl) ?_
  intro p e s m args below meth c A sz hA hsz C hr hl hnm
  have C : gC p s m args c D CL (TY cd) A c_P_isAddedBefore "AlloyPlans" 4 := C
  change gW _ _ _ _ _ _ _ _ _ _ _ _ _ _ _ _ _ _ _ 0 [(0, .ref (ad 0)), (1, iv ((i : Int))), (2, iv ((j : Int)))] []
  obtain ⟨u0, v0⟩ := h1
  obtain ⟨u1, v1⟩ := h2
  refine g_aload_n C d_P_isAddedBefore_0 1 rfl rfl 0 rfl ?_
  refine gt_P_alloys C G d_P_isAddedBefore_1 4 rfl fl_P_18 ?_
  refine g_iload_n C d_P_isAddedBefore_4 5 rfl rfl 1 rfl ?_
  refine ld_4 C G d_P_isAddedBefore_5 6 rfl i (by omega) rfl ?_
  refine gt_A_cooling C G d_P_isAddedBefore_6 9 rfl i (by omega) fl_P_107 ?_
  refine g_aload_n C d_P_isAddedBefore_9 10 rfl rfl 0 rfl ?_
  refine gt_P_alloys C G d_P_isAddedBefore_10 13 rfl fl_P_18 ?_
  refine g_iload_n C d_P_isAddedBefore_13 14 rfl rfl 2 rfl ?_
  refine ld_4 C G d_P_isAddedBefore_14 15 rfl j (by omega) rfl ?_
  refine gt_A_cooling C G d_P_isAddedBefore_15 18 rfl j (by omega) fl_P_107 ?_
  refine g_isub C d_P_isAddedBefore_18 19 rfl ?_
  refine g_istore_n C d_P_isAddedBefore_19 20 rfl [(3, iv ((S (11 + i) 4) - (S (11 + j) 4))), (0, .ref (ad 0)), (1, iv ((i : Int))), (2, iv ((j : Int)))] rfl (by decide) rfl ?_
  refine g_iload_n C d_P_isAddedBefore_20 21 rfl rfl 0 rfl ?_
  refine g_if_gt C d_P_isAddedBefore_21 24 rfl (show r32 ((S (11 + i) 4) - (S (11 + j) 4)) from ⟨by omega, by omega⟩) 33 rfl (fun (w1 : 0 < (S (11 + i) 4) - (S (11 + j) 4)) => ?_) (fun (w2 : ¬ 0 < (S (11 + i) 4) - (S (11 + j) 4)) => ?_)
  · skip
    refine g_iconst C d_P_isAddedBefore_33 34 rfl ?_
    refine g_goto C d_P_isAddedBefore_34 38 rfl ?_
    exact g_zret C hA hsz hr hl (Or.inr rfl) d_P_isAddedBefore_38 (by decide) (by decide) ⟨zi_t (by unfold befA; omega), rfl, rfl⟩
  · skip
    refine g_iload_n C d_P_isAddedBefore_24 25 rfl rfl 0 rfl ?_
    refine g_if_ne C d_P_isAddedBefore_25 28 rfl (show r32 ((S (11 + i) 4) - (S (11 + j) 4)) from ⟨by omega, by omega⟩) 37 rfl (fun (w3 : ¬ (S (11 + i) 4) - (S (11 + j) 4) = 0) => ?_) (fun (w4 : (S (11 + i) 4) - (S (11 + j) 4) = 0) => ?_)
    · skip
      refine g_iconst C d_P_isAddedBefore_37 38 rfl ?_
      exact g_zret C hA hsz hr hl (Or.inl rfl) d_P_isAddedBefore_38 (by decide) (by decide) ⟨zi_f (by unfold befA; omega), rfl, rfl⟩
    · skip
      refine g_iload_n C d_P_isAddedBefore_28 29 rfl rfl 2 rfl ?_
      refine g_iload_n C d_P_isAddedBefore_29 30 rfl rfl 3 rfl ?_
      refine g_icmp_ge C d_P_isAddedBefore_30 33 rfl (show r32 ((i : Int)) from ⟨by omega, by omega⟩) (show r32 ((j : Int)) from ⟨by omega, by omega⟩) 37 rfl (fun (w5 : (j : Int) ≤ (i : Int)) => ?_) (fun (w6 : ¬ (j : Int) ≤ (i : Int)) => ?_)
      · skip
        refine g_iconst C d_P_isAddedBefore_37 38 rfl ?_
        exact g_zret C hA hsz hr hl (Or.inl rfl) d_P_isAddedBefore_38 (by decide) (by decide) ⟨zi_f (by unfold befA; omega), rfl, rfl⟩
      · skip
        refine g_iconst C d_P_isAddedBefore_33 34 rfl ?_
        refine g_goto C d_P_isAddedBefore_34 38 rfl ?_
        exact g_zret C hA hsz hr hl (Or.inr rfl) d_P_isAddedBefore_38 (by decide) (by decide) ⟨zi_t (by unfold befA; omega), rfl, rfl⟩
abbrev rm_P_wholeByPlan : Room := { frames := 0, cells := 0, slots := 0, locals := 0 }
set_option maxHeartbeats 4000000 in
set_option maxRecDepth 100000 in
theorem t_P_wholeByPlan (G : LO ad L)  (h1 : 0 ≤ S 1 0 ∧ S 1 0 ≤ 65536) (h2 : 0 ≤ S 5 2 ∧ S 5 2 ≤ 48000) : FM l y_P_wholeByPlan c_P_wholeByPlan 1 (some .long) rm_P_wholeByPlan D cd L (wd cd ad S f0) [.ref (ad 0)] (some (jv (1000 * (S 1 0 + S 5 2)))) (wd cd ad S f0) := by
  refine g_of (by decide) (Nat.le_of_ble_eq_true rfl) ?_
  intro p e s m args below meth c A sz hA hsz C hr hl hnm
  have C : gC p s m args c D CL (TY cd) A c_P_wholeByPlan "AlloyPlans" 1 := C
  change gW _ _ _ _ _ _ _ _ _ _ _ _ _ _ _ _ _ _ _ 0 [(0, .ref (ad 0))] []
  obtain ⟨u0, v0⟩ := h1
  obtain ⟨u1, v1⟩ := h2
  refine g_ldc2 C (z := 1000) d_P_wholeByPlan_0 3 rfl rfl kd_P_195 ?_
  refine g_aload_n C d_P_wholeByPlan_3 4 rfl rfl 0 rfl ?_
  refine gt_P_melt C G d_P_wholeByPlan_4 7 rfl fl_P_12 ?_
  refine gt_E_kilos C G d_P_wholeByPlan_7 10 rfl fl_P_60 ?_
  refine g_aload_n C d_P_wholeByPlan_10 11 rfl rfl 0 rfl ?_
  refine gt_P_plan C G d_P_wholeByPlan_11 14 rfl fl_P_26 ?_
  refine gt_N_kilos C G d_P_wholeByPlan_14 17 rfl fl_P_136 ?_
  refine g_iadd C d_P_wholeByPlan_17 18 rfl ?_
  refine g_i2l C d_P_wholeByPlan_18 19 rfl (show r32 ((S 1 0) + (S 5 2)) from ⟨by omega, by omega⟩) ?_
  refine g_lmul C d_P_wholeByPlan_19 20 rfl ?_
  exact g_lret C hA hsz hr hl d_P_wholeByPlan_20 (by decide) (by decide) ⟨rfl, rfl, rfl⟩
abbrev rm_P_tell_2 : Room := { frames := 1, cells := 0, slots := 0, locals := 20 }
set_option maxHeartbeats 4000000 in
set_option maxRecDepth 100000 in
theorem t_P_tell_2 (G : LO ad L) (k : Nat) (x y : Int) (hk : k < 4) : FM l y_P_tell c_P_tell 5 none rm_P_tell_2 D cd L (wd cd ad S f0) [.ref (ad 0), .ref (ad 2), iv ((k : Int)), iv (x), iv (y)] none (wd cd ad (u2 (u2 (u2 S 2 (2 * k) x) 2 (2 * k + 1) y) 5 0 0) f0) := by
  refine g_of (by decide) (Nat.le_of_ble_eq_true rfl) ?_
  intro p e s m args below meth c A sz hA hsz C hr hl hnm
  have C : gC p s m args c D CL (TY cd) A c_P_tell "AlloyPlans" 5 := C
  change gW _ _ _ _ _ _ _ _ _ _ _ _ _ _ _ _ _ _ _ 0 [(0, .ref (ad 0)), (1, .ref (ad 2)), (2, iv ((k : Int))), (3, iv (x)), (4, iv (y))] []
  refine g_aload_n C d_P_tell_0 1 rfl rfl 1 rfl ?_
  refine g_iconst C d_P_tell_1 2 rfl ?_
  refine g_iload_n C d_P_tell_2 3 rfl rfl 2 rfl ?_
  refine g_imul C d_P_tell_3 4 rfl ?_
  refine g_iload_n C d_P_tell_4 5 rfl rfl 3 rfl ?_
  refine st_2 C G (x := x) d_P_tell_5 6 rfl (2 * k) (by omega) (show 2 * ((k : Int)) = ((2 * k : Nat) : Int) by omega) ?_
  refine g_aload_n C d_P_tell_6 7 rfl rfl 1 rfl ?_
  refine g_iconst C d_P_tell_7 8 rfl ?_
  refine g_iload_n C d_P_tell_8 9 rfl rfl 2 rfl ?_
  refine g_imul C d_P_tell_9 10 rfl ?_
  refine g_iconst C d_P_tell_10 11 rfl ?_
  refine g_iadd C d_P_tell_11 12 rfl ?_
  refine g_iload C d_P_tell_12 14 rfl 4 rfl ?_
  refine st_2 C G (x := y) d_P_tell_14 15 rfl (2 * k + 1) (by omega) (show (2 * ((k : Int))) + 1 = ((2 * k + 1 : Nat) : Int) by omega) ?_
  refine g_aload_n C d_P_tell_15 16 rfl rfl 0 rfl ?_
  refine gt_P_plan C G d_P_tell_16 19 rfl fl_P_26 ?_
  refine fcV0 C (rest := []) d_P_tell_19 22 rfl (t_N_forget G (S := (u2 (u2 S 2 (2 * k) (x)) 2 (2 * k + 1) (y)))) rfl (G.1 5 (by decide)) (at_N G) ⟨ml_P_63, im_N_forget, se_N_forget, ci_N⟩ w_N_forget rfl 0 gy_N_forget rfl 0 rfl 0 rfl rfl rfl (Nat.le_of_ble_eq_true rfl) ?_
  exact g_vret C hA hsz hr hl d_P_tell_22 (by decide) (by decide) ⟨rfl, rfl, rfl⟩
abbrev rm_P_tell_3 : Room := { frames := 1, cells := 0, slots := 0, locals := 20 }
set_option maxHeartbeats 4000000 in
set_option maxRecDepth 100000 in
theorem t_P_tell_3 (G : LO ad L) (k : Nat) (x y : Int) (hk : k < 4) : FM l y_P_tell c_P_tell 5 none rm_P_tell_3 D cd L (wd cd ad S f0) [.ref (ad 0), .ref (ad 3), iv ((k : Int)), iv (x), iv (y)] none (wd cd ad (u2 (u2 (u2 S 3 (2 * k) x) 3 (2 * k + 1) y) 5 0 0) f0) := by
  refine g_of (by decide) (Nat.le_of_ble_eq_true rfl) ?_
  intro p e s m args below meth c A sz hA hsz C hr hl hnm
  have C : gC p s m args c D CL (TY cd) A c_P_tell "AlloyPlans" 5 := C
  change gW _ _ _ _ _ _ _ _ _ _ _ _ _ _ _ _ _ _ _ 0 [(0, .ref (ad 0)), (1, .ref (ad 3)), (2, iv ((k : Int))), (3, iv (x)), (4, iv (y))] []
  refine g_aload_n C d_P_tell_0 1 rfl rfl 1 rfl ?_
  refine g_iconst C d_P_tell_1 2 rfl ?_
  refine g_iload_n C d_P_tell_2 3 rfl rfl 2 rfl ?_
  refine g_imul C d_P_tell_3 4 rfl ?_
  refine g_iload_n C d_P_tell_4 5 rfl rfl 3 rfl ?_
  refine st_3 C G (x := x) d_P_tell_5 6 rfl (2 * k) (by omega) (show 2 * ((k : Int)) = ((2 * k : Nat) : Int) by omega) ?_
  refine g_aload_n C d_P_tell_6 7 rfl rfl 1 rfl ?_
  refine g_iconst C d_P_tell_7 8 rfl ?_
  refine g_iload_n C d_P_tell_8 9 rfl rfl 2 rfl ?_
  refine g_imul C d_P_tell_9 10 rfl ?_
  refine g_iconst C d_P_tell_10 11 rfl ?_
  refine g_iadd C d_P_tell_11 12 rfl ?_
  refine g_iload C d_P_tell_12 14 rfl 4 rfl ?_
  refine st_3 C G (x := y) d_P_tell_14 15 rfl (2 * k + 1) (by omega) (show (2 * ((k : Int))) + 1 = ((2 * k + 1 : Nat) : Int) by omega) ?_
  refine g_aload_n C d_P_tell_15 16 rfl rfl 0 rfl ?_
  refine gt_P_plan C G d_P_tell_16 19 rfl fl_P_26 ?_
  refine fcV0 C (rest := []) d_P_tell_19 22 rfl (t_N_forget G (S := (u2 (u2 S 3 (2 * k) (x)) 3 (2 * k + 1) (y)))) rfl (G.1 5 (by decide)) (at_N G) ⟨ml_P_63, im_N_forget, se_N_forget, ci_N⟩ w_N_forget rfl 0 gy_N_forget rfl 0 rfl 0 rfl rfl rfl (Nat.le_of_ble_eq_true rfl) ?_
  exact g_vret C hA hsz hr hl d_P_tell_22 (by decide) (by decide) ⟨rfl, rfl, rfl⟩
abbrev rm_P_tell_15 : Room := { frames := 1, cells := 0, slots := 0, locals := 20 }
set_option maxHeartbeats 4000000 in
set_option maxRecDepth 100000 in
theorem t_P_tell_15 (G : LO ad L) (i : Nat) (k : Nat) (x y : Int) (hi : i < 4) (hk : k < 4) : FM l y_P_tell c_P_tell 5 none rm_P_tell_15 D cd L (wd cd ad S f0) [.ref (ad 0), .ref (ad (15 + i)), iv ((k : Int)), iv (x), iv (y)] none (wd cd ad (u2 (u2 (u2 S (15 + i) (2 * k) x) (15 + i) (2 * k + 1) y) 5 0 0) f0) := by
  refine g_of (by decide) (Nat.le_of_ble_eq_true rfl) ?_
  intro p e s m args below meth c A sz hA hsz C hr hl hnm
  have C : gC p s m args c D CL (TY cd) A c_P_tell "AlloyPlans" 5 := C
  change gW _ _ _ _ _ _ _ _ _ _ _ _ _ _ _ _ _ _ _ 0 [(0, .ref (ad 0)), (1, .ref (ad (15 + i))), (2, iv ((k : Int))), (3, iv (x)), (4, iv (y))] []
  refine g_aload_n C d_P_tell_0 1 rfl rfl 1 rfl ?_
  refine g_iconst C d_P_tell_1 2 rfl ?_
  refine g_iload_n C d_P_tell_2 3 rfl rfl 2 rfl ?_
  refine g_imul C d_P_tell_3 4 rfl ?_
  refine g_iload_n C d_P_tell_4 5 rfl rfl 3 rfl ?_
  refine st_15 C G (x := x) d_P_tell_5 6 rfl i (by omega) (2 * k) (by omega) (show 2 * ((k : Int)) = ((2 * k : Nat) : Int) by omega) ?_
  refine g_aload_n C d_P_tell_6 7 rfl rfl 1 rfl ?_
  refine g_iconst C d_P_tell_7 8 rfl ?_
  refine g_iload_n C d_P_tell_8 9 rfl rfl 2 rfl ?_
  refine g_imul C d_P_tell_9 10 rfl ?_
  refine g_iconst C d_P_tell_10 11 rfl ?_
  refine g_iadd C d_P_tell_11 12 rfl ?_
  refine g_iload C d_P_tell_12 14 rfl 4 rfl ?_
  refine st_15 C G (x := y) d_P_tell_14 15 rfl i (by omega) (2 * k + 1) (by omega) (show (2 * ((k : Int))) + 1 = ((2 * k + 1 : Nat) : Int) by omega) ?_
  refine g_aload_n C d_P_tell_15 16 rfl rfl 0 rfl ?_
  refine gt_P_plan C G d_P_tell_16 19 rfl fl_P_26 ?_
  refine fcV0 C (rest := []) d_P_tell_19 22 rfl (t_N_forget G (S := (u2 (u2 S (15 + i) (2 * k) (x)) (15 + i) (2 * k + 1) (y)))) rfl (G.1 5 (by decide)) (at_N G) ⟨ml_P_63, im_N_forget, se_N_forget, ci_N⟩ w_N_forget rfl 0 gy_N_forget rfl 0 rfl 0 rfl rfl rfl (Nat.le_of_ble_eq_true rfl) ?_
  exact g_vret C hA hsz hr hl d_P_tell_22 (by decide) (by decide) ⟨rfl, rfl, rfl⟩
end M2
