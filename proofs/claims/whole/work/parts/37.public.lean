section M6
variable {l : Launch} {D : va_G} {cd : Nat → ClassId} {ad : Nat → Nat} {L : List Nat} {f f0 : Nat → va_E} {S : Nat → Nat → Int}
abbrev rm_P_heat : Room := { frames := 7, cells := 1, slots := 6, locals := 102 }
set_option maxHeartbeats 4000000 in
set_option maxRecDepth 100000 in
theorem t_P_heat (hst9 : l.stackTraces = false) (G : LO ad L) (N : Nat) (x : Int) (hI : IC N S) (hN : N ≤ 1000) (hx : r32 x) : FX l y_P_heat c_P_heat 2 none rm_P_heat D cd L (wd cd ad S f0) [.ref (ad 0), iv (x)] (¬ 0 < S 1 1 ∧ 1 ≤ x ∧ x ≤ 65536) none (wd cd ad (u2 (u2 S 1 0 x) 5 0 0) f0) (fun E => (E = xISE ∧ (0 < S 1 1)) ∨ (E = xIAE ∧ (¬ 0 < S 1 1 ∧ ¬ (1 ≤ x ∧ x ≤ 65536)))) := by
  refine gx_of (by decide) (Nat.le_of_ble_eq_true rfl) ?_
  intro p e s m args below meth c A sz hA hsz C hr hl hnt
  have C : gC p s m args c D CL (TY cd) A c_P_heat "AlloyPlans" 2 := C
  change gW _ _ _ _ _ _ _ _ _ _ _ _ _ _ _ _ _ _ _ 0 [(0, .ref (ad 0)), (1, iv (x))] []
  obtain ⟨⟨i0, j0⟩, ⟨i1, j1⟩, ⟨i2, j2⟩, ⟨i3, j3⟩, hpr, ham, i5, ⟨i6, j6⟩, ⟨i7, j7⟩, ⟨i8, j8⟩, ⟨i9, j9⟩, h6, hRS, hRD, hal⟩ := id hI
  have hx1 : -2147483648 ≤ x := hx.1
  have hx2 : x ≤ 2147483647 := hx.2
  refine g_aload_n C d_P_heat_0 1 rfl rfl 0 rfl ?_
  refine gt_P_melt C G d_P_heat_1 4 rfl fl_P_12 ?_
  refine gt_E_additions C G d_P_heat_4 7 rfl fl_P_41 ?_
  refine g_if_le C d_P_heat_7 10 rfl (show r32 (S 1 1) from ⟨by omega, by omega⟩) 20 rfl (fun (w1 : S 1 1 ≤ 0) => ?_) (fun (w2 : ¬ S 1 1 ≤ 0) => ?_)
  · skip
    refine g_iload_n C d_P_heat_20 21 rfl rfl 1 rfl ?_
    refine g_iconst C d_P_heat_21 22 rfl ?_
    refine g_ldc C (z := 65536) d_P_heat_22 24 rfl rfl kc_P_51 ?_
    refine fcS1 C (rest := []) d_P_heat_24 27 rfl (t_P_isWithin x 1 65536 (show r32 x from ⟨by omega, by omega⟩) (show r32 1 from ⟨by decide, by decide⟩) (show r32 65536 from ⟨by decide, by decide⟩)) ⟨ml_P_52, sm_P_isWithin, ci_P⟩ w_P_isWithin rfl 3 gy_P_isWithin rfl 0 rfl 0 rfl rfl rfl (Nat.le_of_ble_eq_true rfl) ?_
    refine fxS0 C hA hsz hnt hl (rest := []) d_P_heat_27 30 rfl (t_P_requireRange hst9 (bi (1 ≤ x ∧ x ≤ 65536)) (bi_r _)) ⟨ml_P_56, sm_P_requireRange, ci_P⟩ w_P_requireRange rfl 1 gy_P_requireRange rfl 1 rfl 6 rfl rfl rfl (Nat.le_of_ble_eq_true rfl) (fun E q => Or.inr ⟨q.2, by have q3 := bi_f q.1; omega⟩) (by decide) (by decide) (fun hk3 => ?_)
    have hk3 : 1 ≤ x ∧ x ≤ 65536 := bi_t hk3
    refine g_aload_n C d_P_heat_30 31 rfl rfl 0 rfl ?_
    refine gt_P_melt C G d_P_heat_31 34 rfl fl_P_12 ?_
    refine g_iload_n C d_P_heat_34 35 rfl rfl 1 rfl ?_
    refine pt_E_kilos C G (z := x) d_P_heat_35 38 rfl fl_P_60 ?_
    refine g_aload_n C d_P_heat_38 39 rfl rfl 0 rfl ?_
    refine gt_P_plan C G d_P_heat_39 42 rfl fl_P_26 ?_
    refine fcV0 C (rest := []) d_P_heat_42 45 rfl (t_N_forget G (S := (u2 S 1 0 (x)))) rfl (G.1 5 (by decide)) (at_N G) ⟨ml_P_63, im_N_forget, se_N_forget, ci_N⟩ w_N_forget rfl 0 gy_N_forget rfl 1 rfl 6 rfl rfl rfl (Nat.le_of_ble_eq_true rfl) ?_
    exact gx_ret (g_vret C hA hsz hr hl d_P_heat_45 (by decide) (by decide) ⟨by omega, rfl, rfl, rfl⟩)
  · skip
    exact gx_throw C hA hsz hnt hl hst9 (cls := xISE) (names := EXN) (by decide +kernel) (by decide +kernel) kl_P_44 ci_IllegalStateException (gN_n_s46 C.2.1.2.1) (hat_48 C.1.2.2.2.2 C.2.1.2.1) hgd_48 d_P_heat_10 d_P_heat_13 d_P_heat_14 d_P_heat_16 d_P_heat_19 (by decide) (by decide) (by decide) (by decide) (by decide) (by decide) (Or.inl ⟨rfl, by omega⟩)
abbrev rm_P_present : Room := { frames := 7, cells := 2, slots := 12, locals := 102 }
set_option maxHeartbeats 4000000 in
set_option maxRecDepth 100000 in
theorem t_P_present (hst9 : l.stackTraces = false) (G : LO ad L) (N : Nat) (x y z : Int) (hI : IC N S) (hN : N ≤ 1000) (hx : r32 x) (hy : r32 y) (hz : r32 z) : FX l y_P_present c_P_present 4 none rm_P_present D cd L (wd cd ad S f0) [.ref (ad 0), iv (x), iv (y), iv (z)] ((0 ≤ x ∧ x ≤ 3) ∧ (0 ≤ y ∧ y ≤ z ∧ z ≤ 100000)) none (wd cd ad (u2 (u2 (u2 S 2 (2 * x.toNat) y) 2 (2 * x.toNat + 1) z) 5 0 0) f0) (fun E => (E = xIOB ∧ (¬ (0 ≤ x ∧ x ≤ 3))) ∨ (E = xIAE ∧ ((0 ≤ x ∧ x ≤ 3) ∧ ¬ (0 ≤ y ∧ y ≤ z ∧ z ≤ 100000)))) := by
  refine gx_of (by decide) (Nat.le_of_ble_eq_true rfl) ?_
  intro p e s m args below meth c A sz hA hsz C hr hl hnt
  have C : gC p s m args c D CL (TY cd) A c_P_present "AlloyPlans" 4 := C
  change gW _ _ _ _ _ _ _ _ _ _ _ _ _ _ _ _ _ _ _ 0 [(0, .ref (ad 0)), (1, iv (x)), (2, iv (y)), (3, iv (z))] []
  obtain ⟨⟨i0, j0⟩, ⟨i1, j1⟩, ⟨i2, j2⟩, ⟨i3, j3⟩, hpr, ham, i5, ⟨i6, j6⟩, ⟨i7, j7⟩, ⟨i8, j8⟩, ⟨i9, j9⟩, h6, hRS, hRD, hal⟩ := id hI
  have hx1 : -2147483648 ≤ x := hx.1
  have hx2 : x ≤ 2147483647 := hx.2
  have hy1 : -2147483648 ≤ y := hy.1
  have hy2 : y ≤ 2147483647 := hy.2
  have hz1 : -2147483648 ≤ z := hz.1
  have hz2 : z ≤ 2147483647 := hz.2
  refine g_iload_n C d_P_present_0 1 rfl rfl 1 rfl ?_
  refine g_iconst C d_P_present_1 2 rfl ?_
  refine g_iconst C d_P_present_2 3 rfl ?_
  refine fcS1 C (rest := []) d_P_present_3 6 rfl (t_P_isWithin x 0 3 (show r32 x from ⟨by omega, by omega⟩) (show r32 0 from ⟨by decide, by decide⟩) (show r32 3 from ⟨by decide, by decide⟩)) ⟨ml_P_52, sm_P_isWithin, ci_P⟩ w_P_isWithin rfl 3 gy_P_isWithin rfl 0 rfl 0 rfl rfl rfl (Nat.le_of_ble_eq_true rfl) ?_
  refine fxS0 C hA hsz hnt hl (rest := []) d_P_present_6 9 rfl (t_P_requireIndex hst9 (bi (0 ≤ x ∧ x ≤ 3)) (bi_r _)) ⟨ml_P_66, sm_P_requireIndex, ci_P⟩ w_P_requireIndex rfl 1 gy_P_requireIndex rfl 1 rfl 6 rfl rfl rfl (Nat.le_of_ble_eq_true rfl) (fun E q => Or.inl ⟨q.2, by have q3 := bi_f q.1; omega⟩) (by decide) (by decide) (fun hk1 => ?_)
  have hk1 : 0 ≤ x ∧ x ≤ 3 := bi_t hk1
  obtain ⟨k, hk⟩ : ∃ k : Nat, x = (k : Int) := ⟨Int.toNat x, by omega⟩
  subst hk
  refine g_iload_n C d_P_present_9 10 rfl rfl 2 rfl ?_
  refine g_iload_n C d_P_present_10 11 rfl rfl 3 rfl ?_
  refine fcS1 C (rest := []) d_P_present_11 14 rfl (t_P_isSpan y z (show r32 y from ⟨by omega, by omega⟩) (show r32 z from ⟨by omega, by omega⟩)) ⟨ml_P_69, sm_P_isSpan, ci_P⟩ w_P_isSpan rfl 2 gy_P_isSpan rfl 1 rfl 6 rfl rfl rfl (Nat.le_of_ble_eq_true rfl) ?_
  refine fxS0 C hA hsz hnt hl (rest := []) d_P_present_14 17 rfl (t_P_requireRange hst9 (bi (0 ≤ y ∧ y ≤ z ∧ z ≤ 100000)) (bi_r _)) ⟨ml_P_56, sm_P_requireRange, ci_P⟩ w_P_requireRange rfl 1 gy_P_requireRange rfl 2 rfl 12 rfl rfl rfl (Nat.le_of_ble_eq_true rfl) (fun E q => Or.inr ⟨q.2, by have q3 := bi_f q.1; omega⟩) (by decide) (by decide) (fun hk2 => ?_)
  have hk2 : 0 ≤ y ∧ y ≤ z ∧ z ≤ 100000 := bi_t hk2
  refine g_aload_n C d_P_present_17 18 rfl rfl 0 rfl ?_
  refine g_aload_n C d_P_present_18 19 rfl rfl 0 rfl ?_
  refine gt_P_melt C G d_P_present_19 22 rfl fl_P_12 ?_
  refine gt_E_presentEnds C G d_P_present_22 25 rfl fl_P_73 ?_
  refine g_iload_n C d_P_present_25 26 rfl rfl 1 rfl ?_
  refine g_iload_n C d_P_present_26 27 rfl rfl 2 rfl ?_
  refine g_iload_n C d_P_present_27 28 rfl rfl 3 rfl ?_
  refine fcV0 C (rest := []) d_P_present_28 31 rfl (t_P_tell_2 G (S := S) k y z (by omega)) rfl (G.1 0 (by decide)) (at_P G) ⟨ml_P_77, im_P_tell, se_P_tell, ci_P⟩ w_P_tell rfl 4 gy_P_tell rfl 2 rfl 12 rfl rfl rfl (Nat.le_of_ble_eq_true rfl) ?_
  exact gx_ret (g_vret C hA hsz hr hl d_P_present_31 (by decide) (by decide) ⟨by omega, rfl, rfl, rfl⟩)
abbrev rm_P_aim : Room := { frames := 7, cells := 2, slots := 12, locals := 102 }
set_option maxHeartbeats 4000000 in
set_option maxRecDepth 100000 in
theorem t_P_aim (hst9 : l.stackTraces = false) (G : LO ad L) (N : Nat) (x y z : Int) (hI : IC N S) (hN : N ≤ 1000) (hx : r32 x) (hy : r32 y) (hz : r32 z) : FX l y_P_aim c_P_aim 4 none rm_P_aim D cd L (wd cd ad S f0) [.ref (ad 0), iv (x), iv (y), iv (z)] ((0 ≤ x ∧ x ≤ 3) ∧ (0 ≤ y ∧ y ≤ z ∧ z ≤ 100000)) none (wd cd ad (u2 (u2 (u2 S 3 (2 * x.toNat) y) 3 (2 * x.toNat + 1) z) 5 0 0) f0) (fun E => (E = xIOB ∧ (¬ (0 ≤ x ∧ x ≤ 3))) ∨ (E = xIAE ∧ ((0 ≤ x ∧ x ≤ 3) ∧ ¬ (0 ≤ y ∧ y ≤ z ∧ z ≤ 100000)))) := by
  refine gx_of (by decide) (Nat.le_of_ble_eq_true rfl) ?_
  intro p e s m args below meth c A sz hA hsz C hr hl hnt
  have C : gC p s m args c D CL (TY cd) A c_P_aim "AlloyPlans" 4 := C
  change gW _ _ _ _ _ _ _ _ _ _ _ _ _ _ _ _ _ _ _ 0 [(0, .ref (ad 0)), (1, iv (x)), (2, iv (y)), (3, iv (z))] []
  obtain ⟨⟨i0, j0⟩, ⟨i1, j1⟩, ⟨i2, j2⟩, ⟨i3, j3⟩, hpr, ham, i5, ⟨i6, j6⟩, ⟨i7, j7⟩, ⟨i8, j8⟩, ⟨i9, j9⟩, h6, hRS, hRD, hal⟩ := id hI
  have hx1 : -2147483648 ≤ x := hx.1
  have hx2 : x ≤ 2147483647 := hx.2
  have hy1 : -2147483648 ≤ y := hy.1
  have hy2 : y ≤ 2147483647 := hy.2
  have hz1 : -2147483648 ≤ z := hz.1
  have hz2 : z ≤ 2147483647 := hz.2
  refine g_iload_n C d_P_aim_0 1 rfl rfl 1 rfl ?_
  refine g_iconst C d_P_aim_1 2 rfl ?_
  refine g_iconst C d_P_aim_2 3 rfl ?_
  refine fcS1 C (rest := []) d_P_aim_3 6 rfl (t_P_isWithin x 0 3 (show r32 x from ⟨by omega, by omega⟩) (show r32 0 from ⟨by decide, by decide⟩) (show r32 3 from ⟨by decide, by decide⟩)) ⟨ml_P_52, sm_P_isWithin, ci_P⟩ w_P_isWithin rfl 3 gy_P_isWithin rfl 0 rfl 0 rfl rfl rfl (Nat.le_of_ble_eq_true rfl) ?_
  refine fxS0 C hA hsz hnt hl (rest := []) d_P_aim_6 9 rfl (t_P_requireIndex hst9 (bi (0 ≤ x ∧ x ≤ 3)) (bi_r _)) ⟨ml_P_66, sm_P_requireIndex, ci_P⟩ w_P_requireIndex rfl 1 gy_P_requireIndex rfl 1 rfl 6 rfl rfl rfl (Nat.le_of_ble_eq_true rfl) (fun E q => Or.inl ⟨q.2, by have q3 := bi_f q.1; omega⟩) (by decide) (by decide) (fun hk1 => ?_)
  have hk1 : 0 ≤ x ∧ x ≤ 3 := bi_t hk1
  obtain ⟨k, hk⟩ : ∃ k : Nat, x = (k : Int) := ⟨Int.toNat x, by omega⟩
  subst hk
  refine g_iload_n C d_P_aim_9 10 rfl rfl 2 rfl ?_
  refine g_iload_n C d_P_aim_10 11 rfl rfl 3 rfl ?_
  refine fcS1 C (rest := []) d_P_aim_11 14 rfl (t_P_isSpan y z (show r32 y from ⟨by omega, by omega⟩) (show r32 z from ⟨by omega, by omega⟩)) ⟨ml_P_69, sm_P_isSpan, ci_P⟩ w_P_isSpan rfl 2 gy_P_isSpan rfl 1 rfl 6 rfl rfl rfl (Nat.le_of_ble_eq_true rfl) ?_
  refine fxS0 C hA hsz hnt hl (rest := []) d_P_aim_14 17 rfl (t_P_requireRange hst9 (bi (0 ≤ y ∧ y ≤ z ∧ z ≤ 100000)) (bi_r _)) ⟨ml_P_56, sm_P_requireRange, ci_P⟩ w_P_requireRange rfl 1 gy_P_requireRange rfl 2 rfl 12 rfl rfl rfl (Nat.le_of_ble_eq_true rfl) (fun E q => Or.inr ⟨q.2, by have q3 := bi_f q.1; omega⟩) (by decide) (by decide) (fun hk2 => ?_)
  have hk2 : 0 ≤ y ∧ y ≤ z ∧ z ≤ 100000 := bi_t hk2
  refine g_aload_n C d_P_aim_17 18 rfl rfl 0 rfl ?_
  refine g_aload_n C d_P_aim_18 19 rfl rfl 0 rfl ?_
  refine gt_P_melt C G d_P_aim_19 22 rfl fl_P_12 ?_
  refine gt_E_aimEnds C G d_P_aim_22 25 rfl fl_P_81 ?_
  refine g_iload_n C d_P_aim_25 26 rfl rfl 1 rfl ?_
  refine g_iload_n C d_P_aim_26 27 rfl rfl 2 rfl ?_
  refine g_iload_n C d_P_aim_27 28 rfl rfl 3 rfl ?_
  refine fcV0 C (rest := []) d_P_aim_28 31 rfl (t_P_tell_3 G (S := S) k y z (by omega)) rfl (G.1 0 (by decide)) (at_P G) ⟨ml_P_77, im_P_tell, se_P_tell, ci_P⟩ w_P_tell rfl 4 gy_P_tell rfl 2 rfl 12 rfl rfl rfl (Nat.le_of_ble_eq_true rfl) ?_
  exact gx_ret (g_vret C hA hsz hr hl d_P_aim_31 (by decide) (by decide) ⟨by omega, rfl, rfl, rfl⟩)
abbrev rm_P_kind : Room := { frames := 7, cells := 2, slots := 12, locals := 102 }
set_option maxHeartbeats 4000000 in
set_option maxRecDepth 100000 in
theorem t_P_kind (hst9 : l.stackTraces = false) (G : LO ad L) (N : Nat) (x y z : Int) (hI : IC N S) (hN : N ≤ 1000) (hx : r32 x) (hy : r32 y) (hz : r32 z) : FX l y_P_kind c_P_kind 5 (some .int) rm_P_kind D cd L (wd cd ad S f0) [.ref (ad 0), iv (x), iv (y), iv (z)] (((0 ≤ x ∧ x ≤ 100000) ∧ (1 ≤ y ∧ y ≤ 1000) ∧ (0 ≤ z ∧ z ≤ 12)) ∧ S 0 4 < 4) (some (iv (S 0 4))) (wd cd ad (u2 (u2 (u2 (u2 (u2 S (11 + (S 0 4).toNat) 0 x) (11 + (S 0 4).toNat) 1 y) (11 + (S 0 4).toNat) 2 z) 0 4 (S 0 4 + 1)) 5 0 0) f0) (fun E => (E = xIAE ∧ (¬ ((0 ≤ x ∧ x ≤ 100000) ∧ (1 ≤ y ∧ y ≤ 1000) ∧ (0 ≤ z ∧ z ≤ 12)))) ∨ (E = xUOE ∧ (((0 ≤ x ∧ x ≤ 100000) ∧ (1 ≤ y ∧ y ≤ 1000) ∧ (0 ≤ z ∧ z ≤ 12)) ∧ ¬ S 0 4 < 4))) := by
  refine gx_of (by decide) (Nat.le_of_ble_eq_true rfl) ?_
  intro p e s m args below meth c A sz hA hsz C hr hl hnt
  have C : gC p s m args c D CL (TY cd) A c_P_kind "AlloyPlans" 5 := C
  change gW _ _ _ _ _ _ _ _ _ _ _ _ _ _ _ _ _ _ _ 0 [(0, .ref (ad 0)), (1, iv (x)), (2, iv (y)), (3, iv (z))] []
  obtain ⟨⟨i0, j0⟩, ⟨i1, j1⟩, ⟨i2, j2⟩, ⟨i3, j3⟩, hpr, ham, i5, ⟨i6, j6⟩, ⟨i7, j7⟩, ⟨i8, j8⟩, ⟨i9, j9⟩, h6, hRS, hRD, hal⟩ := id hI
  have hx1 : -2147483648 ≤ x := hx.1
  have hx2 : x ≤ 2147483647 := hx.2
  have hy1 : -2147483648 ≤ y := hy.1
  have hy2 : y ≤ 2147483647 := hy.2
  have hz1 : -2147483648 ≤ z := hz.1
  have hz2 : z ≤ 2147483647 := hz.2
  have JR : ∀ zj : Int, zj = (bi ((0 ≤ x ∧ x ≤ 100000) ∧ (1 ≤ y ∧ y ≤ 1000) ∧ (0 ≤ z ∧ z ≤ 12))) → gW p l e rm_P_kind s m args below meth c D CL A 5 (vx_MQ below (gQ D CL L sz (fun r L' g => (((0 ≤ x ∧ x ≤ 100000) ∧ (1 ≤ y ∧ y ≤ 1000) ∧ (0 ≤ z ∧ z ≤ 12)) ∧ S 0 4 < 4) ∧ r = (some (iv (S 0 4))) ∧ L' = L ∧ g = (wd cd ad (u2 (u2 (u2 (u2 (u2 S (11 + (S 0 4).toNat) 0 x) (11 + (S 0 4).toNat) 1 y) (11 + (S 0 4).toNat) 2 z) 0 4 (S 0 4 + 1)) 5 0 0) f0))) (gQx D CL L (wd cd ad S f0) sz (fun E => (E = xIAE ∧ (¬ ((0 ≤ x ∧ x ≤ 100000) ∧ (1 ≤ y ∧ y ≤ 1000) ∧ (0 ≤ z ∧ z ≤ 12)))) ∨ (E = xUOE ∧ (((0 ≤ x ∧ x ≤ 100000) ∧ (1 ≤ y ∧ y ≤ 1000) ∧ (0 ≤ z ∧ z ≤ 12)) ∧ ¬ S 0 4 < 4)))) args s rm_P_kind.cells rm_P_kind.slots (gA L sz)) 0 0 L (wd cd ad S f0) 36 [(0, .ref (ad 0)), (1, iv (x)), (2, iv (y)), (3, iv (z))] [iv zj] := by
    intro zj hzj
    subst hzj
    refine fxS0 C hA hsz hnt hl (rest := []) d_P_kind_36 39 rfl (t_P_requireRange hst9 (bi ((0 ≤ x ∧ x ≤ 100000) ∧ (1 ≤ y ∧ y ≤ 1000) ∧ (0 ≤ z ∧ z ≤ 12))) (bi_r _)) ⟨ml_P_56, sm_P_requireRange, ci_P⟩ w_P_requireRange rfl 1 gy_P_requireRange rfl 1 rfl 6 rfl rfl rfl (Nat.le_of_ble_eq_true rfl) (fun E q => Or.inl ⟨q.2, by have q3 := bi_f q.1; omega⟩) (by decide) (by decide) (fun hk1 => ?_)
    have hk1 : (0 ≤ x ∧ x ≤ 100000) ∧ (1 ≤ y ∧ y ≤ 1000) ∧ (0 ≤ z ∧ z ≤ 12) := bi_t hk1
    refine g_aload_n C d_P_kind_39 40 rfl rfl 0 rfl ?_
    refine gt_P_kindCount C G d_P_kind_40 43 rfl fl_P_37 ?_
    refine g_aload_n C d_P_kind_43 44 rfl rfl 0 rfl ?_
    refine gt_P_alloys C G d_P_kind_44 47 rfl fl_P_18 ?_
    refine ln_4 C G d_P_kind_47 48 rfl ?_
    refine g_icmp_lt C d_P_kind_48 51 rfl (show r32 (S 0 4) from ⟨by omega, by omega⟩) (show r32 4 from ⟨by decide, by decide⟩) 61 rfl (fun (w2 : S 0 4 < 4) => ?_) (fun (w3 : ¬ S 0 4 < 4) => ?_)
    · skip
      refine g_aload_n C d_P_kind_61 62 rfl rfl 0 rfl ?_
      refine gt_P_kindCount C G d_P_kind_62 65 rfl fl_P_37 ?_
      refine g_istore C d_P_kind_65 67 rfl [(4, iv (S 0 4)), (0, .ref (ad 0)), (1, iv (x)), (2, iv (y)), (3, iv (z))] (by decide) rfl ?_
      refine g_aload_n C d_P_kind_67 68 rfl rfl 1 rfl ?_
      refine gt_P_alloys C G d_P_kind_68 71 rfl fl_P_18 ?_
      refine g_iload C d_P_kind_71 73 rfl 0 rfl ?_
      refine ld_4 C G d_P_kind_73 74 rfl ((S 0 4).toNat) (by omega) (show S 0 4 = (((S 0 4).toNat : Nat) : Int) by omega) ?_
      refine g_iload_n C d_P_kind_74 75 rfl rfl 2 rfl ?_
      refine pt_A_cents C G (z := x) d_P_kind_75 78 rfl ((S 0 4).toNat) (by omega) fl_P_90 ?_
      refine g_aload_n C d_P_kind_78 79 rfl rfl 1 rfl ?_
      refine gt_P_alloys C G d_P_kind_79 82 rfl fl_P_18 ?_
      refine g_iload C d_P_kind_82 84 rfl 0 rfl ?_
      refine ld_4 C G d_P_kind_84 85 rfl ((S 0 4).toNat) (by omega) (show S 0 4 = (((S 0 4).toNat : Nat) : Int) by omega) ?_
      refine g_iload_n C d_P_kind_85 86 rfl rfl 3 rfl ?_
      refine pt_A_kilos C G (z := y) d_P_kind_86 89 rfl ((S 0 4).toNat) (by omega) fl_P_93 ?_
      refine g_aload_n C d_P_kind_89 90 rfl rfl 1 rfl ?_
      refine gt_P_alloys C G d_P_kind_90 93 rfl fl_P_18 ?_
      refine g_iload C d_P_kind_93 95 rfl 0 rfl ?_
      refine ld_4 C G d_P_kind_95 96 rfl ((S 0 4).toNat) (by omega) (show S 0 4 = (((S 0 4).toNat : Nat) : Int) by omega) ?_
      refine g_iload_n C d_P_kind_96 97 rfl rfl 4 rfl ?_
      refine pt_A_mostSteps C G (z := z) d_P_kind_97 100 rfl ((S 0 4).toNat) (by omega) fl_P_94 ?_
      refine g_aload_n C d_P_kind_100 101 rfl rfl 1 rfl ?_
      refine g_iload C d_P_kind_101 103 rfl 0 rfl ?_
      refine g_iconst C d_P_kind_103 104 rfl ?_
      refine g_iadd C d_P_kind_104 105 rfl ?_
      refine pt_P_kindCount C G (z := (S 0 4) + 1) d_P_kind_105 108 rfl fl_P_37 ?_
      refine g_aload_n C d_P_kind_108 109 rfl rfl 1 rfl ?_
      refine gt_P_plan C G d_P_kind_109 112 rfl fl_P_26 ?_
      refine fcV0 C (rest := []) d_P_kind_112 115 rfl (t_N_forget G (S := (u2 (u2 (u2 (u2 S (11 + ((S 0 4).toNat)) 0 (x)) (11 + ((S 0 4).toNat)) 1 (y)) (11 + ((S 0 4).toNat)) 2 (z)) 0 4 ((S 0 4) + 1)))) rfl (G.1 5 (by decide)) (at_N G) ⟨ml_P_63, im_N_forget, se_N_forget, ci_N⟩ w_N_forget rfl 0 gy_N_forget rfl 1 rfl 6 rfl rfl rfl (Nat.le_of_ble_eq_true rfl) ?_
      refine g_iload C d_P_kind_115 117 rfl 0 rfl ?_
      exact gx_ret (g_iret C hA hsz hr hl d_P_kind_117 (by decide) (by decide) ⟨by omega, rfl, rfl, rfl⟩)
    · skip
      exact gx_throw C hA hsz hnt hl hst9 (cls := xUOE) (names := EXN) (by decide +kernel) (by decide +kernel) kl_P_85 ci_UnsupportedOperationException (gN_n_s87 C.2.1.2.1) (hat_89 C.1.2.2.2.2 C.2.1.2.1) hgd_89 d_P_kind_51 d_P_kind_54 d_P_kind_55 d_P_kind_57 d_P_kind_60 (by decide) (by decide) (by decide) (by decide) (by decide) (by decide) (Or.inr ⟨rfl, by omega⟩)
  refine g_iload_n C d_P_kind_0 1 rfl rfl 1 rfl ?_
  refine g_iconst C d_P_kind_1 2 rfl ?_
  refine g_ldc C (z := 100000) d_P_kind_2 4 rfl rfl kc_P_84 ?_
  refine fcS1 C (rest := []) d_P_kind_4 7 rfl (t_P_isWithin x 0 100000 (show r32 x from ⟨by omega, by omega⟩) (show r32 0 from ⟨by decide, by decide⟩) (show r32 100000 from ⟨by decide, by decide⟩)) ⟨ml_P_52, sm_P_isWithin, ci_P⟩ w_P_isWithin rfl 3 gy_P_isWithin rfl 0 rfl 0 rfl rfl rfl (Nat.le_of_ble_eq_true rfl) ?_
  refine g_if_eq C d_P_kind_7 10 rfl (bi_r _) 35 rfl (fun (w4 : bi (0 ≤ x ∧ x ≤ 100000) = 0) => ?_) (fun (w5 : ¬ bi (0 ≤ x ∧ x ≤ 100000) = 0) => ?_)
  · skip
    have w4 : ¬ (0 ≤ x ∧ x ≤ 100000) := bi_f w4
    refine g_iconst C d_P_kind_35 36 rfl ?_
    exact JR 0 (by first | exact (bi_pos (by omega)).symm | exact (bi_neg (by omega)).symm)
  · skip
    have w5 : (0 ≤ x ∧ x ≤ 100000) := bi_t w5
    refine g_iload_n C d_P_kind_10 11 rfl rfl 2 rfl ?_
    refine g_iconst C d_P_kind_11 12 rfl ?_
    refine g_sipush C d_P_kind_12 15 rfl rfl ?_
    refine fcS1 C (rest := []) d_P_kind_15 18 rfl (t_P_isWithin y 1 1000 (show r32 y from ⟨by omega, by omega⟩) (show r32 1 from ⟨by decide, by decide⟩) (show r32 1000 from ⟨by decide, by decide⟩)) ⟨ml_P_52, sm_P_isWithin, ci_P⟩ w_P_isWithin rfl 3 gy_P_isWithin rfl 0 rfl 0 rfl rfl rfl (Nat.le_of_ble_eq_true rfl) ?_
    refine g_if_eq C d_P_kind_18 21 rfl (bi_r _) 35 rfl (fun (w6 : bi (1 ≤ y ∧ y ≤ 1000) = 0) => ?_) (fun (w7 : ¬ bi (1 ≤ y ∧ y ≤ 1000) = 0) => ?_)
    · skip
      have w6 : ¬ (1 ≤ y ∧ y ≤ 1000) := bi_f w6
      refine g_iconst C d_P_kind_35 36 rfl ?_
      exact JR 0 (by first | exact (bi_pos (by omega)).symm | exact (bi_neg (by omega)).symm)
    · skip
      have w7 : (1 ≤ y ∧ y ≤ 1000) := bi_t w7
      refine g_iload_n C d_P_kind_21 22 rfl rfl 3 rfl ?_
      refine g_iconst C d_P_kind_22 23 rfl ?_
      refine g_bipush C d_P_kind_23 25 rfl rfl ?_
      refine fcS1 C (rest := []) d_P_kind_25 28 rfl (t_P_isWithin z 0 12 (show r32 z from ⟨by omega, by omega⟩) (show r32 0 from ⟨by decide, by decide⟩) (show r32 12 from ⟨by decide, by decide⟩)) ⟨ml_P_52, sm_P_isWithin, ci_P⟩ w_P_isWithin rfl 3 gy_P_isWithin rfl 0 rfl 0 rfl rfl rfl (Nat.le_of_ble_eq_true rfl) ?_
      refine g_if_eq C d_P_kind_28 31 rfl (bi_r _) 35 rfl (fun (w8 : bi (0 ≤ z ∧ z ≤ 12) = 0) => ?_) (fun (w9 : ¬ bi (0 ≤ z ∧ z ≤ 12) = 0) => ?_)
      · skip
        have w8 : ¬ (0 ≤ z ∧ z ≤ 12) := bi_f w8
        refine g_iconst C d_P_kind_35 36 rfl ?_
        exact JR 0 (by first | exact (bi_pos (by omega)).symm | exact (bi_neg (by omega)).symm)
      · skip
        have w9 : (0 ≤ z ∧ z ≤ 12) := bi_t w9
        refine g_iconst C d_P_kind_31 32 rfl ?_
        refine g_goto C d_P_kind_32 36 rfl ?_
        exact JR 1 (by first | exact (bi_pos (by omega)).symm | exact (bi_neg (by omega)).symm)
abbrev rm_P_heatAt : Room := { frames := 7, cells := 1, slots := 6, locals := 102 }
set_option maxHeartbeats 4000000 in
set_option maxRecDepth 100000 in
theorem t_P_heatAt (hst9 : l.stackTraces = false) (G : LO ad L) (N : Nat) (x : Int) (hI : IC N S) (hN : N ≤ 1000) (hx : r32 x) : FX l y_P_heatAt c_P_heatAt 2 (some .long) rm_P_heatAt D cd L (wd cd ad S f0) [.ref (ad 0), iv (x)] (0 ≤ x ∧ x ≤ 9) (some (jv (if x = 0 then S 1 0 else if x = 9 then S 1 2 else S 2 (x - 1).toNat))) (wd cd ad S f0) (fun E => (E = xIOB ∧ (¬ (0 ≤ x ∧ x ≤ 9)))) := by
  refine gx_of (by decide) (Nat.le_of_ble_eq_true rfl) ?_
  intro p e s m args below meth c A sz hA hsz C hr hl hnt
  have C : gC p s m args c D CL (TY cd) A c_P_heatAt "AlloyPlans" 2 := C
  change gW _ _ _ _ _ _ _ _ _ _ _ _ _ _ _ _ _ _ _ 0 [(0, .ref (ad 0)), (1, iv (x))] []
  obtain ⟨⟨i0, j0⟩, ⟨i1, j1⟩, ⟨i2, j2⟩, ⟨i3, j3⟩, hpr, ham, i5, ⟨i6, j6⟩, ⟨i7, j7⟩, ⟨i8, j8⟩, ⟨i9, j9⟩, h6, hRS, hRD, hal⟩ := id hI
  have hx1 : -2147483648 ≤ x := hx.1
  have hx2 : x ≤ 2147483647 := hx.2
  refine g_iload_n C d_P_heatAt_0 1 rfl rfl 1 rfl ?_
  refine g_iconst C d_P_heatAt_1 2 rfl ?_
  refine g_bipush C d_P_heatAt_2 4 rfl rfl ?_
  refine fcS1 C (rest := []) d_P_heatAt_4 7 rfl (t_P_isWithin x 0 9 (show r32 x from ⟨by omega, by omega⟩) (show r32 0 from ⟨by decide, by decide⟩) (show r32 9 from ⟨by decide, by decide⟩)) ⟨ml_P_52, sm_P_isWithin, ci_P⟩ w_P_isWithin rfl 3 gy_P_isWithin rfl 0 rfl 0 rfl rfl rfl (Nat.le_of_ble_eq_true rfl) ?_
  refine fxS0 C hA hsz hnt hl (rest := []) d_P_heatAt_7 10 rfl (t_P_requireIndex hst9 (bi (0 ≤ x ∧ x ≤ 9)) (bi_r _)) ⟨ml_P_66, sm_P_requireIndex, ci_P⟩ w_P_requireIndex rfl 1 gy_P_requireIndex rfl 1 rfl 6 rfl rfl rfl (Nat.le_of_ble_eq_true rfl) (fun E q => ⟨q.2, by have q3 := bi_f q.1; omega⟩) (by decide) (by decide) (fun hk1 => ?_)
  have hk1 : 0 ≤ x ∧ x ≤ 9 := bi_t hk1
  refine g_iload_n C d_P_heatAt_10 11 rfl rfl 1 rfl ?_
  refine g_if_ne C d_P_heatAt_11 14 rfl (show r32 x from ⟨by omega, by omega⟩) 23 rfl (fun (w2 : ¬ x = 0) => ?_) (fun (w3 : x = 0) => ?_)
  · skip
    refine g_iload_n C d_P_heatAt_23 24 rfl rfl 1 rfl ?_
    refine g_bipush C d_P_heatAt_24 26 rfl rfl ?_
    refine g_icmp_ne C d_P_heatAt_26 29 rfl (show r32 x from ⟨by omega, by omega⟩) (show r32 9 from ⟨by decide, by decide⟩) 37 rfl (fun (w4 : ¬ x = 9) => ?_) (fun (w5 : x = 9) => ?_)
    · skip
      obtain ⟨i4, j4⟩ := hpr (x - 1).toNat (by omega)
      refine g_aload_n C d_P_heatAt_37 38 rfl rfl 0 rfl ?_
      refine gt_P_melt C G d_P_heatAt_38 41 rfl fl_P_12 ?_
      refine gt_E_presentEnds C G d_P_heatAt_41 44 rfl fl_P_73 ?_
      refine g_iload_n C d_P_heatAt_44 45 rfl rfl 1 rfl ?_
      refine g_iconst C d_P_heatAt_45 46 rfl ?_
      refine g_isub C d_P_heatAt_46 47 rfl ?_
      refine ld_2 C G d_P_heatAt_47 48 rfl ((x - 1).toNat) (by omega) (show x - 1 = (((x - 1).toNat : Nat) : Int) by omega) ?_
      refine g_i2l C d_P_heatAt_48 49 rfl (show r32 (S 2 ((x - 1).toNat)) from ⟨by omega, by omega⟩) ?_
      exact gx_ret (g_lret C hA hsz hr hl d_P_heatAt_49 (by decide) (by decide) ⟨by omega, vj_e (by rw [if_neg (by omega), if_neg (by omega)]), rfl, rfl⟩)
    · skip
      refine g_aload_n C d_P_heatAt_29 30 rfl rfl 0 rfl ?_
      refine gt_P_melt C G d_P_heatAt_30 33 rfl fl_P_12 ?_
      refine gt_E_cents C G d_P_heatAt_33 36 rfl fl_P_168 ?_
      exact gx_ret (g_lret C hA hsz hr hl d_P_heatAt_36 (by decide) (by decide) ⟨by omega, vj_e (by rw [if_neg (by omega), if_pos (by omega)]), rfl, rfl⟩)
  · skip
    refine g_aload_n C d_P_heatAt_14 15 rfl rfl 0 rfl ?_
    refine gt_P_melt C G d_P_heatAt_15 18 rfl fl_P_12 ?_
    refine gt_E_kilos C G d_P_heatAt_18 21 rfl fl_P_60 ?_
    refine g_i2l C d_P_heatAt_21 22 rfl (show r32 (S 1 0) from ⟨by omega, by omega⟩) ?_
    exact gx_ret (g_lret C hA hsz hr hl d_P_heatAt_22 (by decide) (by decide) ⟨by omega, vj_e (by rw [if_pos (by omega)]), rfl, rfl⟩)
abbrev rm_P_steps : Room := { frames := 7, cells := 2, slots := 12, locals := 102 }
set_option maxHeartbeats 4000000 in
set_option maxRecDepth 100000 in
theorem t_P_steps (hst9 : l.stackTraces = false) (G : LO ad L) (N : Nat) (x : Int) (hI : IC N S) (hN : N ≤ 1000) (hx : r32 x) : FX l y_P_steps c_P_steps 2 (some .int) rm_P_steps D cd L (wd cd ad S f0) [.ref (ad 0), iv (x)] ((0 ≤ x ∧ x < S 0 4) ∧ ¬ S 5 0 = 0) (some (iv (S 6 x.toNat))) (wd cd ad S f0) (fun E => (E = xIOB ∧ (¬ (0 ≤ x ∧ x < S 0 4))) ∨ (E = xISE ∧ ((0 ≤ x ∧ x < S 0 4) ∧ S 5 0 = 0))) := by
  refine gx_of (by decide) (Nat.le_of_ble_eq_true rfl) ?_
  intro p e s m args below meth c A sz hA hsz C hr hl hnt
  have C : gC p s m args c D CL (TY cd) A c_P_steps "AlloyPlans" 2 := C
  change gW _ _ _ _ _ _ _ _ _ _ _ _ _ _ _ _ _ _ _ 0 [(0, .ref (ad 0)), (1, iv (x))] []
  obtain ⟨⟨i0, j0⟩, ⟨i1, j1⟩, ⟨i2, j2⟩, ⟨i3, j3⟩, hpr, ham, i5, ⟨i6, j6⟩, ⟨i7, j7⟩, ⟨i8, j8⟩, ⟨i9, j9⟩, h6, hRS, hRD, hal⟩ := id hI
  have hx1 : -2147483648 ≤ x := hx.1
  have hx2 : x ≤ 2147483647 := hx.2
  refine g_aload_n C d_P_steps_0 1 rfl rfl 0 rfl ?_
  refine g_iload_n C d_P_steps_1 2 rfl rfl 1 rfl ?_
  refine fcV1 C (rest := []) d_P_steps_2 5 rfl (t_P_isKind G (S := S) x (show r32 x from ⟨by omega, by omega⟩) (show r32 (S 0 4) from ⟨by omega, by omega⟩)) rfl (G.1 0 (by decide)) (at_P G) ⟨ml_P_97, im_P_isKind, se_P_isKind, ci_P⟩ w_P_isKind rfl 1 gy_P_isKind rfl 0 rfl 0 rfl rfl rfl (Nat.le_of_ble_eq_true rfl) ?_
  refine fxS0 C hA hsz hnt hl (rest := []) d_P_steps_5 8 rfl (t_P_requireIndex hst9 (bi (0 ≤ x ∧ x < S 0 4 ∧ x < 4)) (bi_r _)) ⟨ml_P_66, sm_P_requireIndex, ci_P⟩ w_P_requireIndex rfl 1 gy_P_requireIndex rfl 1 rfl 6 rfl rfl rfl (Nat.le_of_ble_eq_true rfl) (fun E q => Or.inl ⟨q.2, by have q3 := bi_f q.1; omega⟩) (by decide) (by decide) (fun hk1 => ?_)
  have hk1 : 0 ≤ x ∧ x < S 0 4 ∧ x < 4 := bi_t hk1
  obtain ⟨k, hk⟩ : ∃ k : Nat, x = (k : Int) := ⟨Int.toNat x, by omega⟩
  subst hk
  refine g_aload_n C d_P_steps_8 9 rfl rfl 0 rfl ?_
  refine fxV0 C hA hsz hnt hl (rest := []) d_P_steps_9 12 rfl (t_P_requirePlan hst9 G (S := S) (show r32 (S 5 0) from ⟨by omega, by omega⟩)) rfl (G.1 0 (by decide)) (at_P G) ⟨ml_P_129, im_P_requirePlan, se_P_requirePlan, ci_P⟩ w_P_requirePlan rfl 0 gy_P_requirePlan rfl 2 rfl 12 rfl rfl rfl (Nat.le_of_ble_eq_true rfl) (fun E q => Or.inr ⟨q.2, by have q3 := q.1; omega⟩) (by decide) (by decide) (fun hk2 => ?_)
  have hk2 : ¬ S 5 0 = 0 := hk2
  refine g_aload_n C d_P_steps_12 13 rfl rfl 0 rfl ?_
  refine gt_P_plan C G d_P_steps_13 16 rfl fl_P_26 ?_
  refine gt_N_taken C G d_P_steps_16 19 rfl fl_P_132 ?_
  refine g_iload_n C d_P_steps_19 20 rfl rfl 1 rfl ?_
  refine ld_6 C G d_P_steps_20 21 rfl k (by omega) rfl ?_
  exact gx_ret (g_iret C hA hsz hr hl d_P_steps_21 (by decide) (by decide) ⟨by omega, rfl, rfl, rfl⟩)
abbrev rm_P_planned : Room := { frames := 7, cells := 2, slots := 12, locals := 102 }
set_option maxHeartbeats 4000000 in
set_option maxRecDepth 100000 in
theorem t_P_planned (hst9 : l.stackTraces = false) (G : LO ad L) (N : Nat) (x : Int) (hI : IC N S) (hN : N ≤ 1000) (hx : r32 x) : FX l y_P_planned c_P_planned 2 (some .int) rm_P_planned D cd L (wd cd ad S f0) [.ref (ad 0), iv (x)] ((0 ≤ x ∧ x ≤ 3) ∧ ¬ S 5 0 = 0) (some (iv (if x = 0 then S 5 1 else if x = 1 then S 5 2 else if x = 2 then S 5 3 else S 5 4))) (wd cd ad S f0) (fun E => (E = xIOB ∧ (¬ (0 ≤ x ∧ x ≤ 3))) ∨ (E = xISE ∧ ((0 ≤ x ∧ x ≤ 3) ∧ S 5 0 = 0))) := by
  refine gx_of (by decide) (Nat.le_of_ble_eq_true rfl) ?_
  intro p e s m args below meth c A sz hA hsz C hr hl hnt
  have C : gC p s m args c D CL (TY cd) A c_P_planned "AlloyPlans" 2 := C
  change gW _ _ _ _ _ _ _ _ _ _ _ _ _ _ _ _ _ _ _ 0 [(0, .ref (ad 0)), (1, iv (x))] []
  obtain ⟨⟨i0, j0⟩, ⟨i1, j1⟩, ⟨i2, j2⟩, ⟨i3, j3⟩, hpr, ham, i5, ⟨i6, j6⟩, ⟨i7, j7⟩, ⟨i8, j8⟩, ⟨i9, j9⟩, h6, hRS, hRD, hal⟩ := id hI
  have hx1 : -2147483648 ≤ x := hx.1
  have hx2 : x ≤ 2147483647 := hx.2
  refine g_iload_n C d_P_planned_0 1 rfl rfl 1 rfl ?_
  refine g_iconst C d_P_planned_1 2 rfl ?_
  refine g_iconst C d_P_planned_2 3 rfl ?_
  refine fcS1 C (rest := []) d_P_planned_3 6 rfl (t_P_isWithin x 0 3 (show r32 x from ⟨by omega, by omega⟩) (show r32 0 from ⟨by decide, by decide⟩) (show r32 3 from ⟨by decide, by decide⟩)) ⟨ml_P_52, sm_P_isWithin, ci_P⟩ w_P_isWithin rfl 3 gy_P_isWithin rfl 0 rfl 0 rfl rfl rfl (Nat.le_of_ble_eq_true rfl) ?_
  refine fxS0 C hA hsz hnt hl (rest := []) d_P_planned_6 9 rfl (t_P_requireIndex hst9 (bi (0 ≤ x ∧ x ≤ 3)) (bi_r _)) ⟨ml_P_66, sm_P_requireIndex, ci_P⟩ w_P_requireIndex rfl 1 gy_P_requireIndex rfl 1 rfl 6 rfl rfl rfl (Nat.le_of_ble_eq_true rfl) (fun E q => Or.inl ⟨q.2, by have q3 := bi_f q.1; omega⟩) (by decide) (by decide) (fun hk1 => ?_)
  have hk1 : 0 ≤ x ∧ x ≤ 3 := bi_t hk1
  refine g_aload_n C d_P_planned_9 10 rfl rfl 0 rfl ?_
  refine fxV0 C hA hsz hnt hl (rest := []) d_P_planned_10 13 rfl (t_P_requirePlan hst9 G (S := S) (show r32 (S 5 0) from ⟨by omega, by omega⟩)) rfl (G.1 0 (by decide)) (at_P G) ⟨ml_P_129, im_P_requirePlan, se_P_requirePlan, ci_P⟩ w_P_requirePlan rfl 0 gy_P_requirePlan rfl 2 rfl 12 rfl rfl rfl (Nat.le_of_ble_eq_true rfl) (fun E q => Or.inr ⟨q.2, by have q3 := q.1; omega⟩) (by decide) (by decide) (fun hk2 => ?_)
  have hk2 : ¬ S 5 0 = 0 := hk2
  refine g_iload_n C d_P_planned_13 14 rfl rfl 1 rfl ?_
  rcases (show x = 0 ∨ x = 1 ∨ x = 2 ∨ (x < 0 ∨ 2 < x) by omega) with hc3 | hc4 | hc5 | hc6
  · skip
    refine g_tin C d_P_planned_14 (z := x) ⟨by omega, by omega⟩ (by omega) (by omega) (by rw [hc3]; rfl) 40 rfl ?_
    refine g_aload_n C d_P_planned_40 41 rfl rfl 0 rfl ?_
    refine gt_P_plan C G d_P_planned_41 44 rfl fl_P_26 ?_
    refine gt_N_cents C G d_P_planned_44 47 rfl fl_P_135 ?_
    exact gx_ret (g_iret C hA hsz hr hl d_P_planned_47 (by decide) (by decide) ⟨by omega, vi_e (by rw [if_pos (by omega)]), rfl, rfl⟩)
  · skip
    refine g_tin C d_P_planned_14 (z := x) ⟨by omega, by omega⟩ (by omega) (by omega) (by rw [hc4]; rfl) 48 rfl ?_
    refine g_aload_n C d_P_planned_48 49 rfl rfl 0 rfl ?_
    refine gt_P_plan C G d_P_planned_49 52 rfl fl_P_26 ?_
    refine gt_N_kilos C G d_P_planned_52 55 rfl fl_P_136 ?_
    exact gx_ret (g_iret C hA hsz hr hl d_P_planned_55 (by decide) (by decide) ⟨by omega, vi_e (by rw [if_neg (by omega), if_pos (by omega)]), rfl, rfl⟩)
  · skip
    refine g_tin C d_P_planned_14 (z := x) ⟨by omega, by omega⟩ (by omega) (by omega) (by rw [hc5]; rfl) 56 rfl ?_
    refine g_aload_n C d_P_planned_56 57 rfl rfl 0 rfl ?_
    refine gt_P_plan C G d_P_planned_57 60 rfl fl_P_26 ?_
    refine gt_N_kinds C G d_P_planned_60 63 rfl fl_P_137 ?_
    exact gx_ret (g_iret C hA hsz hr hl d_P_planned_63 (by decide) (by decide) ⟨by omega, vi_e (by rw [if_neg (by omega), if_neg (by omega), if_pos (by omega)]), rfl, rfl⟩)
  · skip
    refine g_tout C d_P_planned_14 (z := x) ⟨by omega, by omega⟩ hc6 64 rfl ?_
    refine g_aload_n C d_P_planned_64 65 rfl rfl 0 rfl ?_
    refine gt_P_plan C G d_P_planned_65 68 rfl fl_P_26 ?_
    refine gt_N_cooling C G d_P_planned_68 71 rfl fl_P_140 ?_
    exact gx_ret (g_iret C hA hsz hr hl d_P_planned_71 (by decide) (by decide) ⟨by omega, vi_e (by rw [if_neg (by omega), if_neg (by omega), if_neg (by omega)]), rfl, rfl⟩)
abbrev rm_P_holds : Room := { frames := 7, cells := 2, slots := 12, locals := 102 }
set_option maxHeartbeats 4000000 in
set_option maxRecDepth 100000 in
theorem t_P_holds (hst9 : l.stackTraces = false) (G : LO ad L) (N : Nat) (x y z u : Int) (hI : IC N S) (hN : N ≤ 1000) (hx : r32 x) (hy : r32 y) (hz : r32 z) (hu : r32 u) : FX l y_P_holds c_P_holds 5 none rm_P_holds D cd L (wd cd ad S f0) [.ref (ad 0), iv (x), iv (y), iv (z), iv (u)] (((0 ≤ x ∧ x < S 0 4) ∧ (0 ≤ y ∧ y ≤ 3)) ∧ (0 ≤ z ∧ z ≤ u ∧ u ≤ 100000)) none (wd cd ad (u2 (u2 (u2 S (15 + x.toNat) (2 * y.toNat) z) (15 + x.toNat) (2 * y.toNat + 1) u) 5 0 0) f0) (fun E => (E = xIOB ∧ (¬ ((0 ≤ x ∧ x < S 0 4) ∧ (0 ≤ y ∧ y ≤ 3)))) ∨ (E = xIAE ∧ (((0 ≤ x ∧ x < S 0 4) ∧ (0 ≤ y ∧ y ≤ 3)) ∧ ¬ (0 ≤ z ∧ z ≤ u ∧ u ≤ 100000)))) := by
  refine gx_of (by decide) (Nat.le_of_ble_eq_true rfl) ?_
  intro p e s m args below meth c A sz hA hsz C hr hl hnt
  have C : gC p s m args c D CL (TY cd) A c_P_holds "AlloyPlans" 5 := C
  change gW _ _ _ _ _ _ _ _ _ _ _ _ _ _ _ _ _ _ _ 0 [(0, .ref (ad 0)), (1, iv (x)), (2, iv (y)), (3, iv (z)), (4, iv (u))] []
  obtain ⟨⟨i0, j0⟩, ⟨i1, j1⟩, ⟨i2, j2⟩, ⟨i3, j3⟩, hpr, ham, i5, ⟨i6, j6⟩, ⟨i7, j7⟩, ⟨i8, j8⟩, ⟨i9, j9⟩, h6, hRS, hRD, hal⟩ := id hI
  have hx1 : -2147483648 ≤ x := hx.1
  have hx2 : x ≤ 2147483647 := hx.2
  have hy1 : -2147483648 ≤ y := hy.1
  have hy2 : y ≤ 2147483647 := hy.2
  have hz1 : -2147483648 ≤ z := hz.1
  have hz2 : z ≤ 2147483647 := hz.2
  have hu1 : -2147483648 ≤ u := hu.1
  have hu2 : u ≤ 2147483647 := hu.2
  have JR : ∀ zj : Int, zj = (bi ((0 ≤ x ∧ x < S 0 4) ∧ (0 ≤ y ∧ y ≤ 3))) → gW p l e rm_P_holds s m args below meth c D CL A 5 (vx_MQ below (gQ D CL L sz (fun r L' g => (((0 ≤ x ∧ x < S 0 4) ∧ (0 ≤ y ∧ y ≤ 3)) ∧ (0 ≤ z ∧ z ≤ u ∧ u ≤ 100000)) ∧ r = none ∧ L' = L ∧ g = (wd cd ad (u2 (u2 (u2 S (15 + x.toNat) (2 * y.toNat) z) (15 + x.toNat) (2 * y.toNat + 1) u) 5 0 0) f0))) (gQx D CL L (wd cd ad S f0) sz (fun E => (E = xIOB ∧ (¬ ((0 ≤ x ∧ x < S 0 4) ∧ (0 ≤ y ∧ y ≤ 3)))) ∨ (E = xIAE ∧ (((0 ≤ x ∧ x < S 0 4) ∧ (0 ≤ y ∧ y ≤ 3)) ∧ ¬ (0 ≤ z ∧ z ≤ u ∧ u ≤ 100000))))) args s rm_P_holds.cells rm_P_holds.slots (gA L sz)) 0 0 L (wd cd ad S f0) 22 [(0, .ref (ad 0)), (1, iv (x)), (2, iv (y)), (3, iv (z)), (4, iv (u))] [iv zj] := by
    intro zj hzj
    subst hzj
    refine fxS0 C hA hsz hnt hl (rest := []) d_P_holds_22 25 rfl (t_P_requireIndex hst9 (bi ((0 ≤ x ∧ x < S 0 4) ∧ (0 ≤ y ∧ y ≤ 3))) (bi_r _)) ⟨ml_P_66, sm_P_requireIndex, ci_P⟩ w_P_requireIndex rfl 1 gy_P_requireIndex rfl 1 rfl 6 rfl rfl rfl (Nat.le_of_ble_eq_true rfl) (fun E q => Or.inl ⟨q.2, by have q3 := bi_f q.1; omega⟩) (by decide) (by decide) (fun hk1 => ?_)
    have hk1 : (0 ≤ x ∧ x < S 0 4) ∧ (0 ≤ y ∧ y ≤ 3) := bi_t hk1
    obtain ⟨k, hk⟩ : ∃ k : Nat, x = (k : Int) := ⟨Int.toNat x, by omega⟩
    subst hk
    obtain ⟨n, hn⟩ : ∃ n : Nat, y = (n : Int) := ⟨Int.toNat y, by omega⟩
    subst hn
    refine g_iload_n C d_P_holds_25 26 rfl rfl 3 rfl ?_
    refine g_iload C d_P_holds_26 28 rfl 4 rfl ?_
    refine fcS1 C (rest := []) d_P_holds_28 31 rfl (t_P_isSpan z u (show r32 z from ⟨by omega, by omega⟩) (show r32 u from ⟨by omega, by omega⟩)) ⟨ml_P_69, sm_P_isSpan, ci_P⟩ w_P_isSpan rfl 2 gy_P_isSpan rfl 1 rfl 6 rfl rfl rfl (Nat.le_of_ble_eq_true rfl) ?_
    refine fxS0 C hA hsz hnt hl (rest := []) d_P_holds_31 34 rfl (t_P_requireRange hst9 (bi (0 ≤ z ∧ z ≤ u ∧ u ≤ 100000)) (bi_r _)) ⟨ml_P_56, sm_P_requireRange, ci_P⟩ w_P_requireRange rfl 1 gy_P_requireRange rfl 2 rfl 12 rfl rfl rfl (Nat.le_of_ble_eq_true rfl) (fun E q => Or.inr ⟨q.2, by have q3 := bi_f q.1; omega⟩) (by decide) (by decide) (fun hk2 => ?_)
    have hk2 : 0 ≤ z ∧ z ≤ u ∧ u ≤ 100000 := bi_t hk2
    refine g_aload_n C d_P_holds_34 35 rfl rfl 0 rfl ?_
    refine g_aload_n C d_P_holds_35 36 rfl rfl 0 rfl ?_
    refine gt_P_alloys C G d_P_holds_36 39 rfl fl_P_18 ?_
    refine g_iload_n C d_P_holds_39 40 rfl rfl 1 rfl ?_
    refine ld_4 C G d_P_holds_40 41 rfl k (by omega) rfl ?_
    refine gt_A_ends C G d_P_holds_41 44 rfl k (by omega) fl_P_101 ?_
    refine g_iload_n C d_P_holds_44 45 rfl rfl 2 rfl ?_
    refine g_iload_n C d_P_holds_45 46 rfl rfl 3 rfl ?_
    refine g_iload C d_P_holds_46 48 rfl 4 rfl ?_
    refine fcV0 C (rest := []) d_P_holds_48 51 rfl (t_P_tell_15 G (S := S) k n z u (by omega) (by omega)) rfl (G.1 0 (by decide)) (at_P G) ⟨ml_P_77, im_P_tell, se_P_tell, ci_P⟩ w_P_tell rfl 4 gy_P_tell rfl 2 rfl 12 rfl rfl rfl (Nat.le_of_ble_eq_true rfl) ?_
    exact gx_ret (g_vret C hA hsz hr hl d_P_holds_51 (by decide) (by decide) ⟨by omega, rfl, rfl, rfl⟩)
  refine g_aload_n C d_P_holds_0 1 rfl rfl 0 rfl ?_
  refine g_iload_n C d_P_holds_1 2 rfl rfl 1 rfl ?_
  refine fcV1 C (rest := []) d_P_holds_2 5 rfl (t_P_isKind G (S := S) x (show r32 x from ⟨by omega, by omega⟩) (show r32 (S 0 4) from ⟨by omega, by omega⟩)) rfl (G.1 0 (by decide)) (at_P G) ⟨ml_P_97, im_P_isKind, se_P_isKind, ci_P⟩ w_P_isKind rfl 1 gy_P_isKind rfl 0 rfl 0 rfl rfl rfl (Nat.le_of_ble_eq_true rfl) ?_
  refine g_if_eq C d_P_holds_5 8 rfl (bi_r _) 21 rfl (fun (w3 : bi (0 ≤ x ∧ x < S 0 4 ∧ x < 4) = 0) => ?_) (fun (w4 : ¬ bi (0 ≤ x ∧ x < S 0 4 ∧ x < 4) = 0) => ?_)
  · skip
    have w3 : ¬ (0 ≤ x ∧ x < S 0 4 ∧ x < 4) := bi_f w3
    refine g_iconst C d_P_holds_21 22 rfl ?_
    exact JR 0 (by first | exact (bi_pos (by omega)).symm | exact (bi_neg (by omega)).symm)
  · skip
    have w4 : (0 ≤ x ∧ x < S 0 4 ∧ x < 4) := bi_t w4
    refine g_iload_n C d_P_holds_8 9 rfl rfl 2 rfl ?_
    refine g_iconst C d_P_holds_9 10 rfl ?_
    refine g_iconst C d_P_holds_10 11 rfl ?_
    refine fcS1 C (rest := []) d_P_holds_11 14 rfl (t_P_isWithin y 0 3 (show r32 y from ⟨by omega, by omega⟩) (show r32 0 from ⟨by decide, by decide⟩) (show r32 3 from ⟨by decide, by decide⟩)) ⟨ml_P_52, sm_P_isWithin, ci_P⟩ w_P_isWithin rfl 3 gy_P_isWithin rfl 0 rfl 0 rfl rfl rfl (Nat.le_of_ble_eq_true rfl) ?_
    refine g_if_eq C d_P_holds_14 17 rfl (bi_r _) 21 rfl (fun (w5 : bi (0 ≤ y ∧ y ≤ 3) = 0) => ?_) (fun (w6 : ¬ bi (0 ≤ y ∧ y ≤ 3) = 0) => ?_)
    · skip
      have w5 : ¬ (0 ≤ y ∧ y ≤ 3) := bi_f w5
      refine g_iconst C d_P_holds_21 22 rfl ?_
      exact JR 0 (by first | exact (bi_pos (by omega)).symm | exact (bi_neg (by omega)).symm)
    · skip
      have w6 : (0 ≤ y ∧ y ≤ 3) := bi_t w6
      refine g_iconst C d_P_holds_17 18 rfl ?_
      refine g_goto C d_P_holds_18 22 rfl ?_
      exact JR 1 (by first | exact (bi_pos (by omega)).symm | exact (bi_neg (by omega)).symm)
abbrev rm_P_yields : Room := { frames := 7, cells := 2, slots := 12, locals := 102 }
set_option maxHeartbeats 4000000 in
set_option maxRecDepth 100000 in
theorem t_P_yields (hst9 : l.stackTraces = false) (G : LO ad L) (N : Nat) (x y z : Int) (hI : IC N S) (hN : N ≤ 1000) (hx : r32 x) (hy : r32 y) (hz : r32 z) : FX l y_P_yields c_P_yields 4 none rm_P_yields D cd L (wd cd ad S f0) [.ref (ad 0), iv (x), iv (y), iv (z)] ((0 ≤ x ∧ x < S 0 4) ∧ ((0 ≤ y ∧ y ≤ 1000) ∧ (0 ≤ z ∧ z ≤ 1000))) none (wd cd ad (u2 (u2 (u2 S (11 + x.toNat) 3 y) (11 + x.toNat) 4 z) 5 0 0) f0) (fun E => (E = xIOB ∧ (¬ (0 ≤ x ∧ x < S 0 4))) ∨ (E = xIAE ∧ ((0 ≤ x ∧ x < S 0 4) ∧ ¬ ((0 ≤ y ∧ y ≤ 1000) ∧ (0 ≤ z ∧ z ≤ 1000))))) := by
  refine gx_of (by decide) (Nat.le_of_ble_eq_true rfl) ?_
  intro p e s m args below meth c A sz hA hsz C hr hl hnt
  have C : gC p s m args c D CL (TY cd) A c_P_yields "AlloyPlans" 4 := C
  change gW _ _ _ _ _ _ _ _ _ _ _ _ _ _ _ _ _ _ _ 0 [(0, .ref (ad 0)), (1, iv (x)), (2, iv (y)), (3, iv (z))] []
  obtain ⟨⟨i0, j0⟩, ⟨i1, j1⟩, ⟨i2, j2⟩, ⟨i3, j3⟩, hpr, ham, i5, ⟨i6, j6⟩, ⟨i7, j7⟩, ⟨i8, j8⟩, ⟨i9, j9⟩, h6, hRS, hRD, hal⟩ := id hI
  have hx1 : -2147483648 ≤ x := hx.1
  have hx2 : x ≤ 2147483647 := hx.2
  have hy1 : -2147483648 ≤ y := hy.1
  have hy2 : y ≤ 2147483647 := hy.2
  have hz1 : -2147483648 ≤ z := hz.1
  have hz2 : z ≤ 2147483647 := hz.2
  refine g_aload_n C d_P_yields_0 1 rfl rfl 0 rfl ?_
  refine g_iload_n C d_P_yields_1 2 rfl rfl 1 rfl ?_
  refine fcV1 C (rest := []) d_P_yields_2 5 rfl (t_P_isKind G (S := S) x (show r32 x from ⟨by omega, by omega⟩) (show r32 (S 0 4) from ⟨by omega, by omega⟩)) rfl (G.1 0 (by decide)) (at_P G) ⟨ml_P_97, im_P_isKind, se_P_isKind, ci_P⟩ w_P_isKind rfl 1 gy_P_isKind rfl 0 rfl 0 rfl rfl rfl (Nat.le_of_ble_eq_true rfl) ?_
  refine fxS0 C hA hsz hnt hl (rest := []) d_P_yields_5 8 rfl (t_P_requireIndex hst9 (bi (0 ≤ x ∧ x < S 0 4 ∧ x < 4)) (bi_r _)) ⟨ml_P_66, sm_P_requireIndex, ci_P⟩ w_P_requireIndex rfl 1 gy_P_requireIndex rfl 1 rfl 6 rfl rfl rfl (Nat.le_of_ble_eq_true rfl) (fun E q => Or.inl ⟨q.2, by have q3 := bi_f q.1; omega⟩) (by decide) (by decide) (fun hk1 => ?_)
  have hk1 : 0 ≤ x ∧ x < S 0 4 ∧ x < 4 := bi_t hk1
  have JR : ∀ zj : Int, zj = (bi ((0 ≤ y ∧ y ≤ 1000) ∧ (0 ≤ z ∧ z ≤ 1000))) → gW p l e rm_P_yields s m args below meth c D CL A 4 (vx_MQ below (gQ D CL L sz (fun r L' g => ((0 ≤ x ∧ x < S 0 4) ∧ ((0 ≤ y ∧ y ≤ 1000) ∧ (0 ≤ z ∧ z ≤ 1000))) ∧ r = none ∧ L' = L ∧ g = (wd cd ad (u2 (u2 (u2 S (11 + x.toNat) 3 y) (11 + x.toNat) 4 z) 5 0 0) f0))) (gQx D CL L (wd cd ad S f0) sz (fun E => (E = xIOB ∧ (¬ (0 ≤ x ∧ x < S 0 4))) ∨ (E = xIAE ∧ ((0 ≤ x ∧ x < S 0 4) ∧ ¬ ((0 ≤ y ∧ y ≤ 1000) ∧ (0 ≤ z ∧ z ≤ 1000)))))) args s rm_P_yields.cells rm_P_yields.slots (gA L sz)) 1 6 L (wd cd ad S f0) 35 [(0, .ref (ad 0)), (1, iv (x)), (2, iv (y)), (3, iv (z))] [iv zj] := by
    intro zj hzj
    subst hzj
    refine fxS0 C hA hsz hnt hl (rest := []) d_P_yields_35 38 rfl (t_P_requireRange hst9 (bi ((0 ≤ y ∧ y ≤ 1000) ∧ (0 ≤ z ∧ z ≤ 1000))) (bi_r _)) ⟨ml_P_56, sm_P_requireRange, ci_P⟩ w_P_requireRange rfl 1 gy_P_requireRange rfl 2 rfl 12 rfl rfl rfl (Nat.le_of_ble_eq_true rfl) (fun E q => Or.inr ⟨q.2, by have q3 := bi_f q.1; omega⟩) (by decide) (by decide) (fun hk2 => ?_)
    have hk2 : (0 ≤ y ∧ y ≤ 1000) ∧ (0 ≤ z ∧ z ≤ 1000) := bi_t hk2
    obtain ⟨k, hk⟩ : ∃ k : Nat, x = (k : Int) := ⟨Int.toNat x, by omega⟩
    subst hk
    refine g_aload_n C d_P_yields_38 39 rfl rfl 0 rfl ?_
    refine gt_P_alloys C G d_P_yields_39 42 rfl fl_P_18 ?_
    refine g_iload_n C d_P_yields_42 43 rfl rfl 1 rfl ?_
    refine ld_4 C G d_P_yields_43 44 rfl k (by omega) rfl ?_
    refine g_iload_n C d_P_yields_44 45 rfl rfl 2 rfl ?_
    refine pt_A_thousandths C G (z := y) d_P_yields_45 48 rfl k (by omega) fl_P_104 ?_
    refine g_aload_n C d_P_yields_48 49 rfl rfl 0 rfl ?_
    refine gt_P_alloys C G d_P_yields_49 52 rfl fl_P_18 ?_
    refine g_iload_n C d_P_yields_52 53 rfl rfl 1 rfl ?_
    refine ld_4 C G d_P_yields_53 54 rfl k (by omega) rfl ?_
    refine g_iload_n C d_P_yields_54 55 rfl rfl 3 rfl ?_
    refine pt_A_cooling C G (z := z) d_P_yields_55 58 rfl k (by omega) fl_P_107 ?_
    refine g_aload_n C d_P_yields_58 59 rfl rfl 0 rfl ?_
    refine gt_P_plan C G d_P_yields_59 62 rfl fl_P_26 ?_
    refine fcV0 C (rest := []) d_P_yields_62 65 rfl (t_N_forget G (S := (u2 (u2 S (11 + k) 3 (y)) (11 + k) 4 (z)))) rfl (G.1 5 (by decide)) (at_N G) ⟨ml_P_63, im_N_forget, se_N_forget, ci_N⟩ w_N_forget rfl 0 gy_N_forget rfl 2 rfl 12 rfl rfl rfl (Nat.le_of_ble_eq_true rfl) ?_
    exact gx_ret (g_vret C hA hsz hr hl d_P_yields_65 (by decide) (by decide) ⟨by omega, rfl, rfl, rfl⟩)
  refine g_iload_n C d_P_yields_8 9 rfl rfl 2 rfl ?_
  refine g_iconst C d_P_yields_9 10 rfl ?_
  refine g_sipush C d_P_yields_10 13 rfl rfl ?_
  refine fcS1 C (rest := []) d_P_yields_13 16 rfl (t_P_isWithin y 0 1000 (show r32 y from ⟨by omega, by omega⟩) (show r32 0 from ⟨by decide, by decide⟩) (show r32 1000 from ⟨by decide, by decide⟩)) ⟨ml_P_52, sm_P_isWithin, ci_P⟩ w_P_isWithin rfl 3 gy_P_isWithin rfl 1 rfl 6 rfl rfl rfl (Nat.le_of_ble_eq_true rfl) ?_
  refine g_if_eq C d_P_yields_16 19 rfl (bi_r _) 34 rfl (fun (w3 : bi (0 ≤ y ∧ y ≤ 1000) = 0) => ?_) (fun (w4 : ¬ bi (0 ≤ y ∧ y ≤ 1000) = 0) => ?_)
  · skip
    have w3 : ¬ (0 ≤ y ∧ y ≤ 1000) := bi_f w3
    refine g_iconst C d_P_yields_34 35 rfl ?_
    exact JR 0 (by first | exact (bi_pos (by omega)).symm | exact (bi_neg (by omega)).symm)
  · skip
    have w4 : (0 ≤ y ∧ y ≤ 1000) := bi_t w4
    refine g_iload_n C d_P_yields_19 20 rfl rfl 3 rfl ?_
    refine g_iconst C d_P_yields_20 21 rfl ?_
    refine g_sipush C d_P_yields_21 24 rfl rfl ?_
    refine fcS1 C (rest := []) d_P_yields_24 27 rfl (t_P_isWithin z 0 1000 (show r32 z from ⟨by omega, by omega⟩) (show r32 0 from ⟨by decide, by decide⟩) (show r32 1000 from ⟨by decide, by decide⟩)) ⟨ml_P_52, sm_P_isWithin, ci_P⟩ w_P_isWithin rfl 3 gy_P_isWithin rfl 1 rfl 6 rfl rfl rfl (Nat.le_of_ble_eq_true rfl) ?_
    refine g_if_eq C d_P_yields_27 30 rfl (bi_r _) 34 rfl (fun (w5 : bi (0 ≤ z ∧ z ≤ 1000) = 0) => ?_) (fun (w6 : ¬ bi (0 ≤ z ∧ z ≤ 1000) = 0) => ?_)
    · skip
      have w5 : ¬ (0 ≤ z ∧ z ≤ 1000) := bi_f w5
      refine g_iconst C d_P_yields_34 35 rfl ?_
      exact JR 0 (by first | exact (bi_pos (by omega)).symm | exact (bi_neg (by omega)).symm)
    · skip
      have w6 : (0 ≤ z ∧ z ≤ 1000) := bi_t w6
      refine g_iconst C d_P_yields_30 31 rfl ?_
      refine g_goto C d_P_yields_31 35 rfl ?_
      exact JR 1 (by first | exact (bi_pos (by omega)).symm | exact (bi_neg (by omega)).symm)
end M6
