section M10
variable {l : Launch} {D : va_G} {cd : Nat → ClassId} {ad : Nat → Nat} {L : List Nat} {f f0 : Nat → va_E} {S : Nat → Nat → Int}
theorem t_M_amountI (G : LO ad L) (hI : IM S) (q : Nat) (x : Int) (hq : q < 4) (hx : x = 0 ∨ x = 1) : FM l y_M_amount c_M_amount 6 (some .long) rm_M_amount D cd L (wd cd ad S f0) [.ref (ad 33), iv (q : Int), iv x] (some (jv (aM S q x))) (wd cd ad S f0) := by
  obtain ⟨a, b, -, -, e, -, g, i, j, -, t⟩ := hI
  exact t_M_amount G q x a hq hx b e (fun k h1 h2 => ⟨t k h1, (g k h1 h2).2.1, (i k h1).1⟩) j
abbrev rm_M_isMet : Room := { frames := 1, cells := 0, slots := 0, locals := 25 }
set_option maxHeartbeats 4000000 in
set_option maxRecDepth 100000 in
theorem t_M_isMet (G : LO ad L) (q : Nat) (hI : IM S) (hq : q < 4) : FM l y_M_isMet c_M_isMet 4 (some .boolean) rm_M_isMet D cd L (wd cd ad S f0) [.ref (ad 33), iv ((q : Int))] (some (iv (bi (metM S q)))) (wd cd ad S f0) := by
  refine g_of (by decide) (Nat.le_of_ble_eq_true rfl) ?_
  intro p e s m args below meth c A sz hA hsz C hr hl hnm
  have C : gC p s m args c D CL (TY cd) A c_M_isMet "AlloyPlansModel" 4 := C
  change gW _ _ _ _ _ _ _ _ _ _ _ _ _ _ _ _ _ _ _ 0 [(0, .ref (ad 33)), (1, iv ((q : Int)))] []
  obtain ⟨u0, v0⟩ := hI.2.1
  refine g_ldc2 C (z := 1000) d_M_isMet_0 3 rfl rfl kd_M_87 ?_
  refine g_aload_n C d_M_isMet_3 4 rfl rfl 0 rfl ?_
  refine gt_M_kilos C G d_M_isMet_4 7 rfl fl_M_7 ?_
  refine g_aload_n C d_M_isMet_7 8 rfl rfl 0 rfl ?_
  refine fcV1 C (rest := [iv (S 33 1), jv (1000)]) d_M_isMet_8 11 rfl (t_M_weight G (S := S) hI.1) rfl (G.1 33 (by decide)) (at_M G) ⟨ml_M_89, im_M_weight, se_M_weight, ci_M⟩ w_M_weight rfl 0 gy_M_weight rfl 0 rfl 0 rfl rfl rfl (Nat.le_of_ble_eq_true rfl) ?_
  have hsm1 := wM_r hI
  refine g_iadd C d_M_isMet_11 12 rfl ?_
  refine g_i2l C d_M_isMet_12 13 rfl (show r32 ((S 33 1) + (wM S)) from ⟨by omega, by omega⟩) ?_
  refine g_lmul C d_M_isMet_13 14 rfl ?_
  refine g_lstore_n C d_M_isMet_14 15 rfl [(2, jv (1000 * ((S 33 1) + (wM S)))), (0, .ref (ad 33)), (1, iv ((q : Int)))] rfl (by decide) rfl ?_
  have hp6 := mul_r (hI.2.2.2.2.2.1 q hq).1 (show 0 ≤ 1000 * (S 33 1 + wM S) ∧ 1000 * (S 33 1 + wM S) ≤ 113536000 by omega)
  have hp7 := mul_r (hI.2.2.2.2.2.1 q hq).2 (show 0 ≤ 1000 * (S 33 1 + wM S) ∧ 1000 * (S 33 1 + wM S) ≤ 113536000 by omega)
  have ha6 := hI.2.2.2.2.2.1 q hq
  refine g_aload_n C d_M_isMet_15 16 rfl rfl 1 rfl ?_
  refine g_iload_n C d_M_isMet_16 17 rfl rfl 2 rfl ?_
  refine g_iconst C d_M_isMet_17 18 rfl ?_
  refine fcV1 C (rest := []) d_M_isMet_18 21 rfl (t_M_amountI G (S := S) hI q 0 (by omega) (by omega)) rfl (G.1 33 (by decide)) (at_M G) ⟨ml_M_93, im_M_amount, se_M_amount, ci_M⟩ w_M_amount rfl 2 gy_M_amount rfl 0 rfl 0 rfl rfl rfl (Nat.le_of_ble_eq_true rfl) ?_
  have ham2 := aM_r (q := q) (x := 0) hI (by omega)
  refine g_aload_n C d_M_isMet_21 22 rfl rfl 1 rfl ?_
  refine gt_M_aimLow C G d_M_isMet_22 25 rfl fl_M_20 ?_
  refine g_iload_n C d_M_isMet_25 26 rfl rfl 2 rfl ?_
  refine ld_36 C G d_M_isMet_26 27 rfl q (by omega) rfl ?_
  refine g_i2l C d_M_isMet_27 28 rfl (show r32 (S 36 q) from ⟨by omega, by omega⟩) ?_
  refine g_lload_n C d_M_isMet_28 29 rfl rfl 0 rfl ?_
  refine g_lmul C d_M_isMet_29 30 rfl ?_
  refine g_lcmp_lt C d_M_isMet_30 31 rfl 34 rfl (show r64 (aM S q 0) from ⟨by omega, by omega⟩) (show r64 ((S 36 q) * (1000 * ((S 33 1) + (wM S)))) from ⟨by omega, by omega⟩) 57 rfl d_M_isMet_31 (fun (w3 : aM S q 0 < (S 36 q) * (1000 * ((S 33 1) + (wM S)))) => ?_) (fun (w4 : ¬ aM S q 0 < (S 36 q) * (1000 * ((S 33 1) + (wM S)))) => ?_)
  · skip
    refine g_iconst C d_M_isMet_57 58 rfl ?_
    exact g_zret C hA hsz hr hl (Or.inl rfl) d_M_isMet_58 (by decide) (by decide) ⟨zi_f (by unfold metM; omega), rfl, rfl⟩
  · skip
    refine g_aload_n C d_M_isMet_34 35 rfl rfl 1 rfl ?_
    refine g_iload_n C d_M_isMet_35 36 rfl rfl 2 rfl ?_
    refine g_iconst C d_M_isMet_36 37 rfl ?_
    refine fcV1 C (rest := []) d_M_isMet_37 40 rfl (t_M_amountI G (S := S) hI q 1 (by omega) (by omega)) rfl (G.1 33 (by decide)) (at_M G) ⟨ml_M_93, im_M_amount, se_M_amount, ci_M⟩ w_M_amount rfl 2 gy_M_amount rfl 0 rfl 0 rfl rfl rfl (Nat.le_of_ble_eq_true rfl) ?_
    have ham5 := aM_r (q := q) (x := 1) hI (by omega)
    refine g_aload_n C d_M_isMet_40 41 rfl rfl 1 rfl ?_
    refine gt_M_aimHigh C G d_M_isMet_41 44 rfl fl_M_23 ?_
    refine g_iload_n C d_M_isMet_44 45 rfl rfl 2 rfl ?_
    refine ld_37 C G d_M_isMet_45 46 rfl q (by omega) rfl ?_
    refine g_i2l C d_M_isMet_46 47 rfl (show r32 (S 37 q) from ⟨by omega, by omega⟩) ?_
    refine g_lload_n C d_M_isMet_47 48 rfl rfl 0 rfl ?_
    refine g_lmul C d_M_isMet_48 49 rfl ?_
    refine g_lcmp_gt C d_M_isMet_49 50 rfl 53 rfl (show r64 (aM S q 1) from ⟨by omega, by omega⟩) (show r64 ((S 37 q) * (1000 * ((S 33 1) + (wM S)))) from ⟨by omega, by omega⟩) 57 rfl d_M_isMet_50 (fun (w6 : (S 37 q) * (1000 * ((S 33 1) + (wM S))) < aM S q 1) => ?_) (fun (w7 : ¬ (S 37 q) * (1000 * ((S 33 1) + (wM S))) < aM S q 1) => ?_)
    · skip
      refine g_iconst C d_M_isMet_57 58 rfl ?_
      exact g_zret C hA hsz hr hl (Or.inl rfl) d_M_isMet_58 (by decide) (by decide) ⟨zi_f (by unfold metM; omega), rfl, rfl⟩
    · skip
      refine g_iconst C d_M_isMet_53 54 rfl ?_
      refine g_goto C d_M_isMet_54 58 rfl ?_
      exact g_zret C hA hsz hr hl (Or.inr rfl) d_M_isMet_58 (by decide) (by decide) ⟨zi_t (by unfold metM; omega), rfl, rfl⟩
abbrev rm_M_planned : Room := { frames := 1, cells := 0, slots := 0, locals := 22 }
set_option maxHeartbeats 4000000 in
set_option maxRecDepth 100000 in
theorem t_M_planned (G : LO ad L) (x : Int) (hx : r32 x) (hI : IM S) : FM l y_M_planned c_M_planned 2 (some .int) rm_M_planned D cd L (wd cd ad S f0) [.ref (ad 33), iv (x)] (some (iv (if gv (bi (0 ≤ x ∧ x ≤ 3)) (S 33 14) = 0 then if x = 0 then cM (uA (u2 S 33 0 (gv (bi (0 ≤ x ∧ x ≤ 3)) (S 33 14))) 46 4 (S 45)) else if x = 1 then wM (uA (u2 S 33 0 (gv (bi (0 ≤ x ∧ x ≤ 3)) (S 33 14))) 46 4 (S 45)) else if x = 2 then uM (uA (u2 S 33 0 (gv (bi (0 ≤ x ∧ x ≤ 3)) (S 33 14))) 46 4 (S 45)) else qM (uA (u2 S 33 0 (gv (bi (0 ≤ x ∧ x ≤ 3)) (S 33 14))) 46 4 (S 45)) else 0))) (wd cd ad (if gv (bi (0 ≤ x ∧ x ≤ 3)) (S 33 14) = 0 then (uA (u2 S 33 0 (gv (bi (0 ≤ x ∧ x ≤ 3)) (S 33 14))) 46 4 (S 45)) else u2 S 33 0 (gv (bi (0 ≤ x ∧ x ≤ 3)) (S 33 14))) f0) := by
  refine g_of (by decide) (Nat.le_of_ble_eq_true rfl) ?_
  intro p e s m args below meth c A sz hA hsz C hr hl hnm
  have C : gC p s m args c D CL (TY cd) A c_M_planned "AlloyPlansModel" 2 := C
  change gW _ _ _ _ _ _ _ _ _ _ _ _ _ _ _ _ _ _ _ 0 [(0, .ref (ad 33)), (1, iv (x))] []
  obtain ⟨u0, v0⟩ := hI.1
  obtain ⟨u1, v1⟩ := hI.2.1
  obtain ⟨u2_, v2⟩ := hI.2.2.1
  have hx1 : -2147483648 ≤ x := hx.1
  have hx2 : x ≤ 2147483647 := hx.2
  refine g_aload_n C d_M_planned_0 1 rfl rfl 0 rfl ?_
  refine g_iload_n C d_M_planned_1 2 rfl rfl 1 rfl ?_
  refine g_iconst C d_M_planned_2 3 rfl ?_
  refine g_iconst C d_M_planned_3 4 rfl ?_
  refine fcS1 C (rest := [.ref (ad 33)]) d_M_planned_4 7 rfl (t_M_in x 0 3 (show r32 x from ⟨by omega, by omega⟩) (show r32 0 from ⟨by decide, by decide⟩) (show r32 3 from ⟨by decide, by decide⟩)) ⟨ml_M_57, sm_M_in, ci_M⟩ w_M_in rfl 3 gy_M_in rfl 0 rfl 0 rfl rfl rfl (Nat.le_of_ble_eq_true rfl) ?_
  refine g_aload_n C d_M_planned_7 8 rfl rfl 0 rfl ?_
  refine gt_M_planned C G d_M_planned_8 11 rfl fl_M_72 ?_
  refine fcV1 C (rest := []) d_M_planned_11 14 rfl (t_M_goes G (S := S) (bi (0 ≤ x ∧ x ≤ 3)) (S 33 14) (bi_r _) (show r32 (S 33 14) from ⟨by omega, by omega⟩)) rfl (G.1 33 (by decide)) (at_M G) ⟨ml_M_68, im_M_goes, se_M_goes, ci_M⟩ w_M_goes rfl 2 gy_M_goes rfl 0 rfl 0 rfl rfl rfl (Nat.le_of_ble_eq_true rfl) ?_
  refine g_if_ne C d_M_planned_14 17 rfl (bi_r _) 19 rfl (fun (w1 : ¬ bi (gv (bi (0 ≤ x ∧ x ≤ 3)) (S 33 14) = 0) = 0) => ?_) (fun (w2 : bi (gv (bi (0 ≤ x ∧ x ≤ 3)) (S 33 14) = 0) = 0) => ?_)
  · skip
    have w1 : (gv (bi (0 ≤ x ∧ x ≤ 3)) (S 33 14) = 0) := bi_t w1
    have hgo : gv (bi (0 ≤ x ∧ x ≤ 3)) (S 33 14) = 0 := by assumption
    have hpq := gv_t1 hgo
    refine g_aload_n C d_M_planned_19 20 rfl rfl 0 rfl ?_
    refine fcV0 C (rest := []) d_M_planned_20 23 rfl (t_M_load G (S := (u2 S 33 0 (gv (bi (0 ≤ x ∧ x ≤ 3)) (S 33 14))))) rfl (G.1 33 (by decide)) (at_M G) ⟨ml_M_113, im_M_load, se_M_load, ci_M⟩ w_M_load rfl 0 gy_M_load rfl 0 rfl 0 rfl rfl rfl (Nat.le_of_ble_eq_true rfl) ?_
    have hIL : IM (uA (u2 S 33 0 (gv (bi (0 ≤ x ∧ x ≤ 3)) (S 33 14))) 46 4 (S 45)) := IM_of hI rfl rfl hI.2.2.1 rfl (fun y _ h2 => by rw [uA_ne (by omega), u2_ne (by omega)]) (fun j hj => by rw [uA_lt hj]; exact hI.2.2.2.2.2.2.2.2.2.1 j hj)
    refine g_iload_n C d_M_planned_23 24 rfl rfl 1 rfl ?_
    refine g_if_ne C d_M_planned_24 27 rfl (show r32 x from ⟨by omega, by omega⟩) 34 rfl (fun (w3 : ¬ x = 0) => ?_) (fun (w4 : x = 0) => ?_)
    · skip
      refine g_iload_n C d_M_planned_34 35 rfl rfl 1 rfl ?_
      refine g_iconst C d_M_planned_35 36 rfl ?_
      refine g_icmp_ne C d_M_planned_36 39 rfl (show r32 x from ⟨by omega, by omega⟩) (show r32 1 from ⟨by decide, by decide⟩) 46 rfl (fun (w5 : ¬ x = 1) => ?_) (fun (w6 : x = 1) => ?_)
      · skip
        refine g_iload_n C d_M_planned_46 47 rfl rfl 1 rfl ?_
        refine g_iconst C d_M_planned_47 48 rfl ?_
        refine g_icmp_ne C d_M_planned_48 51 rfl (show r32 x from ⟨by omega, by omega⟩) (show r32 2 from ⟨by decide, by decide⟩) 58 rfl (fun (w7 : ¬ x = 2) => ?_) (fun (w8 : x = 2) => ?_)
        · skip
          refine g_aload_n C d_M_planned_58 59 rfl rfl 0 rfl ?_
          refine fcV1 C (rest := []) d_M_planned_59 62 rfl (t_M_cooling G (S := (uA (u2 S 33 0 (gv (bi (0 ≤ x ∧ x ≤ 3)) (S 33 14))) 46 4 (S 45))) hIL.1) rfl (G.1 33 (by decide)) (at_M G) ⟨ml_M_101, im_M_cooling, se_M_cooling, ci_M⟩ w_M_cooling rfl 0 gy_M_cooling rfl 0 rfl 0 rfl rfl rfl (Nat.le_of_ble_eq_true rfl) ?_
          have hsm9 := qM_r hIL
          exact g_iret C hA hsz hr hl d_M_planned_62 (by decide) (by decide) ⟨vi_e (show qM (uA (u2 S 33 0 (gv (bi (0 ≤ x ∧ x ≤ 3)) (S 33 14))) 46 4 (S 45)) = _ by rw [if_pos hgo]; rw [if_neg (by omega), if_neg (by omega), if_neg (by omega)]), rfl, by rw [if_pos hgo] <;> rfl⟩
        · skip
          refine g_aload_n C d_M_planned_51 52 rfl rfl 0 rfl ?_
          refine fcV1 C (rest := []) d_M_planned_52 55 rfl (t_M_used G (S := (uA (u2 S 33 0 (gv (bi (0 ≤ x ∧ x ≤ 3)) (S 33 14))) 46 4 (S 45))) hIL.1 hIL.2.2.2.2.2.2.2.2.2.2) rfl (G.1 33 (by decide)) (at_M G) ⟨ml_M_110, im_M_used, se_M_used, ci_M⟩ w_M_used rfl 0 gy_M_used rfl 0 rfl 0 rfl rfl rfl (Nat.le_of_ble_eq_true rfl) ?_
          have hsm10 := uM_r hIL
          refine g_goto C d_M_planned_55 62 rfl ?_
          exact g_iret C hA hsz hr hl d_M_planned_62 (by decide) (by decide) ⟨vi_e (show uM (uA (u2 S 33 0 (gv (bi (0 ≤ x ∧ x ≤ 3)) (S 33 14))) 46 4 (S 45)) = _ by rw [if_pos hgo]; rw [if_neg (by omega), if_neg (by omega), if_pos (by omega)]), rfl, by rw [if_pos hgo] <;> rfl⟩
      · skip
        refine g_aload_n C d_M_planned_39 40 rfl rfl 0 rfl ?_
        refine fcV1 C (rest := []) d_M_planned_40 43 rfl (t_M_weight G (S := (uA (u2 S 33 0 (gv (bi (0 ≤ x ∧ x ≤ 3)) (S 33 14))) 46 4 (S 45))) hIL.1) rfl (G.1 33 (by decide)) (at_M G) ⟨ml_M_89, im_M_weight, se_M_weight, ci_M⟩ w_M_weight rfl 0 gy_M_weight rfl 0 rfl 0 rfl rfl rfl (Nat.le_of_ble_eq_true rfl) ?_
        have hsm11 := wM_r hIL
        refine g_goto C d_M_planned_43 62 rfl ?_
        exact g_iret C hA hsz hr hl d_M_planned_62 (by decide) (by decide) ⟨vi_e (show wM (uA (u2 S 33 0 (gv (bi (0 ≤ x ∧ x ≤ 3)) (S 33 14))) 46 4 (S 45)) = _ by rw [if_pos hgo]; rw [if_neg (by omega), if_pos (by omega)]), rfl, by rw [if_pos hgo] <;> rfl⟩
    · skip
      refine g_aload_n C d_M_planned_27 28 rfl rfl 0 rfl ?_
      refine fcV1 C (rest := []) d_M_planned_28 31 rfl (t_M_cost G (S := (uA (u2 S 33 0 (gv (bi (0 ≤ x ∧ x ≤ 3)) (S 33 14))) 46 4 (S 45))) hIL.1) rfl (G.1 33 (by decide)) (at_M G) ⟨ml_M_107, im_M_cost, se_M_cost, ci_M⟩ w_M_cost rfl 0 gy_M_cost rfl 0 rfl 0 rfl rfl rfl (Nat.le_of_ble_eq_true rfl) ?_
      have hsm12 := cM_r hIL
      refine g_goto C d_M_planned_31 62 rfl ?_
      exact g_iret C hA hsz hr hl d_M_planned_62 (by decide) (by decide) ⟨vi_e (show cM (uA (u2 S 33 0 (gv (bi (0 ≤ x ∧ x ≤ 3)) (S 33 14))) 46 4 (S 45)) = _ by rw [if_pos hgo]; rw [if_pos (by omega)]), rfl, by rw [if_pos hgo] <;> rfl⟩
  · skip
    have w2 : ¬ (gv (bi (0 ≤ x ∧ x ≤ 3)) (S 33 14) = 0) := bi_f w2
    refine g_iconst C d_M_planned_17 18 rfl ?_
    exact g_iret C hA hsz hr hl d_M_planned_18 (by decide) (by decide) ⟨vi_e (by rw [if_neg (by assumption)]), rfl, by rw [if_neg (by assumption)]⟩
def ldM (S : Nat → Nat → Int) : Nat → Nat → Int := uA S 46 4 (S 45)
def allM (S : Nat → Nat → Int) : Int := 1000 * (S 33 1 + wM S)
def loM (S : Nat → Nat → Int) (q : Nat) : Int := Int.tdiv (aM S q 0) (allM S)
def hiM (S : Nat → Nat → Int) (q : Nat) : Int := Int.tdiv (aM S q 1 + allM S - 1) (allM S)
theorem ldM_IM (h : IM S) : IM (ldM S) := IM_of h rfl rfl h.2.2.1 rfl (fun y _ h2 => uA_ne (by omega)) (fun j hj => by unfold ldM; rw [uA_lt hj]; exact h.2.2.2.2.2.2.2.2.2.1 j hj)
theorem th_IM {z : Int} (h : IM S) : IM (u2 S 33 0 z) := IM_of h rfl rfl h.2.2.1 rfl (fun y h1 h2 => u2_ne (by omega)) h.2.2.2.2.2.2.2.2.2.2
theorem wM_th {z : Int} : wM (u2 S 33 0 z) = wM S := rfl
theorem aM_th {z : Int} {q : Nat} {x : Int} : aM (u2 S 33 0 z) q x = aM S q x := rfl
theorem cM_th {z : Int} : cM (u2 S 33 0 z) = cM S := rfl
def addM (U : Nat → Nat → Int) (k a p : Int) : Nat → Nat → Int := u2 (u2 (u2 (u2 (uA (uA U 34 4 (loM U)) 35 4 (hiM U)) 33 18 (p + cM U)) 33 1 (k + wM U)) 33 14 0) 33 17 (a + 1)
theorem add_s (U : Nat → Nat → Int) (n : Nat) (g h : Nat → Int) : uA (uA U 34 (n + 1) g) 35 (n + 1) h = u2 (u2 (uA (uA U 34 n g) 35 n h) 34 n (g n)) 35 n (h n) := by
  funext y j
  unfold u2 uA uR updI
  by_cases h4 : y = 34
  · subst h4
    by_cases hj : j = n
    · subst hj; simp
    · by_cases hl : j < n
      · simp [hj, hl, show j < n + 1 by omega]
      · simp [hj, hl, show ¬ j < n + 1 by omega]
  · by_cases h5 : y = 35
    · subst h5
      by_cases hj : j = n
      · subst hj; simp
      · by_cases hl : j < n
        · simp [hj, hl, show j < n + 1 by omega]
        · simp [hj, hl, show ¬ j < n + 1 by omega]
    · simp [h4, h5]
theorem sumN_le {f w : Nat → Int} {c : Int} (n : Nat) (h : ∀ j, j < n → f j ≤ c * w j) : sumN f n ≤ c * sumN w n := by
  induction n with
  | zero => simp [sumN]
  | succ n ih =>
    have h1 := ih (fun j hj => h j (by omega))
    have h2 := h n (by omega)
    show sumN f n + f n ≤ c * (sumN w n + w n)
    rw [Int.mul_add]
    omega
theorem aM_avg {S : Nat → Nat → Int} {q : Nat} {x : Int} (h : IM S) (hq : q < 4) : aM S q x ≤ 100000 * allM S := by
  obtain ⟨k1, k2⟩ := kN_r h
  obtain ⟨-, h1, -, -, e, -, g, c, d, -, t⟩ := h
  have s := sumN_le (f := aF S q x) (w := fun j => S 46 j * S 39 j) (c := 100000000) (kN S) (fun j hj => by
    have a := g j (by omega) (k2 j hj)
    have b := d (4 * j + q) (by omega)
    have m := mul_r (t j (by omega)) (show 0 ≤ S 39 j ∧ S 39 j ≤ 1000 by omega)
    have v : 0 ≤ (if x = 0 then S 41 (4 * j + q) else S 42 (4 * j + q)) ∧ (if x = 0 then S 41 (4 * j + q) else S 42 (4 * j + q)) ≤ 100000 := by split <;> omega
    have r := mul_r (c j (by omega)).1 v
    show S 46 j * S 39 j * S 43 j * (if x = 0 then S 41 (4 * j + q) else S 42 (4 * j + q)) ≤ 100000000 * (S 46 j * S 39 j)
    rw [Int.mul_assoc (S 46 j * S 39 j), Int.mul_comm 100000000]
    exact Int.mul_le_mul_of_nonneg_left r.2 m.1)
  have b := e q hq
  have v : 0 ≤ (if x = 0 then S 34 q else S 35 q) ∧ (if x = 0 then S 34 q else S 35 q) ≤ 100000 := by split <;> omega
  have p : 1000 * S 33 1 * (if x = 0 then S 34 q else S 35 q) ≤ 1000 * S 33 1 * 100000 := Int.mul_le_mul_of_nonneg_left v.2 (by omega)
  unfold aM allM wM
  omega
theorem lo_r {a c : Int} (h0 : 0 ≤ a) (hc : 0 < c) (h : a ≤ 100000 * c) : 0 ≤ Int.tdiv a c ∧ Int.tdiv a c ≤ 100000 := by
  rw [Int.tdiv_eq_ediv_of_nonneg h0]
  exact ⟨Int.ediv_nonneg h0 (by omega), Int.ediv_le_of_le_mul hc h⟩
theorem hi_r {a c : Int} (h0 : 0 ≤ a) (hc : 0 < c) (h : a ≤ 100000 * c) : 0 ≤ Int.tdiv (a + c - 1) c ∧ Int.tdiv (a + c - 1) c ≤ 100000 := by
  rw [Int.tdiv_eq_ediv_of_nonneg (by omega)]
  refine ⟨Int.ediv_nonneg (by omega) (by omega), Int.le_of_lt_add_one (Int.ediv_lt_of_lt_mul hc ?_)⟩
  omega
theorem add_IM {U : Nat → Nat → Int} {n : Nat} (h : IM U) (hn : n ≤ 4) : IM (uA (uA U 34 n (loM U)) 35 n (hiM U)) := by
  have hw := wM_r h
  have hk := h.2.1
  obtain ⟨a, b, c, d, e, f, g, i, j, k, t⟩ := h
  have hI : IM U := ⟨a, b, c, d, e, f, g, i, j, k, t⟩
  refine ⟨a, b, c, d, fun q hq => ?_, f, g, i, j, k, t⟩
  have hA : 0 < allM U := by unfold allM; omega
  have l := lo_r (aM_r (x := 0) hI hq).1 hA (aM_avg hI hq)
  have m := hi_r (aM_r (x := 1) hI hq).1 hA (aM_avg hI hq)
  have b := e q hq
  refine ⟨?_, ?_⟩
  · rw [uA_ne (by decide)]
    by_cases hl : q < n
    · rw [uA_lt hl]; exact l
    · rw [uA_ge (by omega)]; exact b.1
  · by_cases hl : q < n
    · rw [uA_lt hl]; exact m
    · rw [uA_ge (by omega), uA_ne (by decide)]; exact b.2
abbrev rm_M_add : Room := { frames := 1, cells := 0, slots := 0, locals := 25 }
set_option maxHeartbeats 4000000 in
set_option maxRecDepth 100000 in
theorem t_M_add (G : LO ad L)  (hI : IM S) : FM l y_M_add c_M_add 8 (some .int) rm_M_add D cd L (wd cd ad S f0) [.ref (ad 33)] (some (iv (if gv (S 33 14) (bi (S 33 1 + wM (ldM S) ≤ 65536)) = 0 then S 33 17 + 1 - 1 else 0))) (wd cd ad (if gv (S 33 14) (bi (S 33 1 + wM (ldM S) ≤ 65536)) = 0 then addM (u2 (ldM S) 33 0 (gv (S 33 14) (bi (S 33 1 + wM (ldM S) ≤ 65536)))) (S 33 1) (S 33 17) (S 33 18) else (u2 (ldM S) 33 0 (gv (S 33 14) (bi (S 33 1 + wM (ldM S) ≤ 65536))))) f0) := by
  refine g_of (by decide) (Nat.le_of_ble_eq_true rfl) ?_
  intro p e s m args below meth c A sz hA hsz C hr hl hnm
  have C : gC p s m args c D CL (TY cd) A c_M_add "AlloyPlansModel" 8 := C
  change gW _ _ _ _ _ _ _ _ _ _ _ _ _ _ _ _ _ _ _ 0 [(0, .ref (ad 33))] []
  obtain ⟨u0, v0⟩ := hI.1
  obtain ⟨u1, v1⟩ := hI.2.1
  obtain ⟨u9, v9⟩ := hI.2.2.1
  obtain ⟨u3, v3⟩ := hI.2.2.2.1
  have hIL := ldM_IM hI
  have hwL := wM_r hIL
  refine g_aload_n C d_M_add_0 1 rfl rfl 0 rfl ?_
  refine fcV0 C (rest := []) d_M_add_1 4 rfl (t_M_load G (S := S)) rfl (G.1 33 (by decide)) (at_M G) ⟨ml_M_113, im_M_load, se_M_load, ci_M⟩ w_M_load rfl 0 gy_M_load rfl 0 rfl 0 rfl rfl rfl (Nat.le_of_ble_eq_true rfl) ?_
  refine g_aload_n C d_M_add_4 5 rfl rfl 0 rfl ?_
  refine g_aload_n C d_M_add_5 6 rfl rfl 0 rfl ?_
  refine gt_M_planned C G d_M_add_6 9 rfl fl_M_72 ?_
  refine g_aload_n C d_M_add_9 10 rfl rfl 0 rfl ?_
  refine gt_M_kilos C G d_M_add_10 13 rfl fl_M_7 ?_
  refine g_aload_n C d_M_add_13 14 rfl rfl 0 rfl ?_
  refine fcV1 C (rest := [iv (S 33 1), iv (S 33 14), .ref (ad 33)]) d_M_add_14 17 rfl (t_M_weight G (S := (ldM S)) hIL.1) rfl (G.1 33 (by decide)) (at_M G) ⟨ml_M_89, im_M_weight, se_M_weight, ci_M⟩ w_M_weight rfl 0 gy_M_weight rfl 0 rfl 0 rfl rfl rfl (Nat.le_of_ble_eq_true rfl) ?_
  have hsm1 := wM_r hIL
  refine g_iadd C d_M_add_17 18 rfl ?_
  have JG : ∀ zj : Int, zj = (bi (S 33 1 + wM (ldM S) ≤ 65536)) → gW p l e rm_M_add s m args below meth c D CL A 8 (MQ below (gQ D CL L sz (fun r L' g => r = (some (iv (if gv (S 33 14) (bi (S 33 1 + wM (ldM S) ≤ 65536)) = 0 then S 33 17 + 1 - 1 else 0))) ∧ L' = L ∧ g = (wd cd ad (if gv (S 33 14) (bi (S 33 1 + wM (ldM S) ≤ 65536)) = 0 then addM (u2 (ldM S) 33 0 (gv (S 33 14) (bi (S 33 1 + wM (ldM S) ≤ 65536)))) (S 33 1) (S 33 17) (S 33 18) else (u2 (ldM S) 33 0 (gv (S 33 14) (bi (S 33 1 + wM (ldM S) ≤ 65536))))) f0))) args s rm_M_add.cells rm_M_add.slots (gA L sz)) 0 0 L (wd cd ad (ldM S) f0) 28 [(0, .ref (ad 33))] [iv zj, iv (S 33 14), .ref (ad 33)] := by
    intro zj hzj
    subst hzj
    refine fcV1 C (rest := []) d_M_add_28 31 rfl (t_M_goes G (S := (ldM S)) (S 33 14) (bi (S 33 1 + wM (ldM S) ≤ 65536)) (show r32 (S 33 14) from ⟨by omega, by omega⟩) (bi_r _)) rfl (G.1 33 (by decide)) (at_M G) ⟨ml_M_68, im_M_goes, se_M_goes, ci_M⟩ w_M_goes rfl 2 gy_M_goes rfl 0 rfl 0 rfl rfl rfl (Nat.le_of_ble_eq_true rfl) ?_
    refine g_if_ne C d_M_add_31 34 rfl (bi_r _) 36 rfl (fun (w2 : ¬ bi (gv (S 33 14) (bi (S 33 1 + wM (ldM S) ≤ 65536)) = 0) = 0) => ?_) (fun (w3 : bi (gv (S 33 14) (bi (S 33 1 + wM (ldM S) ≤ 65536)) = 0) = 0) => ?_)
    · skip
      have w2 : (gv (S 33 14) (bi (S 33 1 + wM (ldM S) ≤ 65536)) = 0) := bi_t w2
      have hgo : gv (S 33 14) (bi (S 33 1 + wM (ldM S) ≤ 65536)) = 0 := by assumption
      have hpq := gv_t2 hgo
      obtain ⟨U, hU⟩ : ∃ U, U = (u2 (ldM S) 33 0 (gv (S 33 14) (bi (S 33 1 + wM (ldM S) ≤ 65536)))) := ⟨_, rfl⟩
      have hIU : IM U := by rw [hU]; exact th_IM hIL
      have k1 : U 33 1 = S 33 1 := by rw [hU]; rfl
      have k17 : U 33 17 = S 33 17 := by rw [hU]; rfl
      have k18 : U 33 18 = S 33 18 := by rw [hU]; rfl
      have kw : wM U = wM (ldM S) := by rw [hU]; rfl
      refine (congrArg (fun z => gW p l e rm_M_add s m args below meth c D CL A 8 (MQ below (gQ D CL L sz (fun r L' g => r = (some (iv (if gv (S 33 14) (bi (S 33 1 + wM (ldM S) ≤ 65536)) = 0 then S 33 17 + 1 - 1 else 0))) ∧ L' = L ∧ g = (wd cd ad (if gv (S 33 14) (bi (S 33 1 + wM (ldM S) ≤ 65536)) = 0 then addM (u2 (ldM S) 33 0 (gv (S 33 14) (bi (S 33 1 + wM (ldM S) ≤ 65536)))) (S 33 1) (S 33 17) (S 33 18) else (u2 (ldM S) 33 0 (gv (S 33 14) (bi (S 33 1 + wM (ldM S) ≤ 65536))))) f0))) args s rm_M_add.cells rm_M_add.slots (gA L sz)) 0 0 L (wd cd ad z f0) 36 [(0, .ref (ad 33))] []) hU).mp ?_
      refine g_ldc2 C (z := 1000) d_M_add_36 39 rfl rfl kd_M_87 ?_
      refine g_aload_n C d_M_add_39 40 rfl rfl 0 rfl ?_
      refine gt_M_kilos C G d_M_add_40 43 rfl fl_M_7 ?_
      refine g_aload_n C d_M_add_43 44 rfl rfl 0 rfl ?_
      refine fcV1 C (rest := [iv (U 33 1), jv (1000)]) d_M_add_44 47 rfl (t_M_weight G (S := U) hIU.1) rfl (G.1 33 (by decide)) (at_M G) ⟨ml_M_89, im_M_weight, se_M_weight, ci_M⟩ w_M_weight rfl 0 gy_M_weight rfl 0 rfl 0 rfl rfl rfl (Nat.le_of_ble_eq_true rfl) ?_
      have hsm4 := wM_r hIU
      refine g_iadd C d_M_add_47 48 rfl ?_
      refine g_i2l C d_M_add_48 49 rfl (show r32 ((U 33 1) + (wM U)) from ⟨by omega, by omega⟩) ?_
      refine g_lmul C d_M_add_49 50 rfl ?_
      refine g_lstore_n C d_M_add_50 51 rfl [(1, jv (1000 * ((U 33 1) + (wM U)))), (0, .ref (ad 33))] rfl (by decide) rfl ?_
      refine g_iconst C d_M_add_51 52 rfl ?_
      refine g_istore_n C d_M_add_52 53 rfl [(3, iv (0)), (1, jv (1000 * ((U 33 1) + (wM U)))), (0, .ref (ad 33))] rfl (by decide) rfl ?_
      have LP : ∀ (d n : Nat) (T : Nat → Nat → Int), n + d = 4 → T = uA (uA U 34 n (loM U)) 35 n (hiM U) → gW p l e rm_M_add s m args below meth c D CL A 8 (MQ below (gQ D CL L sz (fun r L' g => r = (some (iv (if gv (S 33 14) (bi (S 33 1 + wM (ldM S) ≤ 65536)) = 0 then S 33 17 + 1 - 1 else 0))) ∧ L' = L ∧ g = (wd cd ad (if gv (S 33 14) (bi (S 33 1 + wM (ldM S) ≤ 65536)) = 0 then addM (u2 (ldM S) 33 0 (gv (S 33 14) (bi (S 33 1 + wM (ldM S) ≤ 65536)))) (S 33 1) (S 33 17) (S 33 18) else (u2 (ldM S) 33 0 (gv (S 33 14) (bi (S 33 1 + wM (ldM S) ≤ 65536))))) f0))) args s rm_M_add.cells rm_M_add.slots (gA L sz)) 0 0 L (wd cd ad T f0) 53 [(3, iv ((n : Int))), (1, jv (1000 * (U 33 1 + wM U))), (0, .ref (ad 33))] [] := by
        intro d
        induction d with
        | zero =>
          intro n T hn hT
          have ne : ∀ y, y ≠ 34 → y ≠ 35 → T y = U y := fun y a b => by rw [hT, uA_ne b, uA_ne a]
          have f6 : T 33 6 = U 33 6 := by rw [ne 33 (by decide) (by decide)]
          have f1 : T 33 1 = U 33 1 := by rw [ne 33 (by decide) (by decide)]
          have f17 : T 33 17 = U 33 17 := by rw [ne 33 (by decide) (by decide)]
          have f18 : T 33 18 = U 33 18 := by rw [ne 33 (by decide) (by decide)]
          have fw : wM T = wM U := wM_c f6 (ne 46 (by decide) (by decide)) (ne 39 (by decide) (by decide))
          have fc : cM T = cM U := cM_c f6 (ne 46 (by decide) (by decide)) (ne 38 (by decide) (by decide))
          have hIT : IM T := by rw [hT]; exact add_IM hIU (by omega)
          refine g_iload_n C d_M_add_53 54 rfl rfl 0 rfl ?_
          refine g_iconst C d_M_add_54 55 rfl ?_
          refine g_icmp_ge C d_M_add_55 58 rfl (show r32 ((n : Int)) from ⟨by omega, by omega⟩) (show r32 4 from ⟨by decide, by decide⟩) 106 rfl (fun (w5 : 4 ≤ (n : Int)) => ?_) (fun (w5 : ¬ 4 ≤ (n : Int)) => absurd w5 (by omega))
          refine g_aload_n C d_M_add_106 107 rfl rfl 2 rfl ?_
          refine g_aload_n C d_M_add_107 108 rfl rfl 2 rfl ?_
          refine gt_M_paid C G d_M_add_108 111 rfl fl_M_116 ?_
          refine g_aload_n C d_M_add_111 112 rfl rfl 2 rfl ?_
          refine fcV1 C (rest := [jv (T 33 18), .ref (ad 33)]) d_M_add_112 115 rfl (t_M_cost G (S := T) hIT.1) rfl (G.1 33 (by decide)) (at_M G) ⟨ml_M_107, im_M_cost, se_M_cost, ci_M⟩ w_M_cost rfl 0 gy_M_cost rfl 0 rfl 0 rfl rfl rfl (Nat.le_of_ble_eq_true rfl) ?_
          have hsm6 := cM_r hIT
          refine g_i2l C d_M_add_115 116 rfl (show r32 (cM T) from ⟨by omega, by omega⟩) ?_
          refine g_ladd C d_M_add_116 117 rfl ?_
          refine pt_M_paid C G (z := (T 33 18) + (cM T)) d_M_add_117 120 rfl fl_M_116 ?_
          refine g_aload_n C d_M_add_120 121 rfl rfl 2 rfl ?_
          refine g_aload_n C d_M_add_121 122 rfl rfl 2 rfl ?_
          refine gt_M_kilos C G d_M_add_122 125 rfl fl_M_7 ?_
          refine g_aload_n C d_M_add_125 126 rfl rfl 2 rfl ?_
          refine fcV1 C (rest := [iv (T 33 1), .ref (ad 33)]) d_M_add_126 129 rfl (t_M_weight G (S := (u2 T 33 18 ((T 33 18) + (cM T)))) hIT.1) rfl (G.1 33 (by decide)) (at_M G) ⟨ml_M_89, im_M_weight, se_M_weight, ci_M⟩ w_M_weight rfl 0 gy_M_weight rfl 0 rfl 0 rfl rfl rfl (Nat.le_of_ble_eq_true rfl) ?_
          have hsm7 := wM_r hIT
          refine g_iadd C d_M_add_129 130 rfl ?_
          refine pt_M_kilos C G (z := (T 33 1) + (wM (u2 T 33 18 ((T 33 18) + (cM T))))) d_M_add_130 133 rfl fl_M_7 ?_
          refine g_aload_n C d_M_add_133 134 rfl rfl 2 rfl ?_
          refine g_iconst C d_M_add_134 135 rfl ?_
          refine pt_M_planned C G (z := 0) d_M_add_135 138 rfl fl_M_72 (Or.inl rfl) ?_
          refine g_aload_n C d_M_add_138 139 rfl rfl 2 rfl ?_
          refine g_dup C d_M_add_139 140 rfl rfl ?_
          refine gt_M_added C G d_M_add_140 143 rfl fl_M_64 ?_
          refine g_iconst C d_M_add_143 144 rfl ?_
          refine g_iadd C d_M_add_144 145 rfl ?_
          refine pt_M_added C G (z := (T 33 17) + 1) d_M_add_145 148 rfl fl_M_64 ?_
          refine g_aload_n C d_M_add_148 149 rfl rfl 2 rfl ?_
          refine gt_M_added C G d_M_add_149 152 rfl fl_M_64 ?_
          refine g_iconst C d_M_add_152 153 rfl ?_
          refine g_isub C d_M_add_153 154 rfl ?_
          exact g_iret C hA hsz hr hl d_M_add_154 (by decide) (by decide) ⟨vi_e (show T 33 17 + 1 - 1 = _ by rw [if_pos hgo]; omega), rfl, by rw [if_pos hgo, ← hU]; unfold addM; rw [show (4 : Nat) = n by omega, ← hT, ← fc, ← fw, ← k1, ← k17, ← k18, ← f1, ← f17, ← f18]; rfl⟩
        | succ d ih =>
          intro n T hn hT
          have ne : ∀ y, y ≠ 34 → y ≠ 35 → T y = U y := fun y a b => by rw [hT, uA_ne b, uA_ne a]
          have f6 : T 33 6 = U 33 6 := by rw [ne 33 (by decide) (by decide)]
          have f1 : T 33 1 = U 33 1 := by rw [ne 33 (by decide) (by decide)]
          have f17 : T 33 17 = U 33 17 := by rw [ne 33 (by decide) (by decide)]
          have f18 : T 33 18 = U 33 18 := by rw [ne 33 (by decide) (by decide)]
          have fw : wM T = wM U := wM_c f6 (ne 46 (by decide) (by decide)) (ne 39 (by decide) (by decide))
          have fc : cM T = cM U := cM_c f6 (ne 46 (by decide) (by decide)) (ne 38 (by decide) (by decide))
          have hIT : IM T := by rw [hT]; exact add_IM hIU (by omega)
          have g34 : T 34 n = U 34 n := by rw [hT, uA_ne (by decide), uA_ge (Nat.le_refl n)]
          have g35 : T 35 n = U 35 n := by rw [hT, uA_ge (Nat.le_refl n), uA_ne (by decide)]
          have fa : ∀ z, aM T n z = aM U n z := fun z => aM_c f6 f1 g34 g35 (fun y a b => ne y (by omega) (by omega))
          refine g_iload_n C d_M_add_53 54 rfl rfl 0 rfl ?_
          refine g_iconst C d_M_add_54 55 rfl ?_
          refine g_icmp_ge C d_M_add_55 58 rfl (show r32 ((n : Int)) from ⟨by omega, by omega⟩) (show r32 4 from ⟨by decide, by decide⟩) 106 rfl (fun (w8 : 4 ≤ (n : Int)) => absurd w8 (by omega)) (fun (w8 : ¬ 4 ≤ (n : Int)) => ?_)
          refine g_aload_n C d_M_add_58 59 rfl rfl 2 rfl ?_
          refine g_iload_n C d_M_add_59 60 rfl rfl 0 rfl ?_
          refine g_iconst C d_M_add_60 61 rfl ?_
          refine fcV1 C (rest := []) d_M_add_61 64 rfl (t_M_amountI G (S := T) hIT n 0 (by omega) (by omega)) rfl (G.1 33 (by decide)) (at_M G) ⟨ml_M_93, im_M_amount, se_M_amount, ci_M⟩ w_M_amount rfl 2 gy_M_amount rfl 0 rfl 0 rfl rfl rfl (Nat.le_of_ble_eq_true rfl) ?_
          have ham9 := aM_r (q := n) (x := 0) hIT (by omega)
          refine g_lstore C d_M_add_64 66 rfl [(4, jv (aM T n 0)), (3, iv ((n : Int))), (1, jv (1000 * (U 33 1 + wM U))), (0, .ref (ad 33))] (by decide) rfl ?_
          refine g_aload_n C d_M_add_66 67 rfl rfl 3 rfl ?_
          refine g_iload_n C d_M_add_67 68 rfl rfl 1 rfl ?_
          refine g_iconst C d_M_add_68 69 rfl ?_
          refine fcV1 C (rest := []) d_M_add_69 72 rfl (t_M_amountI G (S := T) hIT n 1 (by omega) (by omega)) rfl (G.1 33 (by decide)) (at_M G) ⟨ml_M_93, im_M_amount, se_M_amount, ci_M⟩ w_M_amount rfl 2 gy_M_amount rfl 0 rfl 0 rfl rfl rfl (Nat.le_of_ble_eq_true rfl) ?_
          have ham10 := aM_r (q := n) (x := 1) hIT (by omega)
          refine g_lstore C d_M_add_72 74 rfl [(6, jv (aM T n 1)), (4, jv (aM T n 0)), (3, iv ((n : Int))), (1, jv (1000 * (U 33 1 + wM U))), (0, .ref (ad 33))] (by decide) rfl ?_
          refine g_aload_n C d_M_add_74 75 rfl rfl 4 rfl ?_
          refine gt_M_presentLow C G d_M_add_75 78 rfl fl_M_13 ?_
          refine g_iload_n C d_M_add_78 79 rfl rfl 2 rfl ?_
          refine g_lload C d_M_add_79 81 rfl 1 rfl ?_
          refine g_lload_n C d_M_add_81 82 rfl rfl 3 rfl ?_
          refine g_ldiv C d_M_add_82 83 rfl (show r64 (aM T n 0) from ⟨by omega, by omega⟩) (show r64 (1000 * (U 33 1 + wM U)) from ⟨by omega, by omega⟩) (show (1000 * (U 33 1 + wM U)) ≠ (0 : Int) by omega) ?_
          refine g_l2i C d_M_add_83 84 rfl ?_
          refine st_34 C G (x := Int.tdiv (aM T n 0) (1000 * (U 33 1 + wM U))) d_M_add_84 85 rfl n (by omega) rfl ?_
          refine g_aload_n C d_M_add_85 86 rfl rfl 4 rfl ?_
          refine gt_M_presentHigh C G d_M_add_86 89 rfl fl_M_17 ?_
          refine g_iload_n C d_M_add_89 90 rfl rfl 2 rfl ?_
          refine g_lload C d_M_add_90 92 rfl 0 rfl ?_
          refine g_lload_n C d_M_add_92 93 rfl rfl 3 rfl ?_
          refine g_ladd C d_M_add_93 94 rfl ?_
          refine g_lconst C (z := 1) d_M_add_94 95 rfl rfl ?_
          refine g_lsub C d_M_add_95 96 rfl ?_
          refine g_lload_n C d_M_add_96 97 rfl rfl 3 rfl ?_
          refine g_ldiv C d_M_add_97 98 rfl (show r64 (((aM T n 1) + (1000 * (U 33 1 + wM U))) - 1) from ⟨by omega, by omega⟩) (show r64 (1000 * (U 33 1 + wM U)) from ⟨by omega, by omega⟩) (show (1000 * (U 33 1 + wM U)) ≠ (0 : Int) by omega) ?_
          refine g_l2i C d_M_add_98 99 rfl ?_
          refine st_35 C G (x := Int.tdiv (((aM T n 1) + (1000 * (U 33 1 + wM U))) - 1) (1000 * (U 33 1 + wM U))) d_M_add_99 100 rfl n (by omega) rfl ?_
          refine g_iinc C d_M_add_100 103 rfl [(3, iv ((n : Int) + 1)), (6, jv (aM T n 1)), (4, jv (aM T n 0)), (1, jv (1000 * (U 33 1 + wM U))), (0, .ref (ad 33))] 2 rfl (by decide) rfl ?_
          refine g_goto C d_M_add_103 53 rfl ?_
          refine g_sub [0, 3, 4] _ rfl ?_
          refine ih (n + 1) _ (by omega) ?_
          rw [add_s, ← hT]
          unfold loM hiM allM
          rw [← fa 0, ← fa 1]
      exact LP 4 0 _ rfl (by rw [uA_0, uA_0])
    · skip
      have w3 : ¬ (gv (S 33 14) (bi (S 33 1 + wM (ldM S) ≤ 65536)) = 0) := bi_f w3
      refine g_iconst C d_M_add_34 35 rfl ?_
      exact g_iret C hA hsz hr hl d_M_add_35 (by decide) (by decide) ⟨vi_e (by rw [if_neg (by assumption)]), rfl, by rw [if_neg (by assumption)]⟩
  refine g_ldc C (z := 65536) d_M_add_18 20 rfl rfl kc_M_67 ?_
  refine g_icmp_gt C d_M_add_20 23 rfl (show r32 ((S 33 1) + (wM (ldM S))) from ⟨by omega, by omega⟩) (show r32 65536 from ⟨by decide, by decide⟩) 27 rfl (fun (w11 : 65536 < (S 33 1) + (wM (ldM S))) => ?_) (fun (w12 : ¬ 65536 < (S 33 1) + (wM (ldM S))) => ?_)
  · skip
    refine g_iconst C d_M_add_27 28 rfl ?_
    exact JG 0 (by first | exact (bi_pos (by omega)).symm | exact (bi_neg (by omega)).symm)
  · skip
    refine g_iconst C d_M_add_23 24 rfl ?_
    refine g_goto C d_M_add_24 28 rfl ?_
    exact JG 1 (by first | exact (bi_pos (by omega)).symm | exact (bi_neg (by omega)).symm)
end M10
