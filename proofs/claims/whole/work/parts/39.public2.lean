section M7
variable {l : Launch} {D : va_G} {cd : Nat → ClassId} {ad : Nat → Nat} {L : List Nat} {f f0 : Nat → va_E} {S : Nat → Nat → Int}
def trS (S : Nat → Nat → Int) (x : Int) : Nat → Nat → Int := tryS (S 0 4) 4 0 (beginS (u2 S 5 0 0) x (S 0 4).toNat)
def setP (T : Nat → Nat → Int) (k : Nat) : Nat → Nat → Int := u2 (setS T (cS T k) (kS T k) (mS T k) (qS T k) k) 5 0 1
def runS (S : Nat → Nat → Int) (x : Int) : Nat → Nat → Int := if trS S x 7 0 = 0 then trS S x else setP (trS S x) (S 0 4).toNat
def ordL (S : Nat → Nat → Int) (x : Int) : Nat → Nat → Int
  | 0, _ => -1
  | d + 1, n => if 0 < S 6 n ∧ sumN (addP S n) (S 0 4).toNat = x then (n : Int) else ordL S x d (n + 1)
def whP (S : Nat → Nat → Int) : Int := 1000 * (S 1 0 + S 5 2)
def hpl (S : Nat → Nat → Int) (q : Nat) : Int := heldP S q (S 0 4).toNat
def rndP (S : Nat → Nat → Int) (q : Nat) : Int := if 0 < 1000 * (S 1 0 + S 5 2) then Int.tdiv (if Int.tmod (q : Int) 2 = 0 then heldP S q (S 0 4).toNat else heldP S q (S 0 4).toNat + 1000 * (S 1 0 + S 5 2) - 1) (1000 * (S 1 0 + S 5 2)) else 0
theorem heldP_2 {S T : Nat → Nat → Int} {q n : Nat} (h : ∀ x, x ≠ 2 → T x = S x) (h2 : T 2 q = S 2 q) : heldP T q n = heldP S q n := by
  unfold heldP heldH heldA
  rw [h 1 (by decide), h2, h 6 (by decide)]
  congr 1
  exact sumN_congr n (fun j _ => by show S 6 j * (T (11 + j) 1 * T (15 + j) q * T (11 + j) 3) = S 6 j * (S (11 + j) 1 * S (15 + j) q * S (11 + j) 3); rw [h (11 + j) (by omega), h (15 + j) (by omega)])
abbrev rm_S_goThrough : Room := { frames := 17, cells := 0, slots := 0, locals := 486 }
set_option maxHeartbeats 4000000 in
set_option maxRecDepth 100000 in
theorem t_S_goThrough (G : LO ad L) (x y : Int) (h0 : 0 ≤ x ∧ x ≤ 4) (h1 : r32 (S 1 0)) (h2 : ∀ m, m < 8 → r32 (S 2 m)) (h3 : ∀ m, m < 8 → r32 (S 3 m)) (ha : ∀ j, j < 4 → (r32 (S (11 + j) 1) ∧ r32 (S (11 + j) 3) ∧ ∀ m, m < 8 → r32 (S (15 + j) m))) (hb1 : RD (beginS S y x.toNat)) (hb2 : RS (beginS S y x.toNat)) (hb3 : RM (beginS S y x.toNat) 0) : FM l y_S_goThrough c_S_goThrough 6 none rm_S_goThrough D cd L (wd cd ad S f0) [.ref (ad 7), .ref (ad 1), .ref (ad 4), iv (x), iv (y)] none (wd cd ad (tryS x 4 0 (beginS S y x.toNat)) f0) := by
  refine g_of (by decide) (Nat.le_of_ble_eq_true rfl) ?_
  intro p e s m args below meth c A sz hA hsz C hr hl hnm
  have C : gC p s m args c D CL (TY cd) A c_S_goThrough "AlloyPlans$Search" 6 := C
  change gW _ _ _ _ _ _ _ _ _ _ _ _ _ _ _ _ _ _ _ 0 [(0, .ref (ad 7)), (1, .ref (ad 1)), (2, .ref (ad 4)), (3, iv (x)), (4, iv (y))] []
  obtain ⟨u0, v0⟩ := h0
  obtain ⟨u1, v1⟩ := h1
  refine g_aload_n C d_S_goThrough_0 1 rfl rfl 0 rfl ?_
  refine g_iconst C d_S_goThrough_1 2 rfl ?_
  refine pt_S_found C G (z := 0) d_S_goThrough_2 5 rfl fl_S_25 (Or.inl rfl) ?_
  refine g_aload_n C d_S_goThrough_5 6 rfl rfl 0 rfl ?_
  refine g_iconst C d_S_goThrough_6 7 rfl ?_
  refine pt_S_mostMet C G (z := 0) d_S_goThrough_7 10 rfl fl_S_29 ?_
  refine g_iconst C d_S_goThrough_10 11 rfl ?_
  refine g_istore C d_S_goThrough_11 13 rfl [(5, iv (0)), (0, .ref (ad 7)), (1, .ref (ad 1)), (2, .ref (ad 4)), (3, iv (x)), (4, iv (y))] (by decide) rfl ?_
  have LP : ∀ (d n : Nat) (T : Nat → Nat → Int), n + d = 4 → T = gS (u2 (u2 S 7 0 0) 7 1 0) n → (n : Int) ≤ x → gW p l e rm_S_goThrough s m args below meth c D CL A 6 (MQ below (gQ D CL L sz (fun r L' g => r = none ∧ L' = L ∧ g = (wd cd ad (tryS x 4 0 (beginS S y x.toNat)) f0))) args s rm_S_goThrough.cells rm_S_goThrough.slots (gA L sz)) 0 0 L (wd cd ad T f0) 13 [(5, iv ((n : Int))), (0, .ref (ad 7)), (1, .ref (ad 1)), (2, .ref (ad 4)), (3, iv (x)), (4, iv (y))] [] := by
    intro d
    induction d with
    | zero =>
      intro n T hn hT hle
      have e1 : T 1 = S 1 := by rw [hT, gS_ne _ _ _ (by omega), u2_ne (by omega), u2_ne (by omega)]
      have e2 : T 2 = S 2 := by rw [hT, gS_ne _ _ _ (by omega), u2_ne (by omega), u2_ne (by omega)]
      have e3 : T 3 = S 3 := by rw [hT, gS_ne _ _ _ (by omega), u2_ne (by omega), u2_ne (by omega)]
      have f1 : T 1 0 = S 1 0 := by rw [e1]
      have g2 : ∀ m, m < 8 → r32 (T 2 m) := fun m hm => by rw [e2]; exact h2 m hm
      have g3 : ∀ m, m < 8 → r32 (T 3 m) := fun m hm => by rw [e3]; exact h3 m hm
      refine g_iload C d_S_goThrough_13 15 rfl 0 rfl ?_
      refine g_iload_n C d_S_goThrough_15 16 rfl rfl 4 rfl ?_
      refine g_icmp_ge C d_S_goThrough_16 19 rfl (show r32 ((n : Int)) from ⟨by omega, by omega⟩) (show r32 x from ⟨by omega, by omega⟩) 43 rfl (fun (w1 : x ≤ (n : Int)) => ?_) (fun (w1 : ¬ x ≤ (n : Int)) => absurd w1 (by omega))
      refine g_aload_n C d_S_goThrough_43 44 rfl rfl 1 rfl ?_
      refine gt_S_mixes C G d_S_goThrough_44 47 rfl fl_S_20 ?_
      refine g_iconst C d_S_goThrough_47 48 rfl ?_
      refine ld_10 C G d_S_goThrough_48 49 rfl 0 (by decide) rfl ?_
      refine g_aload_n C d_S_goThrough_49 50 rfl rfl 2 rfl ?_
      refine g_iload C d_S_goThrough_50 52 rfl 5 rfl ?_
      refine fcV0 C (rest := []) d_S_goThrough_52 55 rfl (t_X_becomeHeat G (S := T) 0 y (by decide) (show r32 (T 1 0) from ⟨by omega, by omega⟩) g2 g3) rfl (G.1 (23 + 0) (by omega)) (at_X G 0 (by decide)) ⟨ml_S_44, im_X_becomeHeat, se_X_becomeHeat, ci_X⟩ w_X_becomeHeat rfl 2 gy_X_becomeHeat rfl 0 rfl 0 rfl rfl rfl (Nat.le_of_ble_eq_true rfl) ?_
      have hB : (uA (u2 (u2 (u2 T (23 + 0) 0 0) (23 + 0) 1 0) (23 + 0) 2 y) (28 + 0) 8 (surH T)) = beginS S y x.toNat := by rw [hT, show n = x.toNat by omega]; rfl
      refine g_aload_n C d_S_goThrough_55 56 rfl rfl 1 rfl ?_
      refine g_iconst C d_S_goThrough_56 57 rfl ?_
      refine g_aload_n C d_S_goThrough_57 58 rfl rfl 3 rfl ?_
      refine g_iload_n C d_S_goThrough_58 59 rfl rfl 4 rfl ?_
      refine fcV0 C (rest := []) d_S_goThrough_59 62 rfl (t_S_tryKindsFrom G x 4 0 (uA (u2 (u2 (u2 T (23 + 0) 0 0) (23 + 0) 1 0) (23 + 0) 2 y) (28 + 0) 8 (surH T)) rfl ⟨by omega, by omega⟩ (by rw [hB]; exact hb1) (by rw [hB]; exact hb2) (by rw [hB]; exact hb3)) rfl (G.1 7 (by decide)) (at_S G) ⟨ml_S_48, im_S_tryKindsFrom, se_S_tryKindsFrom, ci_S⟩ w_S_tryKindsFrom rfl 3 gy_S_tryKindsFrom rfl 0 rfl 0 rfl rfl rfl (Nat.le_of_ble_eq_true rfl) ?_
      exact g_vret C hA hsz hr hl d_S_goThrough_62 (by decide) (by decide) ⟨rfl, rfl, by rw [hB]⟩
    | succ d ih =>
      intro n T hn hT hle
      have e1 : T 1 = S 1 := by rw [hT, gS_ne _ _ _ (by omega), u2_ne (by omega), u2_ne (by omega)]
      have e2 : T 2 = S 2 := by rw [hT, gS_ne _ _ _ (by omega), u2_ne (by omega), u2_ne (by omega)]
      have e3 : T 3 = S 3 := by rw [hT, gS_ne _ _ _ (by omega), u2_ne (by omega), u2_ne (by omega)]
      have f1 : T 1 0 = S 1 0 := by rw [e1]
      have g2 : ∀ m, m < 8 → r32 (T 2 m) := fun m hm => by rw [e2]; exact h2 m hm
      have g3 : ∀ m, m < 8 → r32 (T 3 m) := fun m hm => by rw [e3]; exact h3 m hm
      have e11 : T (11 + n) = S (11 + n) := by rw [hT, gS_ne _ _ _ (by omega), u2_ne (by omega), u2_ne (by omega)]
      have e15 : T (15 + n) = S (15 + n) := by rw [hT, gS_ne _ _ _ (by omega), u2_ne (by omega), u2_ne (by omega)]
      have g15 : ∀ m, m < 8 → r32 (T (15 + n) m) := fun m hm => by rw [e15]; exact (ha n (by omega)).2.2 m hm
      obtain ⟨⟨u4, v4⟩, ⟨u5, v5⟩, -⟩ := ha n (by omega)
      have f4 : T (11 + n) 1 = S (11 + n) 1 := by rw [e11]
      have f5 : T (11 + n) 3 = S (11 + n) 3 := by rw [e11]
      refine g_iload C d_S_goThrough_13 15 rfl 0 rfl ?_
      refine g_iload_n C d_S_goThrough_15 16 rfl rfl 4 rfl ?_
      refine g_icmp_ge C d_S_goThrough_16 19 rfl (show r32 ((n : Int)) from ⟨by omega, by omega⟩) (show r32 x from ⟨by omega, by omega⟩) 43 rfl (fun (w2 : x ≤ (n : Int)) => ?_) (fun (w3 : ¬ x ≤ (n : Int)) => ?_)
      · skip
        refine g_aload_n C d_S_goThrough_43 44 rfl rfl 1 rfl ?_
        refine gt_S_mixes C G d_S_goThrough_44 47 rfl fl_S_20 ?_
        refine g_iconst C d_S_goThrough_47 48 rfl ?_
        refine ld_10 C G d_S_goThrough_48 49 rfl 0 (by decide) rfl ?_
        refine g_aload_n C d_S_goThrough_49 50 rfl rfl 2 rfl ?_
        refine g_iload C d_S_goThrough_50 52 rfl 5 rfl ?_
        refine fcV0 C (rest := []) d_S_goThrough_52 55 rfl (t_X_becomeHeat G (S := T) 0 y (by decide) (show r32 (T 1 0) from ⟨by omega, by omega⟩) g2 g3) rfl (G.1 (23 + 0) (by omega)) (at_X G 0 (by decide)) ⟨ml_S_44, im_X_becomeHeat, se_X_becomeHeat, ci_X⟩ w_X_becomeHeat rfl 2 gy_X_becomeHeat rfl 0 rfl 0 rfl rfl rfl (Nat.le_of_ble_eq_true rfl) ?_
        have hB : (uA (u2 (u2 (u2 T (23 + 0) 0 0) (23 + 0) 1 0) (23 + 0) 2 y) (28 + 0) 8 (surH T)) = beginS S y x.toNat := by rw [hT, show n = x.toNat by omega]; rfl
        refine g_aload_n C d_S_goThrough_55 56 rfl rfl 1 rfl ?_
        refine g_iconst C d_S_goThrough_56 57 rfl ?_
        refine g_aload_n C d_S_goThrough_57 58 rfl rfl 3 rfl ?_
        refine g_iload_n C d_S_goThrough_58 59 rfl rfl 4 rfl ?_
        refine fcV0 C (rest := []) d_S_goThrough_59 62 rfl (t_S_tryKindsFrom G x 4 0 (uA (u2 (u2 (u2 T (23 + 0) 0 0) (23 + 0) 1 0) (23 + 0) 2 y) (28 + 0) 8 (surH T)) rfl ⟨by omega, by omega⟩ (by rw [hB]; exact hb1) (by rw [hB]; exact hb2) (by rw [hB]; exact hb3)) rfl (G.1 7 (by decide)) (at_S G) ⟨ml_S_48, im_S_tryKindsFrom, se_S_tryKindsFrom, ci_S⟩ w_S_tryKindsFrom rfl 3 gy_S_tryKindsFrom rfl 0 rfl 0 rfl rfl rfl (Nat.le_of_ble_eq_true rfl) ?_
        exact g_vret C hA hsz hr hl d_S_goThrough_62 (by decide) (by decide) ⟨rfl, rfl, by rw [hB]⟩
      · skip
        refine g_iload C d_S_goThrough_19 21 rfl 0 rfl ?_
        refine g_aload_n C d_S_goThrough_21 22 rfl rfl 3 rfl ?_
        refine ln_4 C G d_S_goThrough_22 23 rfl ?_
        refine g_icmp_ge C d_S_goThrough_23 26 rfl (show r32 ((n : Int)) from ⟨by omega, by omega⟩) (show r32 4 from ⟨by decide, by decide⟩) 43 rfl (fun (w4 : 4 ≤ (n : Int)) => absurd w4 (by omega)) (fun (w4 : ¬ 4 ≤ (n : Int)) => ?_)
        refine g_aload_n C d_S_goThrough_26 27 rfl rfl 3 rfl ?_
        refine g_iload C d_S_goThrough_27 29 rfl 0 rfl ?_
        refine ld_4 C G d_S_goThrough_29 30 rfl n (by omega) rfl ?_
        refine g_aload_n C d_S_goThrough_30 31 rfl rfl 2 rfl ?_
        refine gt_E_aimEnds C G d_S_goThrough_31 34 rfl fl_S_33 ?_
        refine fcV0 C (rest := []) d_S_goThrough_34 37 rfl (t_A_weighAgainst G (S := T) n (by omega) (show r32 (T (11 + n) 1) from ⟨by omega, by omega⟩) g15 (show r32 (T (11 + n) 3) from ⟨by omega, by omega⟩) g3) rfl (G.1 (11 + n) (by omega)) (at_A G n (by omega)) ⟨ml_S_38, im_A_weighAgainst, se_A_weighAgainst, ci_A⟩ w_A_weighAgainst rfl 1 gy_A_weighAgainst rfl 0 rfl 0 rfl rfl rfl (Nat.le_of_ble_eq_true rfl) ?_
        refine g_iinc C d_S_goThrough_37 40 rfl [(5, iv ((n : Int) + 1)), (0, .ref (ad 7)), (1, .ref (ad 1)), (2, .ref (ad 4)), (3, iv (x)), (4, iv (y))] 0 rfl (by decide) rfl ?_
        refine g_goto C d_S_goThrough_40 13 rfl ?_
        exact ih (n + 1) _ (by omega) (by rw [hT]; rfl) (by omega)
  exact LP 4 0 _ rfl rfl u0
abbrev rm_P_run : Room := { frames := 18, cells := 1, slots := 6, locals := 511 }
set_option maxHeartbeats 4000000 in
set_option maxRecDepth 100000 in
theorem t_P_run (hst9 : l.stackTraces = false) (G : LO ad L) (N : Nat) (x : Int) (hI : IC N S) (hN : N ≤ 1000) (hx : r32 x) : FX l y_P_run c_P_run 2 (some .int) rm_P_run D cd L (wd cd ad S f0) [.ref (ad 0), iv (x)] (0 ≤ x ∧ x ≤ 100000000) (some (iv (if trS S x 7 0 = 0 then 1 + trS S x 7 1 else 0))) (wd cd ad (runS S x) f0) (fun E => (E = xIAE ∧ (¬ (0 ≤ x ∧ x ≤ 100000000)))) := by
  refine gx_of (by decide) (Nat.le_of_ble_eq_true rfl) ?_
  intro p e s m args below meth c A sz hA hsz C hr hl hnt
  have C : gC p s m args c D CL (TY cd) A c_P_run "AlloyPlans" 2 := C
  change gW _ _ _ _ _ _ _ _ _ _ _ _ _ _ _ _ _ _ _ 0 [(0, .ref (ad 0)), (1, iv (x))] []
  obtain ⟨⟨i0, j0⟩, ⟨i1, j1⟩, ⟨i2, j2⟩, ⟨i3, j3⟩, hpr, ham, i5, ⟨i6, j6⟩, ⟨i7, j7⟩, ⟨i8, j8⟩, ⟨i9, j9⟩, h6, hRS, hRD, hal⟩ := id hI
  have hx1 : -2147483648 ≤ x := hx.1
  have hx2 : x ≤ 2147483647 := hx.2
  refine g_iload_n C d_P_run_0 1 rfl rfl 1 rfl ?_
  refine g_iconst C d_P_run_1 2 rfl ?_
  refine g_ldc C (z := 100000000) d_P_run_2 4 rfl rfl kc_P_110 ?_
  refine fcS1 C (rest := []) d_P_run_4 7 rfl (t_P_isWithin x 0 100000000 (show r32 x from ⟨by omega, by omega⟩) (show r32 0 from ⟨by decide, by decide⟩) (show r32 100000000 from ⟨by decide, by decide⟩)) ⟨ml_P_52, sm_P_isWithin, ci_P⟩ w_P_isWithin rfl 3 gy_P_isWithin rfl 0 rfl 0 rfl rfl rfl (Nat.le_of_ble_eq_true rfl) ?_
  refine fxS0 C hA hsz hnt hl (rest := []) d_P_run_7 10 rfl (t_P_requireRange hst9 (bi (0 ≤ x ∧ x ≤ 100000000)) (bi_r _)) ⟨ml_P_56, sm_P_requireRange, ci_P⟩ w_P_requireRange rfl 1 gy_P_requireRange rfl 1 rfl 6 rfl rfl rfl (Nat.le_of_ble_eq_true rfl) (fun E q => ⟨q.2, by have q3 := bi_f q.1; omega⟩) (by decide) (by decide) (fun hk1 => ?_)
  have hk1 : 0 ≤ x ∧ x ≤ 100000000 := bi_t hk1
  refine g_aload_n C d_P_run_10 11 rfl rfl 0 rfl ?_
  refine gt_P_plan C G d_P_run_11 14 rfl fl_P_26 ?_
  refine fcV0 C (rest := []) d_P_run_14 17 rfl (t_N_forget G (S := S)) rfl (G.1 5 (by decide)) (at_N G) ⟨ml_P_63, im_N_forget, se_N_forget, ci_N⟩ w_N_forget rfl 0 gy_N_forget rfl 1 rfl 6 rfl rfl rfl (Nat.le_of_ble_eq_true rfl) ?_
  refine g_aload_n C d_P_run_17 18 rfl rfl 0 rfl ?_
  refine gt_P_search C G d_P_run_18 21 rfl fl_P_33 ?_
  refine g_aload_n C d_P_run_21 22 rfl rfl 0 rfl ?_
  refine gt_P_melt C G d_P_run_22 25 rfl fl_P_12 ?_
  refine g_aload_n C d_P_run_25 26 rfl rfl 0 rfl ?_
  refine gt_P_alloys C G d_P_run_26 29 rfl fl_P_18 ?_
  refine g_aload_n C d_P_run_29 30 rfl rfl 0 rfl ?_
  refine gt_P_kindCount C G d_P_run_30 33 rfl fl_P_37 ?_
  refine g_iload_n C d_P_run_33 34 rfl rfl 1 rfl ?_
  have hb := begin_ok (n := (S 0 4).toNat) hI (show 0 ≤ x ∧ x ≤ 100000000 by omega) (by omega)
  have ht := tryS_ok (S 0 4) 4 0 _ rfl hb.1 hb.2.1 hb.2.2
  refine fcV0 C (rest := []) d_P_run_34 37 rfl (t_S_goThrough G (S := (u2 S 5 0 0)) (S 0 4) x ⟨by omega, by omega⟩ ⟨by show -2147483648 ≤ S 1 0; omega, by show S 1 0 ≤ 2147483647; omega⟩ (fun m9 h9 => by have := hpr m9 h9; exact ⟨by show -2147483648 ≤ S 2 m9; omega, by show S 2 m9 ≤ 2147483647; omega⟩) (fun m9 h9 => by have := ham m9 h9; exact ⟨by show -2147483648 ≤ S 3 m9; omega, by show S 3 m9 ≤ 2147483647; omega⟩) (fun j9 h9 => by rw [u2_ne (show 11 + j9 ≠ 5 by omega), u2_ne (show 15 + j9 ≠ 5 by omega)]; have a9 := (hRD j9 h9).2.1; have b9 := hal j9 h9; exact ⟨⟨by omega, by omega⟩, ⟨by omega, by omega⟩, fun m9 hm9 => by have c9 := b9.2 m9 hm9; exact ⟨by omega, by omega⟩⟩) hb.1 hb.2.1 hb.2.2) rfl (G.1 7 (by decide)) (at_S G) ⟨ml_P_111, im_S_goThrough, se_S_goThrough, ci_S⟩ w_S_goThrough rfl 4 gy_S_goThrough rfl 1 rfl 6 rfl rfl rfl (Nat.le_of_ble_eq_true rfl) ?_
  obtain ⟨B, hB⟩ : ∃ B, B = beginS (u2 S 5 0 0) x (S 0 4).toNat := ⟨_, rfl⟩
  have eB : B 0 4 = S 0 4 := by rw [hB]; unfold beginS; rw [heatS_ne (by decide) (by decide), gS_ne _ _ _ (by omega)]; rfl
  rw [← hB] at hb ht
  obtain ⟨T, hT⟩ : ∃ T, T = trS S x := ⟨_, rfl⟩
  have hT2 : T = (tryS (S 0 4) 4 0 (beginS (u2 S 5 0 0) x (Int.toNat (S 0 4)))) := hT
  have hT3 : T = tryS (S 0 4) 4 0 B := by rw [hT, hB]; rfl
  have hF : FR 0 B T := by rw [hT3]; exact ht.1
  have hR : RS T := by rw [hT3]; exact ht.2
  obtain ⟨r0, r1, r3, r4, r9, r8⟩ := hR
  have e0 : T 0 4 = S 0 4 := by rw [hF.1 0 (by decide) (by decide) (by decide) (by decide) (by decide)]; exact eB
  refine (congrArg (fun z => gW p l e rm_P_run s m args below meth c D CL A 2 (vx_MQ below (gQ D CL L sz (fun r L' g => (0 ≤ x ∧ x ≤ 100000000) ∧ r = (some (iv (if trS S x 7 0 = 0 then 1 + trS S x 7 1 else 0))) ∧ L' = L ∧ g = (wd cd ad (runS S x) f0))) (gQx D CL L (wd cd ad S f0) sz (fun E => (E = xIAE ∧ (¬ (0 ≤ x ∧ x ≤ 100000000))))) args s rm_P_run.cells rm_P_run.slots (gA L sz)) 1 6 L (wd cd ad z f0) 37 [(0, .ref (ad 0)), (1, iv (x))] []) hT2).mp ?_
  refine g_aload_n C d_P_run_37 38 rfl rfl 0 rfl ?_
  refine gt_P_search C G d_P_run_38 41 rfl fl_P_33 ?_
  refine gt_S_found C G d_P_run_41 44 rfl fl_P_115 ?_
  refine g_if_ne C d_P_run_44 47 rfl (show r32 (T 7 0) from ⟨by omega, by omega⟩) 57 rfl (fun (w2 : ¬ T 7 0 = 0) => ?_) (fun (w3 : T 7 0 = 0) => ?_)
  · skip
    refine g_aload_n C d_P_run_57 58 rfl rfl 0 rfl ?_
    refine gt_P_plan C G d_P_run_58 61 rfl fl_P_26 ?_
    refine g_aload_n C d_P_run_61 62 rfl rfl 0 rfl ?_
    refine gt_P_search C G d_P_run_62 65 rfl fl_P_33 ?_
    refine gt_S_best C G d_P_run_65 68 rfl fl_P_122 ?_
    refine g_aload_n C d_P_run_68 69 rfl rfl 0 rfl ?_
    refine gt_P_alloys C G d_P_run_69 72 rfl fl_P_18 ?_
    refine g_aload_n C d_P_run_72 73 rfl rfl 0 rfl ?_
    refine gt_P_kindCount C G d_P_run_73 76 rfl fl_P_37 ?_
    refine fcV0 C (rest := []) d_P_run_76 79 rfl (t_N_settle G (S := T) (T 0 4) ⟨by omega, by omega⟩ r8) rfl (G.1 5 (by decide)) (at_N G) ⟨ml_P_125, im_N_settle, se_N_settle, ci_N⟩ w_N_settle rfl 3 gy_N_settle rfl 1 rfl 6 rfl rfl rfl (Nat.le_of_ble_eq_true rfl) ?_
    refine g_iconst C d_P_run_79 80 rfl ?_
    exact gx_ret (g_iret C hA hsz hr hl d_P_run_80 (by decide) (by decide) ⟨by omega, vi_e (by rw [← hT, if_neg (by omega)]), rfl, by rw [show runS S x = setP (trS S x) (S 0 4).toNat from if_neg (by rw [← hT]; omega), ← hT, e0]; rfl⟩)
  · skip
    refine g_iconst C d_P_run_47 48 rfl ?_
    refine g_aload_n C d_P_run_48 49 rfl rfl 0 rfl ?_
    refine gt_P_search C G d_P_run_49 52 rfl fl_P_33 ?_
    refine gt_S_mostMet C G d_P_run_52 55 rfl fl_P_119 ?_
    refine g_iadd C d_P_run_55 56 rfl ?_
    exact gx_ret (g_iret C hA hsz hr hl d_P_run_56 (by decide) (by decide) ⟨by omega, vi_e (by rw [← hT, if_pos (by omega)]), rfl, by rw [show runS S x = trS S x from if_pos (by rw [← hT]; omega), ← hT]⟩)
abbrev rm_P_order : Room := { frames := 7, cells := 2, slots := 12, locals := 102 }
set_option maxHeartbeats 4000000 in
set_option maxRecDepth 100000 in
theorem t_P_order (hst9 : l.stackTraces = false) (G : LO ad L) (N : Nat) (x : Int) (hI : IC N S) (hN : N ≤ 1000) (hx : r32 x) : FX l y_P_order c_P_order 3 (some .int) rm_P_order D cd L (wd cd ad S f0) [.ref (ad 0), iv (x)] (0 ≤ x ∧ ¬ S 5 0 = 0) (some (iv (ordL S x (S 0 4).toNat 0))) (wd cd ad S f0) (fun E => (E = xIOB ∧ (¬ 0 ≤ x)) ∨ (E = xISE ∧ (0 ≤ x ∧ S 5 0 = 0))) := by
  refine gx_of (by decide) (Nat.le_of_ble_eq_true rfl) ?_
  intro p e s m args below meth c A sz hA hsz C hr hl hnt
  have C : gC p s m args c D CL (TY cd) A c_P_order "AlloyPlans" 3 := C
  change gW _ _ _ _ _ _ _ _ _ _ _ _ _ _ _ _ _ _ _ 0 [(0, .ref (ad 0)), (1, iv (x))] []
  obtain ⟨⟨i0, j0⟩, ⟨i1, j1⟩, ⟨i2, j2⟩, ⟨i3, j3⟩, hpr, ham, i5, ⟨i6, j6⟩, ⟨i7, j7⟩, ⟨i8, j8⟩, ⟨i9, j9⟩, h6, hRS, hRD, hal⟩ := id hI
  have hx1 : -2147483648 ≤ x := hx.1
  have hx2 : x ≤ 2147483647 := hx.2
  have hc : ∀ j, j < 4 → 0 ≤ S (11 + j) 4 ∧ S (11 + j) 4 ≤ 1000 := fun j hj => (hRD j hj).2.2.2.1
  have JR : ∀ zj : Int, zj = (bi (0 ≤ x)) → gW p l e rm_P_order s m args below meth c D CL A 3 (vx_MQ below (gQ D CL L sz (fun r L' g => (0 ≤ x ∧ ¬ S 5 0 = 0) ∧ r = (some (iv (ordL S x (S 0 4).toNat 0))) ∧ L' = L ∧ g = (wd cd ad S f0))) (gQx D CL L (wd cd ad S f0) sz (fun E => (E = xIOB ∧ (¬ 0 ≤ x)) ∨ (E = xISE ∧ (0 ≤ x ∧ S 5 0 = 0)))) args s rm_P_order.cells rm_P_order.slots (gA L sz)) 0 0 L (wd cd ad S f0) 9 [(0, .ref (ad 0)), (1, iv (x))] [iv zj] := by
    intro zj hzj
    subst hzj
    refine fxS0 C hA hsz hnt hl (rest := []) d_P_order_9 12 rfl (t_P_requireIndex hst9 (bi (0 ≤ x)) (bi_r _)) ⟨ml_P_66, sm_P_requireIndex, ci_P⟩ w_P_requireIndex rfl 1 gy_P_requireIndex rfl 1 rfl 6 rfl rfl rfl (Nat.le_of_ble_eq_true rfl) (fun E q => Or.inl ⟨q.2, by have q3 := bi_f q.1; omega⟩) (by decide) (by decide) (fun hk1 => ?_)
    have hk1 : 0 ≤ x := bi_t hk1
    refine g_aload_n C d_P_order_12 13 rfl rfl 0 rfl ?_
    refine fxV0 C hA hsz hnt hl (rest := []) d_P_order_13 16 rfl (t_P_requirePlan hst9 G (S := S) (show r32 (S 5 0) from ⟨by omega, by omega⟩)) rfl (G.1 0 (by decide)) (at_P G) ⟨ml_P_129, im_P_requirePlan, se_P_requirePlan, ci_P⟩ w_P_requirePlan rfl 0 gy_P_requirePlan rfl 2 rfl 12 rfl rfl rfl (Nat.le_of_ble_eq_true rfl) (fun E q => Or.inr ⟨q.2, by have q3 := q.1; omega⟩) (by decide) (by decide) (fun hk2 => ?_)
    have hk2 : ¬ S 5 0 = 0 := hk2
    refine g_iconst C d_P_order_16 17 rfl ?_
    refine g_istore_n C d_P_order_17 18 rfl [(2, iv (0)), (0, .ref (ad 0)), (1, iv (x))] rfl (by decide) rfl ?_
    have LP : ∀ (d n : Nat) , n + d = (S 0 4).toNat → ordL S x d n = ordL S x (S 0 4).toNat 0 → gW p l e rm_P_order s m args below meth c D CL A 3 (vx_MQ below (gQ D CL L sz (fun r L' g => (0 ≤ x ∧ ¬ S 5 0 = 0) ∧ r = (some (iv (ordL S x (S 0 4).toNat 0))) ∧ L' = L ∧ g = (wd cd ad S f0))) (gQx D CL L (wd cd ad S f0) sz (fun E => (E = xIOB ∧ (¬ 0 ≤ x)) ∨ (E = xISE ∧ (0 ≤ x ∧ S 5 0 = 0)))) args s rm_P_order.cells rm_P_order.slots (gA L sz)) 2 12 L (wd cd ad S f0) 18 [(2, iv ((n : Int))), (0, .ref (ad 0)), (1, iv (x))] [] := by
      intro d
      induction d with
      | zero =>
        intro n  hn hR
        refine g_iload_n C d_P_order_18 19 rfl rfl 0 rfl ?_
        refine g_aload_n C d_P_order_19 20 rfl rfl 1 rfl ?_
        refine gt_P_kindCount C G d_P_order_20 23 rfl fl_P_37 ?_
        refine g_icmp_ge C d_P_order_23 26 rfl (show r32 ((n : Int)) from ⟨by omega, by omega⟩) (show r32 (S 0 4) from ⟨by omega, by omega⟩) 63 rfl (fun (w3 : S 0 4 ≤ (n : Int)) => ?_) (fun (w3 : ¬ S 0 4 ≤ (n : Int)) => absurd w3 (by omega))
        refine g_iconst C d_P_order_63 64 rfl ?_
        exact gx_ret (g_iret C hA hsz hr hl d_P_order_64 (by decide) (by decide) ⟨by omega, vi_e (by rw [← hR]; rfl), rfl, rfl⟩)
      | succ d ih =>
        intro n  hn hR
        obtain ⟨u6, v6⟩ := h6 n (by omega)
        have hcnt := sumN_r (g := addP S n) (M := 1) (S 0 4).toNat (fun j _ => by rcases bi_01 (j ≠ n ∧ 0 < S 6 j ∧ befA S j n) with q | q <;> unfold addP <;> rw [q] <;> decide)
        refine g_iload_n C d_P_order_18 19 rfl rfl 0 rfl ?_
        refine g_aload_n C d_P_order_19 20 rfl rfl 1 rfl ?_
        refine gt_P_kindCount C G d_P_order_20 23 rfl fl_P_37 ?_
        refine g_icmp_ge C d_P_order_23 26 rfl (show r32 ((n : Int)) from ⟨by omega, by omega⟩) (show r32 (S 0 4) from ⟨by omega, by omega⟩) 63 rfl (fun (w4 : S 0 4 ≤ (n : Int)) => absurd w4 (by omega)) (fun (w4 : ¬ S 0 4 ≤ (n : Int)) => ?_)
        refine g_iload_n C d_P_order_26 27 rfl rfl 0 rfl ?_
        refine g_aload_n C d_P_order_27 28 rfl rfl 1 rfl ?_
        refine gt_P_alloys C G d_P_order_28 31 rfl fl_P_18 ?_
        refine ln_4 C G d_P_order_31 32 rfl ?_
        refine g_icmp_ge C d_P_order_32 35 rfl (show r32 ((n : Int)) from ⟨by omega, by omega⟩) (show r32 4 from ⟨by decide, by decide⟩) 63 rfl (fun (w5 : 4 ≤ (n : Int)) => absurd w5 (by omega)) (fun (w5 : ¬ 4 ≤ (n : Int)) => ?_)
        refine g_aload_n C d_P_order_35 36 rfl rfl 1 rfl ?_
        refine gt_P_plan C G d_P_order_36 39 rfl fl_P_26 ?_
        refine g_iload_n C d_P_order_39 40 rfl rfl 0 rfl ?_
        refine fcV1 C (rest := []) d_P_order_40 43 rfl (t_N_isTaken G (S := S) n (by omega) (show r32 (S 6 n) from ⟨by omega, by omega⟩)) rfl (G.1 5 (by decide)) (at_N G) ⟨ml_P_141, im_N_isTaken, se_N_isTaken, ci_N⟩ w_N_isTaken rfl 1 gy_N_isTaken rfl 2 rfl 12 rfl rfl rfl (Nat.le_of_ble_eq_true rfl) ?_
        refine g_if_eq C d_P_order_43 46 rfl (bi_r _) 57 rfl (fun (w6 : bi (0 < S 6 n) = 0) => ?_) (fun (w7 : ¬ bi (0 < S 6 n) = 0) => ?_)
        · skip
          have w6 : ¬ (0 < S 6 n) := bi_f w6
          refine g_iinc C d_P_order_57 60 rfl [(2, iv ((n : Int) + 1)), (0, .ref (ad 0)), (1, iv (x))] 0 rfl (by decide) rfl ?_
          refine g_goto C d_P_order_60 18 rfl ?_
          exact ih (n + 1) (by omega) (by rw [← hR]; show _ = if _ then _ else _; rw [if_neg (fun q => by first | exact absurd q.1 (by assumption) | exact absurd q.2 (by assumption))])
        · skip
          have w7 : (0 < S 6 n) := bi_t w7
          refine g_aload_n C d_P_order_46 47 rfl rfl 1 rfl ?_
          refine g_iload_n C d_P_order_47 48 rfl rfl 0 rfl ?_
          refine fcV1 C (rest := []) d_P_order_48 51 rfl (t_P_countAddedBefore G (S := S) n (by omega) ⟨by omega, by omega⟩ h6 hc) rfl (G.1 0 (by decide)) (at_P G) ⟨ml_P_144, im_P_countAddedBefore, se_P_countAddedBefore, ci_P⟩ w_P_countAddedBefore rfl 1 gy_P_countAddedBefore rfl 2 rfl 12 rfl rfl rfl (Nat.le_of_ble_eq_true rfl) ?_
          refine g_iload_n C d_P_order_51 52 rfl rfl 2 rfl ?_
          refine g_icmp_ne C d_P_order_52 55 rfl (show r32 (sumN (addP S n) (S 0 4).toNat) from ⟨by omega, by omega⟩) (show r32 x from ⟨by omega, by omega⟩) 57 rfl (fun (w8 : ¬ sumN (addP S n) (S 0 4).toNat = x) => ?_) (fun (w9 : sumN (addP S n) (S 0 4).toNat = x) => ?_)
          · skip
            refine g_iinc C d_P_order_57 60 rfl [(2, iv ((n : Int) + 1)), (0, .ref (ad 0)), (1, iv (x))] 0 rfl (by decide) rfl ?_
            refine g_goto C d_P_order_60 18 rfl ?_
            exact ih (n + 1) (by omega) (by rw [← hR]; show _ = if _ then _ else _; rw [if_neg (fun q => by first | exact absurd q.1 (by assumption) | exact absurd q.2 (by assumption))])
          · skip
            refine g_iload_n C d_P_order_55 56 rfl rfl 0 rfl ?_
            exact gx_ret (g_iret C hA hsz hr hl d_P_order_56 (by decide) (by decide) ⟨by omega, vi_e (by rw [← hR]; show _ = if _ then _ else _; rw [if_pos ⟨by assumption, by omega⟩]), rfl, rfl⟩)
    exact LP (S 0 4).toNat 0 (by omega) rfl
  refine g_iload_n C d_P_order_0 1 rfl rfl 1 rfl ?_
  refine g_if_lt C d_P_order_1 4 rfl (show r32 x from ⟨by omega, by omega⟩) 8 rfl (fun (w10 : x < 0) => ?_) (fun (w11 : ¬ x < 0) => ?_)
  · skip
    refine g_iconst C d_P_order_8 9 rfl ?_
    exact JR 0 (by first | exact (bi_pos (by omega)).symm | exact (bi_neg (by omega)).symm)
  · skip
    refine g_iconst C d_P_order_4 5 rfl ?_
    refine g_goto C d_P_order_5 9 rfl ?_
    exact JR 1 (by first | exact (bi_pos (by omega)).symm | exact (bi_neg (by omega)).symm)
abbrev rm_P_after : Room := { frames := 7, cells := 2, slots := 12, locals := 102 }
set_option maxHeartbeats 4000000 in
set_option maxRecDepth 100000 in
theorem t_P_after (hst9 : l.stackTraces = false) (G : LO ad L) (N : Nat) (x y z : Int) (hI : IC N S) (hN : N ≤ 1000) (hx : r32 x) (hy : r32 y) (hz : r32 z) : FX l y_P_after c_P_after 8 (some .long) rm_P_after D cd L (wd cd ad S f0) [.ref (ad 0), iv (x), iv (y), iv (z)] (((0 ≤ x ∧ x ≤ 3) ∧ (0 ≤ y ∧ y ≤ 1) ∧ (0 ≤ z ∧ z ≤ 1)) ∧ ¬ S 5 0 = 0) (some (jv (if 0 < eu 200 (heldP S (2 * x.toNat + y.toNat) (S 0 4).toNat) (1000 * (S 1 0 + S 5 2)) then Int.tdiv (if z = 0 then heldP S (2 * x.toNat + y.toNat) (S 0 4).toNat else 1000 * (S 1 0 + S 5 2)) (eu 200 (heldP S (2 * x.toNat + y.toNat) (S 0 4).toNat) (1000 * (S 1 0 + S 5 2))) else 0))) (wd cd ad S f0) (fun E => (E = xIOB ∧ (¬ ((0 ≤ x ∧ x ≤ 3) ∧ (0 ≤ y ∧ y ≤ 1) ∧ (0 ≤ z ∧ z ≤ 1)))) ∨ (E = xISE ∧ (((0 ≤ x ∧ x ≤ 3) ∧ (0 ≤ y ∧ y ≤ 1) ∧ (0 ≤ z ∧ z ≤ 1)) ∧ S 5 0 = 0))) := by
  refine gx_of (by decide) (Nat.le_of_ble_eq_true rfl) ?_
  intro p e s m args below meth c A sz hA hsz C hr hl hnt
  have C : gC p s m args c D CL (TY cd) A c_P_after "AlloyPlans" 8 := C
  change gW _ _ _ _ _ _ _ _ _ _ _ _ _ _ _ _ _ _ _ 0 [(0, .ref (ad 0)), (1, iv (x)), (2, iv (y)), (3, iv (z))] []
  obtain ⟨⟨i0, j0⟩, ⟨i1, j1⟩, ⟨i2, j2⟩, ⟨i3, j3⟩, hpr, ham, i5, ⟨i6, j6⟩, ⟨i7, j7⟩, ⟨i8, j8⟩, ⟨i9, j9⟩, h6, hRS, hRD, hal⟩ := id hI
  have hx1 : -2147483648 ≤ x := hx.1
  have hx2 : x ≤ 2147483647 := hx.2
  have hy1 : -2147483648 ≤ y := hy.1
  have hy2 : y ≤ 2147483647 := hy.2
  have hz1 : -2147483648 ≤ z := hz.1
  have hz2 : z ≤ 2147483647 := hz.2
  have JR : ∀ zj : Int, zj = (bi ((0 ≤ x ∧ x ≤ 3) ∧ (0 ≤ y ∧ y ≤ 1) ∧ (0 ≤ z ∧ z ≤ 1))) → gW p l e rm_P_after s m args below meth c D CL A 8 (vx_MQ below (gQ D CL L sz (fun r L' g => (((0 ≤ x ∧ x ≤ 3) ∧ (0 ≤ y ∧ y ≤ 1) ∧ (0 ≤ z ∧ z ≤ 1)) ∧ ¬ S 5 0 = 0) ∧ r = (some (jv (if 0 < eu 200 (heldP S (2 * x.toNat + y.toNat) (S 0 4).toNat) (1000 * (S 1 0 + S 5 2)) then Int.tdiv (if z = 0 then heldP S (2 * x.toNat + y.toNat) (S 0 4).toNat else 1000 * (S 1 0 + S 5 2)) (eu 200 (heldP S (2 * x.toNat + y.toNat) (S 0 4).toNat) (1000 * (S 1 0 + S 5 2))) else 0))) ∧ L' = L ∧ g = (wd cd ad S f0))) (gQx D CL L (wd cd ad S f0) sz (fun E => (E = xIOB ∧ (¬ ((0 ≤ x ∧ x ≤ 3) ∧ (0 ≤ y ∧ y ≤ 1) ∧ (0 ≤ z ∧ z ≤ 1)))) ∨ (E = xISE ∧ (((0 ≤ x ∧ x ≤ 3) ∧ (0 ≤ y ∧ y ≤ 1) ∧ (0 ≤ z ∧ z ≤ 1)) ∧ S 5 0 = 0)))) args s rm_P_after.cells rm_P_after.slots (gA L sz)) 0 0 L (wd cd ad S f0) 32 [(0, .ref (ad 0)), (1, iv (x)), (2, iv (y)), (3, iv (z))] [iv zj] := by
    intro zj hzj
    subst hzj
    refine fxS0 C hA hsz hnt hl (rest := []) d_P_after_32 35 rfl (t_P_requireIndex hst9 (bi ((0 ≤ x ∧ x ≤ 3) ∧ (0 ≤ y ∧ y ≤ 1) ∧ (0 ≤ z ∧ z ≤ 1))) (bi_r _)) ⟨ml_P_66, sm_P_requireIndex, ci_P⟩ w_P_requireIndex rfl 1 gy_P_requireIndex rfl 1 rfl 6 rfl rfl rfl (Nat.le_of_ble_eq_true rfl) (fun E q => Or.inl ⟨q.2, by have q3 := bi_f q.1; omega⟩) (by decide) (by decide) (fun hk1 => ?_)
    have hk1 : (0 ≤ x ∧ x ≤ 3) ∧ (0 ≤ y ∧ y ≤ 1) ∧ (0 ≤ z ∧ z ≤ 1) := bi_t hk1
    refine g_aload_n C d_P_after_35 36 rfl rfl 0 rfl ?_
    refine fxV0 C hA hsz hnt hl (rest := []) d_P_after_36 39 rfl (t_P_requirePlan hst9 G (S := S) (show r32 (S 5 0) from ⟨by omega, by omega⟩)) rfl (G.1 0 (by decide)) (at_P G) ⟨ml_P_129, im_P_requirePlan, se_P_requirePlan, ci_P⟩ w_P_requirePlan rfl 0 gy_P_requirePlan rfl 2 rfl 12 rfl rfl rfl (Nat.le_of_ble_eq_true rfl) (fun E q => Or.inr ⟨q.2, by have q3 := q.1; omega⟩) (by decide) (by decide) (fun hk2 => ?_)
    have hk2 : ¬ S 5 0 = 0 := hk2
    obtain ⟨k, hk⟩ : ∃ k : Nat, x = (k : Int) := ⟨Int.toNat x, by omega⟩
    subst hk
    obtain ⟨n, hn⟩ : ∃ n : Nat, y = (n : Int) := ⟨Int.toNat y, by omega⟩
    subst hn
    have hh := heldP_r (q := 2 * k + n) (n := (S 0 4).toNat) (by omega) (by omega) hI
    obtain ⟨i4, j4⟩ := hpr (2 * k + n) (by omega)
    have ha : ∀ j, j < 4 → (r32 (S (11 + j) 1) ∧ r32 (S (15 + j) (2 * k + n)) ∧ r32 (S (11 + j) 3)) := fun j9 h9 => by have a9 := (hRD j9 h9).2.1; have b9 := hal j9 h9; have c9 := b9.2 (2 * k + n) (by omega); exact ⟨⟨by omega, by omega⟩, ⟨by omega, by omega⟩, ⟨by omega, by omega⟩⟩
    refine g_aload_n C d_P_after_39 40 rfl rfl 0 rfl ?_
    refine g_iconst C d_P_after_40 41 rfl ?_
    refine g_iload_n C d_P_after_41 42 rfl rfl 1 rfl ?_
    refine g_imul C d_P_after_42 43 rfl ?_
    refine g_iload_n C d_P_after_43 44 rfl rfl 2 rfl ?_
    refine g_iadd C d_P_after_44 45 rfl ?_
    refine fcV1 C (rest := []) d_P_after_45 48 rfl (t_P_heldByPlan G (S := S) (2 * k + n) (by omega) ⟨by omega, by omega⟩ ⟨by omega, by omega⟩ (show r32 (S 2 (2 * k + n)) from ⟨by omega, by omega⟩) h6 ha) rfl (G.1 0 (by decide)) (at_P G) ⟨ml_P_148, im_P_heldByPlan, se_P_heldByPlan, ci_P⟩ w_P_heldByPlan rfl 1 gy_P_heldByPlan rfl 2 rfl 12 rfl rfl rfl (Nat.le_of_ble_eq_true rfl) ?_
    refine g_lstore C d_P_after_48 50 rfl [(4, jv (heldP S (2 * k + n) (S 0 4).toNat)), (0, .ref (ad 0)), (1, iv ((k : Int))), (2, iv ((n : Int))), (3, iv (z))] (by decide) rfl ?_
    refine g_aload_n C d_P_after_50 51 rfl rfl 1 rfl ?_
    refine fcV1 C (rest := []) d_P_after_51 54 rfl (t_P_wholeByPlan G (S := S) ⟨by omega, by omega⟩ ⟨by omega, by omega⟩) rfl (G.1 0 (by decide)) (at_P G) ⟨ml_P_152, im_P_wholeByPlan, se_P_wholeByPlan, ci_P⟩ w_P_wholeByPlan rfl 0 gy_P_wholeByPlan rfl 2 rfl 12 rfl rfl rfl (Nat.le_of_ble_eq_true rfl) ?_
    refine g_lstore C d_P_after_54 56 rfl [(6, jv (1000 * (S 1 0 + S 5 2))), (4, jv (heldP S (2 * k + n) (S 0 4).toNat)), (0, .ref (ad 0)), (1, iv ((k : Int))), (2, iv ((n : Int))), (3, iv (z))] (by decide) rfl ?_
    have hE : 0 ≤ (if z = 0 then heldP S (2 * k + n) (S 0 4).toNat else 1000 * (S 1 0 + S 5 2)) ∧ (if z = 0 then heldP S (2 * k + n) (S 0 4).toNat else 1000 * (S 1 0 + S 5 2)) ≤ 2000000000000000 := by split <;> omega
    obtain ⟨u5, v5⟩ := hE
    have JJ : ∀ zj : Int, zj = (if z = 0 then heldP S (2 * k + n) (S 0 4).toNat else 1000 * (S 1 0 + S 5 2)) → gW p l e rm_P_after s m args below meth c D CL A 8 (vx_MQ below (gQ D CL L sz (fun r L' g => (((0 ≤ (k : Int) ∧ (k : Int) ≤ 3) ∧ (0 ≤ (n : Int) ∧ (n : Int) ≤ 1) ∧ (0 ≤ z ∧ z ≤ 1)) ∧ ¬ S 5 0 = 0) ∧ r = (some (jv (if 0 < eu 200 (heldP S (2 * (k : Int).toNat + (n : Int).toNat) (S 0 4).toNat) (1000 * (S 1 0 + S 5 2)) then Int.tdiv (if z = 0 then heldP S (2 * (k : Int).toNat + (n : Int).toNat) (S 0 4).toNat else 1000 * (S 1 0 + S 5 2)) (eu 200 (heldP S (2 * (k : Int).toNat + (n : Int).toNat) (S 0 4).toNat) (1000 * (S 1 0 + S 5 2))) else 0))) ∧ L' = L ∧ g = (wd cd ad S f0))) (gQx D CL L (wd cd ad S f0) sz (fun E => (E = xIOB ∧ (¬ ((0 ≤ (k : Int) ∧ (k : Int) ≤ 3) ∧ (0 ≤ (n : Int) ∧ (n : Int) ≤ 1) ∧ (0 ≤ z ∧ z ≤ 1)))) ∨ (E = xISE ∧ (((0 ≤ (k : Int) ∧ (k : Int) ≤ 3) ∧ (0 ≤ (n : Int) ∧ (n : Int) ≤ 1) ∧ (0 ≤ z ∧ z ≤ 1)) ∧ S 5 0 = 0)))) args s rm_P_after.cells rm_P_after.slots (gA L sz)) 2 12 L (wd cd ad S f0) 67 [(6, jv (1000 * (S 1 0 + S 5 2))), (4, jv (heldP S (2 * k + n) (S 0 4).toNat)), (0, .ref (ad 0)), (1, iv ((k : Int))), (2, iv ((n : Int))), (3, iv (z))] [jv zj] := by
      intro zj hzj
      subst hzj
      refine g_lload C d_P_after_67 69 rfl 1 rfl ?_
      refine g_lload C d_P_after_69 71 rfl 0 rfl ?_
      refine fcS1 C (rest := [jv (if z = 0 then heldP S (2 * k + n) (S 0 4).toNat else 1000 * (S 1 0 + S 5 2))]) d_P_after_71 74 rfl (t_P_commonDivisor (heldP S (2 * k + n) (S 0 4).toNat) (1000 * (S 1 0 + S 5 2)) ⟨by omega, by omega⟩ ⟨by omega, by omega⟩) ⟨ml_P_156, sm_P_commonDivisor, ci_P⟩ w_P_commonDivisor rfl 2 gy_P_commonDivisor rfl 2 rfl 12 rfl rfl rfl (Nat.le_of_ble_eq_true rfl) ?_
      have heu := eu_r 200 (heldP S (2 * k + n) (S 0 4).toNat) (1000 * (S 1 0 + S 5 2)) ⟨by omega, by omega⟩ ⟨by omega, by omega⟩
      refine fcS1 C (rest := []) d_P_after_74 77 rfl (t_P_quotient (if z = 0 then heldP S (2 * k + n) (S 0 4).toNat else 1000 * (S 1 0 + S 5 2)) (eu 200 (heldP S (2 * k + n) (S 0 4).toNat) (1000 * (S 1 0 + S 5 2))) (show r64 (if z = 0 then heldP S (2 * k + n) (S 0 4).toNat else 1000 * (S 1 0 + S 5 2)) from ⟨by omega, by omega⟩) (show r64 (eu 200 (heldP S (2 * k + n) (S 0 4).toNat) (1000 * (S 1 0 + S 5 2))) from ⟨by omega, by omega⟩)) ⟨ml_P_160, sm_P_quotient, ci_P⟩ w_P_quotient rfl 2 gy_P_quotient rfl 2 rfl 12 rfl rfl rfl (Nat.le_of_ble_eq_true rfl) ?_
      exact gx_ret (g_lret C hA hsz hr hl d_P_after_77 (by decide) (by decide) ⟨by omega, rfl, rfl, rfl⟩)
    refine g_iload_n C d_P_after_56 57 rfl rfl 5 rfl ?_
    refine g_if_ne C d_P_after_57 60 rfl (show r32 z from ⟨by omega, by omega⟩) 65 rfl (fun (w3 : ¬ z = 0) => ?_) (fun (w4 : z = 0) => ?_)
    · skip
      refine g_lload C d_P_after_65 67 rfl 0 rfl ?_
      exact JJ (1000 * (S 1 0 + S 5 2)) (by first | rw [if_pos (by omega)] | rw [if_neg (by omega)])
    · skip
      refine g_lload C d_P_after_60 62 rfl 1 rfl ?_
      refine g_goto C d_P_after_62 67 rfl ?_
      exact JJ (heldP S (2 * k + n) (S 0 4).toNat) (by first | rw [if_pos (by omega)] | rw [if_neg (by omega)])
  refine g_iload_n C d_P_after_0 1 rfl rfl 1 rfl ?_
  refine g_iconst C d_P_after_1 2 rfl ?_
  refine g_iconst C d_P_after_2 3 rfl ?_
  refine fcS1 C (rest := []) d_P_after_3 6 rfl (t_P_isWithin x 0 3 (show r32 x from ⟨by omega, by omega⟩) (show r32 0 from ⟨by decide, by decide⟩) (show r32 3 from ⟨by decide, by decide⟩)) ⟨ml_P_52, sm_P_isWithin, ci_P⟩ w_P_isWithin rfl 3 gy_P_isWithin rfl 0 rfl 0 rfl rfl rfl (Nat.le_of_ble_eq_true rfl) ?_
  refine g_if_eq C d_P_after_6 9 rfl (bi_r _) 31 rfl (fun (w5 : bi (0 ≤ x ∧ x ≤ 3) = 0) => ?_) (fun (w6 : ¬ bi (0 ≤ x ∧ x ≤ 3) = 0) => ?_)
  · skip
    have w5 : ¬ (0 ≤ x ∧ x ≤ 3) := bi_f w5
    refine g_iconst C d_P_after_31 32 rfl ?_
    exact JR 0 (by first | exact (bi_pos (by omega)).symm | exact (bi_neg (by omega)).symm)
  · skip
    have w6 : (0 ≤ x ∧ x ≤ 3) := bi_t w6
    refine g_iload_n C d_P_after_9 10 rfl rfl 2 rfl ?_
    refine g_iconst C d_P_after_10 11 rfl ?_
    refine g_iconst C d_P_after_11 12 rfl ?_
    refine fcS1 C (rest := []) d_P_after_12 15 rfl (t_P_isWithin y 0 1 (show r32 y from ⟨by omega, by omega⟩) (show r32 0 from ⟨by decide, by decide⟩) (show r32 1 from ⟨by decide, by decide⟩)) ⟨ml_P_52, sm_P_isWithin, ci_P⟩ w_P_isWithin rfl 3 gy_P_isWithin rfl 0 rfl 0 rfl rfl rfl (Nat.le_of_ble_eq_true rfl) ?_
    refine g_if_eq C d_P_after_15 18 rfl (bi_r _) 31 rfl (fun (w7 : bi (0 ≤ y ∧ y ≤ 1) = 0) => ?_) (fun (w8 : ¬ bi (0 ≤ y ∧ y ≤ 1) = 0) => ?_)
    · skip
      have w7 : ¬ (0 ≤ y ∧ y ≤ 1) := bi_f w7
      refine g_iconst C d_P_after_31 32 rfl ?_
      exact JR 0 (by first | exact (bi_pos (by omega)).symm | exact (bi_neg (by omega)).symm)
    · skip
      have w8 : (0 ≤ y ∧ y ≤ 1) := bi_t w8
      refine g_iload_n C d_P_after_18 19 rfl rfl 3 rfl ?_
      refine g_iconst C d_P_after_19 20 rfl ?_
      refine g_iconst C d_P_after_20 21 rfl ?_
      refine fcS1 C (rest := []) d_P_after_21 24 rfl (t_P_isWithin z 0 1 (show r32 z from ⟨by omega, by omega⟩) (show r32 0 from ⟨by decide, by decide⟩) (show r32 1 from ⟨by decide, by decide⟩)) ⟨ml_P_52, sm_P_isWithin, ci_P⟩ w_P_isWithin rfl 3 gy_P_isWithin rfl 0 rfl 0 rfl rfl rfl (Nat.le_of_ble_eq_true rfl) ?_
      refine g_if_eq C d_P_after_24 27 rfl (bi_r _) 31 rfl (fun (w9 : bi (0 ≤ z ∧ z ≤ 1) = 0) => ?_) (fun (w10 : ¬ bi (0 ≤ z ∧ z ≤ 1) = 0) => ?_)
      · skip
        have w9 : ¬ (0 ≤ z ∧ z ≤ 1) := bi_f w9
        refine g_iconst C d_P_after_31 32 rfl ?_
        exact JR 0 (by first | exact (bi_pos (by omega)).symm | exact (bi_neg (by omega)).symm)
      · skip
        have w10 : (0 ≤ z ∧ z ≤ 1) := bi_t w10
        refine g_iconst C d_P_after_27 28 rfl ?_
        refine g_goto C d_P_after_28 32 rfl ?_
        exact JR 1 (by first | exact (bi_pos (by omega)).symm | exact (bi_neg (by omega)).symm)
abbrev rm_P_add : Room := { frames := 7, cells := 2, slots := 12, locals := 102 }
set_option maxHeartbeats 4000000 in
set_option maxRecDepth 100000 in
theorem t_P_add (hst9 : l.stackTraces = false) (G : LO ad L) (N : Nat)  (hI : IC N S) (hN : N ≤ 1000)  : FX l y_P_add c_P_add 2 (some .int) rm_P_add D cd L (wd cd ad S f0) [.ref (ad 0)] (¬ S 5 0 = 0 ∧ S 1 0 + S 5 2 ≤ 65536) (some (iv (S 1 1 + 1 - 1))) (wd cd ad (u2 (u2 (u2 (u2 (uA S 2 8 (rndP S)) 1 0 (S 1 0 + S 5 2)) 1 2 (S 1 2 + S 5 1)) 1 1 (S 1 1 + 1)) 5 0 0) f0) (fun E => (E = xISE ∧ (S 5 0 = 0)) ∨ (E = xUOE ∧ (¬ S 5 0 = 0 ∧ ¬ S 1 0 + S 5 2 ≤ 65536))) := by
  refine gx_of (by decide) (Nat.le_of_ble_eq_true rfl) ?_
  intro p e s m args below meth c A sz hA hsz C hr hl hnt
  have C : gC p s m args c D CL (TY cd) A c_P_add "AlloyPlans" 2 := C
  change gW _ _ _ _ _ _ _ _ _ _ _ _ _ _ _ _ _ _ _ 0 [(0, .ref (ad 0))] []
  obtain ⟨⟨i0, j0⟩, ⟨i1, j1⟩, ⟨i2, j2⟩, ⟨i3, j3⟩, hpr, ham, i5, ⟨i6, j6⟩, ⟨i7, j7⟩, ⟨i8, j8⟩, ⟨i9, j9⟩, h6, hRS, hRD, hal⟩ := id hI
  refine g_aload_n C d_P_add_0 1 rfl rfl 0 rfl ?_
  refine fxV0 C hA hsz hnt hl (rest := []) d_P_add_1 4 rfl (t_P_requirePlan hst9 G (S := S) (show r32 (S 5 0) from ⟨by omega, by omega⟩)) rfl (G.1 0 (by decide)) (at_P G) ⟨ml_P_129, im_P_requirePlan, se_P_requirePlan, ci_P⟩ w_P_requirePlan rfl 0 gy_P_requirePlan rfl 1 rfl 6 rfl rfl rfl (Nat.le_of_ble_eq_true rfl) (fun E q => Or.inl ⟨q.2, by have q3 := q.1; omega⟩) (by decide) (by decide) (fun hk1 => ?_)
  have hk1 : ¬ S 5 0 = 0 := hk1
  refine g_aload_n C d_P_add_4 5 rfl rfl 0 rfl ?_
  refine gt_P_melt C G d_P_add_5 8 rfl fl_P_12 ?_
  refine gt_E_kilos C G d_P_add_8 11 rfl fl_P_60 ?_
  refine g_aload_n C d_P_add_11 12 rfl rfl 0 rfl ?_
  refine gt_P_plan C G d_P_add_12 15 rfl fl_P_26 ?_
  refine gt_N_kilos C G d_P_add_15 18 rfl fl_P_136 ?_
  refine g_iadd C d_P_add_18 19 rfl ?_
  refine g_ldc C (z := 65536) d_P_add_19 21 rfl rfl kc_P_51 ?_
  refine g_icmp_le C d_P_add_21 24 rfl (show r32 ((S 1 0) + (S 5 2)) from ⟨by omega, by omega⟩) (show r32 65536 from ⟨by decide, by decide⟩) 34 rfl (fun (w2 : (S 1 0) + (S 5 2) ≤ 65536) => ?_) (fun (w3 : ¬ (S 1 0) + (S 5 2) ≤ 65536) => ?_)
  · skip
    refine g_iconst C d_P_add_34 35 rfl ?_
    refine g_istore_n C d_P_add_35 36 rfl [(1, iv (0)), (0, .ref (ad 0))] rfl (by decide) rfl ?_
    have LP : ∀ (d n : Nat) (T : Nat → Nat → Int), n + d = 8 → T = uA S 2 n (rndP S) → gW p l e rm_P_add s m args below meth c D CL A 2 (vx_MQ below (gQ D CL L sz (fun r L' g => (¬ S 5 0 = 0 ∧ S 1 0 + S 5 2 ≤ 65536) ∧ r = (some (iv (S 1 1 + 1 - 1))) ∧ L' = L ∧ g = (wd cd ad (u2 (u2 (u2 (u2 (uA S 2 8 (rndP S)) 1 0 (S 1 0 + S 5 2)) 1 2 (S 1 2 + S 5 1)) 1 1 (S 1 1 + 1)) 5 0 0) f0))) (gQx D CL L (wd cd ad S f0) sz (fun E => (E = xISE ∧ (S 5 0 = 0)) ∨ (E = xUOE ∧ (¬ S 5 0 = 0 ∧ ¬ S 1 0 + S 5 2 ≤ 65536)))) args s rm_P_add.cells rm_P_add.slots (gA L sz)) 1 6 L (wd cd ad T f0) 36 [(1, iv ((n : Int))), (0, .ref (ad 0))] [] := by
      intro d
      induction d with
      | zero =>
        intro n T hn hT
        have ne2 : ∀ x, x ≠ 2 → T x = S x := fun x hx => by rw [hT]; exact uA_ne hx
        have e04 : T 0 4 = S 0 4 := by rw [ne2 0 (by decide)]
        have e10 : T 1 0 = S 1 0 := by rw [ne2 1 (by decide)]
        have e52 : T 5 2 = S 5 2 := by rw [ne2 5 (by decide)]
        have e51 : T 5 1 = S 5 1 := by rw [ne2 5 (by decide)]
        have e12 : T 1 2 = S 1 2 := by rw [ne2 1 (by decide)]
        have e11 : T 1 1 = S 1 1 := by rw [ne2 1 (by decide)]
        refine g_iload_n C d_P_add_36 37 rfl rfl 0 rfl ?_
        refine g_aload_n C d_P_add_37 38 rfl rfl 1 rfl ?_
        refine gt_P_melt C G d_P_add_38 41 rfl fl_P_12 ?_
        refine gt_E_presentEnds C G d_P_add_41 44 rfl fl_P_73 ?_
        refine ln_2 C G d_P_add_44 45 rfl ?_
        refine g_icmp_ge C d_P_add_45 48 rfl (show r32 ((n : Int)) from ⟨by omega, by omega⟩) (show r32 8 from ⟨by decide, by decide⟩) 68 rfl (fun (w4 : 8 ≤ (n : Int)) => ?_) (fun (w4 : ¬ 8 ≤ (n : Int)) => absurd w4 (by omega))
        refine g_aload_n C d_P_add_68 69 rfl rfl 1 rfl ?_
        refine gt_P_melt C G d_P_add_69 72 rfl fl_P_12 ?_
        refine g_dup C d_P_add_72 73 rfl rfl ?_
        refine gt_E_kilos C G d_P_add_73 76 rfl fl_P_60 ?_
        refine g_aload_n C d_P_add_76 77 rfl rfl 1 rfl ?_
        refine gt_P_plan C G d_P_add_77 80 rfl fl_P_26 ?_
        refine gt_N_kilos C G d_P_add_80 83 rfl fl_P_136 ?_
        refine g_iadd C d_P_add_83 84 rfl ?_
        refine pt_E_kilos C G (z := (T 1 0) + (T 5 2)) d_P_add_84 87 rfl fl_P_60 ?_
        refine g_aload_n C d_P_add_87 88 rfl rfl 1 rfl ?_
        refine gt_P_melt C G d_P_add_88 91 rfl fl_P_12 ?_
        refine g_dup C d_P_add_91 92 rfl rfl ?_
        refine gt_E_cents C G d_P_add_92 95 rfl fl_P_168 ?_
        refine g_aload_n C d_P_add_95 96 rfl rfl 1 rfl ?_
        refine gt_P_plan C G d_P_add_96 99 rfl fl_P_26 ?_
        refine gt_N_cents C G d_P_add_99 102 rfl fl_P_135 ?_
        refine g_i2l C d_P_add_102 103 rfl (show r32 (T 5 1) from ⟨by omega, by omega⟩) ?_
        refine g_ladd C d_P_add_103 104 rfl ?_
        refine pt_E_cents C G (z := (T 1 2) + (T 5 1)) d_P_add_104 107 rfl fl_P_168 ?_
        refine g_aload_n C d_P_add_107 108 rfl rfl 1 rfl ?_
        refine gt_P_melt C G d_P_add_108 111 rfl fl_P_12 ?_
        refine g_dup C d_P_add_111 112 rfl rfl ?_
        refine gt_E_additions C G d_P_add_112 115 rfl fl_P_41 ?_
        refine g_iconst C d_P_add_115 116 rfl ?_
        refine g_iadd C d_P_add_116 117 rfl ?_
        refine pt_E_additions C G (z := (T 1 1) + 1) d_P_add_117 120 rfl fl_P_41 ?_
        refine g_aload_n C d_P_add_120 121 rfl rfl 1 rfl ?_
        refine gt_P_plan C G d_P_add_121 124 rfl fl_P_26 ?_
        refine fcV0 C (rest := []) d_P_add_124 127 rfl (t_N_forget G (S := (u2 (u2 (u2 T 1 0 ((T 1 0) + (T 5 2))) 1 2 ((T 1 2) + (T 5 1))) 1 1 ((T 1 1) + 1)))) rfl (G.1 5 (by decide)) (at_N G) ⟨ml_P_63, im_N_forget, se_N_forget, ci_N⟩ w_N_forget rfl 0 gy_N_forget rfl 1 rfl 6 rfl rfl rfl (Nat.le_of_ble_eq_true rfl) ?_
        refine g_aload_n C d_P_add_127 128 rfl rfl 1 rfl ?_
        refine gt_P_melt C G d_P_add_128 131 rfl fl_P_12 ?_
        refine gt_E_additions C G d_P_add_131 134 rfl fl_P_41 ?_
        refine g_iconst C d_P_add_134 135 rfl ?_
        refine g_isub C d_P_add_135 136 rfl ?_
        exact gx_ret (g_iret C hA hsz hr hl d_P_add_136 (by decide) (by decide) ⟨by omega, vi_e (show T 1 1 + 1 - 1 = S 1 1 + 1 - 1 by omega), rfl, by show wd cd ad (u2 (u2 (u2 (u2 T 1 0 (T 1 0 + T 5 2)) 1 2 (T 1 2 + T 5 1)) 1 1 (T 1 1 + 1)) 5 0 0) f0 = _; rw [e10, e52, e12, e51, e11, hT, show n = 8 by omega]⟩)
      | succ d ih =>
        intro n T hn hT
        have ne2 : ∀ x, x ≠ 2 → T x = S x := fun x hx => by rw [hT]; exact uA_ne hx
        have e04 : T 0 4 = S 0 4 := by rw [ne2 0 (by decide)]
        have e10 : T 1 0 = S 1 0 := by rw [ne2 1 (by decide)]
        have e52 : T 5 2 = S 5 2 := by rw [ne2 5 (by decide)]
        have e2n : T 2 n = S 2 n := by rw [hT]; exact uA_ge (Nat.le_refl n)
        have ehp : heldP T n (T 0 4).toNat = heldP S n (S 0 4).toNat := by rw [e04]; exact heldP_2 ne2 e2n
        have hh := heldP_r (q := n) (n := (S 0 4).toNat) (by omega) (by omega) hI
        obtain ⟨i4, j4⟩ := hpr n (by omega)
        have g6 : ∀ j, j < 4 → 0 ≤ T 6 j ∧ T 6 j ≤ 12 := fun j hj => by rw [ne2 6 (by decide)]; exact h6 j hj
        have ga : ∀ j, j < 4 → (r32 (T (11 + j) 1) ∧ r32 (T (15 + j) n) ∧ r32 (T (11 + j) 3)) := fun j9 h9 => by rw [ne2 (11 + j9) (by omega), ne2 (15 + j9) (by omega)]; have a9 := (hRD j9 h9).2.1; have b9 := hal j9 h9; have c9 := b9.2 n (by omega); exact ⟨⟨by omega, by omega⟩, ⟨by omega, by omega⟩, ⟨by omega, by omega⟩⟩
        refine g_iload_n C d_P_add_36 37 rfl rfl 0 rfl ?_
        refine g_aload_n C d_P_add_37 38 rfl rfl 1 rfl ?_
        refine gt_P_melt C G d_P_add_38 41 rfl fl_P_12 ?_
        refine gt_E_presentEnds C G d_P_add_41 44 rfl fl_P_73 ?_
        refine ln_2 C G d_P_add_44 45 rfl ?_
        refine g_icmp_ge C d_P_add_45 48 rfl (show r32 ((n : Int)) from ⟨by omega, by omega⟩) (show r32 8 from ⟨by decide, by decide⟩) 68 rfl (fun (w5 : 8 ≤ (n : Int)) => absurd w5 (by omega)) (fun (w5 : ¬ 8 ≤ (n : Int)) => ?_)
        refine g_aload_n C d_P_add_48 49 rfl rfl 1 rfl ?_
        refine gt_P_melt C G d_P_add_49 52 rfl fl_P_12 ?_
        refine gt_E_presentEnds C G d_P_add_52 55 rfl fl_P_73 ?_
        refine g_iload_n C d_P_add_55 56 rfl rfl 0 rfl ?_
        refine g_aload_n C d_P_add_56 57 rfl rfl 1 rfl ?_
        refine g_iload_n C d_P_add_57 58 rfl rfl 0 rfl ?_
        refine fcV1 C (rest := [iv ((n : Int)), .ref (ad 2)]) d_P_add_58 61 rfl (t_P_roundedByPlan G (S := T) n (by omega) ⟨by omega, by omega⟩ ⟨by omega, by omega⟩ ⟨by omega, by omega⟩ ⟨by omega, by omega⟩ ⟨by omega, by omega⟩ g6 ga) rfl (G.1 0 (by decide)) (at_P G) ⟨ml_P_165, im_P_roundedByPlan, se_P_roundedByPlan, ci_P⟩ w_P_roundedByPlan rfl 1 gy_P_roundedByPlan rfl 1 rfl 6 rfl rfl rfl (Nat.le_of_ble_eq_true rfl) ?_
        refine st_2 C G (x := rndP T n) d_P_add_61 62 rfl n (by omega) rfl ?_
        refine g_iinc C d_P_add_62 65 rfl [(1, iv ((n : Int) + 1)), (0, .ref (ad 0))] 0 rfl (by decide) rfl ?_
        refine g_goto C d_P_add_65 36 rfl ?_
        refine ih (n + 1) _ (by omega) ?_
        rw [← uA_s, ← hT]
        have er : rndP T n = rndP S n := by unfold rndP; rw [ehp, e10, e52]
        rw [← er]
    exact LP 8 0 _ rfl (uA_0 _ _ _).symm
  · skip
    exact gx_throw C hA hsz hnt hl hst9 (cls := xUOE) (names := EXN) (by decide +kernel) (by decide +kernel) kl_P_85 ci_UnsupportedOperationException (gN_n_s163 C.2.1.2.1) (hat_89 C.1.2.2.2.2 C.2.1.2.1) hgd_89 d_P_add_24 d_P_add_27 d_P_add_28 d_P_add_30 d_P_add_33 (by decide) (by decide) (by decide) (by decide) (by decide) (by decide) (Or.inr ⟨rfl, by omega⟩)
end M7
