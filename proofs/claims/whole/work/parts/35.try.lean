section M5
variable {l : Launch} {D : va_G} {cd : Nat → ClassId} {ad : Nat → Nat} {L : List Nat} {f f0 : Nat → va_E} {S : Nat → Nat → Int}
abbrev rmT (e : Nat) : Room := { frames := 12 + e, cells := 0, slots := 0, locals := 300 + 40 * e }
theorem gR_i {rm R : Room} {maxL cells slots : Nat} (h1 : rm.frames + 1 ≤ R.frames) (h2 : 8 + (maxL + 11) + rm.locals ≤ R.locals) (h3 : cells + rm.cells ≤ R.cells) (h4 : slots + rm.slots ≤ R.slots) : gR rm R maxL cells slots = true := by
  simp only [gR, Bool.and_eq_true, decide_eq_true_eq]
  exact ⟨⟨⟨h1, h2⟩, h3⟩, h4⟩
set_option maxHeartbeats 8000000 in
set_option maxRecDepth 100000 in
theorem t_S_tryKindsFrom (G : LO ad L) (kc : Int) : ∀ (e k : Nat) (S : Nat → Nat → Int), k + e = 4 → 0 ≤ kc ∧ kc ≤ 4 → RD S → RS S → RM S k → FM l y_S_tryKindsFrom c_S_tryKindsFrom 7 none (rmT e) D cd L (wd cd ad S f0) [.ref (ad 7), iv (k : Int), .ref (ad 4), iv kc] none (wd cd ad (tryS kc e k S) f0) := by
  intro e
  induction e with
  | zero =>
    intro k S hke hkc hD hS hM
    refine g_of (by decide) (Nat.le_of_ble_eq_true rfl) ?_
    intro p e9 s m args below meth c A sz hA hsz C hr hl hnm
    have C : gC p s m args c D CL (TY cd) A c_S_tryKindsFrom "AlloyPlans$Search" 7 := C
    change gW _ _ _ _ _ _ _ _ _ _ _ _ _ _ _ _ _ _ _ 0 [(0, .ref (ad 7)), (1, iv ((k : Int))), (2, .ref (ad 4)), (3, iv (kc))] []
    obtain ⟨kc0, kc4⟩ := hkc
    have h71 := hS.2.1
    have hs := hM.2.2.2
    refine g_iload_n C d_S_tryKindsFrom_0 1 rfl rfl 1 rfl ?_
    refine g_iload_n C d_S_tryKindsFrom_1 2 rfl rfl 3 rfl ?_
    refine g_icmp_ge C d_S_tryKindsFrom_2 5 rfl (show r32 ((k : Int)) from ⟨by omega, by omega⟩) (show r32 kc from ⟨by omega, by omega⟩) 20 rfl (fun (w1 : kc ≤ (k : Int)) => ?_) (fun (w1 : ¬ kc ≤ (k : Int)) => absurd w1 (by omega))
    refine g_aload_n C d_S_tryKindsFrom_20 21 rfl rfl 0 rfl ?_
    refine g_aload_n C d_S_tryKindsFrom_21 22 rfl rfl 0 rfl ?_
    refine gt_S_mixes C G d_S_tryKindsFrom_22 25 rfl fl_S_20 ?_
    refine g_iload_n C d_S_tryKindsFrom_25 26 rfl rfl 1 rfl ?_
    refine ld_10 C G d_S_tryKindsFrom_26 27 rfl k (by omega) rfl ?_
    refine fcV0 C (rest := []) d_S_tryKindsFrom_27 30 rfl (t_S_judge G (S := S) k (by omega) h71 (fun j9 hj9 => by have := hs j9 hj9; exact ⟨by omega, by omega⟩)) rfl (G.1 7 (by decide)) (at_S G) ⟨ml_S_52, im_S_judge, se_S_judge, ci_S⟩ w_S_judge rfl 1 gy_S_judge rfl 0 rfl 0 rfl (gR_i (Nat.le_trans (show rm_S_judge.frames + 1 ≤ 12 by decide) (Nat.le_add_right _ _)) (Nat.le_trans (show 8 + (3 + 11) + rm_S_judge.locals ≤ 300 by decide) (Nat.le_add_right _ _)) (Nat.le_refl 0) (Nat.le_refl 0)) rfl (Nat.le_of_ble_eq_true rfl) ?_
    exact g_vret C hA hsz hr hl d_S_tryKindsFrom_30 (Nat.zero_le _) (Nat.zero_le _) ⟨rfl, rfl, rfl⟩
  | succ e ihE =>
    intro k S hke hkc hD hS hM
    refine g_of (by decide) (Nat.le_of_ble_eq_true rfl) ?_
    intro p e9 s m args below meth c A sz hA hsz C hr hl hnm
    have C : gC p s m args c D CL (TY cd) A c_S_tryKindsFrom "AlloyPlans$Search" 7 := C
    change gW _ _ _ _ _ _ _ _ _ _ _ _ _ _ _ _ _ _ _ 0 [(0, .ref (ad 7)), (1, iv ((k : Int))), (2, .ref (ad 4)), (3, iv (kc))] []
    obtain ⟨kc0, kc4⟩ := hkc
    have h71 := hS.2.1
    have hs := hM.2.2.2
    refine g_iload_n C d_S_tryKindsFrom_0 1 rfl rfl 1 rfl ?_
    refine g_iload_n C d_S_tryKindsFrom_1 2 rfl rfl 3 rfl ?_
    refine g_icmp_ge C d_S_tryKindsFrom_2 5 rfl (show r32 ((k : Int)) from ⟨by omega, by omega⟩) (show r32 kc from ⟨by omega, by omega⟩) 20 rfl (fun (w1 : kc ≤ (k : Int)) => ?_) (fun (w2 : ¬ kc ≤ (k : Int)) => ?_)
    · skip
      refine g_aload_n C d_S_tryKindsFrom_20 21 rfl rfl 0 rfl ?_
      refine g_aload_n C d_S_tryKindsFrom_21 22 rfl rfl 0 rfl ?_
      refine gt_S_mixes C G d_S_tryKindsFrom_22 25 rfl fl_S_20 ?_
      refine g_iload_n C d_S_tryKindsFrom_25 26 rfl rfl 1 rfl ?_
      refine ld_10 C G d_S_tryKindsFrom_26 27 rfl k (by omega) rfl ?_
      refine fcV0 C (rest := []) d_S_tryKindsFrom_27 30 rfl (t_S_judge G (S := S) k (by omega) h71 (fun j9 hj9 => by have := hs j9 hj9; exact ⟨by omega, by omega⟩)) rfl (G.1 7 (by decide)) (at_S G) ⟨ml_S_52, im_S_judge, se_S_judge, ci_S⟩ w_S_judge rfl 1 gy_S_judge rfl 0 rfl 0 rfl (gR_i (Nat.le_trans (show rm_S_judge.frames + 1 ≤ 12 by decide) (Nat.le_add_right _ _)) (Nat.le_trans (show 8 + (3 + 11) + rm_S_judge.locals ≤ 300 by decide) (Nat.le_add_right _ _)) (Nat.le_refl 0) (Nat.le_refl 0)) rfl (Nat.le_of_ble_eq_true rfl) ?_
      exact g_vret C hA hsz hr hl d_S_tryKindsFrom_30 (Nat.zero_le _) (Nat.zero_le _) ⟨rfl, rfl, by rw [show tryS kc (e + 1) k S = judgeS S k from if_pos (by omega)]⟩
    · skip
      refine g_iload_n C d_S_tryKindsFrom_5 6 rfl rfl 1 rfl ?_
      refine g_aload_n C d_S_tryKindsFrom_6 7 rfl rfl 2 rfl ?_
      refine ln_4 C G d_S_tryKindsFrom_7 8 rfl ?_
      refine g_icmp_ge C d_S_tryKindsFrom_8 11 rfl (show r32 ((k : Int)) from ⟨by omega, by omega⟩) (show r32 4 from ⟨by decide, by decide⟩) 20 rfl (fun (w3 : 4 ≤ (k : Int)) => absurd w3 (by omega)) (fun (w3 : ¬ 4 ≤ (k : Int)) => ?_)
      refine g_iload_n C d_S_tryKindsFrom_11 12 rfl rfl 1 rfl ?_
      refine g_aload_n C d_S_tryKindsFrom_12 13 rfl rfl 0 rfl ?_
      refine gt_S_tried C G d_S_tryKindsFrom_13 16 rfl fl_S_15 ?_
      refine ln_9 C G d_S_tryKindsFrom_16 17 rfl ?_
      refine g_icmp_lt C d_S_tryKindsFrom_17 20 rfl (show r32 ((k : Int)) from ⟨by omega, by omega⟩) (show r32 4 from ⟨by decide, by decide⟩) 31 rfl (fun (w4 : (k : Int) < 4) => ?_) (fun (w4 : ¬ (k : Int) < 4) => absurd w4 (by omega))
      refine g_aload_n C d_S_tryKindsFrom_31 32 rfl rfl 2 rfl ?_
      refine g_iload_n C d_S_tryKindsFrom_32 33 rfl rfl 1 rfl ?_
      refine ld_4 C G d_S_tryKindsFrom_33 34 rfl k (by omega) rfl ?_
      refine g_astore C d_S_tryKindsFrom_34 36 rfl [(4, .ref (ad (11 + k))), (0, .ref (ad 7)), (1, iv ((k : Int))), (2, .ref (ad 4)), (3, iv (kc))] (by decide) rfl ?_
      refine g_aload_n C d_S_tryKindsFrom_36 37 rfl rfl 1 rfl ?_
      refine gt_S_mixes C G d_S_tryKindsFrom_37 40 rfl fl_S_20 ?_
      refine g_iload_n C d_S_tryKindsFrom_40 41 rfl rfl 2 rfl ?_
      refine g_iconst C d_S_tryKindsFrom_41 42 rfl ?_
      refine g_iadd C d_S_tryKindsFrom_42 43 rfl ?_
      refine ld_10 C G d_S_tryKindsFrom_43 44 rfl (k + 1) (by omega) rfl ?_
      refine g_astore C d_S_tryKindsFrom_44 46 rfl [(5, .ref (ad (23 + (k + 1)))), (4, .ref (ad (11 + k))), (0, .ref (ad 7)), (1, iv ((k : Int))), (2, .ref (ad 4)), (3, iv (kc))] (by decide) rfl ?_
      refine g_aload C d_S_tryKindsFrom_46 48 rfl 0 rfl ?_
      refine g_aload_n C d_S_tryKindsFrom_48 49 rfl rfl 2 rfl ?_
      refine gt_S_mixes C G d_S_tryKindsFrom_49 52 rfl fl_S_20 ?_
      refine g_iload_n C d_S_tryKindsFrom_52 53 rfl rfl 3 rfl ?_
      refine ld_10 C G d_S_tryKindsFrom_53 54 rfl k (by omega) rfl ?_
      refine fcV0 C (rest := []) d_S_tryKindsFrom_54 57 rfl (t_X_becomeLike G (S := S) (k + 1) k (by omega) (by omega) (by omega)) rfl (G.1 (23 + (k + 1)) (by omega)) (at_X G (k + 1) (by omega)) ⟨ml_S_56, im_X_becomeLike, se_X_becomeLike, ci_X⟩ w_X_becomeLike rfl 1 gy_X_becomeLike rfl 0 rfl 0 rfl (gR_i (Nat.le_trans (show rm_X_becomeLike.frames + 1 ≤ 12 by decide) (Nat.le_add_right _ _)) (Nat.le_trans (show 8 + (2 + 11) + rm_X_becomeLike.locals ≤ 300 by decide) (Nat.le_add_right _ _)) (Nat.le_refl 0) (Nat.le_refl 0)) rfl (Nat.le_of_ble_eq_true rfl) ?_
      refine g_iconst C d_S_tryKindsFrom_57 58 rfl ?_
      refine g_istore C d_S_tryKindsFrom_58 60 rfl [(6, iv (0)), (5, .ref (ad (23 + (k + 1)))), (4, .ref (ad (11 + k))), (0, .ref (ad 7)), (1, iv ((k : Int))), (2, .ref (ad 4)), (3, iv (kc))] (by decide) rfl ?_
      obtain ⟨l1, l2⟩ := iv_like (by omega) hS hM
      have hm0 := (hD k (by omega)).2.2.1
      have LP : ∀ (d n : Nat) (T : Nat → Nat → Int), n + d = (S (11 + k) 2).toNat + 1 → tryL (tryS kc e (k + 1)) k d n T = tryS kc (e + 1) k S → IV k n T → FR k S T → gW p l e9 (rmT (e + 1)) s m args below meth c D CL A 7 (MQ below (gQ D CL L sz (fun r L' g => r = none ∧ L' = L ∧ g = (wd cd ad (tryS kc (e + 1) k S) f0))) args s (rmT (e + 1)).cells (rmT (e + 1)).slots (gA L sz)) 0 0 L (wd cd ad T f0) 60 [(6, iv ((n : Int))), (5, .ref (ad (23 + (k + 1)))), (4, .ref (ad (11 + k))), (0, .ref (ad 7)), (1, iv ((k : Int))), (2, .ref (ad 4)), (3, iv (kc))] [] := by
        intro d
        induction d with
        | zero =>
          intro n T hn hR hI hF
          have hDT := FR_RD hF hD
          have eM : T (11 + k) 2 = S (11 + k) 2 := by rw [hF.1 (11 + k) (by omega) (by omega) (by omega) (by omega) (by omega)]
          refine g_iload C d_S_tryKindsFrom_60 62 rfl 0 rfl ?_
          refine g_aload C d_S_tryKindsFrom_62 64 rfl 2 rfl ?_
          refine gt_A_mostSteps C G d_S_tryKindsFrom_64 67 rfl k (by omega) fl_S_59 ?_
          refine g_icmp_gt C d_S_tryKindsFrom_67 70 rfl (show r32 ((n : Int)) from ⟨by omega, by omega⟩) (show r32 (T (11 + k) 2) from ⟨by omega, by omega⟩) 126 rfl (fun (w5 : T (11 + k) 2 < (n : Int)) => ?_) (fun (w5 : ¬ T (11 + k) 2 < (n : Int)) => absurd w5 (by omega))
          exact g_vret C hA hsz hr hl d_S_tryKindsFrom_126 (Nat.zero_le _) (Nat.zero_le _) ⟨rfl, rfl, by rw [← hR]; rfl⟩
        | succ d ih =>
          intro n T hn hR hI hF
          have hDT := FR_RD hF hD
          have eM : T (11 + k) 2 = S (11 + k) 2 := by rw [hF.1 (11 + k) (by omega) (by omega) (by omega) (by omega) (by omega)]
          refine g_iload C d_S_tryKindsFrom_60 62 rfl 0 rfl ?_
          refine g_aload C d_S_tryKindsFrom_62 64 rfl 2 rfl ?_
          refine gt_A_mostSteps C G d_S_tryKindsFrom_64 67 rfl k (by omega) fl_S_59 ?_
          refine g_icmp_gt C d_S_tryKindsFrom_67 70 rfl (show r32 ((n : Int)) from ⟨by omega, by omega⟩) (show r32 (T (11 + k) 2) from ⟨by omega, by omega⟩) 126 rfl (fun (w6 : T (11 + k) 2 < (n : Int)) => absurd w6 (by omega)) (fun (w6 : ¬ T (11 + k) 2 < (n : Int)) => ?_)
          have J93 : ∀ T1 : Nat → Nat → Int, T1 = stepS T k n → gW p l e9 (rmT (e + 1)) s m args below meth c D CL A 7 (MQ below (gQ D CL L sz (fun r L' g => r = none ∧ L' = L ∧ g = (wd cd ad (tryS kc (e + 1) k S) f0))) args s (rmT (e + 1)).cells (rmT (e + 1)).slots (gA L sz)) 0 0 L (wd cd ad T1 f0) 93 [(6, iv ((n : Int))), (5, .ref (ad (23 + (k + 1)))), (4, .ref (ad (11 + k))), (0, .ref (ad 7)), (1, iv ((k : Int))), (2, .ref (ad 4)), (3, iv (kc))] [] := by
            intro T1 hT1
            obtain ⟨hW, hx⟩ := iv_step (by omega) hI hDT
            rw [← hT1] at hW hx
            have hW' := hW
            obtain ⟨⟨r0, r1, r3, r4, r9, r8⟩, ⟨a0, b0⟩, ⟨a1, b1, c1⟩, ⟨a2, b2⟩, hs1⟩ := hW
            refine g_aload_n C d_S_tryKindsFrom_93 94 rfl rfl 3 rfl ?_
            refine g_aload C d_S_tryKindsFrom_94 96 rfl 1 rfl ?_
            refine fcV1 C (rest := []) d_S_tryKindsFrom_96 99 rfl (t_S_isWorthTrying G (S := T1) (k + 1) (by omega) ⟨by omega, by omega⟩ (by omega) ⟨by omega, by omega⟩ ⟨by omega, by omega⟩ ⟨by omega, by omega⟩ ⟨by omega, by omega⟩) rfl (G.1 7 (by decide)) (at_S G) ⟨ml_S_66, im_S_isWorthTrying, se_S_isWorthTrying, ci_S⟩ w_S_isWorthTrying rfl 1 gy_S_isWorthTrying rfl 0 rfl 0 rfl (gR_i (Nat.le_trans (show rm_S_isWorthTrying.frames + 1 ≤ 12 by decide) (Nat.le_add_right _ _)) (Nat.le_trans (show 8 + (2 + 11) + rm_S_isWorthTrying.locals ≤ 300 by decide) (Nat.le_add_right _ _)) (Nat.le_refl 0) (Nat.le_refl 0)) rfl (Nat.le_of_ble_eq_true rfl) ?_
            refine g_if_ne C d_S_tryKindsFrom_99 102 rfl (bi_r _) 103 rfl (fun (w7 : ¬ bi (worth T1 (k + 1)) = 0) => ?_) (fun (w8 : bi (worth T1 (k + 1)) = 0) => ?_)
            · skip
              have w7 : (worth T1 (k + 1)) := bi_t w7
              have hyw : worth T1 (k + 1) := by assumption
              obtain ⟨q1, q2⟩ := iw_rec (n := n) (by omega) (by omega) hW' hyw.1
              have q3 : FR k T (u2 T1 9 k (n : Int)) := iv_fr (by omega) hx
              have q4 := tryS_ok kc e (k + 1) _ (by omega) (FR_RD q3 hDT) q1 q2
              refine g_aload_n C d_S_tryKindsFrom_103 104 rfl rfl 3 rfl ?_
              refine gt_S_tried C G d_S_tryKindsFrom_104 107 rfl fl_S_15 ?_
              refine g_iload_n C d_S_tryKindsFrom_107 108 rfl rfl 4 rfl ?_
              refine g_iload C d_S_tryKindsFrom_108 110 rfl 0 rfl ?_
              refine st_9 C G (x := (n : Int)) d_S_tryKindsFrom_110 111 rfl k (by omega) rfl ?_
              refine g_aload_n C d_S_tryKindsFrom_111 112 rfl rfl 3 rfl ?_
              refine g_iload_n C d_S_tryKindsFrom_112 113 rfl rfl 4 rfl ?_
              refine g_iconst C d_S_tryKindsFrom_113 114 rfl ?_
              refine g_iadd C d_S_tryKindsFrom_114 115 rfl ?_
              refine g_aload_n C d_S_tryKindsFrom_115 116 rfl rfl 5 rfl ?_
              refine g_iload_n C d_S_tryKindsFrom_116 117 rfl rfl 6 rfl ?_
              refine fcV0 C (rest := []) d_S_tryKindsFrom_117 120 rfl (ihE (k + 1) (u2 T1 9 k ((n : Int))) (by omega) ⟨kc0, kc4⟩ (FR_RD q3 hDT) q1 q2) rfl (G.1 7 (by decide)) (at_S G) ⟨ml_S_48, im_S_tryKindsFrom, se_S_tryKindsFrom, ci_S⟩ w_S_tryKindsFrom rfl 3 gy_S_tryKindsFrom rfl 0 rfl 0 rfl (gR_i (Nat.le_refl _) (by show 8 + (7 + 11) + (300 + 40 * e) ≤ 300 + 40 * (e + 1); omega) (Nat.le_refl 0) (Nat.le_refl 0)) rfl (Nat.le_of_ble_eq_true rfl) ?_
              refine g_iinc C d_S_tryKindsFrom_120 123 rfl [(6, iv ((n : Int) + 1)), (5, .ref (ad (23 + (k + 1)))), (4, .ref (ad (11 + k))), (0, .ref (ad 7)), (1, iv ((k : Int))), (2, .ref (ad 4)), (3, iv (kc))] 0 rfl (by decide) rfl ?_
              refine g_goto C d_S_tryKindsFrom_123 60 rfl ?_
              exact ih (n + 1) _ (by omega) (by rw [← hR]; show _ = if worth (stepS T k n) (k + 1) then tryL (tryS kc e (k + 1)) k d (n + 1) (tryS kc e (k + 1) (u2 (stepS T k n) 9 k n)) else stepS T k n; rw [← hT1, if_pos hyw]) (iv_next (by omega) hW' hyw.1 q4.1 q4.2) (FR_trans hF (FR_trans q3 (FR_up q4.1)))
            · skip
              have w8 : ¬ (worth T1 (k + 1)) := bi_f w8
              have hnw : ¬ worth T1 (k + 1) := by assumption
              exact g_vret C hA hsz hr hl d_S_tryKindsFrom_102 (Nat.zero_le _) (Nat.zero_le _) ⟨rfl, rfl, by rw [← hR]; show wd cd ad T1 f0 = wd cd ad (if worth (stepS T k n) (k + 1) then _ else stepS T k n) f0; rw [← hT1, if_neg hnw]⟩
          refine g_iload C d_S_tryKindsFrom_70 72 rfl 0 rfl ?_
          refine g_if_le C d_S_tryKindsFrom_72 75 rfl (show r32 ((n : Int)) from ⟨by omega, by omega⟩) 93 rfl (fun (w9 : (n : Int) ≤ 0) => ?_) (fun (w10 : ¬ (n : Int) ≤ 0) => ?_)
          · skip
            exact J93 _ (show stepS T k n = _ from if_pos (by omega)).symm
          · skip
            refine g_aload C d_S_tryKindsFrom_75 77 rfl 1 rfl ?_
            refine g_aload C d_S_tryKindsFrom_77 79 rfl 2 rfl ?_
            have J90 : ∀ z : Int, z = bi (n = 1) → gW p l e9 (rmT (e + 1)) s m args below meth c D CL A 7 (MQ below (gQ D CL L sz (fun r L' g => r = none ∧ L' = L ∧ g = (wd cd ad (tryS kc (e + 1) k S) f0))) args s (rmT (e + 1)).cells (rmT (e + 1)).slots (gA L sz)) 0 0 L (wd cd ad T f0) 90 [(6, iv ((n : Int))), (5, .ref (ad (23 + (k + 1)))), (4, .ref (ad (11 + k))), (0, .ref (ad 7)), (1, iv ((k : Int))), (2, .ref (ad 4)), (3, iv (kc))] [iv z, .ref (ad (11 + k)), .ref (ad (23 + (k + 1)))] := by
              intro z hz
              subst hz
              refine fcV0 C (rest := []) d_S_tryKindsFrom_90 93 rfl (t_X_takeStep G (S := T) (k + 1) k (bi (n = 1)) (by omega) (by omega) (bi_r _)) rfl (G.1 (23 + (k + 1)) (by omega)) (at_X G (k + 1) (by omega)) ⟨ml_S_62, im_X_takeStep, se_X_takeStep, ci_X⟩ w_X_takeStep rfl 2 gy_X_takeStep rfl 0 rfl 0 rfl (gR_i (Nat.le_trans (show rm_X_takeStep.frames + 1 ≤ 12 by decide) (Nat.le_add_right _ _)) (Nat.le_trans (show 8 + (4 + 11) + rm_X_takeStep.locals ≤ 300 by decide) (Nat.le_add_right _ _)) (Nat.le_refl 0) (Nat.le_refl 0)) rfl (Nat.le_of_ble_eq_true rfl) ?_
              exact J93 _ (show stepS T k n = _ from if_neg (by omega)).symm
            refine g_iload C d_S_tryKindsFrom_79 81 rfl 0 rfl ?_
            refine g_iconst C d_S_tryKindsFrom_81 82 rfl ?_
            refine g_icmp_ne C d_S_tryKindsFrom_82 85 rfl (show r32 ((n : Int)) from ⟨by omega, by omega⟩) (show r32 1 from ⟨by decide, by decide⟩) 89 rfl (fun (w11 : ¬ (n : Int) = 1) => ?_) (fun (w12 : (n : Int) = 1) => ?_)
            · skip
              refine g_iconst C d_S_tryKindsFrom_89 90 rfl ?_
              exact J90 0 (by first | exact (bi_pos (by omega)).symm | exact (bi_neg (by omega)).symm)
            · skip
              refine g_iconst C d_S_tryKindsFrom_85 86 rfl ?_
              refine g_goto C d_S_tryKindsFrom_86 90 rfl ?_
              exact J90 1 (by first | exact (bi_pos (by omega)).symm | exact (bi_neg (by omega)).symm)
      exact LP ((S (11 + k) 2).toNat + 1) 0 _ (by omega) (show tryS kc (e + 1) k S = _ from if_neg (by omega)).symm l1 l2
end M5
