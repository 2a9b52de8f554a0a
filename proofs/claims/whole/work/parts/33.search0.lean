section M4
variable {l : Launch} {D : va_G} {cd : Nat → ClassId} {ad : Nat → Nat} {L : List Nat} {f f0 : Nat → va_E} {S : Nat → Nat → Int}
abbrev worth (S : Nat → Nat → Int) (i : Nat) : Prop := 0 ≤ S (23 + i) 2 ∧ (S 7 0 = 0 ∨ S (23 + i) 0 < S 7 3 ∨ (S (23 + i) 0 = S 7 3 ∧ S (23 + i) 1 < S 7 4))
def mxM (S : Nat → Nat → Int) (i : Nat) : Int := if S 7 1 < cmet (S (28 + i)) then cmet (S (28 + i)) else S 7 1
def judgeS (S : Nat → Nat → Int) (i : Nat) : Nat → Nat → Int := if cmet (S (28 + i)) < 4 then u2 S 7 1 (mxM S i) else uA (u2 (u2 (u2 (u2 S 7 1 (mxM S i)) 7 0 1) 7 3 (S (23 + i) 0)) 7 4 (S (23 + i) 1)) 8 4 (S 9)
def gS (S : Nat → Nat → Int) : Nat → (Nat → Nat → Int)
  | 0 => S
  | n + 1 => uA (gS S n) (19 + n) 8 (gainA (gS S n) n)
theorem gS_ne (S : Nat → Nat → Int) (n x : Nat) (h : x < 19 ∨ 19 + n ≤ x) : gS S n x = S x := by
  induction n with
  | zero => rfl
  | succ n ih =>
    show uA (gS S n) (19 + n) 8 (gainA (gS S n) n) x = S x
    rw [uA_ne (by omega)]
    exact ih (by omega)
def heatS (S : Nat → Nat → Int) (x : Int) : Nat → Nat → Int := uA (u2 (u2 (u2 S (23 + 0) 0 0) (23 + 0) 1 0) (23 + 0) 2 x) (28 + 0) 8 (surH S)
def beginS (S : Nat → Nat → Int) (x : Int) (n : Nat) : Nat → Nat → Int := heatS (gS (u2 (u2 S 7 0 0) 7 1 0) n) x
def tryL (rec : (Nat → Nat → Int) → (Nat → Nat → Int)) (k : Nat) : Nat → Nat → (Nat → Nat → Int) → (Nat → Nat → Int)
  | 0, _, S => S
  | d + 1, n, S => if worth (if n = 0 then S else takeS S (k + 1) k (bi (n = 1))) (k + 1) then tryL rec k d (n + 1) (rec (u2 (if n = 0 then S else takeS S (k + 1) k (bi (n = 1))) 9 k n)) else (if n = 0 then S else takeS S (k + 1) k (bi (n = 1)))
def tryS (kc : Int) : Nat → Nat → (Nat → Nat → Int) → (Nat → Nat → Int)
  | 0, k, S => judgeS S k
  | e + 1, k, S => if kc ≤ k then judgeS S k else tryL (tryS kc e (k + 1)) k ((S (11 + k) 2).toNat + 1) 0 (likeS S (k + 1) k)
theorem cmet_r (g : Nat → Int) : 0 ≤ cmet g ∧ cmet g ≤ 4 := by
  unfold cmet
  repeat' split
  all_goals omega
abbrev rm_S_isWorthTrying : Room := { frames := 0, cells := 0, slots := 0, locals := 0 }
set_option maxHeartbeats 4000000 in
set_option maxRecDepth 100000 in
theorem t_S_isWorthTrying (G : LO ad L) (i : Nat) (hi : i < 5) (h1 : r32 (S (23 + i) 2)) (h2 : S 7 0 = 0 ∨ S 7 0 = 1) (h3 : r32 (S (23 + i) 0)) (h4 : r32 (S 7 3)) (h5 : r32 (S (23 + i) 1)) (h6 : r32 (S 7 4)) : FM l y_S_isWorthTrying c_S_isWorthTrying 2 (some .boolean) rm_S_isWorthTrying D cd L (wd cd ad S f0) [.ref (ad 7), .ref (ad (23 + i))] (some (iv (bi (worth S i)))) (wd cd ad S f0) := by
  refine g_of (by decide) (Nat.le_of_ble_eq_true rfl) ?_
  intro p e s m args below meth c A sz hA hsz C hr hl hnm
  have C : gC p s m args c D CL (TY cd) A c_S_isWorthTrying "AlloyPlans$Search" 2 := C
  change gW _ _ _ _ _ _ _ _ _ _ _ _ _ _ _ _ _ _ _ 0 [(0, .ref (ad 7)), (1, .ref (ad (23 + i)))] []
  obtain ⟨u0, v0⟩ := h1
  obtain ⟨u1, v1⟩ := h3
  obtain ⟨u2, v2⟩ := h4
  obtain ⟨u3, v3⟩ := h5
  obtain ⟨u4, v4⟩ := h6
  refine g_aload_n C d_S_isWorthTrying_0 1 rfl rfl 1 rfl ?_
  refine gt_X_heatLeft C G d_S_isWorthTrying_1 4 rfl i (by omega) fl_S_70 ?_
  refine g_if_ge C d_S_isWorthTrying_4 7 rfl (show r32 (S (23 + i) 2) from ⟨by omega, by omega⟩) 9 rfl (fun (w1 : 0 ≤ S (23 + i) 2) => ?_) (fun (w2 : ¬ 0 ≤ S (23 + i) 2) => ?_)
  · skip
    refine g_aload_n C d_S_isWorthTrying_9 10 rfl rfl 0 rfl ?_
    refine gt_S_found C G d_S_isWorthTrying_10 13 rfl fl_S_25 ?_
    refine g_if_eq C d_S_isWorthTrying_13 16 rfl (show r32 (S 7 0) from ⟨by omega, by omega⟩) 49 rfl (fun (w3 : S 7 0 = 0) => ?_) (fun (w4 : ¬ S 7 0 = 0) => ?_)
    · skip
      refine g_iconst C d_S_isWorthTrying_49 50 rfl ?_
      refine g_goto C d_S_isWorthTrying_50 54 rfl ?_
      exact g_zret C hA hsz hr hl (Or.inr rfl) d_S_isWorthTrying_54 (by decide) (by decide) ⟨zi_t (by unfold worth; omega), rfl, rfl⟩
    · skip
      refine g_aload_n C d_S_isWorthTrying_16 17 rfl rfl 1 rfl ?_
      refine gt_X_cents C G d_S_isWorthTrying_17 20 rfl i (by omega) fl_S_73 ?_
      refine g_aload_n C d_S_isWorthTrying_20 21 rfl rfl 0 rfl ?_
      refine gt_S_bestCents C G d_S_isWorthTrying_21 24 rfl fl_S_76 ?_
      refine g_icmp_lt C d_S_isWorthTrying_24 27 rfl (show r32 (S (23 + i) 0) from ⟨by omega, by omega⟩) (show r32 (S 7 3) from ⟨by omega, by omega⟩) 49 rfl (fun (w5 : S (23 + i) 0 < S 7 3) => ?_) (fun (w6 : ¬ S (23 + i) 0 < S 7 3) => ?_)
      · skip
        refine g_iconst C d_S_isWorthTrying_49 50 rfl ?_
        refine g_goto C d_S_isWorthTrying_50 54 rfl ?_
        exact g_zret C hA hsz hr hl (Or.inr rfl) d_S_isWorthTrying_54 (by decide) (by decide) ⟨zi_t (by unfold worth; omega), rfl, rfl⟩
      · skip
        refine g_aload_n C d_S_isWorthTrying_27 28 rfl rfl 1 rfl ?_
        refine gt_X_cents C G d_S_isWorthTrying_28 31 rfl i (by omega) fl_S_73 ?_
        refine g_aload_n C d_S_isWorthTrying_31 32 rfl rfl 0 rfl ?_
        refine gt_S_bestCents C G d_S_isWorthTrying_32 35 rfl fl_S_76 ?_
        refine g_icmp_ne C d_S_isWorthTrying_35 38 rfl (show r32 (S (23 + i) 0) from ⟨by omega, by omega⟩) (show r32 (S 7 3) from ⟨by omega, by omega⟩) 53 rfl (fun (w7 : ¬ S (23 + i) 0 = S 7 3) => ?_) (fun (w8 : S (23 + i) 0 = S 7 3) => ?_)
        · skip
          refine g_iconst C d_S_isWorthTrying_53 54 rfl ?_
          exact g_zret C hA hsz hr hl (Or.inl rfl) d_S_isWorthTrying_54 (by decide) (by decide) ⟨zi_f (by unfold worth; omega), rfl, rfl⟩
        · skip
          refine g_aload_n C d_S_isWorthTrying_38 39 rfl rfl 1 rfl ?_
          refine gt_X_kinds C G d_S_isWorthTrying_39 42 rfl i (by omega) fl_S_79 ?_
          refine g_aload_n C d_S_isWorthTrying_42 43 rfl rfl 0 rfl ?_
          refine gt_S_bestKinds C G d_S_isWorthTrying_43 46 rfl fl_S_82 ?_
          refine g_icmp_ge C d_S_isWorthTrying_46 49 rfl (show r32 (S (23 + i) 1) from ⟨by omega, by omega⟩) (show r32 (S 7 4) from ⟨by omega, by omega⟩) 53 rfl (fun (w9 : S 7 4 ≤ S (23 + i) 1) => ?_) (fun (w10 : ¬ S 7 4 ≤ S (23 + i) 1) => ?_)
          · skip
            refine g_iconst C d_S_isWorthTrying_53 54 rfl ?_
            exact g_zret C hA hsz hr hl (Or.inl rfl) d_S_isWorthTrying_54 (by decide) (by decide) ⟨zi_f (by unfold worth; omega), rfl, rfl⟩
          · skip
            refine g_iconst C d_S_isWorthTrying_49 50 rfl ?_
            refine g_goto C d_S_isWorthTrying_50 54 rfl ?_
            exact g_zret C hA hsz hr hl (Or.inr rfl) d_S_isWorthTrying_54 (by decide) (by decide) ⟨zi_t (by unfold worth; omega), rfl, rfl⟩
  · skip
    refine g_iconst C d_S_isWorthTrying_7 8 rfl ?_
    exact g_zret C hA hsz hr hl (Or.inl rfl) d_S_isWorthTrying_8 (by decide) (by decide) ⟨zi_f (by unfold worth; omega), rfl, rfl⟩
abbrev rm_S_judge : Room := { frames := 1, cells := 0, slots := 0, locals := 40 }
set_option maxHeartbeats 4000000 in
set_option maxRecDepth 100000 in
theorem t_S_judge (G : LO ad L) (i : Nat) (hi : i < 5) (h1 : 0 ≤ S 7 1 ∧ S 7 1 ≤ 4) (hs : ∀ j, j < 8 → r64 (S (28 + i) j)) : FM l y_S_judge c_S_judge 3 none rm_S_judge D cd L (wd cd ad S f0) [.ref (ad 7), .ref (ad (23 + i))] none (wd cd ad (judgeS S i) f0) := by
  refine g_of (by decide) (Nat.le_of_ble_eq_true rfl) ?_
  intro p e s m args below meth c A sz hA hsz C hr hl hnm
  have C : gC p s m args c D CL (TY cd) A c_S_judge "AlloyPlans$Search" 3 := C
  change gW _ _ _ _ _ _ _ _ _ _ _ _ _ _ _ _ _ _ _ 0 [(0, .ref (ad 7)), (1, .ref (ad (23 + i)))] []
  obtain ⟨u0, v0⟩ := h1
  obtain ⟨u1, v1⟩ := cmet_r (S (28 + i))
  refine g_aload_n C d_S_judge_0 1 rfl rfl 1 rfl ?_
  refine fcV1 C (rest := []) d_S_judge_1 4 rfl (t_X_countMet G (S := S) i (by omega) (by first | assumption | omega)) rfl (G.1 (23 + i) (by omega)) (at_X G i (by omega)) ⟨ml_S_85, im_X_countMet, se_X_countMet, ci_X⟩ w_X_countMet rfl 0 gy_X_countMet rfl 0 rfl 0 rfl rfl rfl (Nat.le_of_ble_eq_true rfl) ?_
  refine g_istore_n C d_S_judge_4 5 rfl [(2, iv (cmet (S (28 + i)))), (0, .ref (ad 7)), (1, .ref (ad (23 + i)))] rfl (by decide) rfl ?_
  refine g_aload_n C d_S_judge_5 6 rfl rfl 1 rfl ?_
  refine g_aload_n C d_S_judge_6 7 rfl rfl 1 rfl ?_
  refine gt_S_mostMet C G d_S_judge_7 10 rfl fl_S_29 ?_
  refine g_iload_n C d_S_judge_10 11 rfl rfl 0 rfl ?_
  refine g_max C ⟨ml_S_89, wM_max_s, ci_Math, wM_max_c⟩ (by decide) (Nat.le_of_ble_eq_true rfl) (by decide) (by decide) (show r32 (S 7 1) from ⟨by omega, by omega⟩) (show r32 (cmet (S (28 + i))) from ⟨by omega, by omega⟩) d_S_judge_11 14 rfl ?_
  refine pt_S_mostMet C G (z := if S 7 1 < cmet (S (28 + i)) then cmet (S (28 + i)) else S 7 1) d_S_judge_14 17 rfl fl_S_29 ?_
  refine g_iload_n C d_S_judge_17 18 rfl rfl 0 rfl ?_
  refine g_iconst C d_S_judge_18 19 rfl ?_
  refine g_icmp_ge C d_S_judge_19 22 rfl (show r32 (cmet (S (28 + i))) from ⟨by omega, by omega⟩) (show r32 4 from ⟨by decide, by decide⟩) 23 rfl (fun (w1 : 4 ≤ cmet (S (28 + i))) => ?_) (fun (w2 : ¬ 4 ≤ cmet (S (28 + i))) => ?_)
  · skip
    refine g_aload_n C d_S_judge_23 24 rfl rfl 1 rfl ?_
    refine g_iconst C d_S_judge_24 25 rfl ?_
    refine pt_S_found C G (z := 1) d_S_judge_25 28 rfl fl_S_25 (Or.inr rfl) ?_
    refine g_aload_n C d_S_judge_28 29 rfl rfl 1 rfl ?_
    refine g_aload_n C d_S_judge_29 30 rfl rfl 2 rfl ?_
    refine gt_X_cents C G d_S_judge_30 33 rfl i (by omega) fl_S_73 ?_
    refine pt_S_bestCents C G (z := (u2 (u2 S 7 1 (if S 7 1 < cmet (S (28 + i)) then cmet (S (28 + i)) else S 7 1)) 7 0 (1)) (23 + i) 0) d_S_judge_33 36 rfl fl_S_76 ?_
    refine g_aload_n C d_S_judge_36 37 rfl rfl 1 rfl ?_
    refine g_aload_n C d_S_judge_37 38 rfl rfl 2 rfl ?_
    refine gt_X_kinds C G d_S_judge_38 41 rfl i (by omega) fl_S_79 ?_
    refine pt_S_bestKinds C G (z := (u2 (u2 (u2 S 7 1 (if S 7 1 < cmet (S (28 + i)) then cmet (S (28 + i)) else S 7 1)) 7 0 (1)) 7 3 ((u2 (u2 S 7 1 (if S 7 1 < cmet (S (28 + i)) then cmet (S (28 + i)) else S 7 1)) 7 0 (1)) (23 + i) 0)) (23 + i) 1) d_S_judge_41 44 rfl fl_S_82 ?_
    refine g_aload_n C d_S_judge_44 45 rfl rfl 1 rfl ?_
    refine gt_S_tried C G d_S_judge_45 48 rfl fl_S_15 ?_
    refine g_iconst C d_S_judge_48 49 rfl ?_
    refine g_aload_n C d_S_judge_49 50 rfl rfl 1 rfl ?_
    refine gt_S_best C G d_S_judge_50 53 rfl fl_S_9 ?_
    refine g_iconst C d_S_judge_53 54 rfl ?_
    refine g_aload_n C d_S_judge_54 55 rfl rfl 1 rfl ?_
    refine gt_S_best C G d_S_judge_55 58 rfl fl_S_9 ?_
    refine ln_8 C G d_S_judge_58 59 rfl ?_
    refine cp_8 C G d_S_judge_59 62 rfl ⟨ml_S_95, wA_native, wA_static, ci_System⟩ (by decide) (by decide +kernel) ?_
    exact g_vret C hA hsz hr hl d_S_judge_62 (by decide) (by decide) ⟨rfl, rfl, by rw [show judgeS S i = uA (u2 (u2 (u2 (u2 S 7 1 (mxM S i)) 7 0 1) 7 3 (S (23 + i) 0)) 7 4 (S (23 + i) 1)) 8 4 (S 9) from if_neg (by omega)]; unfold mxM; simp only [u2_ne (show (23 + i : Nat) ≠ 7 by omega), u2_ne (show (9 : Nat) ≠ 7 by decide)]⟩
  · skip
    exact g_vret C hA hsz hr hl d_S_judge_22 (by decide) (by decide) ⟨rfl, rfl, by rw [show judgeS S i = u2 S 7 1 (mxM S i) from if_pos (by omega)]; rfl⟩
end M4
