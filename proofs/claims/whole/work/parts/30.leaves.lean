section M1
variable {l : Launch} {D : va_G} {cd : Nat → ClassId} {ad : Nat → Nat} {L : List Nat} {f f0 : Nat → va_E} {S : Nat → Nat → Int}
abbrev rm_P_isWithin : Room := { frames := 0, cells := 0, slots := 0, locals := 0 }
set_option maxHeartbeats 4000000 in
set_option maxRecDepth 100000 in
theorem t_P_isWithin (x lo hi : Int) (hx : r32 x) (hlo : r32 lo) (hhi : r32 hi) : FM l y_P_isWithin c_P_isWithin 3 (some .boolean) rm_P_isWithin D cd L f [iv (x), iv (lo), iv (hi)] (some (iv (bi (lo ≤ x ∧ x ≤ hi)))) f := by
  refine g_of (by decide) (Nat.le_of_ble_eq_true rfl) ?_
  intro p e s m args below meth c A sz hA hsz C hr hl hnm
  have C : gC p s m args c D CL (TY cd) A c_P_isWithin "AlloyPlans" 3 := C
  change gW _ _ _ _ _ _ _ _ _ _ _ _ _ _ _ _ _ _ _ 0 [(0, iv (x)), (1, iv (lo)), (2, iv (hi))] []
  have hx1 : -2147483648 ≤ x := hx.1
  have hx2 : x ≤ 2147483647 := hx.2
  have hlo1 : -2147483648 ≤ lo := hlo.1
  have hlo2 : lo ≤ 2147483647 := hlo.2
  have hhi1 : -2147483648 ≤ hi := hhi.1
  have hhi2 : hi ≤ 2147483647 := hhi.2
  refine g_iload_n C d_P_isWithin_0 1 rfl rfl 0 rfl ?_
  refine g_iload_n C d_P_isWithin_1 2 rfl rfl 1 rfl ?_
  refine g_icmp_lt C d_P_isWithin_2 5 rfl (show r32 x from ⟨by omega, by omega⟩) (show r32 lo from ⟨by omega, by omega⟩) 14 rfl (fun (w1 : x < lo) => ?_) (fun (w2 : ¬ x < lo) => ?_)
  · skip
    refine g_iconst C d_P_isWithin_14 15 rfl ?_
    exact g_zret C hA hsz hr hl (Or.inl rfl) d_P_isWithin_15 (by decide) (by decide) ⟨zi_f (by omega), rfl, rfl⟩
  · skip
    refine g_iload_n C d_P_isWithin_5 6 rfl rfl 0 rfl ?_
    refine g_iload_n C d_P_isWithin_6 7 rfl rfl 2 rfl ?_
    refine g_icmp_gt C d_P_isWithin_7 10 rfl (show r32 x from ⟨by omega, by omega⟩) (show r32 hi from ⟨by omega, by omega⟩) 14 rfl (fun (w3 : hi < x) => ?_) (fun (w4 : ¬ hi < x) => ?_)
    · skip
      refine g_iconst C d_P_isWithin_14 15 rfl ?_
      exact g_zret C hA hsz hr hl (Or.inl rfl) d_P_isWithin_15 (by decide) (by decide) ⟨zi_f (by omega), rfl, rfl⟩
    · skip
      refine g_iconst C d_P_isWithin_10 11 rfl ?_
      refine g_goto C d_P_isWithin_11 15 rfl ?_
      exact g_zret C hA hsz hr hl (Or.inr rfl) d_P_isWithin_15 (by decide) (by decide) ⟨zi_t (by omega), rfl, rfl⟩
abbrev rm_P_isSpan : Room := { frames := 0, cells := 0, slots := 0, locals := 0 }
set_option maxHeartbeats 4000000 in
set_option maxRecDepth 100000 in
theorem t_P_isSpan (lo hi : Int) (hlo : r32 lo) (hhi : r32 hi) : FM l y_P_isSpan c_P_isSpan 2 (some .boolean) rm_P_isSpan D cd L f [iv (lo), iv (hi)] (some (iv (bi (0 ≤ lo ∧ lo ≤ hi ∧ hi ≤ 100000)))) f := by
  refine g_of (by decide) (Nat.le_of_ble_eq_true rfl) ?_
  intro p e s m args below meth c A sz hA hsz C hr hl hnm
  have C : gC p s m args c D CL (TY cd) A c_P_isSpan "AlloyPlans" 2 := C
  change gW _ _ _ _ _ _ _ _ _ _ _ _ _ _ _ _ _ _ _ 0 [(0, iv (lo)), (1, iv (hi))] []
  have hlo1 : -2147483648 ≤ lo := hlo.1
  have hlo2 : lo ≤ 2147483647 := hlo.2
  have hhi1 : -2147483648 ≤ hi := hhi.1
  have hhi2 : hi ≤ 2147483647 := hhi.2
  refine g_iload_n C d_P_isSpan_0 1 rfl rfl 0 rfl ?_
  refine g_if_lt C d_P_isSpan_1 4 rfl (show r32 lo from ⟨by omega, by omega⟩) 19 rfl (fun (w1 : lo < 0) => ?_) (fun (w2 : ¬ lo < 0) => ?_)
  · skip
    refine g_iconst C d_P_isSpan_19 20 rfl ?_
    exact g_zret C hA hsz hr hl (Or.inl rfl) d_P_isSpan_20 (by decide) (by decide) ⟨zi_f (by omega), rfl, rfl⟩
  · skip
    refine g_iload_n C d_P_isSpan_4 5 rfl rfl 0 rfl ?_
    refine g_iload_n C d_P_isSpan_5 6 rfl rfl 1 rfl ?_
    refine g_icmp_gt C d_P_isSpan_6 9 rfl (show r32 lo from ⟨by omega, by omega⟩) (show r32 hi from ⟨by omega, by omega⟩) 19 rfl (fun (w3 : hi < lo) => ?_) (fun (w4 : ¬ hi < lo) => ?_)
    · skip
      refine g_iconst C d_P_isSpan_19 20 rfl ?_
      exact g_zret C hA hsz hr hl (Or.inl rfl) d_P_isSpan_20 (by decide) (by decide) ⟨zi_f (by omega), rfl, rfl⟩
    · skip
      refine g_iload_n C d_P_isSpan_9 10 rfl rfl 1 rfl ?_
      refine g_ldc C (z := 100000) d_P_isSpan_10 12 rfl rfl kc_P_84 ?_
      refine g_icmp_gt C d_P_isSpan_12 15 rfl (show r32 hi from ⟨by omega, by omega⟩) (show r32 100000 from ⟨by decide, by decide⟩) 19 rfl (fun (w5 : 100000 < hi) => ?_) (fun (w6 : ¬ 100000 < hi) => ?_)
      · skip
        refine g_iconst C d_P_isSpan_19 20 rfl ?_
        exact g_zret C hA hsz hr hl (Or.inl rfl) d_P_isSpan_20 (by decide) (by decide) ⟨zi_f (by omega), rfl, rfl⟩
      · skip
        refine g_iconst C d_P_isSpan_15 16 rfl ?_
        refine g_goto C d_P_isSpan_16 20 rfl ?_
        exact g_zret C hA hsz hr hl (Or.inr rfl) d_P_isSpan_20 (by decide) (by decide) ⟨zi_t (by omega), rfl, rfl⟩
abbrev rm_P_isLowEnd : Room := { frames := 0, cells := 0, slots := 0, locals := 0 }
set_option maxHeartbeats 4000000 in
set_option maxRecDepth 100000 in
theorem t_P_isLowEnd (n : Int) (hn : r32 n) : FM l y_P_isLowEnd c_P_isLowEnd 1 (some .boolean) rm_P_isLowEnd D cd L f [iv (n)] (some (iv (bi (Int.tmod n 2 = 0)))) f := by
  refine g_of (by decide) (Nat.le_of_ble_eq_true rfl) ?_
  intro p e s m args below meth c A sz hA hsz C hr hl hnm
  have C : gC p s m args c D CL (TY cd) A c_P_isLowEnd "AlloyPlans" 1 := C
  change gW _ _ _ _ _ _ _ _ _ _ _ _ _ _ _ _ _ _ _ 0 [(0, iv (n))] []
  have hn1 : -2147483648 ≤ n := hn.1
  have hn2 : n ≤ 2147483647 := hn.2
  have hm := Int.tmod_lt_of_pos n (show (0 : Int) < 2 by decide)
  have hm2 := Int.lt_tmod_of_pos n (show (0 : Int) < 2 by decide)
  refine g_iload_n C d_P_isLowEnd_0 1 rfl rfl 0 rfl ?_
  refine g_iconst C d_P_isLowEnd_1 2 rfl ?_
  refine g_irem C d_P_isLowEnd_2 3 rfl (show r32 n from ⟨by omega, by omega⟩) (show r32 2 from ⟨by decide, by decide⟩) (show 2 ≠ (0 : Int) by decide) ?_
  refine g_if_ne C d_P_isLowEnd_3 6 rfl (show r32 (Int.tmod n 2) from ⟨by omega, by omega⟩) 10 rfl (fun (w1 : ¬ Int.tmod n 2 = 0) => ?_) (fun (w2 : Int.tmod n 2 = 0) => ?_)
  · skip
    refine g_iconst C d_P_isLowEnd_10 11 rfl ?_
    exact g_zret C hA hsz hr hl (Or.inl rfl) d_P_isLowEnd_11 (by decide) (by decide) ⟨zi_f (by omega), rfl, rfl⟩
  · skip
    refine g_iconst C d_P_isLowEnd_6 7 rfl ?_
    refine g_goto C d_P_isLowEnd_7 11 rfl ?_
    exact g_zret C hA hsz hr hl (Or.inr rfl) d_P_isLowEnd_11 (by decide) (by decide) ⟨zi_t (by omega), rfl, rfl⟩
abbrev rm_P_quotient : Room := { frames := 0, cells := 0, slots := 0, locals := 0 }
set_option maxHeartbeats 4000000 in
set_option maxRecDepth 100000 in
theorem t_P_quotient (x y : Int) (hx : r64 x) (hy : r64 y) : FM l y_P_quotient c_P_quotient 4 (some .long) rm_P_quotient D cd L f [jv (x), jv (y)] (some (jv (if 0 < y then Int.tdiv x y else 0))) f := by
  refine g_of (by decide) (Nat.le_of_ble_eq_true rfl) ?_
  intro p e s m args below meth c A sz hA hsz C hr hl hnm
  have C : gC p s m args c D CL (TY cd) A c_P_quotient "AlloyPlans" 4 := C
  change gW _ _ _ _ _ _ _ _ _ _ _ _ _ _ _ _ _ _ _ 0 [(0, jv (x)), (2, jv (y))] []
  have hx1 : -9223372036854775808 ≤ x := hx.1
  have hx2 : x ≤ 9223372036854775807 := hx.2
  have hy1 : -9223372036854775808 ≤ y := hy.1
  have hy2 : y ≤ 9223372036854775807 := hy.2
  refine g_lload_n C d_P_quotient_0 1 rfl rfl 1 rfl ?_
  refine g_lconst C (z := 0) d_P_quotient_1 2 rfl rfl ?_
  refine g_lcmp_le C d_P_quotient_2 3 rfl 6 rfl (show r64 y from ⟨by omega, by omega⟩) (show r64 0 from ⟨by decide, by decide⟩) 12 rfl d_P_quotient_3 (fun (w1 : y ≤ 0) => ?_) (fun (w2 : ¬ y ≤ 0) => ?_)
  · skip
    refine g_lconst C (z := 0) d_P_quotient_12 13 rfl rfl ?_
    exact g_lret C hA hsz hr hl d_P_quotient_13 (by decide) (by decide) ⟨vj_e (by first | rw [if_pos (by omega)] | rw [if_neg (by omega)]), rfl, rfl⟩
  · skip
    refine g_lload_n C d_P_quotient_6 7 rfl rfl 0 rfl ?_
    refine g_lload_n C d_P_quotient_7 8 rfl rfl 1 rfl ?_
    refine g_ldiv C d_P_quotient_8 9 rfl (show r64 x from ⟨by omega, by omega⟩) (show r64 y from ⟨by omega, by omega⟩) (show y ≠ (0 : Int) by omega) ?_
    refine g_goto C d_P_quotient_9 13 rfl ?_
    exact g_lret C hA hsz hr hl d_P_quotient_13 (by decide) (by decide) ⟨vj_e (by first | rw [if_pos (by omega)] | rw [if_neg (by omega)]), rfl, rfl⟩
abbrev rm_P_surplusAt : Room := { frames := 1, cells := 0, slots := 0, locals := 20 }
set_option maxHeartbeats 4000000 in
set_option maxRecDepth 100000 in
theorem t_P_surplusAt (n x y : Int) (hn : r32 n) : FM l y_P_surplusAt c_P_surplusAt 5 (some .long) rm_P_surplusAt D cd L f [iv (n), jv (x), jv (y)] (some (jv (if Int.tmod n 2 = 0 then x - y else y - x))) f := by
  refine g_of (by decide) (Nat.le_of_ble_eq_true rfl) ?_
  intro p e s m args below meth c A sz hA hsz C hr hl hnm
  have C : gC p s m args c D CL (TY cd) A c_P_surplusAt "AlloyPlans" 5 := C
  change gW _ _ _ _ _ _ _ _ _ _ _ _ _ _ _ _ _ _ _ 0 [(0, iv (n)), (1, jv (x)), (3, jv (y))] []
  have hn1 : -2147483648 ≤ n := hn.1
  have hn2 : n ≤ 2147483647 := hn.2
  refine g_iload_n C d_P_surplusAt_0 1 rfl rfl 0 rfl ?_
  refine fcS1 C (rest := []) d_P_surplusAt_1 4 rfl (t_P_isLowEnd n (show r32 n from ⟨by omega, by omega⟩)) ⟨ml_P_197, sm_P_isLowEnd, ci_P⟩ w_P_isLowEnd rfl 1 gy_P_isLowEnd rfl 0 rfl 0 rfl rfl rfl (Nat.le_of_ble_eq_true rfl) ?_
  refine g_if_eq C d_P_surplusAt_4 7 rfl (bi_r _) 13 rfl (fun (w1 : bi (Int.tmod n 2 = 0) = 0) => ?_) (fun (w2 : ¬ bi (Int.tmod n 2 = 0) = 0) => ?_)
  · skip
    have w1 : ¬ (Int.tmod n 2 = 0) := bi_f w1
    refine g_lload_n C d_P_surplusAt_13 14 rfl rfl 2 rfl ?_
    refine g_lload_n C d_P_surplusAt_14 15 rfl rfl 1 rfl ?_
    refine g_lsub C d_P_surplusAt_15 16 rfl ?_
    exact g_lret C hA hsz hr hl d_P_surplusAt_16 (by decide) (by decide) ⟨vj_e (by first | rw [if_pos (by omega)] | rw [if_neg (by omega)]), rfl, rfl⟩
  · skip
    have w2 : (Int.tmod n 2 = 0) := bi_t w2
    refine g_lload_n C d_P_surplusAt_7 8 rfl rfl 1 rfl ?_
    refine g_lload_n C d_P_surplusAt_8 9 rfl rfl 2 rfl ?_
    refine g_lsub C d_P_surplusAt_9 10 rfl ?_
    refine g_goto C d_P_surplusAt_10 16 rfl ?_
    exact g_lret C hA hsz hr hl d_P_surplusAt_16 (by decide) (by decide) ⟨vj_e (by first | rw [if_pos (by omega)] | rw [if_neg (by omega)]), rfl, rfl⟩
abbrev rm_P_requireIndex : Room := { frames := 6, cells := 1, slots := 6, locals := 82 }
set_option maxHeartbeats 4000000 in
set_option maxRecDepth 100000 in
theorem t_P_requireIndex (hst9 : l.stackTraces = false) (x : Int) (hx : r32 x) : FX l y_P_requireIndex c_P_requireIndex 1 none rm_P_requireIndex D cd L f [iv (x)] (¬ x = 0) none f (fun E => x = 0 ∧ E = xIOB) := by
  refine gx_of (by decide) (Nat.le_of_ble_eq_true rfl) ?_
  intro p e s m args below meth c A sz hA hsz C hr hl hnt
  have C : gC p s m args c D CL (TY cd) A c_P_requireIndex "AlloyPlans" 1 := C
  change gW _ _ _ _ _ _ _ _ _ _ _ _ _ _ _ _ _ _ _ 0 [(0, iv (x))] []
  have hx1 : -2147483648 ≤ x := hx.1
  have hx2 : x ≤ 2147483647 := hx.2
  refine g_iload_n C d_P_requireIndex_0 1 rfl rfl 0 rfl ?_
  refine g_if_ne C d_P_requireIndex_1 4 rfl (show r32 x from ⟨by omega, by omega⟩) 14 rfl (fun (w1 : ¬ x = 0) => ?_) (fun (w2 : x = 0) => ?_)
  · skip
    exact gx_ret (g_vret C hA hsz hr hl d_P_requireIndex_14 (by decide) (by decide) ⟨by omega, rfl, rfl, rfl⟩)
  · skip
    exact gx_throw C hA hsz hnt hl hst9 (cls := xIOB) (names := EXN) (by decide +kernel) (by decide +kernel) kl_P_171 ci_IndexOutOfBoundsException (gN_n_s173 C.2.1.2.1) (hat_175 C.1.2.2.2.2 C.2.1.2.1) hgd_175 d_P_requireIndex_4 d_P_requireIndex_7 d_P_requireIndex_8 d_P_requireIndex_10 d_P_requireIndex_13 (by decide) (by decide) (by decide) (by decide) (by decide) (by decide) ⟨by omega, rfl⟩
abbrev rm_P_requireRange : Room := { frames := 6, cells := 1, slots := 6, locals := 82 }
set_option maxHeartbeats 4000000 in
set_option maxRecDepth 100000 in
theorem t_P_requireRange (hst9 : l.stackTraces = false) (x : Int) (hx : r32 x) : FX l y_P_requireRange c_P_requireRange 1 none rm_P_requireRange D cd L f [iv (x)] (¬ x = 0) none f (fun E => x = 0 ∧ E = xIAE) := by
  refine gx_of (by decide) (Nat.le_of_ble_eq_true rfl) ?_
  intro p e s m args below meth c A sz hA hsz C hr hl hnt
  have C : gC p s m args c D CL (TY cd) A c_P_requireRange "AlloyPlans" 1 := C
  change gW _ _ _ _ _ _ _ _ _ _ _ _ _ _ _ _ _ _ _ 0 [(0, iv (x))] []
  have hx1 : -2147483648 ≤ x := hx.1
  have hx2 : x ≤ 2147483647 := hx.2
  refine g_iload_n C d_P_requireRange_0 1 rfl rfl 0 rfl ?_
  refine g_if_ne C d_P_requireRange_1 4 rfl (show r32 x from ⟨by omega, by omega⟩) 14 rfl (fun (w1 : ¬ x = 0) => ?_) (fun (w2 : x = 0) => ?_)
  · skip
    exact gx_ret (g_vret C hA hsz hr hl d_P_requireRange_14 (by decide) (by decide) ⟨by omega, rfl, rfl, rfl⟩)
  · skip
    exact gx_throw C hA hsz hnt hl hst9 (cls := xIAE) (names := EXN) (by decide +kernel) (by decide +kernel) kl_P_176 ci_IllegalArgumentException (gN_n_s178 C.2.1.2.1) (hat_180 C.1.2.2.2.2 C.2.1.2.1) hgd_180 d_P_requireRange_4 d_P_requireRange_7 d_P_requireRange_8 d_P_requireRange_10 d_P_requireRange_13 (by decide) (by decide) (by decide) (by decide) (by decide) (by decide) ⟨by omega, rfl⟩
abbrev rm_P_requirePlan : Room := { frames := 6, cells := 1, slots := 6, locals := 82 }
set_option maxHeartbeats 4000000 in
set_option maxRecDepth 100000 in
theorem t_P_requirePlan (hst9 : l.stackTraces = false) (G : LO ad L)  (h5 : r32 (S 5 0)) : FX l y_P_requirePlan c_P_requirePlan 1 none rm_P_requirePlan D cd L (wd cd ad S f0) [.ref (ad 0)] (¬ S 5 0 = 0) none (wd cd ad S f0) (fun E => S 5 0 = 0 ∧ E = xISE) := by
  refine gx_of (by decide) (Nat.le_of_ble_eq_true rfl) ?_
  intro p e s m args below meth c A sz hA hsz C hr hl hnt
  have C : gC p s m args c D CL (TY cd) A c_P_requirePlan "AlloyPlans" 1 := C
  change gW _ _ _ _ _ _ _ _ _ _ _ _ _ _ _ _ _ _ _ 0 [(0, .ref (ad 0))] []
  have h51 : -2147483648 ≤ S 5 0 := h5.1
  have h52 : S 5 0 ≤ 2147483647 := h5.2
  refine g_aload_n C d_P_requirePlan_0 1 rfl rfl 0 rfl ?_
  refine gt_P_plan C G d_P_requirePlan_1 4 rfl fl_P_26 ?_
  refine gt_N_stands C G d_P_requirePlan_4 7 rfl fl_P_181 ?_
  refine g_if_ne C d_P_requirePlan_7 10 rfl (show r32 (S 5 0) from ⟨by omega, by omega⟩) 20 rfl (fun (w1 : ¬ S 5 0 = 0) => ?_) (fun (w2 : S 5 0 = 0) => ?_)
  · skip
    exact gx_ret (g_vret C hA hsz hr hl d_P_requirePlan_20 (by decide) (by decide) ⟨by omega, rfl, rfl, rfl⟩)
  · skip
    exact gx_throw C hA hsz hnt hl hst9 (cls := xISE) (names := EXN) (by decide +kernel) (by decide +kernel) kl_P_44 ci_IllegalStateException (gN_n_s184 C.2.1.2.1) (hat_48 C.1.2.2.2.2 C.2.1.2.1) hgd_48 d_P_requirePlan_10 d_P_requirePlan_13 d_P_requirePlan_14 d_P_requirePlan_16 d_P_requirePlan_19 (by decide) (by decide) (by decide) (by decide) (by decide) (by decide) ⟨by omega, rfl⟩
abbrev rm_P_isKind : Room := { frames := 0, cells := 0, slots := 0, locals := 0 }
set_option maxHeartbeats 4000000 in
set_option maxRecDepth 100000 in
theorem t_P_isKind (G : LO ad L) (x : Int) (hx : r32 x) (h0 : r32 (S 0 4)) : FM l y_P_isKind c_P_isKind 2 (some .boolean) rm_P_isKind D cd L (wd cd ad S f0) [.ref (ad 0), iv (x)] (some (iv (bi (0 ≤ x ∧ x < S 0 4 ∧ x < 4)))) (wd cd ad S f0) := by
  refine g_of (by decide) (Nat.le_of_ble_eq_true rfl) ?_
  intro p e s m args below meth c A sz hA hsz C hr hl hnm
  have C : gC p s m args c D CL (TY cd) A c_P_isKind "AlloyPlans" 2 := C
  change gW _ _ _ _ _ _ _ _ _ _ _ _ _ _ _ _ _ _ _ 0 [(0, .ref (ad 0)), (1, iv (x))] []
  have hx1 : -2147483648 ≤ x := hx.1
  have hx2 : x ≤ 2147483647 := hx.2
  have h01 : -2147483648 ≤ S 0 4 := h0.1
  have h02 : S 0 4 ≤ 2147483647 := h0.2
  refine g_iload_n C d_P_isKind_0 1 rfl rfl 1 rfl ?_
  refine g_if_lt C d_P_isKind_1 4 rfl (show r32 x from ⟨by omega, by omega⟩) 25 rfl (fun (w1 : x < 0) => ?_) (fun (w2 : ¬ x < 0) => ?_)
  · skip
    refine g_iconst C d_P_isKind_25 26 rfl ?_
    exact g_zret C hA hsz hr hl (Or.inl rfl) d_P_isKind_26 (by decide) (by decide) ⟨zi_f (by omega), rfl, rfl⟩
  · skip
    refine g_iload_n C d_P_isKind_4 5 rfl rfl 1 rfl ?_
    refine g_aload_n C d_P_isKind_5 6 rfl rfl 0 rfl ?_
    refine gt_P_kindCount C G d_P_isKind_6 9 rfl fl_P_37 ?_
    refine g_icmp_ge C d_P_isKind_9 12 rfl (show r32 x from ⟨by omega, by omega⟩) (show r32 (S 0 4) from ⟨by omega, by omega⟩) 25 rfl (fun (w3 : S 0 4 ≤ x) => ?_) (fun (w4 : ¬ S 0 4 ≤ x) => ?_)
    · skip
      refine g_iconst C d_P_isKind_25 26 rfl ?_
      exact g_zret C hA hsz hr hl (Or.inl rfl) d_P_isKind_26 (by decide) (by decide) ⟨zi_f (by omega), rfl, rfl⟩
    · skip
      refine g_iload_n C d_P_isKind_12 13 rfl rfl 1 rfl ?_
      refine g_aload_n C d_P_isKind_13 14 rfl rfl 0 rfl ?_
      refine gt_P_alloys C G d_P_isKind_14 17 rfl fl_P_18 ?_
      refine ln_4 C G d_P_isKind_17 18 rfl ?_
      refine g_icmp_ge C d_P_isKind_18 21 rfl (show r32 x from ⟨by omega, by omega⟩) (show r32 4 from ⟨by decide, by decide⟩) 25 rfl (fun (w5 : 4 ≤ x) => ?_) (fun (w6 : ¬ 4 ≤ x) => ?_)
      · skip
        refine g_iconst C d_P_isKind_25 26 rfl ?_
        exact g_zret C hA hsz hr hl (Or.inl rfl) d_P_isKind_26 (by decide) (by decide) ⟨zi_f (by omega), rfl, rfl⟩
      · skip
        refine g_iconst C d_P_isKind_21 22 rfl ?_
        refine g_goto C d_P_isKind_22 26 rfl ?_
        exact g_zret C hA hsz hr hl (Or.inr rfl) d_P_isKind_26 (by decide) (by decide) ⟨zi_t (by omega), rfl, rfl⟩
abbrev rm_N_forget : Room := { frames := 0, cells := 0, slots := 0, locals := 0 }
set_option maxHeartbeats 4000000 in
set_option maxRecDepth 100000 in
theorem t_N_forget (G : LO ad L)   : FM l y_N_forget c_N_forget 1 none rm_N_forget D cd L (wd cd ad S f0) [.ref (ad 5)] none (wd cd ad (u2 S 5 0 0) f0) := by
  refine g_of (by decide) (Nat.le_of_ble_eq_true rfl) ?_
  intro p e s m args below meth c A sz hA hsz C hr hl hnm
  have C : gC p s m args c D CL (TY cd) A c_N_forget "AlloyPlans$Plan" 1 := C
  change gW _ _ _ _ _ _ _ _ _ _ _ _ _ _ _ _ _ _ _ 0 [(0, .ref (ad 5))] []
  refine g_aload_n C d_N_forget_0 1 rfl rfl 0 rfl ?_
  refine g_iconst C d_N_forget_1 2 rfl ?_
  refine pt_N_stands C G (z := 0) d_N_forget_2 5 rfl fl_N_15 (Or.inl rfl) ?_
  exact g_vret C hA hsz hr hl d_N_forget_5 (by decide) (by decide) ⟨rfl, rfl, rfl⟩
abbrev rm_N_isTaken : Room := { frames := 0, cells := 0, slots := 0, locals := 0 }
set_option maxHeartbeats 4000000 in
set_option maxRecDepth 100000 in
theorem t_N_isTaken (G : LO ad L) (k : Nat) (hk : k < 4) (h6 : r32 (S 6 k)) : FM l y_N_isTaken c_N_isTaken 2 (some .boolean) rm_N_isTaken D cd L (wd cd ad S f0) [.ref (ad 5), iv ((k : Int))] (some (iv (bi (0 < S 6 k)))) (wd cd ad S f0) := by
  refine g_of (by decide) (Nat.le_of_ble_eq_true rfl) ?_
  intro p e s m args below meth c A sz hA hsz C hr hl hnm
  have C : gC p s m args c D CL (TY cd) A c_N_isTaken "AlloyPlans$Plan" 2 := C
  change gW _ _ _ _ _ _ _ _ _ _ _ _ _ _ _ _ _ _ _ 0 [(0, .ref (ad 5)), (1, iv ((k : Int)))] []
  have h61 : -2147483648 ≤ S 6 k := h6.1
  have h62 : S 6 k ≤ 2147483647 := h6.2
  refine g_aload_n C d_N_isTaken_0 1 rfl rfl 0 rfl ?_
  refine gt_N_taken C G d_N_isTaken_1 4 rfl fl_N_9 ?_
  refine g_iload_n C d_N_isTaken_4 5 rfl rfl 1 rfl ?_
  refine ld_6 C G d_N_isTaken_5 6 rfl k (by omega) rfl ?_
  refine g_if_le C d_N_isTaken_6 9 rfl (show r32 (S 6 k) from ⟨by omega, by omega⟩) 13 rfl (fun (w1 : S 6 k ≤ 0) => ?_) (fun (w2 : ¬ S 6 k ≤ 0) => ?_)
  · skip
    refine g_iconst C d_N_isTaken_13 14 rfl ?_
    exact g_zret C hA hsz hr hl (Or.inl rfl) d_N_isTaken_14 (by decide) (by decide) ⟨zi_f (by omega), rfl, rfl⟩
  · skip
    refine g_iconst C d_N_isTaken_9 10 rfl ?_
    refine g_goto C d_N_isTaken_10 14 rfl ?_
    exact g_zret C hA hsz hr hl (Or.inr rfl) d_N_isTaken_14 (by decide) (by decide) ⟨zi_t (by omega), rfl, rfl⟩
end M1
