section M8
variable {l : Launch} {D : va_G} {cd : Nat → ClassId} {ad : Nat → Nat} {L : List Nat} {f f0 : Nat → va_E} {S : Nat → Nat → Int}
def gv (a b : Int) : Int := if a = 0 then 1 else if b = 0 then 2 else 0
theorem gv_r (a b : Int) : 0 ≤ gv a b ∧ gv a b ≤ 2 := by unfold gv; split <;> (try split) <;> omega
theorem gv_t {p q : Prop} [Decidable p] [Decidable q] (h : gv (bi p) (bi q) = 0) : p ∧ q := by
  unfold gv at h
  by_cases h1 : bi p = 0
  · rw [if_pos h1] at h; cases h
  · rw [if_neg h1] at h
    by_cases h2 : bi q = 0
    · rw [if_pos h2] at h; cases h
    · exact ⟨bi_t h1, bi_t h2⟩
theorem gv_t1 {p : Prop} [Decidable p] {b : Int} (h : gv (bi p) b = 0) : p ∧ ¬ b = 0 := by
  unfold gv at h
  by_cases h1 : bi p = 0
  · rw [if_pos h1] at h; cases h
  · rw [if_neg h1] at h
    by_cases h2 : b = 0
    · rw [if_pos h2] at h; cases h
    · exact ⟨bi_t h1, h2⟩
theorem gv_t2 {p : Prop} [Decidable p] {a : Int} (h : gv a (bi p) = 0) : ¬ a = 0 ∧ p := by
  unfold gv at h
  by_cases h1 : a = 0
  · rw [if_pos h1] at h; cases h
  · rw [if_neg h1] at h
    by_cases h2 : bi p = 0
    · rw [if_pos h2] at h; cases h
    · exact ⟨h1, bi_t h2⟩
abbrev rm_M_thrown : Room := { frames := 0, cells := 0, slots := 0, locals := 0 }
set_option maxHeartbeats 4000000 in
set_option maxRecDepth 100000 in
theorem t_M_thrown (G : LO ad L)   : FM l y_M_thrown c_M_thrown 1 (some .int) rm_M_thrown D cd L (wd cd ad S f0) [.ref (ad 33)] (some (iv (S 33 0))) (wd cd ad S f0) := by
  refine g_of (by decide) (Nat.le_of_ble_eq_true rfl) ?_
  intro p e s m args below meth c A sz hA hsz C hr hl hnm
  have C : gC p s m args c D CL (TY cd) A c_M_thrown "AlloyPlansModel" 1 := C
  change gW _ _ _ _ _ _ _ _ _ _ _ _ _ _ _ _ _ _ _ 0 [(0, .ref (ad 33))] []
  refine g_aload_n C d_M_thrown_0 1 rfl rfl 0 rfl ?_
  refine gt_M_thrown C G d_M_thrown_1 4 rfl fl_M_54 ?_
  exact g_iret C hA hsz hr hl d_M_thrown_4 (by decide) (by decide) ⟨rfl, rfl, rfl⟩
abbrev rm_M_in : Room := { frames := 0, cells := 0, slots := 0, locals := 0 }
set_option maxHeartbeats 4000000 in
set_option maxRecDepth 100000 in
theorem t_M_in (x lo hi : Int) (hx : r32 x) (hlo : r32 lo) (hhi : r32 hi) : FM l y_M_in c_M_in 3 (some .boolean) rm_M_in D cd L f [iv (x), iv (lo), iv (hi)] (some (iv (bi (lo ≤ x ∧ x ≤ hi)))) f := by
  refine g_of (by decide) (Nat.le_of_ble_eq_true rfl) ?_
  intro p e s m args below meth c A sz hA hsz C hr hl hnm
  have C : gC p s m args c D CL (TY cd) A c_M_in "AlloyPlansModel" 3 := C
  change gW _ _ _ _ _ _ _ _ _ _ _ _ _ _ _ _ _ _ _ 0 [(0, iv (x)), (1, iv (lo)), (2, iv (hi))] []
  have hx1 : -2147483648 ≤ x := hx.1
  have hx2 : x ≤ 2147483647 := hx.2
  have hlo1 : -2147483648 ≤ lo := hlo.1
  have hlo2 : lo ≤ 2147483647 := hlo.2
  have hhi1 : -2147483648 ≤ hi := hhi.1
  have hhi2 : hi ≤ 2147483647 := hhi.2
  refine g_iload_n C d_M_in_0 1 rfl rfl 0 rfl ?_
  refine g_iload_n C d_M_in_1 2 rfl rfl 1 rfl ?_
  refine g_icmp_lt C d_M_in_2 5 rfl (show r32 x from ⟨by omega, by omega⟩) (show r32 lo from ⟨by omega, by omega⟩) 14 rfl (fun (w1 : x < lo) => ?_) (fun (w2 : ¬ x < lo) => ?_)
  · skip
    refine g_iconst C d_M_in_14 15 rfl ?_
    exact g_zret C hA hsz hr hl (Or.inl rfl) d_M_in_15 (by decide) (by decide) ⟨zi_f (by omega), rfl, rfl⟩
  · skip
    refine g_iload_n C d_M_in_5 6 rfl rfl 0 rfl ?_
    refine g_iload_n C d_M_in_6 7 rfl rfl 2 rfl ?_
    refine g_icmp_gt C d_M_in_7 10 rfl (show r32 x from ⟨by omega, by omega⟩) (show r32 hi from ⟨by omega, by omega⟩) 14 rfl (fun (w3 : hi < x) => ?_) (fun (w4 : ¬ hi < x) => ?_)
    · skip
      refine g_iconst C d_M_in_14 15 rfl ?_
      exact g_zret C hA hsz hr hl (Or.inl rfl) d_M_in_15 (by decide) (by decide) ⟨zi_f (by omega), rfl, rfl⟩
    · skip
      refine g_iconst C d_M_in_10 11 rfl ?_
      refine g_goto C d_M_in_11 15 rfl ?_
      exact g_zret C hA hsz hr hl (Or.inr rfl) d_M_in_15 (by decide) (by decide) ⟨zi_t (by omega), rfl, rfl⟩
abbrev rm_M_isElement : Room := { frames := 1, cells := 0, slots := 0, locals := 22 }
set_option maxHeartbeats 4000000 in
set_option maxRecDepth 100000 in
theorem t_M_isElement (x : Int) (hx : r32 x) : FM l y_M_isElement c_M_isElement 1 (some .boolean) rm_M_isElement D cd L f [iv (x)] (some (iv (bi (0 ≤ x ∧ x ≤ 3)))) f := by
  refine g_of (by decide) (Nat.le_of_ble_eq_true rfl) ?_
  intro p e s m args below meth c A sz hA hsz C hr hl hnm
  have C : gC p s m args c D CL (TY cd) A c_M_isElement "AlloyPlansModel" 1 := C
  change gW _ _ _ _ _ _ _ _ _ _ _ _ _ _ _ _ _ _ _ 0 [(0, iv (x))] []
  have hx1 : -2147483648 ≤ x := hx.1
  have hx2 : x ≤ 2147483647 := hx.2
  refine g_iload_n C d_M_isElement_0 1 rfl rfl 0 rfl ?_
  refine g_iconst C d_M_isElement_1 2 rfl ?_
  refine g_iconst C d_M_isElement_2 3 rfl ?_
  refine fcS1 C (rest := []) d_M_isElement_3 6 rfl (t_M_in x 0 3 (show r32 x from ⟨by omega, by omega⟩) (show r32 0 from ⟨by decide, by decide⟩) (show r32 3 from ⟨by decide, by decide⟩)) ⟨ml_M_57, sm_M_in, ci_M⟩ w_M_in rfl 3 gy_M_in rfl 0 rfl 0 rfl rfl rfl (Nat.le_of_ble_eq_true rfl) ?_
  exact g_zret C hA hsz hr hl (bi_01 _) d_M_isElement_6 (by decide) (by decide) ⟨rfl, rfl, rfl⟩
abbrev rm_M_isKind : Room := { frames := 1, cells := 0, slots := 0, locals := 22 }
set_option maxHeartbeats 4000000 in
set_option maxRecDepth 100000 in
theorem t_M_isKind (G : LO ad L) (x : Int) (hx : r32 x) (h0 : 0 ≤ S 33 6 ∧ S 33 6 ≤ 4) : FM l y_M_isKind c_M_isKind 2 (some .boolean) rm_M_isKind D cd L (wd cd ad S f0) [.ref (ad 33), iv (x)] (some (iv (bi (0 ≤ x ∧ x ≤ S 33 6 - 1)))) (wd cd ad S f0) := by
  refine g_of (by decide) (Nat.le_of_ble_eq_true rfl) ?_
  intro p e s m args below meth c A sz hA hsz C hr hl hnm
  have C : gC p s m args c D CL (TY cd) A c_M_isKind "AlloyPlansModel" 2 := C
  change gW _ _ _ _ _ _ _ _ _ _ _ _ _ _ _ _ _ _ _ 0 [(0, .ref (ad 33)), (1, iv (x))] []
  obtain ⟨u0, v0⟩ := h0
  have hx1 : -2147483648 ≤ x := hx.1
  have hx2 : x ≤ 2147483647 := hx.2
  refine g_iload_n C d_M_isKind_0 1 rfl rfl 1 rfl ?_
  refine g_iconst C d_M_isKind_1 2 rfl ?_
  refine g_aload_n C d_M_isKind_2 3 rfl rfl 0 rfl ?_
  refine gt_M_kinds C G d_M_isKind_3 6 rfl fl_M_61 ?_
  refine g_iconst C d_M_isKind_6 7 rfl ?_
  refine g_isub C d_M_isKind_7 8 rfl ?_
  refine fcS1 C (rest := []) d_M_isKind_8 11 rfl (t_M_in x 0 ((S 33 6) - 1) (show r32 x from ⟨by omega, by omega⟩) (show r32 0 from ⟨by decide, by decide⟩) (show r32 ((S 33 6) - 1) from ⟨by omega, by omega⟩)) ⟨ml_M_57, sm_M_in, ci_M⟩ w_M_in rfl 3 gy_M_in rfl 0 rfl 0 rfl rfl rfl (Nat.le_of_ble_eq_true rfl) ?_
  exact g_zret C hA hsz hr hl (bi_01 _) d_M_isKind_11 (by decide) (by decide) ⟨rfl, rfl, rfl⟩
abbrev rm_M_areShares : Room := { frames := 1, cells := 0, slots := 0, locals := 22 }
set_option maxHeartbeats 4000000 in
set_option maxRecDepth 100000 in
theorem t_M_areShares (x y : Int) (hx : r32 x) (hy : r32 y) : FM l y_M_areShares c_M_areShares 2 (some .boolean) rm_M_areShares D cd L f [iv (x), iv (y)] (some (iv (bi (0 ≤ x ∧ x ≤ y ∧ y ≤ 100000)))) f := by
  refine g_of (by decide) (Nat.le_of_ble_eq_true rfl) ?_
  intro p e s m args below meth c A sz hA hsz C hr hl hnm
  have C : gC p s m args c D CL (TY cd) A c_M_areShares "AlloyPlansModel" 2 := C
  change gW _ _ _ _ _ _ _ _ _ _ _ _ _ _ _ _ _ _ _ 0 [(0, iv (x)), (1, iv (y))] []
  have hx1 : -2147483648 ≤ x := hx.1
  have hx2 : x ≤ 2147483647 := hx.2
  have hy1 : -2147483648 ≤ y := hy.1
  have hy2 : y ≤ 2147483647 := hy.2
  refine g_iload_n C d_M_areShares_0 1 rfl rfl 0 rfl ?_
  refine g_iconst C d_M_areShares_1 2 rfl ?_
  refine g_ldc C (z := 100000) d_M_areShares_2 4 rfl rfl kc_M_53 ?_
  refine fcS1 C (rest := []) d_M_areShares_4 7 rfl (t_M_in x 0 100000 (show r32 x from ⟨by omega, by omega⟩) (show r32 0 from ⟨by decide, by decide⟩) (show r32 100000 from ⟨by decide, by decide⟩)) ⟨ml_M_57, sm_M_in, ci_M⟩ w_M_in rfl 3 gy_M_in rfl 0 rfl 0 rfl rfl rfl (Nat.le_of_ble_eq_true rfl) ?_
  refine g_if_eq C d_M_areShares_7 10 rfl (bi_r _) 24 rfl (fun (w1 : bi (0 ≤ x ∧ x ≤ 100000) = 0) => ?_) (fun (w2 : ¬ bi (0 ≤ x ∧ x ≤ 100000) = 0) => ?_)
  · skip
    have w1 : ¬ (0 ≤ x ∧ x ≤ 100000) := bi_f w1
    refine g_iconst C d_M_areShares_24 25 rfl ?_
    exact g_zret C hA hsz hr hl (Or.inl rfl) d_M_areShares_25 (by decide) (by decide) ⟨zi_f (by omega), rfl, rfl⟩
  · skip
    have w2 : (0 ≤ x ∧ x ≤ 100000) := bi_t w2
    refine g_iload_n C d_M_areShares_10 11 rfl rfl 1 rfl ?_
    refine g_iload_n C d_M_areShares_11 12 rfl rfl 0 rfl ?_
    refine g_ldc C (z := 100000) d_M_areShares_12 14 rfl rfl kc_M_53 ?_
    refine fcS1 C (rest := []) d_M_areShares_14 17 rfl (t_M_in y x 100000 (show r32 y from ⟨by omega, by omega⟩) (show r32 x from ⟨by omega, by omega⟩) (show r32 100000 from ⟨by decide, by decide⟩)) ⟨ml_M_57, sm_M_in, ci_M⟩ w_M_in rfl 3 gy_M_in rfl 0 rfl 0 rfl rfl rfl (Nat.le_of_ble_eq_true rfl) ?_
    refine g_if_eq C d_M_areShares_17 20 rfl (bi_r _) 24 rfl (fun (w3 : bi (x ≤ y ∧ y ≤ 100000) = 0) => ?_) (fun (w4 : ¬ bi (x ≤ y ∧ y ≤ 100000) = 0) => ?_)
    · skip
      have w3 : ¬ (x ≤ y ∧ y ≤ 100000) := bi_f w3
      refine g_iconst C d_M_areShares_24 25 rfl ?_
      exact g_zret C hA hsz hr hl (Or.inl rfl) d_M_areShares_25 (by decide) (by decide) ⟨zi_f (by omega), rfl, rfl⟩
    · skip
      have w4 : (x ≤ y ∧ y ≤ 100000) := bi_t w4
      refine g_iconst C d_M_areShares_20 21 rfl ?_
      refine g_goto C d_M_areShares_21 25 rfl ?_
      exact g_zret C hA hsz hr hl (Or.inr rfl) d_M_areShares_25 (by decide) (by decide) ⟨zi_t (by omega), rfl, rfl⟩
abbrev rm_M_goes : Room := { frames := 0, cells := 0, slots := 0, locals := 0 }
set_option maxHeartbeats 4000000 in
set_option maxRecDepth 100000 in
theorem t_M_goes (G : LO ad L) (x y : Int) (hx : r32 x) (hy : r32 y) : FM l y_M_goes c_M_goes 3 (some .boolean) rm_M_goes D cd L (wd cd ad S f0) [.ref (ad 33), iv (x), iv (y)] (some (iv (bi (gv x y = 0)))) (wd cd ad (u2 S 33 0 (gv x y)) f0) := by
  refine g_of (by decide) (Nat.le_of_ble_eq_true rfl) ?_
  intro p e s m args below meth c A sz hA hsz C hr hl hnm
  have C : gC p s m args c D CL (TY cd) A c_M_goes "AlloyPlansModel" 3 := C
  change gW _ _ _ _ _ _ _ _ _ _ _ _ _ _ _ _ _ _ _ 0 [(0, .ref (ad 33)), (1, iv (x)), (2, iv (y))] []
  have hx1 : -2147483648 ≤ x := hx.1
  have hx2 : x ≤ 2147483647 := hx.2
  have hy1 : -2147483648 ≤ y := hy.1
  have hy2 : y ≤ 2147483647 := hy.2
  have hg := gv_r x y
  refine g_aload_n C d_M_goes_0 1 rfl rfl 0 rfl ?_
  have JG : ∀ zj : Int, zj = (gv x y) → gW p l e rm_M_goes s m args below meth c D CL A 3 (MQ below (gQ D CL L sz (fun r L' g => r = (some (iv (bi (gv x y = 0)))) ∧ L' = L ∧ g = (wd cd ad (u2 S 33 0 (gv x y)) f0))) args s rm_M_goes.cells rm_M_goes.slots (gA L sz)) 0 0 L (wd cd ad S f0) 18 [(0, .ref (ad 33)), (1, iv (x)), (2, iv (y))] [iv zj, .ref (ad 33)] := by
    intro zj hzj
    subst hzj
    refine pt_M_thrown C G (z := gv x y) d_M_goes_18 21 rfl fl_M_54 ?_
    refine g_aload_n C d_M_goes_21 22 rfl rfl 0 rfl ?_
    refine gt_M_thrown C G d_M_goes_22 25 rfl fl_M_54 ?_
    refine g_if_ne C d_M_goes_25 28 rfl (show r32 (gv x y) from ⟨by omega, by omega⟩) 32 rfl (fun (w1 : ¬ gv x y = 0) => ?_) (fun (w2 : gv x y = 0) => ?_)
    · skip
      refine g_iconst C d_M_goes_32 33 rfl ?_
      exact g_zret C hA hsz hr hl (Or.inl rfl) d_M_goes_33 (by decide) (by decide) ⟨zi_f (by omega), rfl, rfl⟩
    · skip
      refine g_iconst C d_M_goes_28 29 rfl ?_
      refine g_goto C d_M_goes_29 33 rfl ?_
      exact g_zret C hA hsz hr hl (Or.inr rfl) d_M_goes_33 (by decide) (by decide) ⟨zi_t (by omega), rfl, rfl⟩
  refine g_iload_n C d_M_goes_1 2 rfl rfl 1 rfl ?_
  refine g_if_ne C d_M_goes_2 5 rfl (show r32 x from ⟨by omega, by omega⟩) 9 rfl (fun (w3 : ¬ x = 0) => ?_) (fun (w4 : x = 0) => ?_)
  · skip
    refine g_iload_n C d_M_goes_9 10 rfl rfl 2 rfl ?_
    refine g_if_ne C d_M_goes_10 13 rfl (show r32 y from ⟨by omega, by omega⟩) 17 rfl (fun (w5 : ¬ y = 0) => ?_) (fun (w6 : y = 0) => ?_)
    · skip
      refine g_iconst C d_M_goes_17 18 rfl ?_
      exact JG 0 (by unfold gv; first | (rw [if_pos (by omega)]; done) | (rw [if_neg (by omega), if_pos (by omega)]; done) | (rw [if_neg (by omega), if_neg (by omega)]; done))
    · skip
      refine g_iconst C d_M_goes_13 14 rfl ?_
      refine g_goto C d_M_goes_14 18 rfl ?_
      exact JG 2 (by unfold gv; first | (rw [if_pos (by omega)]; done) | (rw [if_neg (by omega), if_pos (by omega)]; done) | (rw [if_neg (by omega), if_neg (by omega)]; done))
  · skip
    refine g_iconst C d_M_goes_5 6 rfl ?_
    refine g_goto C d_M_goes_6 18 rfl ?_
    exact JG 1 (by unfold gv; first | (rw [if_pos (by omega)]; done) | (rw [if_neg (by omega), if_pos (by omega)]; done) | (rw [if_neg (by omega), if_neg (by omega)]; done))
abbrev rm_M_heat : Room := { frames := 1, cells := 0, slots := 0, locals := 22 }
set_option maxHeartbeats 4000000 in
set_option maxRecDepth 100000 in
theorem t_M_heat (G : LO ad L) (x : Int) (hx : r32 x) (h1 : r32 (S 33 17)) : FM l y_M_heat c_M_heat 2 none rm_M_heat D cd L (wd cd ad S f0) [.ref (ad 33), iv (x)] none (wd cd ad (if gv (bi (S 33 17 = 0)) (bi (1 ≤ x ∧ x ≤ 65536)) = 0 then (u2 (u2 (u2 S 33 0 (gv (bi (S 33 17 = 0)) (bi (1 ≤ x ∧ x ≤ 65536)))) 33 1 x) 33 14 0) else u2 S 33 0 (gv (bi (S 33 17 = 0)) (bi (1 ≤ x ∧ x ≤ 65536)))) f0) := by
  refine g_of (by decide) (Nat.le_of_ble_eq_true rfl) ?_
  intro p e s m args below meth c A sz hA hsz C hr hl hnm
  have C : gC p s m args c D CL (TY cd) A c_M_heat "AlloyPlansModel" 2 := C
  change gW _ _ _ _ _ _ _ _ _ _ _ _ _ _ _ _ _ _ _ 0 [(0, .ref (ad 33)), (1, iv (x))] []
  obtain ⟨u0, v0⟩ := h1
  have hx1 : -2147483648 ≤ x := hx.1
  have hx2 : x ≤ 2147483647 := hx.2
  refine g_aload_n C d_M_heat_0 1 rfl rfl 0 rfl ?_
  have JG : ∀ zj : Int, zj = (bi (S 33 17 = 0)) → gW p l e rm_M_heat s m args below meth c D CL A 2 (MQ below (gQ D CL L sz (fun r L' g => r = none ∧ L' = L ∧ g = (wd cd ad (if gv (bi (S 33 17 = 0)) (bi (1 ≤ x ∧ x ≤ 65536)) = 0 then (u2 (u2 (u2 S 33 0 (gv (bi (S 33 17 = 0)) (bi (1 ≤ x ∧ x ≤ 65536)))) 33 1 x) 33 14 0) else u2 S 33 0 (gv (bi (S 33 17 = 0)) (bi (1 ≤ x ∧ x ≤ 65536)))) f0))) args s rm_M_heat.cells rm_M_heat.slots (gA L sz)) 0 0 L (wd cd ad S f0) 13 [(0, .ref (ad 33)), (1, iv (x))] [iv zj, .ref (ad 33)] := by
    intro zj hzj
    subst hzj
    refine g_iload_n C d_M_heat_13 14 rfl rfl 1 rfl ?_
    refine g_iconst C d_M_heat_14 15 rfl ?_
    refine g_ldc C (z := 65536) d_M_heat_15 17 rfl rfl kc_M_67 ?_
    refine fcS1 C (rest := [iv (bi (S 33 17 = 0)), .ref (ad 33)]) d_M_heat_17 20 rfl (t_M_in x 1 65536 (show r32 x from ⟨by omega, by omega⟩) (show r32 1 from ⟨by decide, by decide⟩) (show r32 65536 from ⟨by decide, by decide⟩)) ⟨ml_M_57, sm_M_in, ci_M⟩ w_M_in rfl 3 gy_M_in rfl 0 rfl 0 rfl rfl rfl (Nat.le_of_ble_eq_true rfl) ?_
    refine fcV1 C (rest := []) d_M_heat_20 23 rfl (t_M_goes G (S := S) (bi (S 33 17 = 0)) (bi (1 ≤ x ∧ x ≤ 65536)) (bi_r _) (bi_r _)) rfl (G.1 33 (by decide)) (at_M G) ⟨ml_M_68, im_M_goes, se_M_goes, ci_M⟩ w_M_goes rfl 2 gy_M_goes rfl 0 rfl 0 rfl rfl rfl (Nat.le_of_ble_eq_true rfl) ?_
    refine g_if_ne C d_M_heat_23 26 rfl (bi_r _) 27 rfl (fun (w1 : ¬ bi (gv (bi (S 33 17 = 0)) (bi (1 ≤ x ∧ x ≤ 65536)) = 0) = 0) => ?_) (fun (w2 : bi (gv (bi (S 33 17 = 0)) (bi (1 ≤ x ∧ x ≤ 65536)) = 0) = 0) => ?_)
    · skip
      have w1 : (gv (bi (S 33 17 = 0)) (bi (1 ≤ x ∧ x ≤ 65536)) = 0) := bi_t w1
      have hgo : gv (bi (S 33 17 = 0)) (bi (1 ≤ x ∧ x ≤ 65536)) = 0 := by assumption
      have hpq := gv_t hgo
      refine g_aload_n C d_M_heat_27 28 rfl rfl 0 rfl ?_
      refine g_iload_n C d_M_heat_28 29 rfl rfl 1 rfl ?_
      refine pt_M_kilos C G (z := x) d_M_heat_29 32 rfl fl_M_7 ?_
      refine g_aload_n C d_M_heat_32 33 rfl rfl 0 rfl ?_
      refine g_iconst C d_M_heat_33 34 rfl ?_
      refine pt_M_planned C G (z := 0) d_M_heat_34 37 rfl fl_M_72 (Or.inl rfl) ?_
      exact g_vret C hA hsz hr hl d_M_heat_37 (by decide) (by decide) ⟨rfl, rfl, by rw [if_pos hgo] <;> rfl⟩
    · skip
      have w2 : ¬ (gv (bi (S 33 17 = 0)) (bi (1 ≤ x ∧ x ≤ 65536)) = 0) := bi_f w2
      exact g_vret C hA hsz hr hl d_M_heat_26 (by decide) (by decide) ⟨rfl, rfl, by rw [if_neg (by assumption)]⟩
  refine g_aload_n C d_M_heat_1 2 rfl rfl 0 rfl ?_
  refine gt_M_added C G d_M_heat_2 5 rfl fl_M_64 ?_
  refine g_if_ne C d_M_heat_5 8 rfl (show r32 (S 33 17) from ⟨by omega, by omega⟩) 12 rfl (fun (w3 : ¬ S 33 17 = 0) => ?_) (fun (w4 : S 33 17 = 0) => ?_)
  · skip
    refine g_iconst C d_M_heat_12 13 rfl ?_
    exact JG 0 (by first | exact (bi_pos (by omega)).symm | exact (bi_neg (by omega)).symm)
  · skip
    refine g_iconst C d_M_heat_8 9 rfl ?_
    refine g_goto C d_M_heat_9 13 rfl ?_
    exact JG 1 (by first | exact (bi_pos (by omega)).symm | exact (bi_neg (by omega)).symm)
abbrev rm_M_present : Room := { frames := 2, cells := 0, slots := 0, locals := 43 }
set_option maxHeartbeats 4000000 in
set_option maxRecDepth 100000 in
theorem t_M_present (G : LO ad L) (x y z : Int) (hx : r32 x) (hy : r32 y) (hz : r32 z) : FM l y_M_present c_M_present 4 none rm_M_present D cd L (wd cd ad S f0) [.ref (ad 33), iv (x), iv (y), iv (z)] none (wd cd ad (if gv (bi (0 ≤ x ∧ x ≤ 3)) (bi (0 ≤ y ∧ y ≤ z ∧ z ≤ 100000)) = 0 then (u2 (u2 (u2 (u2 S 33 0 (gv (bi (0 ≤ x ∧ x ≤ 3)) (bi (0 ≤ y ∧ y ≤ z ∧ z ≤ 100000)))) 34 x.toNat y) 35 x.toNat z) 33 14 0) else u2 S 33 0 (gv (bi (0 ≤ x ∧ x ≤ 3)) (bi (0 ≤ y ∧ y ≤ z ∧ z ≤ 100000)))) f0) := by
  refine g_of (by decide) (Nat.le_of_ble_eq_true rfl) ?_
  intro p e s m args below meth c A sz hA hsz C hr hl hnm
  have C : gC p s m args c D CL (TY cd) A c_M_present "AlloyPlansModel" 4 := C
  change gW _ _ _ _ _ _ _ _ _ _ _ _ _ _ _ _ _ _ _ 0 [(0, .ref (ad 33)), (1, iv (x)), (2, iv (y)), (3, iv (z))] []
  have hx1 : -2147483648 ≤ x := hx.1
  have hx2 : x ≤ 2147483647 := hx.2
  have hy1 : -2147483648 ≤ y := hy.1
  have hy2 : y ≤ 2147483647 := hy.2
  have hz1 : -2147483648 ≤ z := hz.1
  have hz2 : z ≤ 2147483647 := hz.2
  refine g_aload_n C d_M_present_0 1 rfl rfl 0 rfl ?_
  refine g_iload_n C d_M_present_1 2 rfl rfl 1 rfl ?_
  refine fcS1 C (rest := [.ref (ad 33)]) d_M_present_2 5 rfl (t_M_isElement x (show r32 x from ⟨by omega, by omega⟩)) ⟨ml_M_76, sm_M_isElement, ci_M⟩ w_M_isElement rfl 1 gy_M_isElement rfl 0 rfl 0 rfl rfl rfl (Nat.le_of_ble_eq_true rfl) ?_
  refine g_iload_n C d_M_present_5 6 rfl rfl 2 rfl ?_
  refine g_iload_n C d_M_present_6 7 rfl rfl 3 rfl ?_
  refine fcS1 C (rest := [iv (bi (0 ≤ x ∧ x ≤ 3)), .ref (ad 33)]) d_M_present_7 10 rfl (t_M_areShares y z (show r32 y from ⟨by omega, by omega⟩) (show r32 z from ⟨by omega, by omega⟩)) ⟨ml_M_80, sm_M_areShares, ci_M⟩ w_M_areShares rfl 2 gy_M_areShares rfl 0 rfl 0 rfl rfl rfl (Nat.le_of_ble_eq_true rfl) ?_
  refine fcV1 C (rest := []) d_M_present_10 13 rfl (t_M_goes G (S := S) (bi (0 ≤ x ∧ x ≤ 3)) (bi (0 ≤ y ∧ y ≤ z ∧ z ≤ 100000)) (bi_r _) (bi_r _)) rfl (G.1 33 (by decide)) (at_M G) ⟨ml_M_68, im_M_goes, se_M_goes, ci_M⟩ w_M_goes rfl 2 gy_M_goes rfl 0 rfl 0 rfl rfl rfl (Nat.le_of_ble_eq_true rfl) ?_
  refine g_if_ne C d_M_present_13 16 rfl (bi_r _) 17 rfl (fun (w1 : ¬ bi (gv (bi (0 ≤ x ∧ x ≤ 3)) (bi (0 ≤ y ∧ y ≤ z ∧ z ≤ 100000)) = 0) = 0) => ?_) (fun (w2 : bi (gv (bi (0 ≤ x ∧ x ≤ 3)) (bi (0 ≤ y ∧ y ≤ z ∧ z ≤ 100000)) = 0) = 0) => ?_)
  · skip
    have w1 : (gv (bi (0 ≤ x ∧ x ≤ 3)) (bi (0 ≤ y ∧ y ≤ z ∧ z ≤ 100000)) = 0) := bi_t w1
    have hgo : gv (bi (0 ≤ x ∧ x ≤ 3)) (bi (0 ≤ y ∧ y ≤ z ∧ z ≤ 100000)) = 0 := by assumption
    have hpq := gv_t hgo
    refine g_aload_n C d_M_present_17 18 rfl rfl 0 rfl ?_
    refine gt_M_presentLow C G d_M_present_18 21 rfl fl_M_13 ?_
    refine g_iload_n C d_M_present_21 22 rfl rfl 1 rfl ?_
    refine g_iload_n C d_M_present_22 23 rfl rfl 2 rfl ?_
    refine st_34 C G (x := y) d_M_present_23 24 rfl ((Int.toNat x)) (by omega) (show x = (((Int.toNat x) : Nat) : Int) by omega) ?_
    refine g_aload_n C d_M_present_24 25 rfl rfl 0 rfl ?_
    refine gt_M_presentHigh C G d_M_present_25 28 rfl fl_M_17 ?_
    refine g_iload_n C d_M_present_28 29 rfl rfl 1 rfl ?_
    refine g_iload_n C d_M_present_29 30 rfl rfl 3 rfl ?_
    refine st_35 C G (x := z) d_M_present_30 31 rfl ((Int.toNat x)) (by omega) (show x = (((Int.toNat x) : Nat) : Int) by omega) ?_
    refine g_aload_n C d_M_present_31 32 rfl rfl 0 rfl ?_
    refine g_iconst C d_M_present_32 33 rfl ?_
    refine pt_M_planned C G (z := 0) d_M_present_33 36 rfl fl_M_72 (Or.inl rfl) ?_
    exact g_vret C hA hsz hr hl d_M_present_36 (by decide) (by decide) ⟨rfl, rfl, by rw [if_pos hgo] <;> rfl⟩
  · skip
    have w2 : ¬ (gv (bi (0 ≤ x ∧ x ≤ 3)) (bi (0 ≤ y ∧ y ≤ z ∧ z ≤ 100000)) = 0) := bi_f w2
    exact g_vret C hA hsz hr hl d_M_present_16 (by decide) (by decide) ⟨rfl, rfl, by rw [if_neg (by assumption)]⟩
abbrev rm_M_aim : Room := { frames := 2, cells := 0, slots := 0, locals := 43 }
set_option maxHeartbeats 4000000 in
set_option maxRecDepth 100000 in
theorem t_M_aim (G : LO ad L) (x y z : Int) (hx : r32 x) (hy : r32 y) (hz : r32 z) : FM l y_M_aim c_M_aim 4 none rm_M_aim D cd L (wd cd ad S f0) [.ref (ad 33), iv (x), iv (y), iv (z)] none (wd cd ad (if gv (bi (0 ≤ x ∧ x ≤ 3)) (bi (0 ≤ y ∧ y ≤ z ∧ z ≤ 100000)) = 0 then (u2 (u2 (u2 (u2 S 33 0 (gv (bi (0 ≤ x ∧ x ≤ 3)) (bi (0 ≤ y ∧ y ≤ z ∧ z ≤ 100000)))) 36 x.toNat y) 37 x.toNat z) 33 14 0) else u2 S 33 0 (gv (bi (0 ≤ x ∧ x ≤ 3)) (bi (0 ≤ y ∧ y ≤ z ∧ z ≤ 100000)))) f0) := by
  refine g_of (by decide) (Nat.le_of_ble_eq_true rfl) ?_
  intro p e s m args below meth c A sz hA hsz C hr hl hnm
  have C : gC p s m args c D CL (TY cd) A c_M_aim "AlloyPlansModel" 4 := C
  change gW _ _ _ _ _ _ _ _ _ _ _ _ _ _ _ _ _ _ _ 0 [(0, .ref (ad 33)), (1, iv (x)), (2, iv (y)), (3, iv (z))] []
  have hx1 : -2147483648 ≤ x := hx.1
  have hx2 : x ≤ 2147483647 := hx.2
  have hy1 : -2147483648 ≤ y := hy.1
  have hy2 : y ≤ 2147483647 := hy.2
  have hz1 : -2147483648 ≤ z := hz.1
  have hz2 : z ≤ 2147483647 := hz.2
  refine g_aload_n C d_M_aim_0 1 rfl rfl 0 rfl ?_
  refine g_iload_n C d_M_aim_1 2 rfl rfl 1 rfl ?_
  refine fcS1 C (rest := [.ref (ad 33)]) d_M_aim_2 5 rfl (t_M_isElement x (show r32 x from ⟨by omega, by omega⟩)) ⟨ml_M_76, sm_M_isElement, ci_M⟩ w_M_isElement rfl 1 gy_M_isElement rfl 0 rfl 0 rfl rfl rfl (Nat.le_of_ble_eq_true rfl) ?_
  refine g_iload_n C d_M_aim_5 6 rfl rfl 2 rfl ?_
  refine g_iload_n C d_M_aim_6 7 rfl rfl 3 rfl ?_
  refine fcS1 C (rest := [iv (bi (0 ≤ x ∧ x ≤ 3)), .ref (ad 33)]) d_M_aim_7 10 rfl (t_M_areShares y z (show r32 y from ⟨by omega, by omega⟩) (show r32 z from ⟨by omega, by omega⟩)) ⟨ml_M_80, sm_M_areShares, ci_M⟩ w_M_areShares rfl 2 gy_M_areShares rfl 0 rfl 0 rfl rfl rfl (Nat.le_of_ble_eq_true rfl) ?_
  refine fcV1 C (rest := []) d_M_aim_10 13 rfl (t_M_goes G (S := S) (bi (0 ≤ x ∧ x ≤ 3)) (bi (0 ≤ y ∧ y ≤ z ∧ z ≤ 100000)) (bi_r _) (bi_r _)) rfl (G.1 33 (by decide)) (at_M G) ⟨ml_M_68, im_M_goes, se_M_goes, ci_M⟩ w_M_goes rfl 2 gy_M_goes rfl 0 rfl 0 rfl rfl rfl (Nat.le_of_ble_eq_true rfl) ?_
  refine g_if_ne C d_M_aim_13 16 rfl (bi_r _) 17 rfl (fun (w1 : ¬ bi (gv (bi (0 ≤ x ∧ x ≤ 3)) (bi (0 ≤ y ∧ y ≤ z ∧ z ≤ 100000)) = 0) = 0) => ?_) (fun (w2 : bi (gv (bi (0 ≤ x ∧ x ≤ 3)) (bi (0 ≤ y ∧ y ≤ z ∧ z ≤ 100000)) = 0) = 0) => ?_)
  · skip
    have w1 : (gv (bi (0 ≤ x ∧ x ≤ 3)) (bi (0 ≤ y ∧ y ≤ z ∧ z ≤ 100000)) = 0) := bi_t w1
    have hgo : gv (bi (0 ≤ x ∧ x ≤ 3)) (bi (0 ≤ y ∧ y ≤ z ∧ z ≤ 100000)) = 0 := by assumption
    have hpq := gv_t hgo
    refine g_aload_n C d_M_aim_17 18 rfl rfl 0 rfl ?_
    refine gt_M_aimLow C G d_M_aim_18 21 rfl fl_M_20 ?_
    refine g_iload_n C d_M_aim_21 22 rfl rfl 1 rfl ?_
    refine g_iload_n C d_M_aim_22 23 rfl rfl 2 rfl ?_
    refine st_36 C G (x := y) d_M_aim_23 24 rfl ((Int.toNat x)) (by omega) (show x = (((Int.toNat x) : Nat) : Int) by omega) ?_
    refine g_aload_n C d_M_aim_24 25 rfl rfl 0 rfl ?_
    refine gt_M_aimHigh C G d_M_aim_25 28 rfl fl_M_23 ?_
    refine g_iload_n C d_M_aim_28 29 rfl rfl 1 rfl ?_
    refine g_iload_n C d_M_aim_29 30 rfl rfl 3 rfl ?_
    refine st_37 C G (x := z) d_M_aim_30 31 rfl ((Int.toNat x)) (by omega) (show x = (((Int.toNat x) : Nat) : Int) by omega) ?_
    refine g_aload_n C d_M_aim_31 32 rfl rfl 0 rfl ?_
    refine g_iconst C d_M_aim_32 33 rfl ?_
    refine pt_M_planned C G (z := 0) d_M_aim_33 36 rfl fl_M_72 (Or.inl rfl) ?_
    exact g_vret C hA hsz hr hl d_M_aim_36 (by decide) (by decide) ⟨rfl, rfl, by rw [if_pos hgo] <;> rfl⟩
  · skip
    have w2 : ¬ (gv (bi (0 ≤ x ∧ x ≤ 3)) (bi (0 ≤ y ∧ y ≤ z ∧ z ≤ 100000)) = 0) := bi_f w2
    exact g_vret C hA hsz hr hl d_M_aim_16 (by decide) (by decide) ⟨rfl, rfl, by rw [if_neg (by assumption)]⟩
abbrev rm_M_kind : Room := { frames := 1, cells := 0, slots := 0, locals := 22 }
set_option maxHeartbeats 4000000 in
set_option maxRecDepth 100000 in
theorem t_M_kind (G : LO ad L) (x y z : Int) (hx : r32 x) (hy : r32 y) (hz : r32 z) (h0 : 0 ≤ S 33 6 ∧ S 33 6 ≤ 4) : FM l y_M_kind c_M_kind 4 (some .int) rm_M_kind D cd L (wd cd ad S f0) [.ref (ad 33), iv (x), iv (y), iv (z)] (some (iv (if gv (bi ((0 ≤ x ∧ x ≤ 100000) ∧ (1 ≤ y ∧ y ≤ 1000) ∧ (0 ≤ z ∧ z ≤ 12))) (bi (S 33 6 < 4)) = 0 then S 33 6 + 1 - 1 else 0))) (wd cd ad (if gv (bi ((0 ≤ x ∧ x ≤ 100000) ∧ (1 ≤ y ∧ y ≤ 1000) ∧ (0 ≤ z ∧ z ≤ 12))) (bi (S 33 6 < 4)) = 0 then (u2 (u2 (u2 (u2 (u2 (u2 (u2 S 33 0 (gv (bi ((0 ≤ x ∧ x ≤ 100000) ∧ (1 ≤ y ∧ y ≤ 1000) ∧ (0 ≤ z ∧ z ≤ 12))) (bi (S 33 6 < 4)))) 38 (S 33 6).toNat x) 39 (S 33 6).toNat y) 40 (S 33 6).toNat z) 43 (S 33 6).toNat 1000) 33 14 0) 33 6 (S 33 6 + 1)) else u2 S 33 0 (gv (bi ((0 ≤ x ∧ x ≤ 100000) ∧ (1 ≤ y ∧ y ≤ 1000) ∧ (0 ≤ z ∧ z ≤ 12))) (bi (S 33 6 < 4)))) f0) := by
  refine g_of (by decide) (Nat.le_of_ble_eq_true rfl) ?_
  intro p e s m args below meth c A sz hA hsz C hr hl hnm
  have C : gC p s m args c D CL (TY cd) A c_M_kind "AlloyPlansModel" 4 := C
  change gW _ _ _ _ _ _ _ _ _ _ _ _ _ _ _ _ _ _ _ 0 [(0, .ref (ad 33)), (1, iv (x)), (2, iv (y)), (3, iv (z))] []
  obtain ⟨u0, v0⟩ := h0
  have hx1 : -2147483648 ≤ x := hx.1
  have hx2 : x ≤ 2147483647 := hx.2
  have hy1 : -2147483648 ≤ y := hy.1
  have hy2 : y ≤ 2147483647 := hy.2
  have hz1 : -2147483648 ≤ z := hz.1
  have hz2 : z ≤ 2147483647 := hz.2
  refine g_aload_n C d_M_kind_0 1 rfl rfl 0 rfl ?_
  have JG : ∀ zj : Int, zj = (bi ((0 ≤ x ∧ x ≤ 100000) ∧ (1 ≤ y ∧ y ≤ 1000) ∧ (0 ≤ z ∧ z ≤ 12))) → gW p l e rm_M_kind s m args below meth c D CL A 4 (MQ below (gQ D CL L sz (fun r L' g => r = (some (iv (if gv (bi ((0 ≤ x ∧ x ≤ 100000) ∧ (1 ≤ y ∧ y ≤ 1000) ∧ (0 ≤ z ∧ z ≤ 12))) (bi (S 33 6 < 4)) = 0 then S 33 6 + 1 - 1 else 0))) ∧ L' = L ∧ g = (wd cd ad (if gv (bi ((0 ≤ x ∧ x ≤ 100000) ∧ (1 ≤ y ∧ y ≤ 1000) ∧ (0 ≤ z ∧ z ≤ 12))) (bi (S 33 6 < 4)) = 0 then (u2 (u2 (u2 (u2 (u2 (u2 (u2 S 33 0 (gv (bi ((0 ≤ x ∧ x ≤ 100000) ∧ (1 ≤ y ∧ y ≤ 1000) ∧ (0 ≤ z ∧ z ≤ 12))) (bi (S 33 6 < 4)))) 38 (S 33 6).toNat x) 39 (S 33 6).toNat y) 40 (S 33 6).toNat z) 43 (S 33 6).toNat 1000) 33 14 0) 33 6 (S 33 6 + 1)) else u2 S 33 0 (gv (bi ((0 ≤ x ∧ x ≤ 100000) ∧ (1 ≤ y ∧ y ≤ 1000) ∧ (0 ≤ z ∧ z ≤ 12))) (bi (S 33 6 < 4)))) f0))) args s rm_M_kind.cells rm_M_kind.slots (gA L sz)) 0 0 L (wd cd ad S f0) 37 [(0, .ref (ad 33)), (1, iv (x)), (2, iv (y)), (3, iv (z))] [iv zj, .ref (ad 33)] := by
    intro zj hzj
    subst hzj
    refine g_aload_n C d_M_kind_37 38 rfl rfl 0 rfl ?_
    have JH : ∀ zj : Int, zj = (bi (S 33 6 < 4)) → gW p l e rm_M_kind s m args below meth c D CL A 4 (MQ below (gQ D CL L sz (fun r L' g => r = (some (iv (if gv (bi ((0 ≤ x ∧ x ≤ 100000) ∧ (1 ≤ y ∧ y ≤ 1000) ∧ (0 ≤ z ∧ z ≤ 12))) (bi (S 33 6 < 4)) = 0 then S 33 6 + 1 - 1 else 0))) ∧ L' = L ∧ g = (wd cd ad (if gv (bi ((0 ≤ x ∧ x ≤ 100000) ∧ (1 ≤ y ∧ y ≤ 1000) ∧ (0 ≤ z ∧ z ≤ 12))) (bi (S 33 6 < 4)) = 0 then (u2 (u2 (u2 (u2 (u2 (u2 (u2 S 33 0 (gv (bi ((0 ≤ x ∧ x ≤ 100000) ∧ (1 ≤ y ∧ y ≤ 1000) ∧ (0 ≤ z ∧ z ≤ 12))) (bi (S 33 6 < 4)))) 38 (S 33 6).toNat x) 39 (S 33 6).toNat y) 40 (S 33 6).toNat z) 43 (S 33 6).toNat 1000) 33 14 0) 33 6 (S 33 6 + 1)) else u2 S 33 0 (gv (bi ((0 ≤ x ∧ x ≤ 100000) ∧ (1 ≤ y ∧ y ≤ 1000) ∧ (0 ≤ z ∧ z ≤ 12))) (bi (S 33 6 < 4)))) f0))) args s rm_M_kind.cells rm_M_kind.slots (gA L sz)) 0 0 L (wd cd ad S f0) 50 [(0, .ref (ad 33)), (1, iv (x)), (2, iv (y)), (3, iv (z))] [iv zj, iv (bi ((0 ≤ x ∧ x ≤ 100000) ∧ (1 ≤ y ∧ y ≤ 1000) ∧ (0 ≤ z ∧ z ≤ 12))), .ref (ad 33)] := by
      intro zj hzj
      subst hzj
      refine fcV1 C (rest := []) d_M_kind_50 53 rfl (t_M_goes G (S := S) (bi ((0 ≤ x ∧ x ≤ 100000) ∧ (1 ≤ y ∧ y ≤ 1000) ∧ (0 ≤ z ∧ z ≤ 12))) (bi (S 33 6 < 4)) (bi_r _) (bi_r _)) rfl (G.1 33 (by decide)) (at_M G) ⟨ml_M_68, im_M_goes, se_M_goes, ci_M⟩ w_M_goes rfl 2 gy_M_goes rfl 0 rfl 0 rfl rfl rfl (Nat.le_of_ble_eq_true rfl) ?_
      refine g_if_ne C d_M_kind_53 56 rfl (bi_r _) 58 rfl (fun (w1 : ¬ bi (gv (bi ((0 ≤ x ∧ x ≤ 100000) ∧ (1 ≤ y ∧ y ≤ 1000) ∧ (0 ≤ z ∧ z ≤ 12))) (bi (S 33 6 < 4)) = 0) = 0) => ?_) (fun (w2 : bi (gv (bi ((0 ≤ x ∧ x ≤ 100000) ∧ (1 ≤ y ∧ y ≤ 1000) ∧ (0 ≤ z ∧ z ≤ 12))) (bi (S 33 6 < 4)) = 0) = 0) => ?_)
      · skip
        have w1 : (gv (bi ((0 ≤ x ∧ x ≤ 100000) ∧ (1 ≤ y ∧ y ≤ 1000) ∧ (0 ≤ z ∧ z ≤ 12))) (bi (S 33 6 < 4)) = 0) := bi_t w1
        have hgo : gv (bi ((0 ≤ x ∧ x ≤ 100000) ∧ (1 ≤ y ∧ y ≤ 1000) ∧ (0 ≤ z ∧ z ≤ 12))) (bi (S 33 6 < 4)) = 0 := by assumption
        have hpq := gv_t hgo
        refine g_aload_n C d_M_kind_58 59 rfl rfl 0 rfl ?_
        refine gt_M_cents C G d_M_kind_59 62 rfl fl_M_26 ?_
        refine g_aload_n C d_M_kind_62 63 rfl rfl 0 rfl ?_
        refine gt_M_kinds C G d_M_kind_63 66 rfl fl_M_61 ?_
        refine g_iload_n C d_M_kind_66 67 rfl rfl 1 rfl ?_
        refine st_38 C G (x := x) d_M_kind_67 68 rfl ((Int.toNat (S 33 6))) (by omega) (show S 33 6 = (((Int.toNat (S 33 6)) : Nat) : Int) by omega) ?_
        refine g_aload_n C d_M_kind_68 69 rfl rfl 0 rfl ?_
        refine gt_M_each C G d_M_kind_69 72 rfl fl_M_29 ?_
        refine g_aload_n C d_M_kind_72 73 rfl rfl 0 rfl ?_
        refine gt_M_kinds C G d_M_kind_73 76 rfl fl_M_61 ?_
        refine g_iload_n C d_M_kind_76 77 rfl rfl 2 rfl ?_
        refine st_39 C G (x := y) d_M_kind_77 78 rfl ((Int.toNat (S 33 6))) (by omega) (show S 33 6 = (((Int.toNat (S 33 6)) : Nat) : Int) by omega) ?_
        refine g_aload_n C d_M_kind_78 79 rfl rfl 0 rfl ?_
        refine gt_M_most C G d_M_kind_79 82 rfl fl_M_32 ?_
        refine g_aload_n C d_M_kind_82 83 rfl rfl 0 rfl ?_
        refine gt_M_kinds C G d_M_kind_83 86 rfl fl_M_61 ?_
        refine g_iload_n C d_M_kind_86 87 rfl rfl 3 rfl ?_
        refine st_40 C G (x := z) d_M_kind_87 88 rfl ((Int.toNat (S 33 6))) (by omega) (show S 33 6 = (((Int.toNat (S 33 6)) : Nat) : Int) by omega) ?_
        refine g_aload_n C d_M_kind_88 89 rfl rfl 0 rfl ?_
        refine gt_M_stays C G d_M_kind_89 92 rfl fl_M_41 ?_
        refine g_aload_n C d_M_kind_92 93 rfl rfl 0 rfl ?_
        refine gt_M_kinds C G d_M_kind_93 96 rfl fl_M_61 ?_
        refine g_sipush C d_M_kind_96 99 rfl rfl ?_
        refine st_43 C G (x := 1000) d_M_kind_99 100 rfl ((Int.toNat (S 33 6))) (by omega) (show S 33 6 = (((Int.toNat (S 33 6)) : Nat) : Int) by omega) ?_
        refine g_aload_n C d_M_kind_100 101 rfl rfl 0 rfl ?_
        refine g_iconst C d_M_kind_101 102 rfl ?_
        refine pt_M_planned C G (z := 0) d_M_kind_102 105 rfl fl_M_72 (Or.inl rfl) ?_
        refine g_aload_n C d_M_kind_105 106 rfl rfl 0 rfl ?_
        refine g_dup C d_M_kind_106 107 rfl rfl ?_
        refine gt_M_kinds C G d_M_kind_107 110 rfl fl_M_61 ?_
        refine g_iconst C d_M_kind_110 111 rfl ?_
        refine g_iadd C d_M_kind_111 112 rfl ?_
        refine pt_M_kinds C G (z := (S 33 6) + 1) d_M_kind_112 115 rfl fl_M_61 ?_
        refine g_aload_n C d_M_kind_115 116 rfl rfl 0 rfl ?_
        refine gt_M_kinds C G d_M_kind_116 119 rfl fl_M_61 ?_
        refine g_iconst C d_M_kind_119 120 rfl ?_
        refine g_isub C d_M_kind_120 121 rfl ?_
        exact g_iret C hA hsz hr hl d_M_kind_121 (by decide) (by decide) ⟨vi_e (show ((S 33 6) + 1) - 1 = _ by rw [if_pos hgo]), rfl, by rw [if_pos hgo] <;> rfl⟩
      · skip
        have w2 : ¬ (gv (bi ((0 ≤ x ∧ x ≤ 100000) ∧ (1 ≤ y ∧ y ≤ 1000) ∧ (0 ≤ z ∧ z ≤ 12))) (bi (S 33 6 < 4)) = 0) := bi_f w2
        refine g_iconst C d_M_kind_56 57 rfl ?_
        exact g_iret C hA hsz hr hl d_M_kind_57 (by decide) (by decide) ⟨vi_e (by rw [if_neg (by assumption)]), rfl, by rw [if_neg (by assumption)]⟩
    refine gt_M_kinds C G d_M_kind_38 41 rfl fl_M_61 ?_
    refine g_iconst C d_M_kind_41 42 rfl ?_
    refine g_icmp_ge C d_M_kind_42 45 rfl (show r32 (S 33 6) from ⟨by omega, by omega⟩) (show r32 4 from ⟨by decide, by decide⟩) 49 rfl (fun (w3 : 4 ≤ S 33 6) => ?_) (fun (w4 : ¬ 4 ≤ S 33 6) => ?_)
    · skip
      refine g_iconst C d_M_kind_49 50 rfl ?_
      exact JH 0 (by first | exact (bi_pos (by omega)).symm | exact (bi_neg (by omega)).symm)
    · skip
      refine g_iconst C d_M_kind_45 46 rfl ?_
      refine g_goto C d_M_kind_46 50 rfl ?_
      exact JH 1 (by first | exact (bi_pos (by omega)).symm | exact (bi_neg (by omega)).symm)
  refine g_iload_n C d_M_kind_1 2 rfl rfl 1 rfl ?_
  refine g_iconst C d_M_kind_2 3 rfl ?_
  refine g_ldc C (z := 100000) d_M_kind_3 5 rfl rfl kc_M_53 ?_
  refine fcS1 C (rest := [.ref (ad 33)]) d_M_kind_5 8 rfl (t_M_in x 0 100000 (show r32 x from ⟨by omega, by omega⟩) (show r32 0 from ⟨by decide, by decide⟩) (show r32 100000 from ⟨by decide, by decide⟩)) ⟨ml_M_57, sm_M_in, ci_M⟩ w_M_in rfl 3 gy_M_in rfl 0 rfl 0 rfl rfl rfl (Nat.le_of_ble_eq_true rfl) ?_
  refine g_if_eq C d_M_kind_8 11 rfl (bi_r _) 36 rfl (fun (w5 : bi (0 ≤ x ∧ x ≤ 100000) = 0) => ?_) (fun (w6 : ¬ bi (0 ≤ x ∧ x ≤ 100000) = 0) => ?_)
  · skip
    have w5 : ¬ (0 ≤ x ∧ x ≤ 100000) := bi_f w5
    refine g_iconst C d_M_kind_36 37 rfl ?_
    exact JG 0 (by first | exact (bi_pos (by omega)).symm | exact (bi_neg (by omega)).symm)
  · skip
    have w6 : (0 ≤ x ∧ x ≤ 100000) := bi_t w6
    refine g_iload_n C d_M_kind_11 12 rfl rfl 2 rfl ?_
    refine g_iconst C d_M_kind_12 13 rfl ?_
    refine g_sipush C d_M_kind_13 16 rfl rfl ?_
    refine fcS1 C (rest := [.ref (ad 33)]) d_M_kind_16 19 rfl (t_M_in y 1 1000 (show r32 y from ⟨by omega, by omega⟩) (show r32 1 from ⟨by decide, by decide⟩) (show r32 1000 from ⟨by decide, by decide⟩)) ⟨ml_M_57, sm_M_in, ci_M⟩ w_M_in rfl 3 gy_M_in rfl 0 rfl 0 rfl rfl rfl (Nat.le_of_ble_eq_true rfl) ?_
    refine g_if_eq C d_M_kind_19 22 rfl (bi_r _) 36 rfl (fun (w7 : bi (1 ≤ y ∧ y ≤ 1000) = 0) => ?_) (fun (w8 : ¬ bi (1 ≤ y ∧ y ≤ 1000) = 0) => ?_)
    · skip
      have w7 : ¬ (1 ≤ y ∧ y ≤ 1000) := bi_f w7
      refine g_iconst C d_M_kind_36 37 rfl ?_
      exact JG 0 (by first | exact (bi_pos (by omega)).symm | exact (bi_neg (by omega)).symm)
    · skip
      have w8 : (1 ≤ y ∧ y ≤ 1000) := bi_t w8
      refine g_iload_n C d_M_kind_22 23 rfl rfl 3 rfl ?_
      refine g_iconst C d_M_kind_23 24 rfl ?_
      refine g_bipush C d_M_kind_24 26 rfl rfl ?_
      refine fcS1 C (rest := [.ref (ad 33)]) d_M_kind_26 29 rfl (t_M_in z 0 12 (show r32 z from ⟨by omega, by omega⟩) (show r32 0 from ⟨by decide, by decide⟩) (show r32 12 from ⟨by decide, by decide⟩)) ⟨ml_M_57, sm_M_in, ci_M⟩ w_M_in rfl 3 gy_M_in rfl 0 rfl 0 rfl rfl rfl (Nat.le_of_ble_eq_true rfl) ?_
      refine g_if_eq C d_M_kind_29 32 rfl (bi_r _) 36 rfl (fun (w9 : bi (0 ≤ z ∧ z ≤ 12) = 0) => ?_) (fun (w10 : ¬ bi (0 ≤ z ∧ z ≤ 12) = 0) => ?_)
      · skip
        have w9 : ¬ (0 ≤ z ∧ z ≤ 12) := bi_f w9
        refine g_iconst C d_M_kind_36 37 rfl ?_
        exact JG 0 (by first | exact (bi_pos (by omega)).symm | exact (bi_neg (by omega)).symm)
      · skip
        have w10 : (0 ≤ z ∧ z ≤ 12) := bi_t w10
        refine g_iconst C d_M_kind_32 33 rfl ?_
        refine g_goto C d_M_kind_33 37 rfl ?_
        exact JG 1 (by first | exact (bi_pos (by omega)).symm | exact (bi_neg (by omega)).symm)
abbrev rm_M_holds : Room := { frames := 2, cells := 0, slots := 0, locals := 43 }
set_option maxHeartbeats 4000000 in
set_option maxRecDepth 100000 in
theorem t_M_holds (G : LO ad L) (x y z u : Int) (hx : r32 x) (hy : r32 y) (hz : r32 z) (hu : r32 u) (h0 : 0 ≤ S 33 6 ∧ S 33 6 ≤ 4) : FM l y_M_holds c_M_holds 5 none rm_M_holds D cd L (wd cd ad S f0) [.ref (ad 33), iv (x), iv (y), iv (z), iv (u)] none (wd cd ad (if gv (bi ((0 ≤ x ∧ x ≤ S 33 6 - 1) ∧ (0 ≤ y ∧ y ≤ 3))) (bi (0 ≤ z ∧ z ≤ u ∧ u ≤ 100000)) = 0 then (u2 (u2 (u2 (u2 S 33 0 (gv (bi ((0 ≤ x ∧ x ≤ S 33 6 - 1) ∧ (0 ≤ y ∧ y ≤ 3))) (bi (0 ≤ z ∧ z ≤ u ∧ u ≤ 100000)))) 41 (4 * x + y).toNat z) 42 (4 * x + y).toNat u) 33 14 0) else u2 S 33 0 (gv (bi ((0 ≤ x ∧ x ≤ S 33 6 - 1) ∧ (0 ≤ y ∧ y ≤ 3))) (bi (0 ≤ z ∧ z ≤ u ∧ u ≤ 100000)))) f0) := by
  refine g_of (by decide) (Nat.le_of_ble_eq_true rfl) ?_
  intro p e s m args below meth c A sz hA hsz C hr hl hnm
  have C : gC p s m args c D CL (TY cd) A c_M_holds "AlloyPlansModel" 5 := C
  change gW _ _ _ _ _ _ _ _ _ _ _ _ _ _ _ _ _ _ _ 0 [(0, .ref (ad 33)), (1, iv (x)), (2, iv (y)), (3, iv (z)), (4, iv (u))] []
  obtain ⟨u0, v0⟩ := h0
  have hx1 : -2147483648 ≤ x := hx.1
  have hx2 : x ≤ 2147483647 := hx.2
  have hy1 : -2147483648 ≤ y := hy.1
  have hy2 : y ≤ 2147483647 := hy.2
  have hz1 : -2147483648 ≤ z := hz.1
  have hz2 : z ≤ 2147483647 := hz.2
  have hu1 : -2147483648 ≤ u := hu.1
  have hu2 : u ≤ 2147483647 := hu.2
  refine g_aload_n C d_M_holds_0 1 rfl rfl 0 rfl ?_
  have JG : ∀ zj : Int, zj = (bi ((0 ≤ x ∧ x ≤ S 33 6 - 1) ∧ (0 ≤ y ∧ y ≤ 3))) → gW p l e rm_M_holds s m args below meth c D CL A 5 (MQ below (gQ D CL L sz (fun r L' g => r = none ∧ L' = L ∧ g = (wd cd ad (if gv (bi ((0 ≤ x ∧ x ≤ S 33 6 - 1) ∧ (0 ≤ y ∧ y ≤ 3))) (bi (0 ≤ z ∧ z ≤ u ∧ u ≤ 100000)) = 0 then (u2 (u2 (u2 (u2 S 33 0 (gv (bi ((0 ≤ x ∧ x ≤ S 33 6 - 1) ∧ (0 ≤ y ∧ y ≤ 3))) (bi (0 ≤ z ∧ z ≤ u ∧ u ≤ 100000)))) 41 (4 * x + y).toNat z) 42 (4 * x + y).toNat u) 33 14 0) else u2 S 33 0 (gv (bi ((0 ≤ x ∧ x ≤ S 33 6 - 1) ∧ (0 ≤ y ∧ y ≤ 3))) (bi (0 ≤ z ∧ z ≤ u ∧ u ≤ 100000)))) f0))) args s rm_M_holds.cells rm_M_holds.slots (gA L sz)) 0 0 L (wd cd ad S f0) 21 [(0, .ref (ad 33)), (1, iv (x)), (2, iv (y)), (3, iv (z)), (4, iv (u))] [iv zj, .ref (ad 33)] := by
    intro zj hzj
    subst hzj
    refine g_iload_n C d_M_holds_21 22 rfl rfl 3 rfl ?_
    refine g_iload C d_M_holds_22 24 rfl 4 rfl ?_
    refine fcS1 C (rest := [iv (bi ((0 ≤ x ∧ x ≤ S 33 6 - 1) ∧ (0 ≤ y ∧ y ≤ 3))), .ref (ad 33)]) d_M_holds_24 27 rfl (t_M_areShares z u (show r32 z from ⟨by omega, by omega⟩) (show r32 u from ⟨by omega, by omega⟩)) ⟨ml_M_80, sm_M_areShares, ci_M⟩ w_M_areShares rfl 2 gy_M_areShares rfl 0 rfl 0 rfl rfl rfl (Nat.le_of_ble_eq_true rfl) ?_
    refine fcV1 C (rest := []) d_M_holds_27 30 rfl (t_M_goes G (S := S) (bi ((0 ≤ x ∧ x ≤ S 33 6 - 1) ∧ (0 ≤ y ∧ y ≤ 3))) (bi (0 ≤ z ∧ z ≤ u ∧ u ≤ 100000)) (bi_r _) (bi_r _)) rfl (G.1 33 (by decide)) (at_M G) ⟨ml_M_68, im_M_goes, se_M_goes, ci_M⟩ w_M_goes rfl 2 gy_M_goes rfl 0 rfl 0 rfl rfl rfl (Nat.le_of_ble_eq_true rfl) ?_
    refine g_if_ne C d_M_holds_30 33 rfl (bi_r _) 34 rfl (fun (w1 : ¬ bi (gv (bi ((0 ≤ x ∧ x ≤ S 33 6 - 1) ∧ (0 ≤ y ∧ y ≤ 3))) (bi (0 ≤ z ∧ z ≤ u ∧ u ≤ 100000)) = 0) = 0) => ?_) (fun (w2 : bi (gv (bi ((0 ≤ x ∧ x ≤ S 33 6 - 1) ∧ (0 ≤ y ∧ y ≤ 3))) (bi (0 ≤ z ∧ z ≤ u ∧ u ≤ 100000)) = 0) = 0) => ?_)
    · skip
      have w1 : (gv (bi ((0 ≤ x ∧ x ≤ S 33 6 - 1) ∧ (0 ≤ y ∧ y ≤ 3))) (bi (0 ≤ z ∧ z ≤ u ∧ u ≤ 100000)) = 0) := bi_t w1
      have hgo : gv (bi ((0 ≤ x ∧ x ≤ S 33 6 - 1) ∧ (0 ≤ y ∧ y ≤ 3))) (bi (0 ≤ z ∧ z ≤ u ∧ u ≤ 100000)) = 0 := by assumption
      have hpq := gv_t hgo
      refine g_aload_n C d_M_holds_34 35 rfl rfl 0 rfl ?_
      refine gt_M_low C G d_M_holds_35 38 rfl fl_M_35 ?_
      refine g_iconst C d_M_holds_38 39 rfl ?_
      refine g_iload_n C d_M_holds_39 40 rfl rfl 1 rfl ?_
      refine g_imul C d_M_holds_40 41 rfl ?_
      refine g_iload_n C d_M_holds_41 42 rfl rfl 2 rfl ?_
      refine g_iadd C d_M_holds_42 43 rfl ?_
      refine g_iload_n C d_M_holds_43 44 rfl rfl 3 rfl ?_
      refine st_41 C G (x := z) d_M_holds_44 45 rfl ((4 * x + y).toNat) (by omega) (show (4 * x) + y = (((4 * x + y).toNat : Nat) : Int) by omega) ?_
      refine g_aload_n C d_M_holds_45 46 rfl rfl 0 rfl ?_
      refine gt_M_high C G d_M_holds_46 49 rfl fl_M_38 ?_
      refine g_iconst C d_M_holds_49 50 rfl ?_
      refine g_iload_n C d_M_holds_50 51 rfl rfl 1 rfl ?_
      refine g_imul C d_M_holds_51 52 rfl ?_
      refine g_iload_n C d_M_holds_52 53 rfl rfl 2 rfl ?_
      refine g_iadd C d_M_holds_53 54 rfl ?_
      refine g_iload C d_M_holds_54 56 rfl 4 rfl ?_
      refine st_42 C G (x := u) d_M_holds_56 57 rfl ((4 * x + y).toNat) (by omega) (show (4 * x) + y = (((4 * x + y).toNat : Nat) : Int) by omega) ?_
      refine g_aload_n C d_M_holds_57 58 rfl rfl 0 rfl ?_
      refine g_iconst C d_M_holds_58 59 rfl ?_
      refine pt_M_planned C G (z := 0) d_M_holds_59 62 rfl fl_M_72 (Or.inl rfl) ?_
      exact g_vret C hA hsz hr hl d_M_holds_62 (by decide) (by decide) ⟨rfl, rfl, by rw [if_pos hgo] <;> rfl⟩
    · skip
      have w2 : ¬ (gv (bi ((0 ≤ x ∧ x ≤ S 33 6 - 1) ∧ (0 ≤ y ∧ y ≤ 3))) (bi (0 ≤ z ∧ z ≤ u ∧ u ≤ 100000)) = 0) := bi_f w2
      exact g_vret C hA hsz hr hl d_M_holds_33 (by decide) (by decide) ⟨rfl, rfl, by rw [if_neg (by assumption)]⟩
  refine g_aload_n C d_M_holds_1 2 rfl rfl 0 rfl ?_
  refine g_iload_n C d_M_holds_2 3 rfl rfl 1 rfl ?_
  refine fcV1 C (rest := [.ref (ad 33)]) d_M_holds_3 6 rfl (t_M_isKind G (S := S) x (show r32 x from ⟨by omega, by omega⟩) ⟨by omega, by omega⟩) rfl (G.1 33 (by decide)) (at_M G) ⟨ml_M_84, im_M_isKind, se_M_isKind, ci_M⟩ w_M_isKind rfl 1 gy_M_isKind rfl 0 rfl 0 rfl rfl rfl (Nat.le_of_ble_eq_true rfl) ?_
  refine g_if_eq C d_M_holds_6 9 rfl (bi_r _) 20 rfl (fun (w3 : bi (0 ≤ x ∧ x ≤ S 33 6 - 1) = 0) => ?_) (fun (w4 : ¬ bi (0 ≤ x ∧ x ≤ S 33 6 - 1) = 0) => ?_)
  · skip
    have w3 : ¬ (0 ≤ x ∧ x ≤ S 33 6 - 1) := bi_f w3
    refine g_iconst C d_M_holds_20 21 rfl ?_
    exact JG 0 (by first | exact (bi_pos (by omega)).symm | exact (bi_neg (by omega)).symm)
  · skip
    have w4 : (0 ≤ x ∧ x ≤ S 33 6 - 1) := bi_t w4
    refine g_iload_n C d_M_holds_9 10 rfl rfl 2 rfl ?_
    refine fcS1 C (rest := [.ref (ad 33)]) d_M_holds_10 13 rfl (t_M_isElement y (show r32 y from ⟨by omega, by omega⟩)) ⟨ml_M_76, sm_M_isElement, ci_M⟩ w_M_isElement rfl 1 gy_M_isElement rfl 0 rfl 0 rfl rfl rfl (Nat.le_of_ble_eq_true rfl) ?_
    refine g_if_eq C d_M_holds_13 16 rfl (bi_r _) 20 rfl (fun (w5 : bi (0 ≤ y ∧ y ≤ 3) = 0) => ?_) (fun (w6 : ¬ bi (0 ≤ y ∧ y ≤ 3) = 0) => ?_)
    · skip
      have w5 : ¬ (0 ≤ y ∧ y ≤ 3) := bi_f w5
      refine g_iconst C d_M_holds_20 21 rfl ?_
      exact JG 0 (by first | exact (bi_pos (by omega)).symm | exact (bi_neg (by omega)).symm)
    · skip
      have w6 : (0 ≤ y ∧ y ≤ 3) := bi_t w6
      refine g_iconst C d_M_holds_16 17 rfl ?_
      refine g_goto C d_M_holds_17 21 rfl ?_
      exact JG 1 (by first | exact (bi_pos (by omega)).symm | exact (bi_neg (by omega)).symm)
abbrev rm_M_yields : Room := { frames := 2, cells := 0, slots := 0, locals := 43 }
set_option maxHeartbeats 4000000 in
set_option maxRecDepth 100000 in
theorem t_M_yields (G : LO ad L) (x y z : Int) (hx : r32 x) (hy : r32 y) (hz : r32 z) (h0 : 0 ≤ S 33 6 ∧ S 33 6 ≤ 4) : FM l y_M_yields c_M_yields 4 none rm_M_yields D cd L (wd cd ad S f0) [.ref (ad 33), iv (x), iv (y), iv (z)] none (wd cd ad (if gv (bi (0 ≤ x ∧ x ≤ S 33 6 - 1)) (bi ((0 ≤ y ∧ y ≤ 1000) ∧ (0 ≤ z ∧ z ≤ 1000))) = 0 then (u2 (u2 (u2 (u2 S 33 0 (gv (bi (0 ≤ x ∧ x ≤ S 33 6 - 1)) (bi ((0 ≤ y ∧ y ≤ 1000) ∧ (0 ≤ z ∧ z ≤ 1000))))) 43 x.toNat y) 44 x.toNat z) 33 14 0) else u2 S 33 0 (gv (bi (0 ≤ x ∧ x ≤ S 33 6 - 1)) (bi ((0 ≤ y ∧ y ≤ 1000) ∧ (0 ≤ z ∧ z ≤ 1000))))) f0) := by
  refine g_of (by decide) (Nat.le_of_ble_eq_true rfl) ?_
  intro p e s m args below meth c A sz hA hsz C hr hl hnm
  have C : gC p s m args c D CL (TY cd) A c_M_yields "AlloyPlansModel" 4 := C
  change gW _ _ _ _ _ _ _ _ _ _ _ _ _ _ _ _ _ _ _ 0 [(0, .ref (ad 33)), (1, iv (x)), (2, iv (y)), (3, iv (z))] []
  obtain ⟨u0, v0⟩ := h0
  have hx1 : -2147483648 ≤ x := hx.1
  have hx2 : x ≤ 2147483647 := hx.2
  have hy1 : -2147483648 ≤ y := hy.1
  have hy2 : y ≤ 2147483647 := hy.2
  have hz1 : -2147483648 ≤ z := hz.1
  have hz2 : z ≤ 2147483647 := hz.2
  refine g_aload_n C d_M_yields_0 1 rfl rfl 0 rfl ?_
  refine g_aload_n C d_M_yields_1 2 rfl rfl 0 rfl ?_
  refine g_iload_n C d_M_yields_2 3 rfl rfl 1 rfl ?_
  refine fcV1 C (rest := [.ref (ad 33)]) d_M_yields_3 6 rfl (t_M_isKind G (S := S) x (show r32 x from ⟨by omega, by omega⟩) ⟨by omega, by omega⟩) rfl (G.1 33 (by decide)) (at_M G) ⟨ml_M_84, im_M_isKind, se_M_isKind, ci_M⟩ w_M_isKind rfl 1 gy_M_isKind rfl 0 rfl 0 rfl rfl rfl (Nat.le_of_ble_eq_true rfl) ?_
  have JG : ∀ zj : Int, zj = (bi ((0 ≤ y ∧ y ≤ 1000) ∧ (0 ≤ z ∧ z ≤ 1000))) → gW p l e rm_M_yields s m args below meth c D CL A 4 (MQ below (gQ D CL L sz (fun r L' g => r = none ∧ L' = L ∧ g = (wd cd ad (if gv (bi (0 ≤ x ∧ x ≤ S 33 6 - 1)) (bi ((0 ≤ y ∧ y ≤ 1000) ∧ (0 ≤ z ∧ z ≤ 1000))) = 0 then (u2 (u2 (u2 (u2 S 33 0 (gv (bi (0 ≤ x ∧ x ≤ S 33 6 - 1)) (bi ((0 ≤ y ∧ y ≤ 1000) ∧ (0 ≤ z ∧ z ≤ 1000))))) 43 x.toNat y) 44 x.toNat z) 33 14 0) else u2 S 33 0 (gv (bi (0 ≤ x ∧ x ≤ S 33 6 - 1)) (bi ((0 ≤ y ∧ y ≤ 1000) ∧ (0 ≤ z ∧ z ≤ 1000))))) f0))) args s rm_M_yields.cells rm_M_yields.slots (gA L sz)) 0 0 L (wd cd ad S f0) 33 [(0, .ref (ad 33)), (1, iv (x)), (2, iv (y)), (3, iv (z))] [iv zj, iv (bi (0 ≤ x ∧ x ≤ S 33 6 - 1)), .ref (ad 33)] := by
    intro zj hzj
    subst hzj
    refine fcV1 C (rest := []) d_M_yields_33 36 rfl (t_M_goes G (S := S) (bi (0 ≤ x ∧ x ≤ S 33 6 - 1)) (bi ((0 ≤ y ∧ y ≤ 1000) ∧ (0 ≤ z ∧ z ≤ 1000))) (bi_r _) (bi_r _)) rfl (G.1 33 (by decide)) (at_M G) ⟨ml_M_68, im_M_goes, se_M_goes, ci_M⟩ w_M_goes rfl 2 gy_M_goes rfl 0 rfl 0 rfl rfl rfl (Nat.le_of_ble_eq_true rfl) ?_
    refine g_if_ne C d_M_yields_36 39 rfl (bi_r _) 40 rfl (fun (w1 : ¬ bi (gv (bi (0 ≤ x ∧ x ≤ S 33 6 - 1)) (bi ((0 ≤ y ∧ y ≤ 1000) ∧ (0 ≤ z ∧ z ≤ 1000))) = 0) = 0) => ?_) (fun (w2 : bi (gv (bi (0 ≤ x ∧ x ≤ S 33 6 - 1)) (bi ((0 ≤ y ∧ y ≤ 1000) ∧ (0 ≤ z ∧ z ≤ 1000))) = 0) = 0) => ?_)
    · skip
      have w1 : (gv (bi (0 ≤ x ∧ x ≤ S 33 6 - 1)) (bi ((0 ≤ y ∧ y ≤ 1000) ∧ (0 ≤ z ∧ z ≤ 1000))) = 0) := bi_t w1
      have hgo : gv (bi (0 ≤ x ∧ x ≤ S 33 6 - 1)) (bi ((0 ≤ y ∧ y ≤ 1000) ∧ (0 ≤ z ∧ z ≤ 1000))) = 0 := by assumption
      have hpq := gv_t hgo
      refine g_aload_n C d_M_yields_40 41 rfl rfl 0 rfl ?_
      refine gt_M_stays C G d_M_yields_41 44 rfl fl_M_41 ?_
      refine g_iload_n C d_M_yields_44 45 rfl rfl 1 rfl ?_
      refine g_iload_n C d_M_yields_45 46 rfl rfl 2 rfl ?_
      refine st_43 C G (x := y) d_M_yields_46 47 rfl ((Int.toNat x)) (by omega) (show x = (((Int.toNat x) : Nat) : Int) by omega) ?_
      refine g_aload_n C d_M_yields_47 48 rfl rfl 0 rfl ?_
      refine gt_M_cools C G d_M_yields_48 51 rfl fl_M_44 ?_
      refine g_iload_n C d_M_yields_51 52 rfl rfl 1 rfl ?_
      refine g_iload_n C d_M_yields_52 53 rfl rfl 3 rfl ?_
      refine st_44 C G (x := z) d_M_yields_53 54 rfl ((Int.toNat x)) (by omega) (show x = (((Int.toNat x) : Nat) : Int) by omega) ?_
      refine g_aload_n C d_M_yields_54 55 rfl rfl 0 rfl ?_
      refine g_iconst C d_M_yields_55 56 rfl ?_
      refine pt_M_planned C G (z := 0) d_M_yields_56 59 rfl fl_M_72 (Or.inl rfl) ?_
      exact g_vret C hA hsz hr hl d_M_yields_59 (by decide) (by decide) ⟨rfl, rfl, by rw [if_pos hgo] <;> rfl⟩
    · skip
      have w2 : ¬ (gv (bi (0 ≤ x ∧ x ≤ S 33 6 - 1)) (bi ((0 ≤ y ∧ y ≤ 1000) ∧ (0 ≤ z ∧ z ≤ 1000))) = 0) := bi_f w2
      exact g_vret C hA hsz hr hl d_M_yields_39 (by decide) (by decide) ⟨rfl, rfl, by rw [if_neg (by assumption)]⟩
  refine g_iload_n C d_M_yields_6 7 rfl rfl 2 rfl ?_
  refine g_iconst C d_M_yields_7 8 rfl ?_
  refine g_sipush C d_M_yields_8 11 rfl rfl ?_
  refine fcS1 C (rest := [iv (bi (0 ≤ x ∧ x ≤ S 33 6 - 1)), .ref (ad 33)]) d_M_yields_11 14 rfl (t_M_in y 0 1000 (show r32 y from ⟨by omega, by omega⟩) (show r32 0 from ⟨by decide, by decide⟩) (show r32 1000 from ⟨by decide, by decide⟩)) ⟨ml_M_57, sm_M_in, ci_M⟩ w_M_in rfl 3 gy_M_in rfl 0 rfl 0 rfl rfl rfl (Nat.le_of_ble_eq_true rfl) ?_
  refine g_if_eq C d_M_yields_14 17 rfl (bi_r _) 32 rfl (fun (w3 : bi (0 ≤ y ∧ y ≤ 1000) = 0) => ?_) (fun (w4 : ¬ bi (0 ≤ y ∧ y ≤ 1000) = 0) => ?_)
  · skip
    have w3 : ¬ (0 ≤ y ∧ y ≤ 1000) := bi_f w3
    refine g_iconst C d_M_yields_32 33 rfl ?_
    exact JG 0 (by first | exact (bi_pos (by omega)).symm | exact (bi_neg (by omega)).symm)
  · skip
    have w4 : (0 ≤ y ∧ y ≤ 1000) := bi_t w4
    refine g_iload_n C d_M_yields_17 18 rfl rfl 3 rfl ?_
    refine g_iconst C d_M_yields_18 19 rfl ?_
    refine g_sipush C d_M_yields_19 22 rfl rfl ?_
    refine fcS1 C (rest := [iv (bi (0 ≤ x ∧ x ≤ S 33 6 - 1)), .ref (ad 33)]) d_M_yields_22 25 rfl (t_M_in z 0 1000 (show r32 z from ⟨by omega, by omega⟩) (show r32 0 from ⟨by decide, by decide⟩) (show r32 1000 from ⟨by decide, by decide⟩)) ⟨ml_M_57, sm_M_in, ci_M⟩ w_M_in rfl 3 gy_M_in rfl 0 rfl 0 rfl rfl rfl (Nat.le_of_ble_eq_true rfl) ?_
    refine g_if_eq C d_M_yields_25 28 rfl (bi_r _) 32 rfl (fun (w5 : bi (0 ≤ z ∧ z ≤ 1000) = 0) => ?_) (fun (w6 : ¬ bi (0 ≤ z ∧ z ≤ 1000) = 0) => ?_)
    · skip
      have w5 : ¬ (0 ≤ z ∧ z ≤ 1000) := bi_f w5
      refine g_iconst C d_M_yields_32 33 rfl ?_
      exact JG 0 (by first | exact (bi_pos (by omega)).symm | exact (bi_neg (by omega)).symm)
    · skip
      have w6 : (0 ≤ z ∧ z ≤ 1000) := bi_t w6
      refine g_iconst C d_M_yields_28 29 rfl ?_
      refine g_goto C d_M_yields_29 33 rfl ?_
      exact JG 1 (by first | exact (bi_pos (by omega)).symm | exact (bi_neg (by omega)).symm)
abbrev rm_M_steps : Room := { frames := 2, cells := 0, slots := 0, locals := 43 }
set_option maxHeartbeats 4000000 in
set_option maxRecDepth 100000 in
theorem t_M_steps (G : LO ad L) (x : Int) (hx : r32 x) (h0 : 0 ≤ S 33 6 ∧ S 33 6 ≤ 4) (h14 : 0 ≤ S 33 14 ∧ S 33 14 ≤ 1) : FM l y_M_steps c_M_steps 2 (some .int) rm_M_steps D cd L (wd cd ad S f0) [.ref (ad 33), iv (x)] (some (iv (if gv (bi (0 ≤ x ∧ x ≤ S 33 6 - 1)) (S 33 14) = 0 then S 45 x.toNat else 0))) (wd cd ad (if gv (bi (0 ≤ x ∧ x ≤ S 33 6 - 1)) (S 33 14) = 0 then (u2 S 33 0 (gv (bi (0 ≤ x ∧ x ≤ S 33 6 - 1)) (S 33 14))) else u2 S 33 0 (gv (bi (0 ≤ x ∧ x ≤ S 33 6 - 1)) (S 33 14))) f0) := by
  refine g_of (by decide) (Nat.le_of_ble_eq_true rfl) ?_
  intro p e s m args below meth c A sz hA hsz C hr hl hnm
  have C : gC p s m args c D CL (TY cd) A c_M_steps "AlloyPlansModel" 2 := C
  change gW _ _ _ _ _ _ _ _ _ _ _ _ _ _ _ _ _ _ _ 0 [(0, .ref (ad 33)), (1, iv (x))] []
  obtain ⟨u0, v0⟩ := h0
  obtain ⟨u1, v1⟩ := h14
  have hx1 : -2147483648 ≤ x := hx.1
  have hx2 : x ≤ 2147483647 := hx.2
  refine g_aload_n C d_M_steps_0 1 rfl rfl 0 rfl ?_
  refine g_aload_n C d_M_steps_1 2 rfl rfl 0 rfl ?_
  refine g_iload_n C d_M_steps_2 3 rfl rfl 1 rfl ?_
  refine fcV1 C (rest := [.ref (ad 33)]) d_M_steps_3 6 rfl (t_M_isKind G (S := S) x (show r32 x from ⟨by omega, by omega⟩) ⟨by omega, by omega⟩) rfl (G.1 33 (by decide)) (at_M G) ⟨ml_M_84, im_M_isKind, se_M_isKind, ci_M⟩ w_M_isKind rfl 1 gy_M_isKind rfl 0 rfl 0 rfl rfl rfl (Nat.le_of_ble_eq_true rfl) ?_
  refine g_aload_n C d_M_steps_6 7 rfl rfl 0 rfl ?_
  refine gt_M_planned C G d_M_steps_7 10 rfl fl_M_72 ?_
  refine fcV1 C (rest := []) d_M_steps_10 13 rfl (t_M_goes G (S := S) (bi (0 ≤ x ∧ x ≤ S 33 6 - 1)) (S 33 14) (bi_r _) (show r32 (S 33 14) from ⟨by omega, by omega⟩)) rfl (G.1 33 (by decide)) (at_M G) ⟨ml_M_68, im_M_goes, se_M_goes, ci_M⟩ w_M_goes rfl 2 gy_M_goes rfl 0 rfl 0 rfl rfl rfl (Nat.le_of_ble_eq_true rfl) ?_
  refine g_if_ne C d_M_steps_13 16 rfl (bi_r _) 18 rfl (fun (w1 : ¬ bi (gv (bi (0 ≤ x ∧ x ≤ S 33 6 - 1)) (S 33 14) = 0) = 0) => ?_) (fun (w2 : bi (gv (bi (0 ≤ x ∧ x ≤ S 33 6 - 1)) (S 33 14) = 0) = 0) => ?_)
  · skip
    have w1 : (gv (bi (0 ≤ x ∧ x ≤ S 33 6 - 1)) (S 33 14) = 0) := bi_t w1
    have hgo : gv (bi (0 ≤ x ∧ x ≤ S 33 6 - 1)) (S 33 14) = 0 := by assumption
    have hpq := gv_t1 hgo
    refine g_aload_n C d_M_steps_18 19 rfl rfl 0 rfl ?_
    refine gt_M_plan C G d_M_steps_19 22 rfl fl_M_47 ?_
    refine g_iload_n C d_M_steps_22 23 rfl rfl 1 rfl ?_
    refine ld_45 C G d_M_steps_23 24 rfl ((Int.toNat x)) (by omega) (show x = (((Int.toNat x) : Nat) : Int) by omega) ?_
    exact g_iret C hA hsz hr hl d_M_steps_24 (by decide) (by decide) ⟨vi_e (show S 45 ((Int.toNat x)) = _ by rw [if_pos hgo]), rfl, by rw [if_pos hgo] <;> rfl⟩
  · skip
    have w2 : ¬ (gv (bi (0 ≤ x ∧ x ≤ S 33 6 - 1)) (S 33 14) = 0) := bi_f w2
    refine g_iconst C d_M_steps_16 17 rfl ?_
    exact g_iret C hA hsz hr hl d_M_steps_17 (by decide) (by decide) ⟨vi_e (by rw [if_neg (by assumption)]), rfl, by rw [if_neg (by assumption)]⟩
end M8
