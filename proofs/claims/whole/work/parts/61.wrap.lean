section M13
variable {l : Launch} {D : va_G} {cd : Nat → ClassId} {ad : Nat → Nat} {L : List Nat} {f f0 : Nat → va_E} {S : Nat → Nat → Int}
theorem trS_ok {N : Nat} {x : Int} (hI : IC N S) (hx : 0 ≤ x ∧ x ≤ 100000000) : FR 0 (beginS (u2 S 5 0 0) x (S 0 4).toNat) (trS S x) ∧ RS (trS S x) := by
  have hb := begin_ok (n := (S 0 4).toNat) hI hx (by have := hI.1; omega)
  exact tryS_ok (S 0 4) 4 0 _ rfl hb.1 hb.2.1 hb.2.2
theorem run_r {N : Nat} {x : Int} (hI : IC N S) (hx : 0 ≤ x ∧ x ≤ 100000000) : r32 (if trS S x 7 0 = 0 then 1 + trS S x 7 1 else 0) := by
  have h := (trS_ok hI hx).2.2.1
  split
  · exact ⟨by omega, by omega⟩
  · exact ⟨by decide, by decide⟩
theorem steps_r {N : Nat} {x : Int} (hI : IC N S) (hx : 0 ≤ x ∧ x < S 0 4) : r32 (S 6 x.toNat) := by
  have h0 := hI.1
  have h := hI.2.2.2.2.2.2.2.2.2.2.2.1 x.toNat (by omega)
  exact ⟨by omega, by omega⟩
theorem planned_r {N : Nat} {x : Int} (hI : IC N S) : r32 (if x = 0 then S 5 1 else if x = 1 then S 5 2 else if x = 2 then S 5 3 else S 5 4) := by
  obtain ⟨h1, h2, h3, h4, -⟩ := hI.2.2.2.2.2.2.2
  repeat' split
  all_goals exact ⟨by omega, by omega⟩
theorem ordL_r' {x : Int} : ∀ d n, -1 ≤ ordL S x d n ∧ ordL S x d n ≤ (n + d : Nat) := by
  intro d
  induction d with
  | zero => intro n; show -1 ≤ (-1 : Int) ∧ (-1 : Int) ≤ _; omega
  | succ d ih =>
    intro n
    unfold ordL
    split
    · omega
    · have := ih (n + 1); omega
theorem ordL_r {N : Nat} {x : Int} (hI : IC N S) : r32 (ordL S x (S 0 4).toNat 0) := by
  have h0 := hI.1
  have h := ordL_r' (S := S) (x := x) (S 0 4).toNat 0
  exact ⟨by omega, by omega⟩
def k_heat (S : Nat → Nat → Int) (x : Int) : Int := if 0 < S 1 1 then 1 else if ¬ 0 < S 1 1 ∧ ¬ (1 ≤ x ∧ x ≤ 65536) then 2 else 0
def w_heat (S : Nat → Nat → Int) (x : Int) : Nat → Nat → Int := if 0 < S 1 1 then S else if ¬ 0 < S 1 1 ∧ ¬ (1 ≤ x ∧ x ≤ 65536) then S else u2 (u2 S 1 0 x) 5 0 0
abbrev rm_L_heat : Room := { frames := 8, cells := 1, slots := 6, locals := 123 }
set_option maxHeartbeats 4000000 in
set_option maxRecDepth 100000 in
theorem t_L_heat (hst9 : l.stackTraces = false) (G : LO ad L) (N : Nat) (x : Int) (hI : IC N S) (hN : N ≤ 1000) (hx : r32 x) : FW l y_L_heat c_L_heat 3 (some .int) [(0, 5, 8, 13), (0, 5, 11, 15)] rm_L_heat D cd L (wd cd ad S f0) [.ref (ad 0), iv (x)] (some (iv (k_heat S x))) (wd cd ad (w_heat S x) f0) := by
  refine fw_of (by decide) (Nat.le_of_ble_eq_true rfl) ?_
  intro p e s m args below meth c A sz hA hsz C hr hl htab
  have C : gC p s m args c D CL (TY cd) A c_L_heat "AlloyPlansLaw" 3 := C
  have htab : c.exceptionTable.toList = [⟨0, 5, 8, 13⟩, ⟨0, 5, 11, 15⟩] := htab
  change gW _ _ _ _ _ _ _ _ _ _ _ _ _ _ _ _ _ _ _ 0 [(0, .ref (ad 0)), (1, iv (x))] []
  refine g_aload_n C d_L_heat_0 1 rfl rfl 0 rfl ?_
  refine g_iload_n C d_L_heat_1 2 rfl rfl 1 rfl ?_
  refine gw_call2 C htab (rest := []) d_L_heat_2 5 rfl (t_P_heat hst9 G N x hI hN hx) rfl (G.1 0 (by decide)) (at_P G) ⟨ml_L_7, im_P_heat, se_P_heat, ci_P⟩ w_P_heat rfl 1 gy_P_heat rfl 1 rfl 6 rfl rfl rfl (Nat.le_of_ble_eq_true rfl) (by decide) (by decide) (by decide) (by decide) kl_L_13 kl_L_15 (gN_n_cISE C.2.1.2.1) (gN_n_cIAE C.2.1.2.1) (gN_n_xIAEISE C.2.1.2.1) (fun hok => ?_) (fun h z9 => ?_) (fun h z9 => ?_)
  · skip
    refine g_goto C d_L_heat_5 14 rfl ?_
    refine g_iconst C d_L_heat_14 15 rfl ?_
    have n0 : ¬ (0 < S 1 1) := by omega
    have n1 : ¬ (¬ 0 < S 1 1 ∧ ¬ (1 ≤ x ∧ x ≤ 65536)) := by omega
    exact g_iret C hA hsz hr hl d_L_heat_15 (by decide) (by decide) ⟨vi_e (by unfold k_heat; rw [if_neg n0, if_neg n1]), rfl, by unfold w_heat; rw [if_neg n0, if_neg n1]⟩
  · skip
    refine g_astore_n C d_L_heat_8 9 rfl [(2, .ref z9), (0, .ref (ad 0)), (1, iv (x))] rfl (by decide) rfl ?_
    refine g_iconst C d_L_heat_9 10 rfl ?_
    exact g_iret C hA hsz hr hl d_L_heat_10 (by decide) (by decide) ⟨vi_e (by unfold k_heat; rw [if_pos h]), rfl, by unfold w_heat; rw [if_pos h]⟩
  · skip
    refine g_astore_n C d_L_heat_11 12 rfl [(2, .ref z9), (0, .ref (ad 0)), (1, iv (x))] rfl (by decide) rfl ?_
    refine g_iconst C d_L_heat_12 13 rfl ?_
    have n0 : ¬ (0 < S 1 1) := by omega
    exact g_iret C hA hsz hr hl d_L_heat_13 (by decide) (by decide) ⟨vi_e (by unfold k_heat; rw [if_neg n0, if_pos h]), rfl, by unfold w_heat; rw [if_neg n0, if_pos h]⟩
def k_present (S : Nat → Nat → Int) (x y z : Int) : Int := if ¬ (0 ≤ x ∧ x ≤ 3) then 1 else if (0 ≤ x ∧ x ≤ 3) ∧ ¬ (0 ≤ y ∧ y ≤ z ∧ z ≤ 100000) then 2 else 0
def w_present (S : Nat → Nat → Int) (x y z : Int) : Nat → Nat → Int := if ¬ (0 ≤ x ∧ x ≤ 3) then S else if (0 ≤ x ∧ x ≤ 3) ∧ ¬ (0 ≤ y ∧ y ≤ z ∧ z ≤ 100000) then S else u2 (u2 (u2 S 2 (2 * x.toNat) y) 2 (2 * x.toNat + 1) z) 5 0 0
abbrev rm_L_present : Room := { frames := 8, cells := 2, slots := 12, locals := 125 }
set_option maxHeartbeats 4000000 in
set_option maxRecDepth 100000 in
theorem t_L_present (hst9 : l.stackTraces = false) (G : LO ad L) (N : Nat) (x y z : Int) (hI : IC N S) (hN : N ≤ 1000) (hx : r32 x) (hy : r32 y) (hz : r32 z) : FW l y_L_present c_L_present 5 (some .int) [(0, 7, 10, 21), (0, 7, 14, 15)] rm_L_present D cd L (wd cd ad S f0) [.ref (ad 0), iv (x), iv (y), iv (z)] (some (iv (k_present S x y z))) (wd cd ad (w_present S x y z) f0) := by
  refine fw_of (by decide) (Nat.le_of_ble_eq_true rfl) ?_
  intro p e s m args below meth c A sz hA hsz C hr hl htab
  have C : gC p s m args c D CL (TY cd) A c_L_present "AlloyPlansLaw" 5 := C
  have htab : c.exceptionTable.toList = [⟨0, 7, 10, 21⟩, ⟨0, 7, 14, 15⟩] := htab
  change gW _ _ _ _ _ _ _ _ _ _ _ _ _ _ _ _ _ _ _ 0 [(0, .ref (ad 0)), (1, iv (x)), (2, iv (y)), (3, iv (z))] []
  refine g_aload_n C d_L_present_0 1 rfl rfl 0 rfl ?_
  refine g_iload_n C d_L_present_1 2 rfl rfl 1 rfl ?_
  refine g_iload_n C d_L_present_2 3 rfl rfl 2 rfl ?_
  refine g_iload_n C d_L_present_3 4 rfl rfl 3 rfl ?_
  refine gw_call2 C htab (rest := []) d_L_present_4 7 rfl (t_P_present hst9 G N x y z hI hN hx hy hz) rfl (G.1 0 (by decide)) (at_P G) ⟨ml_L_17, im_P_present, se_P_present, ci_P⟩ w_P_present rfl 3 gy_P_present rfl 2 rfl 12 rfl rfl rfl (Nat.le_of_ble_eq_true rfl) (by decide) (by decide) (by decide) (by decide) kl_L_21 kl_L_15 (gN_n_cIOB C.2.1.2.1) (gN_n_cIAE C.2.1.2.1) (gN_n_xIAEIOB C.2.1.2.1) (fun hok => ?_) (fun h z9 => ?_) (fun h z9 => ?_)
  · skip
    refine g_goto C d_L_present_7 18 rfl ?_
    refine g_iconst C d_L_present_18 19 rfl ?_
    have n0 : ¬ (¬ (0 ≤ x ∧ x ≤ 3)) := by omega
    have n1 : ¬ ((0 ≤ x ∧ x ≤ 3) ∧ ¬ (0 ≤ y ∧ y ≤ z ∧ z ≤ 100000)) := by omega
    exact g_iret C hA hsz hr hl d_L_present_19 (by decide) (by decide) ⟨vi_e (by unfold k_present; rw [if_neg n0, if_neg n1]), rfl, by unfold w_present; rw [if_neg n0, if_neg n1]⟩
  · skip
    refine g_astore C d_L_present_10 12 rfl [(4, .ref z9), (0, .ref (ad 0)), (1, iv (x)), (2, iv (y)), (3, iv (z))] (by decide) rfl ?_
    refine g_iconst C d_L_present_12 13 rfl ?_
    exact g_iret C hA hsz hr hl d_L_present_13 (by decide) (by decide) ⟨vi_e (by unfold k_present; rw [if_pos h]), rfl, by unfold w_present; rw [if_pos h]⟩
  · skip
    refine g_astore C d_L_present_14 16 rfl [(4, .ref z9), (0, .ref (ad 0)), (1, iv (x)), (2, iv (y)), (3, iv (z))] (by decide) rfl ?_
    refine g_iconst C d_L_present_16 17 rfl ?_
    have n0 : ¬ (¬ (0 ≤ x ∧ x ≤ 3)) := by omega
    exact g_iret C hA hsz hr hl d_L_present_17 (by decide) (by decide) ⟨vi_e (by unfold k_present; rw [if_neg n0, if_pos h]), rfl, by unfold w_present; rw [if_neg n0, if_pos h]⟩
def k_aim (S : Nat → Nat → Int) (x y z : Int) : Int := if ¬ (0 ≤ x ∧ x ≤ 3) then 1 else if (0 ≤ x ∧ x ≤ 3) ∧ ¬ (0 ≤ y ∧ y ≤ z ∧ z ≤ 100000) then 2 else 0
def w_aim (S : Nat → Nat → Int) (x y z : Int) : Nat → Nat → Int := if ¬ (0 ≤ x ∧ x ≤ 3) then S else if (0 ≤ x ∧ x ≤ 3) ∧ ¬ (0 ≤ y ∧ y ≤ z ∧ z ≤ 100000) then S else u2 (u2 (u2 S 3 (2 * x.toNat) y) 3 (2 * x.toNat + 1) z) 5 0 0
abbrev rm_L_aim : Room := { frames := 8, cells := 2, slots := 12, locals := 125 }
set_option maxHeartbeats 4000000 in
set_option maxRecDepth 100000 in
theorem t_L_aim (hst9 : l.stackTraces = false) (G : LO ad L) (N : Nat) (x y z : Int) (hI : IC N S) (hN : N ≤ 1000) (hx : r32 x) (hy : r32 y) (hz : r32 z) : FW l y_L_aim c_L_aim 5 (some .int) [(0, 7, 10, 21), (0, 7, 14, 15)] rm_L_aim D cd L (wd cd ad S f0) [.ref (ad 0), iv (x), iv (y), iv (z)] (some (iv (k_aim S x y z))) (wd cd ad (w_aim S x y z) f0) := by
  refine fw_of (by decide) (Nat.le_of_ble_eq_true rfl) ?_
  intro p e s m args below meth c A sz hA hsz C hr hl htab
  have C : gC p s m args c D CL (TY cd) A c_L_aim "AlloyPlansLaw" 5 := C
  have htab : c.exceptionTable.toList = [⟨0, 7, 10, 21⟩, ⟨0, 7, 14, 15⟩] := htab
  change gW _ _ _ _ _ _ _ _ _ _ _ _ _ _ _ _ _ _ _ 0 [(0, .ref (ad 0)), (1, iv (x)), (2, iv (y)), (3, iv (z))] []
  refine g_aload_n C d_L_aim_0 1 rfl rfl 0 rfl ?_
  refine g_iload_n C d_L_aim_1 2 rfl rfl 1 rfl ?_
  refine g_iload_n C d_L_aim_2 3 rfl rfl 2 rfl ?_
  refine g_iload_n C d_L_aim_3 4 rfl rfl 3 rfl ?_
  refine gw_call2 C htab (rest := []) d_L_aim_4 7 rfl (t_P_aim hst9 G N x y z hI hN hx hy hz) rfl (G.1 0 (by decide)) (at_P G) ⟨ml_L_23, im_P_aim, se_P_aim, ci_P⟩ w_P_aim rfl 3 gy_P_aim rfl 2 rfl 12 rfl rfl rfl (Nat.le_of_ble_eq_true rfl) (by decide) (by decide) (by decide) (by decide) kl_L_21 kl_L_15 (gN_n_cIOB C.2.1.2.1) (gN_n_cIAE C.2.1.2.1) (gN_n_xIAEIOB C.2.1.2.1) (fun hok => ?_) (fun h z9 => ?_) (fun h z9 => ?_)
  · skip
    refine g_goto C d_L_aim_7 18 rfl ?_
    refine g_iconst C d_L_aim_18 19 rfl ?_
    have n0 : ¬ (¬ (0 ≤ x ∧ x ≤ 3)) := by omega
    have n1 : ¬ ((0 ≤ x ∧ x ≤ 3) ∧ ¬ (0 ≤ y ∧ y ≤ z ∧ z ≤ 100000)) := by omega
    exact g_iret C hA hsz hr hl d_L_aim_19 (by decide) (by decide) ⟨vi_e (by unfold k_aim; rw [if_neg n0, if_neg n1]), rfl, by unfold w_aim; rw [if_neg n0, if_neg n1]⟩
  · skip
    refine g_astore C d_L_aim_10 12 rfl [(4, .ref z9), (0, .ref (ad 0)), (1, iv (x)), (2, iv (y)), (3, iv (z))] (by decide) rfl ?_
    refine g_iconst C d_L_aim_12 13 rfl ?_
    exact g_iret C hA hsz hr hl d_L_aim_13 (by decide) (by decide) ⟨vi_e (by unfold k_aim; rw [if_pos h]), rfl, by unfold w_aim; rw [if_pos h]⟩
  · skip
    refine g_astore C d_L_aim_14 16 rfl [(4, .ref z9), (0, .ref (ad 0)), (1, iv (x)), (2, iv (y)), (3, iv (z))] (by decide) rfl ?_
    refine g_iconst C d_L_aim_16 17 rfl ?_
    have n0 : ¬ (¬ (0 ≤ x ∧ x ≤ 3)) := by omega
    exact g_iret C hA hsz hr hl d_L_aim_17 (by decide) (by decide) ⟨vi_e (by unfold k_aim; rw [if_neg n0, if_pos h]), rfl, by unfold w_aim; rw [if_neg n0, if_pos h]⟩
def k_kind (S : Nat → Nat → Int) (x y z : Int) : Int := if ¬ ((0 ≤ x ∧ x ≤ 100000) ∧ (1 ≤ y ∧ y ≤ 1000) ∧ (0 ≤ z ∧ z ≤ 12)) then 1 else if ((0 ≤ x ∧ x ≤ 100000) ∧ (1 ≤ y ∧ y ≤ 1000) ∧ (0 ≤ z ∧ z ≤ 12)) ∧ ¬ S 0 4 < 4 then 2 else 0
def w_kind (S : Nat → Nat → Int) (x y z : Int) : Nat → Nat → Int := if ¬ ((0 ≤ x ∧ x ≤ 100000) ∧ (1 ≤ y ∧ y ≤ 1000) ∧ (0 ≤ z ∧ z ≤ 12)) then S else if ((0 ≤ x ∧ x ≤ 100000) ∧ (1 ≤ y ∧ y ≤ 1000) ∧ (0 ≤ z ∧ z ≤ 12)) ∧ ¬ S 0 4 < 4 then S else u2 (u2 (u2 (u2 (u2 (u2 S (11 + (S 0 4).toNat) 0 x) (11 + (S 0 4).toNat) 1 y) (11 + (S 0 4).toNat) 2 z) 0 4 (S 0 4 + 1)) 5 0 0) 47 0 (S 0 4)
def v_kind (S : Nat → Nat → Int) (x y z : Int) : Int := S 0 4
abbrev rm_L_kind : Room := { frames := 8, cells := 2, slots := 12, locals := 126 }
set_option maxHeartbeats 4000000 in
set_option maxRecDepth 100000 in
theorem t_L_kind (hst9 : l.stackTraces = false) (G : LO ad L) (N : Nat) (x y z : Int) (hI : IC N S) (hN : N ≤ 1000) (hx : r32 x) (hy : r32 y) (hz : r32 z) : FW l y_L_kind c_L_kind 6 (some .int) [(0, 12, 15, 15), (0, 12, 19, 30)] rm_L_kind D cd L (wd cd ad S f0) [.ref (ad 0), iv (x), iv (y), iv (z), .ref (ad 47)] (some (iv (k_kind S x y z))) (wd cd ad (w_kind S x y z) f0) := by
  refine fw_of (by decide) (Nat.le_of_ble_eq_true rfl) ?_
  intro p e s m args below meth c A sz hA hsz C hr hl htab
  have C : gC p s m args c D CL (TY cd) A c_L_kind "AlloyPlansLaw" 6 := C
  have htab : c.exceptionTable.toList = [⟨0, 12, 15, 15⟩, ⟨0, 12, 19, 30⟩] := htab
  change gW _ _ _ _ _ _ _ _ _ _ _ _ _ _ _ _ _ _ _ 0 [(0, .ref (ad 0)), (1, iv (x)), (2, iv (y)), (3, iv (z)), (4, .ref (ad 47))] []
  obtain ⟨⟨i0, j0⟩, -, ⟨i2, j2⟩, -⟩ := id hI
  refine g_aload C d_L_kind_0 2 rfl 4 rfl ?_
  refine g_iconst C d_L_kind_2 3 rfl ?_
  refine g_aload_n C d_L_kind_3 4 rfl rfl 0 rfl ?_
  refine g_iload_n C d_L_kind_4 5 rfl rfl 1 rfl ?_
  refine g_iload_n C d_L_kind_5 6 rfl rfl 2 rfl ?_
  refine g_iload_n C d_L_kind_6 7 rfl rfl 3 rfl ?_
  refine gw_call2 C htab (rest := [iv (0), .ref (ad 47)]) d_L_kind_7 10 rfl (t_P_kind hst9 G N x y z hI hN hx hy hz) rfl (G.1 0 (by decide)) (at_P G) ⟨ml_L_26, im_P_kind, se_P_kind, ci_P⟩ w_P_kind rfl 3 gy_P_kind rfl 2 rfl 12 rfl rfl rfl (Nat.le_of_ble_eq_true rfl) (by decide) (by decide) (by decide) (by decide) kl_L_15 kl_L_30 (gN_n_cIAE C.2.1.2.1) (gN_n_cUOE C.2.1.2.1) (gN_n_xUOEIAE C.2.1.2.1) (fun hok => ?_) (fun h z9 => ?_) (fun h z9 => ?_)
  · skip
    refine g_i2l C d_L_kind_10 11 rfl ⟨by omega, by omega⟩ ?_
    refine st_47 C G (x := S 0 4) d_L_kind_11 12 rfl 0 (by decide) rfl ?_
    refine g_goto C d_L_kind_12 23 rfl ?_
    refine g_iconst C d_L_kind_23 24 rfl ?_
    have n0 : ¬ (¬ ((0 ≤ x ∧ x ≤ 100000) ∧ (1 ≤ y ∧ y ≤ 1000) ∧ (0 ≤ z ∧ z ≤ 12))) := by omega
    have n1 : ¬ (((0 ≤ x ∧ x ≤ 100000) ∧ (1 ≤ y ∧ y ≤ 1000) ∧ (0 ≤ z ∧ z ≤ 12)) ∧ ¬ S 0 4 < 4) := by omega
    exact g_iret C hA hsz hr hl d_L_kind_24 (by decide) (by decide) ⟨vi_e (by unfold k_kind; rw [if_neg n0, if_neg n1]), rfl, by unfold w_kind; rw [if_neg n0, if_neg n1]⟩
  · skip
    refine g_astore C d_L_kind_15 17 rfl [(5, .ref z9), (0, .ref (ad 0)), (1, iv (x)), (2, iv (y)), (3, iv (z)), (4, .ref (ad 47))] (by decide) rfl ?_
    refine g_iconst C d_L_kind_17 18 rfl ?_
    exact g_iret C hA hsz hr hl d_L_kind_18 (by decide) (by decide) ⟨vi_e (by unfold k_kind; rw [if_pos h]), rfl, by unfold w_kind; rw [if_pos h]⟩
  · skip
    refine g_astore C d_L_kind_19 21 rfl [(5, .ref z9), (0, .ref (ad 0)), (1, iv (x)), (2, iv (y)), (3, iv (z)), (4, .ref (ad 47))] (by decide) rfl ?_
    refine g_iconst C d_L_kind_21 22 rfl ?_
    have n0 : ¬ (¬ ((0 ≤ x ∧ x ≤ 100000) ∧ (1 ≤ y ∧ y ≤ 1000) ∧ (0 ≤ z ∧ z ≤ 12))) := by omega
    exact g_iret C hA hsz hr hl d_L_kind_22 (by decide) (by decide) ⟨vi_e (by unfold k_kind; rw [if_neg n0, if_pos h]), rfl, by unfold w_kind; rw [if_neg n0, if_pos h]⟩
def k_holds (S : Nat → Nat → Int) (x y z u : Int) : Int := if ¬ ((0 ≤ x ∧ x < S 0 4) ∧ (0 ≤ y ∧ y ≤ 3)) then 1 else if ((0 ≤ x ∧ x < S 0 4) ∧ (0 ≤ y ∧ y ≤ 3)) ∧ ¬ (0 ≤ z ∧ z ≤ u ∧ u ≤ 100000) then 2 else 0
def w_holds (S : Nat → Nat → Int) (x y z u : Int) : Nat → Nat → Int := if ¬ ((0 ≤ x ∧ x < S 0 4) ∧ (0 ≤ y ∧ y ≤ 3)) then S else if ((0 ≤ x ∧ x < S 0 4) ∧ (0 ≤ y ∧ y ≤ 3)) ∧ ¬ (0 ≤ z ∧ z ≤ u ∧ u ≤ 100000) then S else u2 (u2 (u2 S (15 + x.toNat) (2 * y.toNat) z) (15 + x.toNat) (2 * y.toNat + 1) u) 5 0 0
abbrev rm_L_holds : Room := { frames := 8, cells := 2, slots := 12, locals := 126 }
set_option maxHeartbeats 4000000 in
set_option maxRecDepth 100000 in
theorem t_L_holds (hst9 : l.stackTraces = false) (G : LO ad L) (N : Nat) (x y z u : Int) (hI : IC N S) (hN : N ≤ 1000) (hx : r32 x) (hy : r32 y) (hz : r32 z) (hu : r32 u) : FW l y_L_holds c_L_holds 6 (some .int) [(0, 9, 12, 21), (0, 9, 16, 15)] rm_L_holds D cd L (wd cd ad S f0) [.ref (ad 0), iv (x), iv (y), iv (z), iv (u)] (some (iv (k_holds S x y z u))) (wd cd ad (w_holds S x y z u) f0) := by
  refine fw_of (by decide) (Nat.le_of_ble_eq_true rfl) ?_
  intro p e s m args below meth c A sz hA hsz C hr hl htab
  have C : gC p s m args c D CL (TY cd) A c_L_holds "AlloyPlansLaw" 6 := C
  have htab : c.exceptionTable.toList = [⟨0, 9, 12, 21⟩, ⟨0, 9, 16, 15⟩] := htab
  change gW _ _ _ _ _ _ _ _ _ _ _ _ _ _ _ _ _ _ _ 0 [(0, .ref (ad 0)), (1, iv (x)), (2, iv (y)), (3, iv (z)), (4, iv (u))] []
  refine g_aload_n C d_L_holds_0 1 rfl rfl 0 rfl ?_
  refine g_iload_n C d_L_holds_1 2 rfl rfl 1 rfl ?_
  refine g_iload_n C d_L_holds_2 3 rfl rfl 2 rfl ?_
  refine g_iload_n C d_L_holds_3 4 rfl rfl 3 rfl ?_
  refine g_iload C d_L_holds_4 6 rfl 4 rfl ?_
  refine gw_call2 C htab (rest := []) d_L_holds_6 9 rfl (t_P_holds hst9 G N x y z u hI hN hx hy hz hu) rfl (G.1 0 (by decide)) (at_P G) ⟨ml_L_32, im_P_holds, se_P_holds, ci_P⟩ w_P_holds rfl 4 gy_P_holds rfl 2 rfl 12 rfl rfl rfl (Nat.le_of_ble_eq_true rfl) (by decide) (by decide) (by decide) (by decide) kl_L_21 kl_L_15 (gN_n_cIOB C.2.1.2.1) (gN_n_cIAE C.2.1.2.1) (gN_n_xIAEIOB C.2.1.2.1) (fun hok => ?_) (fun h z9 => ?_) (fun h z9 => ?_)
  · skip
    refine g_goto C d_L_holds_9 20 rfl ?_
    refine g_iconst C d_L_holds_20 21 rfl ?_
    have n0 : ¬ (¬ ((0 ≤ x ∧ x < S 0 4) ∧ (0 ≤ y ∧ y ≤ 3))) := by omega
    have n1 : ¬ (((0 ≤ x ∧ x < S 0 4) ∧ (0 ≤ y ∧ y ≤ 3)) ∧ ¬ (0 ≤ z ∧ z ≤ u ∧ u ≤ 100000)) := by omega
    exact g_iret C hA hsz hr hl d_L_holds_21 (by decide) (by decide) ⟨vi_e (by unfold k_holds; rw [if_neg n0, if_neg n1]), rfl, by unfold w_holds; rw [if_neg n0, if_neg n1]⟩
  · skip
    refine g_astore C d_L_holds_12 14 rfl [(5, .ref z9), (0, .ref (ad 0)), (1, iv (x)), (2, iv (y)), (3, iv (z)), (4, iv (u))] (by decide) rfl ?_
    refine g_iconst C d_L_holds_14 15 rfl ?_
    exact g_iret C hA hsz hr hl d_L_holds_15 (by decide) (by decide) ⟨vi_e (by unfold k_holds; rw [if_pos h]), rfl, by unfold w_holds; rw [if_pos h]⟩
  · skip
    refine g_astore C d_L_holds_16 18 rfl [(5, .ref z9), (0, .ref (ad 0)), (1, iv (x)), (2, iv (y)), (3, iv (z)), (4, iv (u))] (by decide) rfl ?_
    refine g_iconst C d_L_holds_18 19 rfl ?_
    have n0 : ¬ (¬ ((0 ≤ x ∧ x < S 0 4) ∧ (0 ≤ y ∧ y ≤ 3))) := by omega
    exact g_iret C hA hsz hr hl d_L_holds_19 (by decide) (by decide) ⟨vi_e (by unfold k_holds; rw [if_neg n0, if_pos h]), rfl, by unfold w_holds; rw [if_neg n0, if_pos h]⟩
def k_yields (S : Nat → Nat → Int) (x y z : Int) : Int := if ¬ (0 ≤ x ∧ x < S 0 4) then 1 else if (0 ≤ x ∧ x < S 0 4) ∧ ¬ ((0 ≤ y ∧ y ≤ 1000) ∧ (0 ≤ z ∧ z ≤ 1000)) then 2 else 0
def w_yields (S : Nat → Nat → Int) (x y z : Int) : Nat → Nat → Int := if ¬ (0 ≤ x ∧ x < S 0 4) then S else if (0 ≤ x ∧ x < S 0 4) ∧ ¬ ((0 ≤ y ∧ y ≤ 1000) ∧ (0 ≤ z ∧ z ≤ 1000)) then S else u2 (u2 (u2 S (11 + x.toNat) 3 y) (11 + x.toNat) 4 z) 5 0 0
abbrev rm_L_yields : Room := { frames := 8, cells := 2, slots := 12, locals := 125 }
set_option maxHeartbeats 4000000 in
set_option maxRecDepth 100000 in
theorem t_L_yields (hst9 : l.stackTraces = false) (G : LO ad L) (N : Nat) (x y z : Int) (hI : IC N S) (hN : N ≤ 1000) (hx : r32 x) (hy : r32 y) (hz : r32 z) : FW l y_L_yields c_L_yields 5 (some .int) [(0, 7, 10, 21), (0, 7, 14, 15)] rm_L_yields D cd L (wd cd ad S f0) [.ref (ad 0), iv (x), iv (y), iv (z)] (some (iv (k_yields S x y z))) (wd cd ad (w_yields S x y z) f0) := by
  refine fw_of (by decide) (Nat.le_of_ble_eq_true rfl) ?_
  intro p e s m args below meth c A sz hA hsz C hr hl htab
  have C : gC p s m args c D CL (TY cd) A c_L_yields "AlloyPlansLaw" 5 := C
  have htab : c.exceptionTable.toList = [⟨0, 7, 10, 21⟩, ⟨0, 7, 14, 15⟩] := htab
  change gW _ _ _ _ _ _ _ _ _ _ _ _ _ _ _ _ _ _ _ 0 [(0, .ref (ad 0)), (1, iv (x)), (2, iv (y)), (3, iv (z))] []
  refine g_aload_n C d_L_yields_0 1 rfl rfl 0 rfl ?_
  refine g_iload_n C d_L_yields_1 2 rfl rfl 1 rfl ?_
  refine g_iload_n C d_L_yields_2 3 rfl rfl 2 rfl ?_
  refine g_iload_n C d_L_yields_3 4 rfl rfl 3 rfl ?_
  refine gw_call2 C htab (rest := []) d_L_yields_4 7 rfl (t_P_yields hst9 G N x y z hI hN hx hy hz) rfl (G.1 0 (by decide)) (at_P G) ⟨ml_L_36, im_P_yields, se_P_yields, ci_P⟩ w_P_yields rfl 3 gy_P_yields rfl 2 rfl 12 rfl rfl rfl (Nat.le_of_ble_eq_true rfl) (by decide) (by decide) (by decide) (by decide) kl_L_21 kl_L_15 (gN_n_cIOB C.2.1.2.1) (gN_n_cIAE C.2.1.2.1) (gN_n_xIAEIOB C.2.1.2.1) (fun hok => ?_) (fun h z9 => ?_) (fun h z9 => ?_)
  · skip
    refine g_goto C d_L_yields_7 18 rfl ?_
    refine g_iconst C d_L_yields_18 19 rfl ?_
    have n0 : ¬ (¬ (0 ≤ x ∧ x < S 0 4)) := by omega
    have n1 : ¬ ((0 ≤ x ∧ x < S 0 4) ∧ ¬ ((0 ≤ y ∧ y ≤ 1000) ∧ (0 ≤ z ∧ z ≤ 1000))) := by omega
    exact g_iret C hA hsz hr hl d_L_yields_19 (by decide) (by decide) ⟨vi_e (by unfold k_yields; rw [if_neg n0, if_neg n1]), rfl, by unfold w_yields; rw [if_neg n0, if_neg n1]⟩
  · skip
    refine g_astore C d_L_yields_10 12 rfl [(4, .ref z9), (0, .ref (ad 0)), (1, iv (x)), (2, iv (y)), (3, iv (z))] (by decide) rfl ?_
    refine g_iconst C d_L_yields_12 13 rfl ?_
    exact g_iret C hA hsz hr hl d_L_yields_13 (by decide) (by decide) ⟨vi_e (by unfold k_yields; rw [if_pos h]), rfl, by unfold w_yields; rw [if_pos h]⟩
  · skip
    refine g_astore C d_L_yields_14 16 rfl [(4, .ref z9), (0, .ref (ad 0)), (1, iv (x)), (2, iv (y)), (3, iv (z))] (by decide) rfl ?_
    refine g_iconst C d_L_yields_16 17 rfl ?_
    have n0 : ¬ (¬ (0 ≤ x ∧ x < S 0 4)) := by omega
    exact g_iret C hA hsz hr hl d_L_yields_17 (by decide) (by decide) ⟨vi_e (by unfold k_yields; rw [if_neg n0, if_pos h]), rfl, by unfold w_yields; rw [if_neg n0, if_pos h]⟩
def k_run (S : Nat → Nat → Int) (x : Int) : Int := if ¬ (0 ≤ x ∧ x ≤ 100000000) then 1 else 0
def w_run (S : Nat → Nat → Int) (x : Int) : Nat → Nat → Int := if ¬ (0 ≤ x ∧ x ≤ 100000000) then S else u2 (runS S x) 47 0 (if trS S x 7 0 = 0 then 1 + trS S x 7 1 else 0)
def v_run (S : Nat → Nat → Int) (x : Int) : Int := if trS S x 7 0 = 0 then 1 + trS S x 7 1 else 0
abbrev rm_L_run : Room := { frames := 19, cells := 1, slots := 6, locals := 532 }
set_option maxHeartbeats 4000000 in
set_option maxRecDepth 100000 in
theorem t_L_run (hst9 : l.stackTraces = false) (G : LO ad L) (N : Nat) (x : Int) (hI : IC N S) (hN : N ≤ 1000) (hx : r32 x) : FW l y_L_run c_L_run 4 (some .int) [(0, 9, 12, 15)] rm_L_run D cd L (wd cd ad S f0) [.ref (ad 0), iv (x), .ref (ad 47)] (some (iv (k_run S x))) (wd cd ad (w_run S x) f0) := by
  refine fw_of (by decide) (Nat.le_of_ble_eq_true rfl) ?_
  intro p e s m args below meth c A sz hA hsz C hr hl htab
  have C : gC p s m args c D CL (TY cd) A c_L_run "AlloyPlansLaw" 4 := C
  have htab : c.exceptionTable.toList = [⟨0, 9, 12, 15⟩] := htab
  change gW _ _ _ _ _ _ _ _ _ _ _ _ _ _ _ _ _ _ _ 0 [(0, .ref (ad 0)), (1, iv (x)), (2, .ref (ad 47))] []
  refine g_aload_n C d_L_run_0 1 rfl rfl 2 rfl ?_
  refine g_iconst C d_L_run_1 2 rfl ?_
  refine g_aload_n C d_L_run_2 3 rfl rfl 0 rfl ?_
  refine g_iload_n C d_L_run_3 4 rfl rfl 1 rfl ?_
  refine gw_call1 C htab (rest := [iv (0), .ref (ad 47)]) d_L_run_4 7 rfl (t_P_run hst9 G N x hI hN hx) rfl (G.1 0 (by decide)) (at_P G) ⟨ml_L_39, im_P_run, se_P_run, ci_P⟩ w_P_run rfl 1 gy_P_run rfl 1 rfl 6 rfl rfl rfl (Nat.le_of_ble_eq_true rfl) (by decide) (by decide) kl_L_15 (gN_n_cIAE C.2.1.2.1) (fun hok => ?_) (fun h z9 => ?_)
  · skip
    refine g_i2l C d_L_run_7 8 rfl (run_r hI (by omega)) ?_
    refine st_47 C G (x := if trS S x 7 0 = 0 then 1 + trS S x 7 1 else 0) d_L_run_8 9 rfl 0 (by decide) rfl ?_
    refine g_goto C d_L_run_9 15 rfl ?_
    refine g_iconst C d_L_run_15 16 rfl ?_
    have n0 : ¬ (¬ (0 ≤ x ∧ x ≤ 100000000)) := by omega
    exact g_iret C hA hsz hr hl d_L_run_16 (by decide) (by decide) ⟨vi_e (by unfold k_run; rw [if_neg n0]), rfl, by unfold w_run; rw [if_neg n0]⟩
  · skip
    refine g_astore_n C d_L_run_12 13 rfl [(3, .ref z9), (0, .ref (ad 0)), (1, iv (x)), (2, .ref (ad 47))] rfl (by decide) rfl ?_
    refine g_iconst C d_L_run_13 14 rfl ?_
    exact g_iret C hA hsz hr hl d_L_run_14 (by decide) (by decide) ⟨vi_e (by unfold k_run; rw [if_pos h]), rfl, by unfold w_run; rw [if_pos h]⟩
def k_steps (S : Nat → Nat → Int) (x : Int) : Int := if ¬ (0 ≤ x ∧ x < S 0 4) then 1 else if (0 ≤ x ∧ x < S 0 4) ∧ S 5 0 = 0 then 2 else 0
def w_steps (S : Nat → Nat → Int) (x : Int) : Nat → Nat → Int := if ¬ (0 ≤ x ∧ x < S 0 4) then S else if (0 ≤ x ∧ x < S 0 4) ∧ S 5 0 = 0 then S else u2 S 47 0 (S 6 x.toNat)
def v_steps (S : Nat → Nat → Int) (x : Int) : Int := S 6 x.toNat
abbrev rm_L_steps : Room := { frames := 8, cells := 2, slots := 12, locals := 123 }
set_option maxHeartbeats 4000000 in
set_option maxRecDepth 100000 in
theorem t_L_steps (hst9 : l.stackTraces = false) (G : LO ad L) (N : Nat) (x : Int) (hI : IC N S) (hN : N ≤ 1000) (hx : r32 x) : FW l y_L_steps c_L_steps 4 (some .int) [(0, 9, 12, 21), (0, 9, 15, 13)] rm_L_steps D cd L (wd cd ad S f0) [.ref (ad 0), iv (x), .ref (ad 47)] (some (iv (k_steps S x))) (wd cd ad (w_steps S x) f0) := by
  refine fw_of (by decide) (Nat.le_of_ble_eq_true rfl) ?_
  intro p e s m args below meth c A sz hA hsz C hr hl htab
  have C : gC p s m args c D CL (TY cd) A c_L_steps "AlloyPlansLaw" 4 := C
  have htab : c.exceptionTable.toList = [⟨0, 9, 12, 21⟩, ⟨0, 9, 15, 13⟩] := htab
  change gW _ _ _ _ _ _ _ _ _ _ _ _ _ _ _ _ _ _ _ 0 [(0, .ref (ad 0)), (1, iv (x)), (2, .ref (ad 47))] []
  refine g_aload_n C d_L_steps_0 1 rfl rfl 2 rfl ?_
  refine g_iconst C d_L_steps_1 2 rfl ?_
  refine g_aload_n C d_L_steps_2 3 rfl rfl 0 rfl ?_
  refine g_iload_n C d_L_steps_3 4 rfl rfl 1 rfl ?_
  refine gw_call2 C htab (rest := [iv (0), .ref (ad 47)]) d_L_steps_4 7 rfl (t_P_steps hst9 G N x hI hN hx) rfl (G.1 0 (by decide)) (at_P G) ⟨ml_L_43, im_P_steps, se_P_steps, ci_P⟩ w_P_steps rfl 1 gy_P_steps rfl 2 rfl 12 rfl rfl rfl (Nat.le_of_ble_eq_true rfl) (by decide) (by decide) (by decide) (by decide) kl_L_21 kl_L_13 (gN_n_cIOB C.2.1.2.1) (gN_n_cISE C.2.1.2.1) (gN_n_xISEIOB C.2.1.2.1) (fun hok => ?_) (fun h z9 => ?_) (fun h z9 => ?_)
  · skip
    refine g_i2l C d_L_steps_7 8 rfl (steps_r hI (by omega)) ?_
    refine st_47 C G (x := S 6 x.toNat) d_L_steps_8 9 rfl 0 (by decide) rfl ?_
    refine g_goto C d_L_steps_9 18 rfl ?_
    refine g_iconst C d_L_steps_18 19 rfl ?_
    have n0 : ¬ (¬ (0 ≤ x ∧ x < S 0 4)) := by omega
    have n1 : ¬ ((0 ≤ x ∧ x < S 0 4) ∧ S 5 0 = 0) := by omega
    exact g_iret C hA hsz hr hl d_L_steps_19 (by decide) (by decide) ⟨vi_e (by unfold k_steps; rw [if_neg n0, if_neg n1]), rfl, by unfold w_steps; rw [if_neg n0, if_neg n1]⟩
  · skip
    refine g_astore_n C d_L_steps_12 13 rfl [(3, .ref z9), (0, .ref (ad 0)), (1, iv (x)), (2, .ref (ad 47))] rfl (by decide) rfl ?_
    refine g_iconst C d_L_steps_13 14 rfl ?_
    exact g_iret C hA hsz hr hl d_L_steps_14 (by decide) (by decide) ⟨vi_e (by unfold k_steps; rw [if_pos h]), rfl, by unfold w_steps; rw [if_pos h]⟩
  · skip
    refine g_astore_n C d_L_steps_15 16 rfl [(3, .ref z9), (0, .ref (ad 0)), (1, iv (x)), (2, .ref (ad 47))] rfl (by decide) rfl ?_
    refine g_iconst C d_L_steps_16 17 rfl ?_
    have n0 : ¬ (¬ (0 ≤ x ∧ x < S 0 4)) := by omega
    exact g_iret C hA hsz hr hl d_L_steps_17 (by decide) (by decide) ⟨vi_e (by unfold k_steps; rw [if_neg n0, if_pos h]), rfl, by unfold w_steps; rw [if_neg n0, if_pos h]⟩
def k_planned (S : Nat → Nat → Int) (x : Int) : Int := if ¬ (0 ≤ x ∧ x ≤ 3) then 1 else if (0 ≤ x ∧ x ≤ 3) ∧ S 5 0 = 0 then 2 else 0
def w_planned (S : Nat → Nat → Int) (x : Int) : Nat → Nat → Int := if ¬ (0 ≤ x ∧ x ≤ 3) then S else if (0 ≤ x ∧ x ≤ 3) ∧ S 5 0 = 0 then S else u2 S 47 0 (if x = 0 then S 5 1 else if x = 1 then S 5 2 else if x = 2 then S 5 3 else S 5 4)
def v_planned (S : Nat → Nat → Int) (x : Int) : Int := if x = 0 then S 5 1 else if x = 1 then S 5 2 else if x = 2 then S 5 3 else S 5 4
abbrev rm_L_planned : Room := { frames := 8, cells := 2, slots := 12, locals := 123 }
set_option maxHeartbeats 4000000 in
set_option maxRecDepth 100000 in
theorem t_L_planned (hst9 : l.stackTraces = false) (G : LO ad L) (N : Nat) (x : Int) (hI : IC N S) (hN : N ≤ 1000) (hx : r32 x) : FW l y_L_planned c_L_planned 4 (some .int) [(0, 9, 12, 21), (0, 9, 15, 13)] rm_L_planned D cd L (wd cd ad S f0) [.ref (ad 0), iv (x), .ref (ad 47)] (some (iv (k_planned S x))) (wd cd ad (w_planned S x) f0) := by
  refine fw_of (by decide) (Nat.le_of_ble_eq_true rfl) ?_
  intro p e s m args below meth c A sz hA hsz C hr hl htab
  have C : gC p s m args c D CL (TY cd) A c_L_planned "AlloyPlansLaw" 4 := C
  have htab : c.exceptionTable.toList = [⟨0, 9, 12, 21⟩, ⟨0, 9, 15, 13⟩] := htab
  change gW _ _ _ _ _ _ _ _ _ _ _ _ _ _ _ _ _ _ _ 0 [(0, .ref (ad 0)), (1, iv (x)), (2, .ref (ad 47))] []
  refine g_aload_n C d_L_planned_0 1 rfl rfl 2 rfl ?_
  refine g_iconst C d_L_planned_1 2 rfl ?_
  refine g_aload_n C d_L_planned_2 3 rfl rfl 0 rfl ?_
  refine g_iload_n C d_L_planned_3 4 rfl rfl 1 rfl ?_
  refine gw_call2 C htab (rest := [iv (0), .ref (ad 47)]) d_L_planned_4 7 rfl (t_P_planned hst9 G N x hI hN hx) rfl (G.1 0 (by decide)) (at_P G) ⟨ml_L_46, im_P_planned, se_P_planned, ci_P⟩ w_P_planned rfl 1 gy_P_planned rfl 2 rfl 12 rfl rfl rfl (Nat.le_of_ble_eq_true rfl) (by decide) (by decide) (by decide) (by decide) kl_L_21 kl_L_13 (gN_n_cIOB C.2.1.2.1) (gN_n_cISE C.2.1.2.1) (gN_n_xISEIOB C.2.1.2.1) (fun hok => ?_) (fun h z9 => ?_) (fun h z9 => ?_)
  · skip
    refine g_i2l C d_L_planned_7 8 rfl (planned_r hI) ?_
    refine st_47 C G (x := if x = 0 then S 5 1 else if x = 1 then S 5 2 else if x = 2 then S 5 3 else S 5 4) d_L_planned_8 9 rfl 0 (by decide) rfl ?_
    refine g_goto C d_L_planned_9 18 rfl ?_
    refine g_iconst C d_L_planned_18 19 rfl ?_
    have n0 : ¬ (¬ (0 ≤ x ∧ x ≤ 3)) := by omega
    have n1 : ¬ ((0 ≤ x ∧ x ≤ 3) ∧ S 5 0 = 0) := by omega
    exact g_iret C hA hsz hr hl d_L_planned_19 (by decide) (by decide) ⟨vi_e (by unfold k_planned; rw [if_neg n0, if_neg n1]), rfl, by unfold w_planned; rw [if_neg n0, if_neg n1]⟩
  · skip
    refine g_astore_n C d_L_planned_12 13 rfl [(3, .ref z9), (0, .ref (ad 0)), (1, iv (x)), (2, .ref (ad 47))] rfl (by decide) rfl ?_
    refine g_iconst C d_L_planned_13 14 rfl ?_
    exact g_iret C hA hsz hr hl d_L_planned_14 (by decide) (by decide) ⟨vi_e (by unfold k_planned; rw [if_pos h]), rfl, by unfold w_planned; rw [if_pos h]⟩
  · skip
    refine g_astore_n C d_L_planned_15 16 rfl [(3, .ref z9), (0, .ref (ad 0)), (1, iv (x)), (2, .ref (ad 47))] rfl (by decide) rfl ?_
    refine g_iconst C d_L_planned_16 17 rfl ?_
    have n0 : ¬ (¬ (0 ≤ x ∧ x ≤ 3)) := by omega
    exact g_iret C hA hsz hr hl d_L_planned_17 (by decide) (by decide) ⟨vi_e (by unfold k_planned; rw [if_neg n0, if_pos h]), rfl, by unfold w_planned; rw [if_neg n0, if_pos h]⟩
def k_order (S : Nat → Nat → Int) (x : Int) : Int := if ¬ 0 ≤ x then 1 else if 0 ≤ x ∧ S 5 0 = 0 then 2 else 0
def w_order (S : Nat → Nat → Int) (x : Int) : Nat → Nat → Int := if ¬ 0 ≤ x then S else if 0 ≤ x ∧ S 5 0 = 0 then S else u2 S 47 0 (ordL S x (S 0 4).toNat 0)
def v_order (S : Nat → Nat → Int) (x : Int) : Int := ordL S x (S 0 4).toNat 0
abbrev rm_L_order : Room := { frames := 8, cells := 2, slots := 12, locals := 124 }
set_option maxHeartbeats 4000000 in
set_option maxRecDepth 100000 in
theorem t_L_order (hst9 : l.stackTraces = false) (G : LO ad L) (N : Nat) (x : Int) (hI : IC N S) (hN : N ≤ 1000) (hx : r32 x) : FW l y_L_order c_L_order 4 (some .int) [(0, 9, 12, 21), (0, 9, 15, 13)] rm_L_order D cd L (wd cd ad S f0) [.ref (ad 0), iv (x), .ref (ad 47)] (some (iv (k_order S x))) (wd cd ad (w_order S x) f0) := by
  refine fw_of (by decide) (Nat.le_of_ble_eq_true rfl) ?_
  intro p e s m args below meth c A sz hA hsz C hr hl htab
  have C : gC p s m args c D CL (TY cd) A c_L_order "AlloyPlansLaw" 4 := C
  have htab : c.exceptionTable.toList = [⟨0, 9, 12, 21⟩, ⟨0, 9, 15, 13⟩] := htab
  change gW _ _ _ _ _ _ _ _ _ _ _ _ _ _ _ _ _ _ _ 0 [(0, .ref (ad 0)), (1, iv (x)), (2, .ref (ad 47))] []
  refine g_aload_n C d_L_order_0 1 rfl rfl 2 rfl ?_
  refine g_iconst C d_L_order_1 2 rfl ?_
  refine g_aload_n C d_L_order_2 3 rfl rfl 0 rfl ?_
  refine g_iload_n C d_L_order_3 4 rfl rfl 1 rfl ?_
  refine gw_call2 C htab (rest := [iv (0), .ref (ad 47)]) d_L_order_4 7 rfl (t_P_order hst9 G N x hI hN hx) rfl (G.1 0 (by decide)) (at_P G) ⟨ml_L_49, im_P_order, se_P_order, ci_P⟩ w_P_order rfl 1 gy_P_order rfl 2 rfl 12 rfl rfl rfl (Nat.le_of_ble_eq_true rfl) (by decide) (by decide) (by decide) (by decide) kl_L_21 kl_L_13 (gN_n_cIOB C.2.1.2.1) (gN_n_cISE C.2.1.2.1) (gN_n_xISEIOB C.2.1.2.1) (fun hok => ?_) (fun h z9 => ?_) (fun h z9 => ?_)
  · skip
    refine g_i2l C d_L_order_7 8 rfl (ordL_r hI) ?_
    refine st_47 C G (x := ordL S x (S 0 4).toNat 0) d_L_order_8 9 rfl 0 (by decide) rfl ?_
    refine g_goto C d_L_order_9 18 rfl ?_
    refine g_iconst C d_L_order_18 19 rfl ?_
    have n0 : ¬ (¬ 0 ≤ x) := by omega
    have n1 : ¬ (0 ≤ x ∧ S 5 0 = 0) := by omega
    exact g_iret C hA hsz hr hl d_L_order_19 (by decide) (by decide) ⟨vi_e (by unfold k_order; rw [if_neg n0, if_neg n1]), rfl, by unfold w_order; rw [if_neg n0, if_neg n1]⟩
  · skip
    refine g_astore_n C d_L_order_12 13 rfl [(3, .ref z9), (0, .ref (ad 0)), (1, iv (x)), (2, .ref (ad 47))] rfl (by decide) rfl ?_
    refine g_iconst C d_L_order_13 14 rfl ?_
    exact g_iret C hA hsz hr hl d_L_order_14 (by decide) (by decide) ⟨vi_e (by unfold k_order; rw [if_pos h]), rfl, by unfold w_order; rw [if_pos h]⟩
  · skip
    refine g_astore_n C d_L_order_15 16 rfl [(3, .ref z9), (0, .ref (ad 0)), (1, iv (x)), (2, .ref (ad 47))] rfl (by decide) rfl ?_
    refine g_iconst C d_L_order_16 17 rfl ?_
    have n0 : ¬ (¬ 0 ≤ x) := by omega
    exact g_iret C hA hsz hr hl d_L_order_17 (by decide) (by decide) ⟨vi_e (by unfold k_order; rw [if_neg n0, if_pos h]), rfl, by unfold w_order; rw [if_neg n0, if_pos h]⟩
def k_after (S : Nat → Nat → Int) (x y z : Int) : Int := if ¬ ((0 ≤ x ∧ x ≤ 3) ∧ (0 ≤ y ∧ y ≤ 1) ∧ (0 ≤ z ∧ z ≤ 1)) then 1 else if ((0 ≤ x ∧ x ≤ 3) ∧ (0 ≤ y ∧ y ≤ 1) ∧ (0 ≤ z ∧ z ≤ 1)) ∧ S 5 0 = 0 then 2 else 0
def w_after (S : Nat → Nat → Int) (x y z : Int) : Nat → Nat → Int := if ¬ ((0 ≤ x ∧ x ≤ 3) ∧ (0 ≤ y ∧ y ≤ 1) ∧ (0 ≤ z ∧ z ≤ 1)) then S else if ((0 ≤ x ∧ x ≤ 3) ∧ (0 ≤ y ∧ y ≤ 1) ∧ (0 ≤ z ∧ z ≤ 1)) ∧ S 5 0 = 0 then S else u2 S 47 0 (if 0 < eu 200 (heldP S (2 * x.toNat + y.toNat) (S 0 4).toNat) (1000 * (S 1 0 + S 5 2)) then Int.tdiv (if z = 0 then heldP S (2 * x.toNat + y.toNat) (S 0 4).toNat else 1000 * (S 1 0 + S 5 2)) (eu 200 (heldP S (2 * x.toNat + y.toNat) (S 0 4).toNat) (1000 * (S 1 0 + S 5 2))) else 0)
def v_after (S : Nat → Nat → Int) (x y z : Int) : Int := if 0 < eu 200 (heldP S (2 * x.toNat + y.toNat) (S 0 4).toNat) (1000 * (S 1 0 + S 5 2)) then Int.tdiv (if z = 0 then heldP S (2 * x.toNat + y.toNat) (S 0 4).toNat else 1000 * (S 1 0 + S 5 2)) (eu 200 (heldP S (2 * x.toNat + y.toNat) (S 0 4).toNat) (1000 * (S 1 0 + S 5 2))) else 0
abbrev rm_L_after : Room := { frames := 8, cells := 2, slots := 12, locals := 129 }
set_option maxHeartbeats 4000000 in
set_option maxRecDepth 100000 in
theorem t_L_after (hst9 : l.stackTraces = false) (G : LO ad L) (N : Nat) (x y z : Int) (hI : IC N S) (hN : N ≤ 1000) (hx : r32 x) (hy : r32 y) (hz : r32 z) : FW l y_L_after c_L_after 6 (some .int) [(0, 11, 14, 21), (0, 11, 18, 13)] rm_L_after D cd L (wd cd ad S f0) [.ref (ad 0), iv (x), iv (y), iv (z), .ref (ad 47)] (some (iv (k_after S x y z))) (wd cd ad (w_after S x y z) f0) := by
  refine fw_of (by decide) (Nat.le_of_ble_eq_true rfl) ?_
  intro p e s m args below meth c A sz hA hsz C hr hl htab
  have C : gC p s m args c D CL (TY cd) A c_L_after "AlloyPlansLaw" 6 := C
  have htab : c.exceptionTable.toList = [⟨0, 11, 14, 21⟩, ⟨0, 11, 18, 13⟩] := htab
  change gW _ _ _ _ _ _ _ _ _ _ _ _ _ _ _ _ _ _ _ 0 [(0, .ref (ad 0)), (1, iv (x)), (2, iv (y)), (3, iv (z)), (4, .ref (ad 47))] []
  refine g_aload C d_L_after_0 2 rfl 4 rfl ?_
  refine g_iconst C d_L_after_2 3 rfl ?_
  refine g_aload_n C d_L_after_3 4 rfl rfl 0 rfl ?_
  refine g_iload_n C d_L_after_4 5 rfl rfl 1 rfl ?_
  refine g_iload_n C d_L_after_5 6 rfl rfl 2 rfl ?_
  refine g_iload_n C d_L_after_6 7 rfl rfl 3 rfl ?_
  refine gw_call2 C htab (rest := [iv (0), .ref (ad 47)]) d_L_after_7 10 rfl (t_P_after hst9 G N x y z hI hN hx hy hz) rfl (G.1 0 (by decide)) (at_P G) ⟨ml_L_52, im_P_after, se_P_after, ci_P⟩ w_P_after rfl 3 gy_P_after rfl 2 rfl 12 rfl rfl rfl (Nat.le_of_ble_eq_true rfl) (by decide) (by decide) (by decide) (by decide) kl_L_21 kl_L_13 (gN_n_cIOB C.2.1.2.1) (gN_n_cISE C.2.1.2.1) (gN_n_xISEIOB C.2.1.2.1) (fun hok => ?_) (fun h z9 => ?_) (fun h z9 => ?_)
  · skip
    refine st_47 C G (x := if 0 < eu 200 (heldP S (2 * x.toNat + y.toNat) (S 0 4).toNat) (1000 * (S 1 0 + S 5 2)) then Int.tdiv (if z = 0 then heldP S (2 * x.toNat + y.toNat) (S 0 4).toNat else 1000 * (S 1 0 + S 5 2)) (eu 200 (heldP S (2 * x.toNat + y.toNat) (S 0 4).toNat) (1000 * (S 1 0 + S 5 2))) else 0) d_L_after_10 11 rfl 0 (by decide) rfl ?_
    refine g_goto C d_L_after_11 22 rfl ?_
    refine g_iconst C d_L_after_22 23 rfl ?_
    have n0 : ¬ (¬ ((0 ≤ x ∧ x ≤ 3) ∧ (0 ≤ y ∧ y ≤ 1) ∧ (0 ≤ z ∧ z ≤ 1))) := by omega
    have n1 : ¬ (((0 ≤ x ∧ x ≤ 3) ∧ (0 ≤ y ∧ y ≤ 1) ∧ (0 ≤ z ∧ z ≤ 1)) ∧ S 5 0 = 0) := by omega
    exact g_iret C hA hsz hr hl d_L_after_23 (by decide) (by decide) ⟨vi_e (by unfold k_after; rw [if_neg n0, if_neg n1]), rfl, by unfold w_after; rw [if_neg n0, if_neg n1]⟩
  · skip
    refine g_astore C d_L_after_14 16 rfl [(5, .ref z9), (0, .ref (ad 0)), (1, iv (x)), (2, iv (y)), (3, iv (z)), (4, .ref (ad 47))] (by decide) rfl ?_
    refine g_iconst C d_L_after_16 17 rfl ?_
    exact g_iret C hA hsz hr hl d_L_after_17 (by decide) (by decide) ⟨vi_e (by unfold k_after; rw [if_pos h]), rfl, by unfold w_after; rw [if_pos h]⟩
  · skip
    refine g_astore C d_L_after_18 20 rfl [(5, .ref z9), (0, .ref (ad 0)), (1, iv (x)), (2, iv (y)), (3, iv (z)), (4, .ref (ad 47))] (by decide) rfl ?_
    refine g_iconst C d_L_after_20 21 rfl ?_
    have n0 : ¬ (¬ ((0 ≤ x ∧ x ≤ 3) ∧ (0 ≤ y ∧ y ≤ 1) ∧ (0 ≤ z ∧ z ≤ 1))) := by omega
    exact g_iret C hA hsz hr hl d_L_after_21 (by decide) (by decide) ⟨vi_e (by unfold k_after; rw [if_neg n0, if_pos h]), rfl, by unfold w_after; rw [if_neg n0, if_pos h]⟩
def k_add (S : Nat → Nat → Int) : Int := if S 5 0 = 0 then 1 else if ¬ S 5 0 = 0 ∧ ¬ S 1 0 + S 5 2 ≤ 65536 then 2 else 0
def w_add (S : Nat → Nat → Int) : Nat → Nat → Int := if S 5 0 = 0 then S else if ¬ S 5 0 = 0 ∧ ¬ S 1 0 + S 5 2 ≤ 65536 then S else u2 (u2 (u2 (u2 (u2 (uA S 2 8 (rndP S)) 1 0 (S 1 0 + S 5 2)) 1 2 (S 1 2 + S 5 1)) 1 1 (S 1 1 + 1)) 5 0 0) 47 0 (S 1 1 + 1 - 1)
def v_add (S : Nat → Nat → Int) : Int := S 1 1 + 1 - 1
abbrev rm_L_add : Room := { frames := 8, cells := 2, slots := 12, locals := 123 }
set_option maxHeartbeats 4000000 in
set_option maxRecDepth 100000 in
theorem t_L_add (hst9 : l.stackTraces = false) (G : LO ad L) (N : Nat) (hI : IC N S) (hN : N ≤ 1000) : FW l y_L_add c_L_add 3 (some .int) [(0, 8, 11, 13), (0, 8, 14, 30)] rm_L_add D cd L (wd cd ad S f0) [.ref (ad 0), .ref (ad 47)] (some (iv (k_add S))) (wd cd ad (w_add S) f0) := by
  refine fw_of (by decide) (Nat.le_of_ble_eq_true rfl) ?_
  intro p e s m args below meth c A sz hA hsz C hr hl htab
  have C : gC p s m args c D CL (TY cd) A c_L_add "AlloyPlansLaw" 3 := C
  have htab : c.exceptionTable.toList = [⟨0, 8, 11, 13⟩, ⟨0, 8, 14, 30⟩] := htab
  change gW _ _ _ _ _ _ _ _ _ _ _ _ _ _ _ _ _ _ _ 0 [(0, .ref (ad 0)), (1, .ref (ad 47))] []
  obtain ⟨⟨i0, j0⟩, -, ⟨i2, j2⟩, -⟩ := id hI
  refine g_aload_n C d_L_add_0 1 rfl rfl 1 rfl ?_
  refine g_iconst C d_L_add_1 2 rfl ?_
  refine g_aload_n C d_L_add_2 3 rfl rfl 0 rfl ?_
  refine gw_call2 C htab (rest := [iv (0), .ref (ad 47)]) d_L_add_3 6 rfl (t_P_add hst9 G N hI hN) rfl (G.1 0 (by decide)) (at_P G) ⟨ml_L_56, im_P_add, se_P_add, ci_P⟩ w_P_add rfl 0 gy_P_add rfl 2 rfl 12 rfl rfl rfl (Nat.le_of_ble_eq_true rfl) (by decide) (by decide) (by decide) (by decide) kl_L_13 kl_L_30 (gN_n_cISE C.2.1.2.1) (gN_n_cUOE C.2.1.2.1) (gN_n_xUOEISE C.2.1.2.1) (fun hok => ?_) (fun h z9 => ?_) (fun h z9 => ?_)
  · skip
    refine g_i2l C d_L_add_6 7 rfl ⟨by omega, by omega⟩ ?_
    refine st_47 C G (x := S 1 1 + 1 - 1) d_L_add_7 8 rfl 0 (by decide) rfl ?_
    refine g_goto C d_L_add_8 17 rfl ?_
    refine g_iconst C d_L_add_17 18 rfl ?_
    have n0 : ¬ (S 5 0 = 0) := by omega
    have n1 : ¬ (¬ S 5 0 = 0 ∧ ¬ S 1 0 + S 5 2 ≤ 65536) := by omega
    exact g_iret C hA hsz hr hl d_L_add_18 (by decide) (by decide) ⟨vi_e (by unfold k_add; rw [if_neg n0, if_neg n1]), rfl, by unfold w_add; rw [if_neg n0, if_neg n1]⟩
  · skip
    refine g_astore_n C d_L_add_11 12 rfl [(2, .ref z9), (0, .ref (ad 0)), (1, .ref (ad 47))] rfl (by decide) rfl ?_
    refine g_iconst C d_L_add_12 13 rfl ?_
    exact g_iret C hA hsz hr hl d_L_add_13 (by decide) (by decide) ⟨vi_e (by unfold k_add; rw [if_pos h]), rfl, by unfold w_add; rw [if_pos h]⟩
  · skip
    refine g_astore_n C d_L_add_14 15 rfl [(2, .ref z9), (0, .ref (ad 0)), (1, .ref (ad 47))] rfl (by decide) rfl ?_
    refine g_iconst C d_L_add_15 16 rfl ?_
    have n0 : ¬ (S 5 0 = 0) := by omega
    exact g_iret C hA hsz hr hl d_L_add_16 (by decide) (by decide) ⟨vi_e (by unfold k_add; rw [if_neg n0, if_pos h]), rfl, by unfold w_add; rw [if_neg n0, if_pos h]⟩
def k_heatAt (S : Nat → Nat → Int) (x : Int) : Int := if ¬ (0 ≤ x ∧ x ≤ 9) then 1 else 0
def w_heatAt (S : Nat → Nat → Int) (x : Int) : Nat → Nat → Int := if ¬ (0 ≤ x ∧ x ≤ 9) then S else u2 S 47 0 (if x = 0 then S 1 0 else if x = 9 then S 1 2 else S 2 (x - 1).toNat)
def v_heatAt (S : Nat → Nat → Int) (x : Int) : Int := if x = 0 then S 1 0 else if x = 9 then S 1 2 else S 2 (x - 1).toNat
abbrev rm_L_heatAt : Room := { frames := 8, cells := 1, slots := 6, locals := 123 }
set_option maxHeartbeats 4000000 in
set_option maxRecDepth 100000 in
theorem t_L_heatAt (hst9 : l.stackTraces = false) (G : LO ad L) (N : Nat) (x : Int) (hI : IC N S) (hN : N ≤ 1000) (hx : r32 x) : FW l y_L_heatAt c_L_heatAt 4 (some .int) [(0, 8, 11, 21)] rm_L_heatAt D cd L (wd cd ad S f0) [.ref (ad 0), iv (x), .ref (ad 47)] (some (iv (k_heatAt S x))) (wd cd ad (w_heatAt S x) f0) := by
  refine fw_of (by decide) (Nat.le_of_ble_eq_true rfl) ?_
  intro p e s m args below meth c A sz hA hsz C hr hl htab
  have C : gC p s m args c D CL (TY cd) A c_L_heatAt "AlloyPlansLaw" 4 := C
  have htab : c.exceptionTable.toList = [⟨0, 8, 11, 21⟩] := htab
  change gW _ _ _ _ _ _ _ _ _ _ _ _ _ _ _ _ _ _ _ 0 [(0, .ref (ad 0)), (1, iv (x)), (2, .ref (ad 47))] []
  refine g_aload_n C d_L_heatAt_0 1 rfl rfl 2 rfl ?_
  refine g_iconst C d_L_heatAt_1 2 rfl ?_
  refine g_aload_n C d_L_heatAt_2 3 rfl rfl 0 rfl ?_
  refine g_iload_n C d_L_heatAt_3 4 rfl rfl 1 rfl ?_
  refine gw_call1 C htab (rest := [iv (0), .ref (ad 47)]) d_L_heatAt_4 7 rfl (t_P_heatAt hst9 G N x hI hN hx) rfl (G.1 0 (by decide)) (at_P G) ⟨ml_L_60, im_P_heatAt, se_P_heatAt, ci_P⟩ w_P_heatAt rfl 1 gy_P_heatAt rfl 1 rfl 6 rfl rfl rfl (Nat.le_of_ble_eq_true rfl) (by decide) (by decide) kl_L_21 (gN_n_cIOB C.2.1.2.1) (fun hok => ?_) (fun h z9 => ?_)
  · skip
    refine st_47 C G (x := if x = 0 then S 1 0 else if x = 9 then S 1 2 else S 2 (x - 1).toNat) d_L_heatAt_7 8 rfl 0 (by decide) rfl ?_
    refine g_goto C d_L_heatAt_8 14 rfl ?_
    refine g_iconst C d_L_heatAt_14 15 rfl ?_
    have n0 : ¬ (¬ (0 ≤ x ∧ x ≤ 9)) := by omega
    exact g_iret C hA hsz hr hl d_L_heatAt_15 (by decide) (by decide) ⟨vi_e (by unfold k_heatAt; rw [if_neg n0]), rfl, by unfold w_heatAt; rw [if_neg n0]⟩
  · skip
    refine g_astore_n C d_L_heatAt_11 12 rfl [(3, .ref z9), (0, .ref (ad 0)), (1, iv (x)), (2, .ref (ad 47))] rfl (by decide) rfl ?_
    refine g_iconst C d_L_heatAt_12 13 rfl ?_
    exact g_iret C hA hsz hr hl d_L_heatAt_13 (by decide) (by decide) ⟨vi_e (by unfold k_heatAt; rw [if_pos h]), rfl, by unfold w_heatAt; rw [if_pos h]⟩
end M13
