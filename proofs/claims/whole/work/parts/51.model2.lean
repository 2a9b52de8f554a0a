section M9
variable {l : Launch} {D : va_G} {cd : Nat → ClassId} {ad : Nat → Nat} {L : List Nat} {f f0 : Nat → va_E} {S : Nat → Nat → Int}
def kN (S : Nat → Nat → Int) : Nat := (S 33 6).toNat
def wM (S : Nat → Nat → Int) : Int := sumN (fun j => S 46 j * S 39 j) (kN S)
def cM (S : Nat → Nat → Int) : Int := sumN (fun j => S 46 j * S 38 j) (kN S)
def uM (S : Nat → Nat → Int) : Int := sumN (fun j => bi (0 < S 46 j)) (kN S)
def qM (S : Nat → Nat → Int) : Int := sumN (fun j => S 46 j * S 39 j * S 44 j) (kN S)
def aF (S : Nat → Nat → Int) (q : Nat) (x : Int) (j : Nat) : Int := S 46 j * S 39 j * S 43 j * (if x = 0 then S 41 (4 * j + q) else S 42 (4 * j + q))
def aM (S : Nat → Nat → Int) (q : Nat) (x : Int) : Int := 1000 * S 33 1 * (if x = 0 then S 34 q else S 35 q) + sumN (aF S q x) (kN S)
abbrev metM (S : Nat → Nat → Int) (q : Nat) : Prop := S 36 q * (1000 * (S 33 1 + wM S)) ≤ aM S q 0 ∧ aM S q 1 ≤ S 37 q * (1000 * (S 33 1 + wM S))
def limM (S : Nat → Nat → Int) (k : Nat) : Int := if (k : Int) < S 33 6 then S 40 k else 0
def dg3 (c : Int) : Int := Int.tmod c 13
def dg2 (c : Int) : Int := Int.tmod (Int.tdiv c 13) 13
def dg1 (c : Int) : Int := Int.tmod (Int.tdiv (Int.tdiv c 13) 13) 13
def dg0 (c : Int) : Int := Int.tmod (Int.tdiv (Int.tdiv (Int.tdiv c 13) 13) 13) 13
def setD (S : Nat → Nat → Int) (c : Int) : Nat → Nat → Int := u2 (u2 (u2 (u2 S 46 3 (dg3 c)) 46 2 (dg2 c)) 46 1 (dg1 c)) 46 0 (dg0 c)
abbrev setsOK (S : Nat → Nat → Int) (c : Int) : Prop := dg0 c ≤ limM S 0 ∧ dg1 c ≤ limM S 1 ∧ dg2 c ≤ limM S 2 ∧ dg3 c ≤ limM S 3
abbrev rm_M_load : Room := { frames := 0, cells := 0, slots := 0, locals := 0 }
set_option maxHeartbeats 4000000 in
set_option maxRecDepth 100000 in
theorem t_M_load (G : LO ad L)   : FM l y_M_load c_M_load 2 none rm_M_load D cd L (wd cd ad S f0) [.ref (ad 33)] none (wd cd ad (uA S 46 4 (S 45)) f0) := by
  refine g_of (by decide) (Nat.le_of_ble_eq_true rfl) ?_
  intro p e s m args below meth c A sz hA hsz C hr hl hnm
  have C : gC p s m args c D CL (TY cd) A c_M_load "AlloyPlansModel" 2 := C
  change gW _ _ _ _ _ _ _ _ _ _ _ _ _ _ _ _ _ _ _ 0 [(0, .ref (ad 33))] []
  refine g_iconst C d_M_load_0 1 rfl ?_
  refine g_istore_n C d_M_load_1 2 rfl [(1, iv (0)), (0, .ref (ad 33))] rfl (by decide) rfl ?_
  have LP : ∀ (d n : Nat) (T : Nat → Nat → Int), n + d = 4 → T = uA S 46 n (S 45) → gW p l e rm_M_load s m args below meth c D CL A 2 (MQ below (gQ D CL L sz (fun r L' g => r = none ∧ L' = L ∧ g = (wd cd ad (uA S 46 4 (S 45)) f0))) args s rm_M_load.cells rm_M_load.slots (gA L sz)) 0 0 L (wd cd ad T f0) 2 [(1, iv ((n : Int))), (0, .ref (ad 33))] [] := by
    intro d
    induction d with
    | zero =>
      intro n T hn hT
      refine g_iload_n C d_M_load_2 3 rfl rfl 0 rfl ?_
      refine g_iconst C d_M_load_3 4 rfl ?_
      refine g_icmp_ge C d_M_load_4 7 rfl (show r32 ((n : Int)) from ⟨by omega, by omega⟩) (show r32 4 from ⟨by decide, by decide⟩) 25 rfl (fun (w1 : 4 ≤ (n : Int)) => ?_) (fun (w1 : ¬ 4 ≤ (n : Int)) => absurd w1 (by omega))
      exact g_vret C hA hsz hr hl d_M_load_25 (by decide) (by decide) ⟨rfl, rfl, by rw [hT, show n = 4 by omega]⟩
    | succ d ih =>
      intro n T hn hT
      refine g_iload_n C d_M_load_2 3 rfl rfl 0 rfl ?_
      refine g_iconst C d_M_load_3 4 rfl ?_
      refine g_icmp_ge C d_M_load_4 7 rfl (show r32 ((n : Int)) from ⟨by omega, by omega⟩) (show r32 4 from ⟨by decide, by decide⟩) 25 rfl (fun (w2 : 4 ≤ (n : Int)) => absurd w2 (by omega)) (fun (w2 : ¬ 4 ≤ (n : Int)) => ?_)
      refine g_aload_n C d_M_load_7 8 rfl rfl 1 rfl ?_
      refine gt_M_tried C G d_M_load_8 11 rfl fl_M_50 ?_
      refine g_iload_n C d_M_load_11 12 rfl rfl 0 rfl ?_
      refine g_aload_n C d_M_load_12 13 rfl rfl 1 rfl ?_
      refine gt_M_plan C G d_M_load_13 16 rfl fl_M_47 ?_
      refine g_iload_n C d_M_load_16 17 rfl rfl 0 rfl ?_
      refine ld_45 C G d_M_load_17 18 rfl n (by omega) rfl ?_
      refine st_46 C G (x := T 45 n) d_M_load_18 19 rfl n (by omega) rfl ?_
      refine g_iinc C d_M_load_19 22 rfl [(1, iv ((n : Int) + 1)), (0, .ref (ad 33))] 0 rfl (by decide) rfl ?_
      refine g_goto C d_M_load_22 2 rfl ?_
      refine ih (n + 1) _ (by omega) ?_
      rw [← uA_s, ← hT]
      have e45 : T 45 n = S 45 n := by rw [hT, uA_ne (by decide)]
      rw [← e45]
  exact LP 4 0 _ rfl (uA_0 _ _ _).symm
abbrev rm_M_weight : Room := { frames := 0, cells := 0, slots := 0, locals := 0 }
set_option maxHeartbeats 4000000 in
set_option maxRecDepth 100000 in
theorem t_M_weight (G : LO ad L)  (h0 : 0 ≤ S 33 6 ∧ S 33 6 ≤ 4) : FM l y_M_weight c_M_weight 3 (some .int) rm_M_weight D cd L (wd cd ad S f0) [.ref (ad 33)] (some (iv (wM S))) (wd cd ad S f0) := by
  refine g_of (by decide) (Nat.le_of_ble_eq_true rfl) ?_
  intro p e s m args below meth c A sz hA hsz C hr hl hnm
  have C : gC p s m args c D CL (TY cd) A c_M_weight "AlloyPlansModel" 3 := C
  change gW _ _ _ _ _ _ _ _ _ _ _ _ _ _ _ _ _ _ _ 0 [(0, .ref (ad 33))] []
  obtain ⟨u0, v0⟩ := h0
  refine g_iconst C d_M_weight_0 1 rfl ?_
  refine g_istore_n C d_M_weight_1 2 rfl [(1, iv (0)), (0, .ref (ad 33))] rfl (by decide) rfl ?_
  refine g_iconst C d_M_weight_2 3 rfl ?_
  refine g_istore_n C d_M_weight_3 4 rfl [(2, iv (0)), (1, iv (0)), (0, .ref (ad 33))] rfl (by decide) rfl ?_
  have LP : ∀ (d n : Nat) (x : Int), n + d = 4 → x = sumN (fun j => S 46 j * S 39 j) n → (n : Int) ≤ S 33 6 → gW p l e rm_M_weight s m args below meth c D CL A 3 (MQ below (gQ D CL L sz (fun r L' g => r = (some (iv (wM S))) ∧ L' = L ∧ g = (wd cd ad S f0))) args s rm_M_weight.cells rm_M_weight.slots (gA L sz)) 0 0 L (wd cd ad S f0) 4 [(2, iv ((n : Int))), (1, iv (x)), (0, .ref (ad 33))] [] := by
    intro d
    induction d with
    | zero =>
      intro n x hn hx hle
      refine g_iload_n C d_M_weight_4 5 rfl rfl 0 rfl ?_
      refine g_aload_n C d_M_weight_5 6 rfl rfl 2 rfl ?_
      refine gt_M_kinds C G d_M_weight_6 9 rfl fl_M_61 ?_
      refine g_icmp_ge C d_M_weight_9 12 rfl (show r32 ((n : Int)) from ⟨by omega, by omega⟩) (show r32 (S 33 6) from ⟨by omega, by omega⟩) 34 rfl (fun (w1 : S 33 6 ≤ (n : Int)) => ?_) (fun (w1 : ¬ S 33 6 ≤ (n : Int)) => absurd w1 (by omega))
      refine g_iload_n C d_M_weight_34 35 rfl rfl 1 rfl ?_
      exact g_iret C hA hsz hr hl d_M_weight_35 (by decide) (by decide) ⟨vi_e (by rw [hx, show n = kN S by unfold kN; omega]; rfl), rfl, rfl⟩
    | succ d ih =>
      intro n x hn hx hle
      refine g_iload_n C d_M_weight_4 5 rfl rfl 0 rfl ?_
      refine g_aload_n C d_M_weight_5 6 rfl rfl 2 rfl ?_
      refine gt_M_kinds C G d_M_weight_6 9 rfl fl_M_61 ?_
      refine g_icmp_ge C d_M_weight_9 12 rfl (show r32 ((n : Int)) from ⟨by omega, by omega⟩) (show r32 (S 33 6) from ⟨by omega, by omega⟩) 34 rfl (fun (w2 : S 33 6 ≤ (n : Int)) => ?_) (fun (w3 : ¬ S 33 6 ≤ (n : Int)) => ?_)
      · skip
        refine g_iload_n C d_M_weight_34 35 rfl rfl 1 rfl ?_
        exact g_iret C hA hsz hr hl d_M_weight_35 (by decide) (by decide) ⟨vi_e (by rw [hx, show n = kN S by unfold kN; omega]; rfl), rfl, rfl⟩
      · skip
        refine g_iload_n C d_M_weight_12 13 rfl rfl 1 rfl ?_
        refine g_aload_n C d_M_weight_13 14 rfl rfl 2 rfl ?_
        refine gt_M_tried C G d_M_weight_14 17 rfl fl_M_50 ?_
        refine g_iload_n C d_M_weight_17 18 rfl rfl 0 rfl ?_
        refine ld_46 C G d_M_weight_18 19 rfl n (by omega) rfl ?_
        refine g_aload_n C d_M_weight_19 20 rfl rfl 2 rfl ?_
        refine gt_M_each C G d_M_weight_20 23 rfl fl_M_29 ?_
        refine g_iload_n C d_M_weight_23 24 rfl rfl 0 rfl ?_
        refine ld_39 C G d_M_weight_24 25 rfl n (by omega) rfl ?_
        refine g_imul C d_M_weight_25 26 rfl ?_
        refine g_iadd C d_M_weight_26 27 rfl ?_
        refine g_istore_n C d_M_weight_27 28 rfl [(1, iv (x + ((S 46 n) * (S 39 n)))), (2, iv ((n : Int))), (0, .ref (ad 33))] rfl (by decide) rfl ?_
        refine g_iinc C d_M_weight_28 31 rfl [(2, iv ((n : Int) + 1)), (1, iv (x + ((S 46 n) * (S 39 n)))), (0, .ref (ad 33))] 1 rfl (by decide) rfl ?_
        refine g_goto C d_M_weight_31 4 rfl ?_
        exact ih (n + 1) _ (by omega) (by rw [hx]; rfl) (by omega)
  exact LP 4 0 0 rfl rfl u0
abbrev rm_M_cost : Room := { frames := 0, cells := 0, slots := 0, locals := 0 }
set_option maxHeartbeats 4000000 in
set_option maxRecDepth 100000 in
theorem t_M_cost (G : LO ad L)  (h0 : 0 ≤ S 33 6 ∧ S 33 6 ≤ 4) : FM l y_M_cost c_M_cost 3 (some .int) rm_M_cost D cd L (wd cd ad S f0) [.ref (ad 33)] (some (iv (cM S))) (wd cd ad S f0) := by
  refine g_of (by decide) (Nat.le_of_ble_eq_true rfl) ?_
  intro p e s m args below meth c A sz hA hsz C hr hl hnm
  have C : gC p s m args c D CL (TY cd) A c_M_cost "AlloyPlansModel" 3 := C
  change gW _ _ _ _ _ _ _ _ _ _ _ _ _ _ _ _ _ _ _ 0 [(0, .ref (ad 33))] []
  obtain ⟨u0, v0⟩ := h0
  refine g_iconst C d_M_cost_0 1 rfl ?_
  refine g_istore_n C d_M_cost_1 2 rfl [(1, iv (0)), (0, .ref (ad 33))] rfl (by decide) rfl ?_
  refine g_iconst C d_M_cost_2 3 rfl ?_
  refine g_istore_n C d_M_cost_3 4 rfl [(2, iv (0)), (1, iv (0)), (0, .ref (ad 33))] rfl (by decide) rfl ?_
  have LP : ∀ (d n : Nat) (x : Int), n + d = 4 → x = sumN (fun j => S 46 j * S 38 j) n → (n : Int) ≤ S 33 6 → gW p l e rm_M_cost s m args below meth c D CL A 3 (MQ below (gQ D CL L sz (fun r L' g => r = (some (iv (cM S))) ∧ L' = L ∧ g = (wd cd ad S f0))) args s rm_M_cost.cells rm_M_cost.slots (gA L sz)) 0 0 L (wd cd ad S f0) 4 [(2, iv ((n : Int))), (1, iv (x)), (0, .ref (ad 33))] [] := by
    intro d
    induction d with
    | zero =>
      intro n x hn hx hle
      refine g_iload_n C d_M_cost_4 5 rfl rfl 0 rfl ?_
      refine g_aload_n C d_M_cost_5 6 rfl rfl 2 rfl ?_
      refine gt_M_kinds C G d_M_cost_6 9 rfl fl_M_61 ?_
      refine g_icmp_ge C d_M_cost_9 12 rfl (show r32 ((n : Int)) from ⟨by omega, by omega⟩) (show r32 (S 33 6) from ⟨by omega, by omega⟩) 34 rfl (fun (w1 : S 33 6 ≤ (n : Int)) => ?_) (fun (w1 : ¬ S 33 6 ≤ (n : Int)) => absurd w1 (by omega))
      refine g_iload_n C d_M_cost_34 35 rfl rfl 1 rfl ?_
      exact g_iret C hA hsz hr hl d_M_cost_35 (by decide) (by decide) ⟨vi_e (by rw [hx, show n = kN S by unfold kN; omega]; rfl), rfl, rfl⟩
    | succ d ih =>
      intro n x hn hx hle
      refine g_iload_n C d_M_cost_4 5 rfl rfl 0 rfl ?_
      refine g_aload_n C d_M_cost_5 6 rfl rfl 2 rfl ?_
      refine gt_M_kinds C G d_M_cost_6 9 rfl fl_M_61 ?_
      refine g_icmp_ge C d_M_cost_9 12 rfl (show r32 ((n : Int)) from ⟨by omega, by omega⟩) (show r32 (S 33 6) from ⟨by omega, by omega⟩) 34 rfl (fun (w2 : S 33 6 ≤ (n : Int)) => ?_) (fun (w3 : ¬ S 33 6 ≤ (n : Int)) => ?_)
      · skip
        refine g_iload_n C d_M_cost_34 35 rfl rfl 1 rfl ?_
        exact g_iret C hA hsz hr hl d_M_cost_35 (by decide) (by decide) ⟨vi_e (by rw [hx, show n = kN S by unfold kN; omega]; rfl), rfl, rfl⟩
      · skip
        refine g_iload_n C d_M_cost_12 13 rfl rfl 1 rfl ?_
        refine g_aload_n C d_M_cost_13 14 rfl rfl 2 rfl ?_
        refine gt_M_tried C G d_M_cost_14 17 rfl fl_M_50 ?_
        refine g_iload_n C d_M_cost_17 18 rfl rfl 0 rfl ?_
        refine ld_46 C G d_M_cost_18 19 rfl n (by omega) rfl ?_
        refine g_aload_n C d_M_cost_19 20 rfl rfl 2 rfl ?_
        refine gt_M_cents C G d_M_cost_20 23 rfl fl_M_26 ?_
        refine g_iload_n C d_M_cost_23 24 rfl rfl 0 rfl ?_
        refine ld_38 C G d_M_cost_24 25 rfl n (by omega) rfl ?_
        refine g_imul C d_M_cost_25 26 rfl ?_
        refine g_iadd C d_M_cost_26 27 rfl ?_
        refine g_istore_n C d_M_cost_27 28 rfl [(1, iv (x + ((S 46 n) * (S 38 n)))), (2, iv ((n : Int))), (0, .ref (ad 33))] rfl (by decide) rfl ?_
        refine g_iinc C d_M_cost_28 31 rfl [(2, iv ((n : Int) + 1)), (1, iv (x + ((S 46 n) * (S 38 n)))), (0, .ref (ad 33))] 1 rfl (by decide) rfl ?_
        refine g_goto C d_M_cost_31 4 rfl ?_
        exact ih (n + 1) _ (by omega) (by rw [hx]; rfl) (by omega)
  exact LP 4 0 0 rfl rfl u0
abbrev rm_M_used : Room := { frames := 0, cells := 0, slots := 0, locals := 0 }
set_option maxHeartbeats 4000000 in
set_option maxRecDepth 100000 in
theorem t_M_used (G : LO ad L)  (h0 : 0 ≤ S 33 6 ∧ S 33 6 ≤ 4) (ht : ∀ j, j < 4 → 0 ≤ S 46 j ∧ S 46 j ≤ 12) : FM l y_M_used c_M_used 3 (some .int) rm_M_used D cd L (wd cd ad S f0) [.ref (ad 33)] (some (iv (uM S))) (wd cd ad S f0) := by
  refine g_of (by decide) (Nat.le_of_ble_eq_true rfl) ?_
  intro p e s m args below meth c A sz hA hsz C hr hl hnm
  have C : gC p s m args c D CL (TY cd) A c_M_used "AlloyPlansModel" 3 := C
  change gW _ _ _ _ _ _ _ _ _ _ _ _ _ _ _ _ _ _ _ 0 [(0, .ref (ad 33))] []
  obtain ⟨u0, v0⟩ := h0
  refine g_iconst C d_M_used_0 1 rfl ?_
  refine g_istore_n C d_M_used_1 2 rfl [(1, iv (0)), (0, .ref (ad 33))] rfl (by decide) rfl ?_
  refine g_iconst C d_M_used_2 3 rfl ?_
  refine g_istore_n C d_M_used_3 4 rfl [(2, iv (0)), (1, iv (0)), (0, .ref (ad 33))] rfl (by decide) rfl ?_
  have LP : ∀ (d n : Nat) (x : Int), n + d = 4 → x = sumN (fun j => bi (0 < S 46 j)) n → (n : Int) ≤ S 33 6 → gW p l e rm_M_used s m args below meth c D CL A 3 (MQ below (gQ D CL L sz (fun r L' g => r = (some (iv (uM S))) ∧ L' = L ∧ g = (wd cd ad S f0))) args s rm_M_used.cells rm_M_used.slots (gA L sz)) 0 0 L (wd cd ad S f0) 4 [(2, iv ((n : Int))), (1, iv (x)), (0, .ref (ad 33))] [] := by
    intro d
    induction d with
    | zero =>
      intro n x hn hx hle
      refine g_iload_n C d_M_used_4 5 rfl rfl 0 rfl ?_
      refine g_aload_n C d_M_used_5 6 rfl rfl 2 rfl ?_
      refine gt_M_kinds C G d_M_used_6 9 rfl fl_M_61 ?_
      refine g_icmp_ge C d_M_used_9 12 rfl (show r32 ((n : Int)) from ⟨by omega, by omega⟩) (show r32 (S 33 6) from ⟨by omega, by omega⟩) 30 rfl (fun (w1 : S 33 6 ≤ (n : Int)) => ?_) (fun (w1 : ¬ S 33 6 ≤ (n : Int)) => absurd w1 (by omega))
      refine g_iload_n C d_M_used_30 31 rfl rfl 1 rfl ?_
      exact g_iret C hA hsz hr hl d_M_used_31 (by decide) (by decide) ⟨vi_e (by rw [hx, show n = kN S by unfold kN; omega]; rfl), rfl, rfl⟩
    | succ d ih =>
      intro n x hn hx hle
      obtain ⟨u6, v6⟩ := ht n (by omega)
      refine g_iload_n C d_M_used_4 5 rfl rfl 0 rfl ?_
      refine g_aload_n C d_M_used_5 6 rfl rfl 2 rfl ?_
      refine gt_M_kinds C G d_M_used_6 9 rfl fl_M_61 ?_
      refine g_icmp_ge C d_M_used_9 12 rfl (show r32 ((n : Int)) from ⟨by omega, by omega⟩) (show r32 (S 33 6) from ⟨by omega, by omega⟩) 30 rfl (fun (w2 : S 33 6 ≤ (n : Int)) => ?_) (fun (w3 : ¬ S 33 6 ≤ (n : Int)) => ?_)
      · skip
        refine g_iload_n C d_M_used_30 31 rfl rfl 1 rfl ?_
        exact g_iret C hA hsz hr hl d_M_used_31 (by decide) (by decide) ⟨vi_e (by rw [hx, show n = kN S by unfold kN; omega]; rfl), rfl, rfl⟩
      · skip
        refine g_aload_n C d_M_used_12 13 rfl rfl 2 rfl ?_
        refine gt_M_tried C G d_M_used_13 16 rfl fl_M_50 ?_
        refine g_iload_n C d_M_used_16 17 rfl rfl 0 rfl ?_
        refine ld_46 C G d_M_used_17 18 rfl n (by omega) rfl ?_
        refine g_if_le C d_M_used_18 21 rfl (show r32 (S 46 n) from ⟨by omega, by omega⟩) 24 rfl (fun (w4 : S 46 n ≤ 0) => ?_) (fun (w5 : ¬ S 46 n ≤ 0) => ?_)
        · skip
          refine g_iinc C d_M_used_24 27 rfl [(2, iv ((n : Int) + 1)), (1, iv (x)), (0, .ref (ad 33))] 0 rfl (by decide) rfl ?_
          refine g_goto C d_M_used_27 4 rfl ?_
          have hb : bi (0 < S 46 n) = 0 := bi_neg (by omega)
          exact ih (n + 1) _ (by omega) (show _ = sumN (fun j => bi (0 < S 46 j)) n + bi (0 < S 46 n) by rw [← hx, hb] <;> omega) (by omega)
        · skip
          refine g_iinc C d_M_used_21 24 rfl [(1, iv (x + 1)), (2, iv ((n : Int))), (0, .ref (ad 33))] 1 rfl (by decide) rfl ?_
          refine g_iinc C d_M_used_24 27 rfl [(2, iv ((n : Int) + 1)), (1, iv (x + 1)), (0, .ref (ad 33))] 1 rfl (by decide) rfl ?_
          refine g_goto C d_M_used_27 4 rfl ?_
          have hb : bi (0 < S 46 n) = 1 := bi_pos (by omega)
          exact ih (n + 1) _ (by omega) (show _ = sumN (fun j => bi (0 < S 46 j)) n + bi (0 < S 46 n) by rw [← hx, hb] <;> omega) (by omega)
  exact LP 4 0 0 rfl rfl u0
abbrev rm_M_cooling : Room := { frames := 0, cells := 0, slots := 0, locals := 0 }
set_option maxHeartbeats 4000000 in
set_option maxRecDepth 100000 in
theorem t_M_cooling (G : LO ad L)  (h0 : 0 ≤ S 33 6 ∧ S 33 6 ≤ 4) : FM l y_M_cooling c_M_cooling 3 (some .int) rm_M_cooling D cd L (wd cd ad S f0) [.ref (ad 33)] (some (iv (qM S))) (wd cd ad S f0) := by
  refine g_of (by decide) (Nat.le_of_ble_eq_true rfl) ?_
  intro p e s m args below meth c A sz hA hsz C hr hl hnm
  have C : gC p s m args c D CL (TY cd) A c_M_cooling "AlloyPlansModel" 3 := C
  change gW _ _ _ _ _ _ _ _ _ _ _ _ _ _ _ _ _ _ _ 0 [(0, .ref (ad 33))] []
  obtain ⟨u0, v0⟩ := h0
  refine g_iconst C d_M_cooling_0 1 rfl ?_
  refine g_istore_n C d_M_cooling_1 2 rfl [(1, iv (0)), (0, .ref (ad 33))] rfl (by decide) rfl ?_
  refine g_iconst C d_M_cooling_2 3 rfl ?_
  refine g_istore_n C d_M_cooling_3 4 rfl [(2, iv (0)), (1, iv (0)), (0, .ref (ad 33))] rfl (by decide) rfl ?_
  have LP : ∀ (d n : Nat) (x : Int), n + d = 4 → x = sumN (fun j => S 46 j * S 39 j * S 44 j) n → (n : Int) ≤ S 33 6 → gW p l e rm_M_cooling s m args below meth c D CL A 3 (MQ below (gQ D CL L sz (fun r L' g => r = (some (iv (qM S))) ∧ L' = L ∧ g = (wd cd ad S f0))) args s rm_M_cooling.cells rm_M_cooling.slots (gA L sz)) 0 0 L (wd cd ad S f0) 4 [(2, iv ((n : Int))), (1, iv (x)), (0, .ref (ad 33))] [] := by
    intro d
    induction d with
    | zero =>
      intro n x hn hx hle
      refine g_iload_n C d_M_cooling_4 5 rfl rfl 0 rfl ?_
      refine g_aload_n C d_M_cooling_5 6 rfl rfl 2 rfl ?_
      refine gt_M_kinds C G d_M_cooling_6 9 rfl fl_M_61 ?_
      refine g_icmp_ge C d_M_cooling_9 12 rfl (show r32 ((n : Int)) from ⟨by omega, by omega⟩) (show r32 (S 33 6) from ⟨by omega, by omega⟩) 41 rfl (fun (w1 : S 33 6 ≤ (n : Int)) => ?_) (fun (w1 : ¬ S 33 6 ≤ (n : Int)) => absurd w1 (by omega))
      refine g_iload_n C d_M_cooling_41 42 rfl rfl 1 rfl ?_
      exact g_iret C hA hsz hr hl d_M_cooling_42 (by decide) (by decide) ⟨vi_e (by rw [hx, show n = kN S by unfold kN; omega]; rfl), rfl, rfl⟩
    | succ d ih =>
      intro n x hn hx hle
      refine g_iload_n C d_M_cooling_4 5 rfl rfl 0 rfl ?_
      refine g_aload_n C d_M_cooling_5 6 rfl rfl 2 rfl ?_
      refine gt_M_kinds C G d_M_cooling_6 9 rfl fl_M_61 ?_
      refine g_icmp_ge C d_M_cooling_9 12 rfl (show r32 ((n : Int)) from ⟨by omega, by omega⟩) (show r32 (S 33 6) from ⟨by omega, by omega⟩) 41 rfl (fun (w2 : S 33 6 ≤ (n : Int)) => ?_) (fun (w3 : ¬ S 33 6 ≤ (n : Int)) => ?_)
      · skip
        refine g_iload_n C d_M_cooling_41 42 rfl rfl 1 rfl ?_
        exact g_iret C hA hsz hr hl d_M_cooling_42 (by decide) (by decide) ⟨vi_e (by rw [hx, show n = kN S by unfold kN; omega]; rfl), rfl, rfl⟩
      · skip
        refine g_iload_n C d_M_cooling_12 13 rfl rfl 1 rfl ?_
        refine g_aload_n C d_M_cooling_13 14 rfl rfl 2 rfl ?_
        refine gt_M_tried C G d_M_cooling_14 17 rfl fl_M_50 ?_
        refine g_iload_n C d_M_cooling_17 18 rfl rfl 0 rfl ?_
        refine ld_46 C G d_M_cooling_18 19 rfl n (by omega) rfl ?_
        refine g_aload_n C d_M_cooling_19 20 rfl rfl 2 rfl ?_
        refine gt_M_each C G d_M_cooling_20 23 rfl fl_M_29 ?_
        refine g_iload_n C d_M_cooling_23 24 rfl rfl 0 rfl ?_
        refine ld_39 C G d_M_cooling_24 25 rfl n (by omega) rfl ?_
        refine g_imul C d_M_cooling_25 26 rfl ?_
        refine g_aload_n C d_M_cooling_26 27 rfl rfl 2 rfl ?_
        refine gt_M_cools C G d_M_cooling_27 30 rfl fl_M_44 ?_
        refine g_iload_n C d_M_cooling_30 31 rfl rfl 0 rfl ?_
        refine ld_44 C G d_M_cooling_31 32 rfl n (by omega) rfl ?_
        refine g_imul C d_M_cooling_32 33 rfl ?_
        refine g_iadd C d_M_cooling_33 34 rfl ?_
        refine g_istore_n C d_M_cooling_34 35 rfl [(1, iv (x + (((S 46 n) * (S 39 n)) * (S 44 n)))), (2, iv ((n : Int))), (0, .ref (ad 33))] rfl (by decide) rfl ?_
        refine g_iinc C d_M_cooling_35 38 rfl [(2, iv ((n : Int) + 1)), (1, iv (x + (((S 46 n) * (S 39 n)) * (S 44 n)))), (0, .ref (ad 33))] 1 rfl (by decide) rfl ?_
        refine g_goto C d_M_cooling_38 4 rfl ?_
        exact ih (n + 1) _ (by omega) (by rw [hx]; rfl) (by omega)
  exact LP 4 0 0 rfl rfl u0
abbrev rm_M_amount : Room := { frames := 0, cells := 0, slots := 0, locals := 0 }
set_option maxHeartbeats 4000000 in
set_option maxRecDepth 100000 in
theorem t_M_amount (G : LO ad L) (q : Nat) (x : Int) (h0 : 0 ≤ S 33 6 ∧ S 33 6 ≤ 4) (hq : q < 4) (hx0 : x = 0 ∨ x = 1) (h1 : 1 ≤ S 33 1 ∧ S 33 1 ≤ 65536) (h2 : ∀ e, e < 4 → (0 ≤ S 34 e ∧ S 34 e ≤ 100000) ∧ (0 ≤ S 35 e ∧ S 35 e ≤ 100000)) (ha : ∀ j : Nat, j < 4 → (j : Int) < S 33 6 → (0 ≤ S 46 j ∧ S 46 j ≤ 12) ∧ (1 ≤ S 39 j ∧ S 39 j ≤ 1000) ∧ (0 ≤ S 43 j ∧ S 43 j ≤ 1000)) (hb : ∀ m, m < 16 → (0 ≤ S 41 m ∧ S 41 m ≤ 100000) ∧ (0 ≤ S 42 m ∧ S 42 m ≤ 100000)) : FM l y_M_amount c_M_amount 6 (some .long) rm_M_amount D cd L (wd cd ad S f0) [.ref (ad 33), iv ((q : Int)), iv (x)] (some (jv (aM S q x))) (wd cd ad S f0) := by
  refine g_of (by decide) (Nat.le_of_ble_eq_true rfl) ?_
  intro p e s m args below meth c A sz hA hsz C hr hl hnm
  have C : gC p s m args c D CL (TY cd) A c_M_amount "AlloyPlansModel" 6 := C
  change gW _ _ _ _ _ _ _ _ _ _ _ _ _ _ _ _ _ _ _ 0 [(0, .ref (ad 33)), (1, iv ((q : Int))), (2, iv (x))] []
  obtain ⟨u0, v0⟩ := h0
  obtain ⟨u1, v1⟩ := h1
  refine g_ldc2 C (z := 1000) d_M_amount_0 3 rfl rfl kd_M_87 ?_
  refine g_aload_n C d_M_amount_3 4 rfl rfl 0 rfl ?_
  refine gt_M_kilos C G d_M_amount_4 7 rfl fl_M_7 ?_
  refine g_i2l C d_M_amount_7 8 rfl (show r32 (S 33 1) from ⟨by omega, by omega⟩) ?_
  refine g_lmul C d_M_amount_8 9 rfl ?_
  obtain ⟨⟨u3, v3⟩, u4, v4⟩ := h2 q (by omega)
  have hE : 0 ≤ (if x = 0 then S 34 q else S 35 q) ∧ (if x = 0 then S 34 q else S 35 q) ≤ 100000 := by split <;> omega
  obtain ⟨u5, v5⟩ := hE
  have JA : ∀ zj : Int, zj = (if x = 0 then S 34 q else S 35 q) → gW p l e rm_M_amount s m args below meth c D CL A 6 (MQ below (gQ D CL L sz (fun r L' g => r = (some (jv (aM S q x))) ∧ L' = L ∧ g = (wd cd ad S f0))) args s rm_M_amount.cells rm_M_amount.slots (gA L sz)) 0 0 L (wd cd ad S f0) 28 [(0, .ref (ad 33)), (1, iv ((q : Int))), (2, iv (x))] [iv zj, jv (1000 * (S 33 1))] := by
    intro zj hzj
    subst hzj
    refine g_i2l C d_M_amount_28 29 rfl (show r32 (if x = 0 then S 34 q else S 35 q) from ⟨by omega, by omega⟩) ?_
    refine g_lmul C d_M_amount_29 30 rfl ?_
    refine g_lstore_n C d_M_amount_30 31 rfl [(3, jv ((1000 * (S 33 1)) * (if x = 0 then S 34 q else S 35 q))), (0, .ref (ad 33)), (1, iv ((q : Int))), (2, iv (x))] rfl (by decide) rfl ?_
    refine g_iconst C d_M_amount_31 32 rfl ?_
    refine g_istore C d_M_amount_32 34 rfl [(5, iv (0)), (3, jv ((1000 * (S 33 1)) * (if x = 0 then S 34 q else S 35 q))), (0, .ref (ad 33)), (1, iv ((q : Int))), (2, iv (x))] (by decide) rfl ?_
    have LP : ∀ (d n : Nat) (y : Int), n + d = 4 → y = 1000 * S 33 1 * (if x = 0 then S 34 q else S 35 q) + sumN (aF S q x) n → (n : Int) ≤ S 33 6 → gW p l e rm_M_amount s m args below meth c D CL A 6 (MQ below (gQ D CL L sz (fun r L' g => r = (some (jv (aM S q x))) ∧ L' = L ∧ g = (wd cd ad S f0))) args s rm_M_amount.cells rm_M_amount.slots (gA L sz)) 0 0 L (wd cd ad S f0) 34 [(5, iv ((n : Int))), (3, jv (y)), (0, .ref (ad 33)), (1, iv ((q : Int))), (2, iv (x))] [] := by
      intro d
      induction d with
      | zero =>
        intro n y hn hy hle
        refine g_iload C d_M_amount_34 36 rfl 0 rfl ?_
        refine g_aload_n C d_M_amount_36 37 rfl rfl 2 rfl ?_
        refine gt_M_kinds C G d_M_amount_37 40 rfl fl_M_61 ?_
        refine g_icmp_ge C d_M_amount_40 43 rfl (show r32 ((n : Int)) from ⟨by omega, by omega⟩) (show r32 (S 33 6) from ⟨by omega, by omega⟩) 109 rfl (fun (w1 : S 33 6 ≤ (n : Int)) => ?_) (fun (w1 : ¬ S 33 6 ≤ (n : Int)) => absurd w1 (by omega))
        refine g_lload_n C d_M_amount_109 110 rfl rfl 1 rfl ?_
        exact g_lret C hA hsz hr hl d_M_amount_110 (by decide) (by decide) ⟨vj_e (by rw [hy, show n = kN S by unfold kN; omega]; rfl), rfl, rfl⟩
      | succ d ih =>
        intro n y hn hy hle
        have ha9 := fun h9 => ha n (by omega) h9
        refine g_iload C d_M_amount_34 36 rfl 0 rfl ?_
        refine g_aload_n C d_M_amount_36 37 rfl rfl 2 rfl ?_
        refine gt_M_kinds C G d_M_amount_37 40 rfl fl_M_61 ?_
        refine g_icmp_ge C d_M_amount_40 43 rfl (show r32 ((n : Int)) from ⟨by omega, by omega⟩) (show r32 (S 33 6) from ⟨by omega, by omega⟩) 109 rfl (fun (w2 : S 33 6 ≤ (n : Int)) => ?_) (fun (w3 : ¬ S 33 6 ≤ (n : Int)) => ?_)
        · skip
          refine g_lload_n C d_M_amount_109 110 rfl rfl 1 rfl ?_
          exact g_lret C hA hsz hr hl d_M_amount_110 (by decide) (by decide) ⟨vj_e (by rw [hy, show n = kN S by unfold kN; omega]; rfl), rfl, rfl⟩
        · skip
          obtain ⟨⟨a0, b0⟩, ⟨a1, b1⟩, a2, b2⟩ := ha9 (by omega)
          refine g_lload_n C d_M_amount_43 44 rfl rfl 1 rfl ?_
          refine g_aload_n C d_M_amount_44 45 rfl rfl 2 rfl ?_
          refine gt_M_tried C G d_M_amount_45 48 rfl fl_M_50 ?_
          refine g_iload C d_M_amount_48 50 rfl 0 rfl ?_
          refine ld_46 C G d_M_amount_50 51 rfl n (by omega) rfl ?_
          refine g_i2l C d_M_amount_51 52 rfl (show r32 (S 46 n) from ⟨by omega, by omega⟩) ?_
          refine g_aload_n C d_M_amount_52 53 rfl rfl 2 rfl ?_
          refine gt_M_each C G d_M_amount_53 56 rfl fl_M_29 ?_
          refine g_iload C d_M_amount_56 58 rfl 0 rfl ?_
          refine ld_39 C G d_M_amount_58 59 rfl n (by omega) rfl ?_
          refine g_i2l C d_M_amount_59 60 rfl (show r32 (S 39 n) from ⟨by omega, by omega⟩) ?_
          refine g_lmul C d_M_amount_60 61 rfl ?_
          refine g_aload_n C d_M_amount_61 62 rfl rfl 2 rfl ?_
          refine gt_M_stays C G d_M_amount_62 65 rfl fl_M_41 ?_
          refine g_iload C d_M_amount_65 67 rfl 0 rfl ?_
          refine ld_43 C G d_M_amount_67 68 rfl n (by omega) rfl ?_
          refine g_i2l C d_M_amount_68 69 rfl (show r32 (S 43 n) from ⟨by omega, by omega⟩) ?_
          refine g_lmul C d_M_amount_69 70 rfl ?_
          obtain ⟨⟨u6, v6⟩, u7, v7⟩ := hb (4 * n + q) (by omega)
          have hE : 0 ≤ (if x = 0 then S 41 (4 * n + q) else S 42 (4 * n + q)) ∧ (if x = 0 then S 41 (4 * n + q) else S 42 (4 * n + q)) ≤ 100000 := by split <;> omega
          obtain ⟨u8, v8⟩ := hE
          have JB : ∀ zj : Int, zj = (if x = 0 then S 41 (4 * n + q) else S 42 (4 * n + q)) → gW p l e rm_M_amount s m args below meth c D CL A 6 (MQ below (gQ D CL L sz (fun r L' g => r = (some (jv (aM S q x))) ∧ L' = L ∧ g = (wd cd ad S f0))) args s rm_M_amount.cells rm_M_amount.slots (gA L sz)) 0 0 L (wd cd ad S f0) 99 [(5, iv ((n : Int))), (3, jv (y)), (0, .ref (ad 33)), (1, iv ((q : Int))), (2, iv (x))] [iv zj, jv (((S 46 n) * (S 39 n)) * (S 43 n)), jv (y)] := by
            intro zj hzj
            subst hzj
            refine g_i2l C d_M_amount_99 100 rfl (show r32 (if x = 0 then S 41 (4 * n + q) else S 42 (4 * n + q)) from ⟨by omega, by omega⟩) ?_
            refine g_lmul C d_M_amount_100 101 rfl ?_
            refine g_ladd C d_M_amount_101 102 rfl ?_
            refine g_lstore_n C d_M_amount_102 103 rfl [(3, jv (y + ((((S 46 n) * (S 39 n)) * (S 43 n)) * (if x = 0 then S 41 (4 * n + q) else S 42 (4 * n + q))))), (5, iv ((n : Int))), (0, .ref (ad 33)), (1, iv ((q : Int))), (2, iv (x))] rfl (by decide) rfl ?_
            refine g_iinc C d_M_amount_103 106 rfl [(5, iv ((n : Int) + 1)), (3, jv (y + ((((S 46 n) * (S 39 n)) * (S 43 n)) * (if x = 0 then S 41 (4 * n + q) else S 42 (4 * n + q))))), (0, .ref (ad 33)), (1, iv ((q : Int))), (2, iv (x))] 1 rfl (by decide) rfl ?_
            refine g_goto C d_M_amount_106 34 rfl ?_
            exact ih (n + 1) _ (by omega) (by rw [hy]; show _ = _ + (sumN (aF S q x) n + aF S q x n); rw [← Int.add_assoc]; rfl) (by omega)
          refine g_iload_n C d_M_amount_70 71 rfl rfl 4 rfl ?_
          refine g_if_ne C d_M_amount_71 74 rfl (show r32 x from ⟨by omega, by omega⟩) 88 rfl (fun (w4 : ¬ x = 0) => ?_) (fun (w5 : x = 0) => ?_)
          · skip
            refine g_aload_n C d_M_amount_88 89 rfl rfl 2 rfl ?_
            refine gt_M_high C G d_M_amount_89 92 rfl fl_M_38 ?_
            refine g_iconst C d_M_amount_92 93 rfl ?_
            refine g_iload C d_M_amount_93 95 rfl 0 rfl ?_
            refine g_imul C d_M_amount_95 96 rfl ?_
            refine g_iload_n C d_M_amount_96 97 rfl rfl 3 rfl ?_
            refine g_iadd C d_M_amount_97 98 rfl ?_
            refine ld_42 C G d_M_amount_98 99 rfl (4 * n + q) (by omega) (show (4 * ((n : Int))) + ((q : Int)) = ((4 * n + q : Nat) : Int) by omega) ?_
            exact JB (S 42 (4 * n + q)) (by first | rw [if_pos (by omega)] | rw [if_neg (by omega)])
          · skip
            refine g_aload_n C d_M_amount_74 75 rfl rfl 2 rfl ?_
            refine gt_M_low C G d_M_amount_75 78 rfl fl_M_35 ?_
            refine g_iconst C d_M_amount_78 79 rfl ?_
            refine g_iload C d_M_amount_79 81 rfl 0 rfl ?_
            refine g_imul C d_M_amount_81 82 rfl ?_
            refine g_iload_n C d_M_amount_82 83 rfl rfl 3 rfl ?_
            refine g_iadd C d_M_amount_83 84 rfl ?_
            refine ld_41 C G d_M_amount_84 85 rfl (4 * n + q) (by omega) (show (4 * ((n : Int))) + ((q : Int)) = ((4 * n + q : Nat) : Int) by omega) ?_
            refine g_goto C d_M_amount_85 99 rfl ?_
            exact JB (S 41 (4 * n + q)) (by first | rw [if_pos (by omega)] | rw [if_neg (by omega)])
    exact LP 4 0 _ rfl (by show _ = _ + 0; rw [Int.add_zero]) u0
  refine g_iload_n C d_M_amount_9 10 rfl rfl 2 rfl ?_
  refine g_if_ne C d_M_amount_10 13 rfl (show r32 x from ⟨by omega, by omega⟩) 22 rfl (fun (w6 : ¬ x = 0) => ?_) (fun (w7 : x = 0) => ?_)
  · skip
    refine g_aload_n C d_M_amount_22 23 rfl rfl 0 rfl ?_
    refine gt_M_presentHigh C G d_M_amount_23 26 rfl fl_M_17 ?_
    refine g_iload_n C d_M_amount_26 27 rfl rfl 1 rfl ?_
    refine ld_35 C G d_M_amount_27 28 rfl q (by omega) rfl ?_
    exact JA (S 35 q) (by first | rw [if_pos (by omega)] | rw [if_neg (by omega)])
  · skip
    refine g_aload_n C d_M_amount_13 14 rfl rfl 0 rfl ?_
    refine gt_M_presentLow C G d_M_amount_14 17 rfl fl_M_13 ?_
    refine g_iload_n C d_M_amount_17 18 rfl rfl 1 rfl ?_
    refine ld_34 C G d_M_amount_18 19 rfl q (by omega) rfl ?_
    refine g_goto C d_M_amount_19 28 rfl ?_
    exact JA (S 34 q) (by first | rw [if_pos (by omega)] | rw [if_neg (by omega)])
abbrev rm_M_sets : Room := { frames := 0, cells := 0, slots := 0, locals := 0 }
set_option maxHeartbeats 4000000 in
set_option maxRecDepth 100000 in
theorem t_M_sets (G : LO ad L) (x : Int) (h0 : 0 ≤ S 33 6 ∧ S 33 6 ≤ 4) (hx : 0 ≤ x ∧ x ≤ 1000000) (hlm : ∀ k : Nat, k < 4 → (k : Int) < S 33 6 → 0 ≤ S 40 k ∧ S 40 k ≤ 12) : FM l y_M_sets c_M_sets 4 (some .boolean) rm_M_sets D cd L (wd cd ad S f0) [.ref (ad 33), iv (x)] (some (iv (bi (setsOK S x)))) (wd cd ad (setD S x) f0) := by
  refine g_of (by decide) (Nat.le_of_ble_eq_true rfl) ?_
  intro p e s m args below meth c A sz hA hsz C hr hl hnm
  have C : gC p s m args c D CL (TY cd) A c_M_sets "AlloyPlansModel" 4 := C
  change gW _ _ _ _ _ _ _ _ _ _ _ _ _ _ _ _ _ _ _ 0 [(0, .ref (ad 33)), (1, iv (x))] []
  obtain ⟨u0, v0⟩ := h0
  obtain ⟨u1, v1⟩ := hx
  have hn0 : 0 ≤ Int.tmod x 13 := Int.tmod_nonneg _ (by assumption)
  have hm0 : Int.tmod x 13 < 13 := Int.tmod_lt_of_pos _ (by decide)
  have hd0 : 0 ≤ Int.tdiv x 13 := Int.tdiv_nonneg (by assumption) (by decide)
  have he0 : Int.tdiv x 13 ≤ x := Int.tdiv_le_self _ (by assumption)
  have hn1 : 0 ≤ Int.tmod (Int.tdiv x 13) 13 := Int.tmod_nonneg _ (by assumption)
  have hm1 : Int.tmod (Int.tdiv x 13) 13 < 13 := Int.tmod_lt_of_pos _ (by decide)
  have hd1 : 0 ≤ Int.tdiv (Int.tdiv x 13) 13 := Int.tdiv_nonneg (by assumption) (by decide)
  have he1 : Int.tdiv (Int.tdiv x 13) 13 ≤ (Int.tdiv x 13) := Int.tdiv_le_self _ (by assumption)
  have hn2 : 0 ≤ Int.tmod (Int.tdiv (Int.tdiv x 13) 13) 13 := Int.tmod_nonneg _ (by assumption)
  have hm2 : Int.tmod (Int.tdiv (Int.tdiv x 13) 13) 13 < 13 := Int.tmod_lt_of_pos _ (by decide)
  have hd2 : 0 ≤ Int.tdiv (Int.tdiv (Int.tdiv x 13) 13) 13 := Int.tdiv_nonneg (by assumption) (by decide)
  have he2 : Int.tdiv (Int.tdiv (Int.tdiv x 13) 13) 13 ≤ (Int.tdiv (Int.tdiv x 13) 13) := Int.tdiv_le_self _ (by assumption)
  have hn3 : 0 ≤ Int.tmod (Int.tdiv (Int.tdiv (Int.tdiv x 13) 13) 13) 13 := Int.tmod_nonneg _ (by assumption)
  have hm3 : Int.tmod (Int.tdiv (Int.tdiv (Int.tdiv x 13) 13) 13) 13 < 13 := Int.tmod_lt_of_pos _ (by decide)
  have hl0 : 0 ≤ limM S 0 ∧ limM S 0 ≤ 12 := by unfold limM; split; exact hlm 0 (by decide) (by assumption); exact ⟨by decide, by decide⟩
  have hl1 : 0 ≤ limM S 1 ∧ limM S 1 ≤ 12 := by unfold limM; split; exact hlm 1 (by decide) (by assumption); exact ⟨by decide, by decide⟩
  have hl2 : 0 ≤ limM S 2 ∧ limM S 2 ≤ 12 := by unfold limM; split; exact hlm 2 (by decide) (by assumption); exact ⟨by decide, by decide⟩
  have hl3 : 0 ≤ limM S 3 ∧ limM S 3 ≤ 12 := by unfold limM; split; exact hlm 3 (by decide) (by assumption); exact ⟨by decide, by decide⟩
  refine g_iload_n C d_M_sets_0 1 rfl rfl 1 rfl ?_
  refine g_istore_n C d_M_sets_1 2 rfl [(2, iv (x)), (0, .ref (ad 33)), (1, iv (x))] rfl (by decide) rfl ?_
  refine g_iconst C d_M_sets_2 3 rfl ?_
  refine g_istore_n C d_M_sets_3 4 rfl [(3, iv (3)), (2, iv (x)), (0, .ref (ad 33)), (1, iv (x))] rfl (by decide) rfl ?_
  refine g_iload_n C d_M_sets_4 5 rfl rfl 0 rfl ?_
  refine g_if_lt C d_M_sets_5 8 rfl (show r32 3 from ⟨by decide, by decide⟩) 29 rfl (fun (w1 : (3 : Int) < 0) => absurd w1 (by decide)) (fun (w1 : ¬ (3 : Int) < 0) => ?_)
  refine g_aload_n C d_M_sets_8 9 rfl rfl 2 rfl ?_
  refine gt_M_tried C G d_M_sets_9 12 rfl fl_M_50 ?_
  refine g_iload_n C d_M_sets_12 13 rfl rfl 0 rfl ?_
  refine g_iload_n C d_M_sets_13 14 rfl rfl 1 rfl ?_
  refine g_bipush C d_M_sets_14 16 rfl rfl ?_
  refine g_irem C d_M_sets_16 17 rfl (show r32 x from ⟨by omega, by omega⟩) (show r32 13 from ⟨by decide, by decide⟩) (show 13 ≠ (0 : Int) by decide) ?_
  refine st_46 C G (x := Int.tmod x 13) d_M_sets_17 18 rfl 3 (by decide) rfl ?_
  refine g_iload_n C d_M_sets_18 19 rfl rfl 1 rfl ?_
  refine g_bipush C d_M_sets_19 21 rfl rfl ?_
  refine g_idiv C d_M_sets_21 22 rfl (show r32 x from ⟨by omega, by omega⟩) (show r32 13 from ⟨by decide, by decide⟩) (show 13 ≠ (0 : Int) by decide) ?_
  refine g_istore_n C d_M_sets_22 23 rfl [(2, iv (Int.tdiv x 13)), (3, iv (3)), (0, .ref (ad 33)), (1, iv (x))] rfl (by decide) rfl ?_
  refine g_iinc C d_M_sets_23 26 rfl [(3, iv (2)), (2, iv (Int.tdiv x 13)), (0, .ref (ad 33)), (1, iv (x))] 1 rfl (by decide) rfl ?_
  refine g_goto C d_M_sets_26 4 rfl ?_
  refine g_iload_n C d_M_sets_4 5 rfl rfl 0 rfl ?_
  refine g_if_lt C d_M_sets_5 8 rfl (show r32 2 from ⟨by decide, by decide⟩) 29 rfl (fun (w2 : (2 : Int) < 0) => absurd w2 (by decide)) (fun (w2 : ¬ (2 : Int) < 0) => ?_)
  refine g_aload_n C d_M_sets_8 9 rfl rfl 2 rfl ?_
  refine gt_M_tried C G d_M_sets_9 12 rfl fl_M_50 ?_
  refine g_iload_n C d_M_sets_12 13 rfl rfl 0 rfl ?_
  refine g_iload_n C d_M_sets_13 14 rfl rfl 1 rfl ?_
  refine g_bipush C d_M_sets_14 16 rfl rfl ?_
  refine g_irem C d_M_sets_16 17 rfl (show r32 (Int.tdiv x 13) from ⟨by omega, by omega⟩) (show r32 13 from ⟨by decide, by decide⟩) (show 13 ≠ (0 : Int) by decide) ?_
  refine st_46 C G (x := Int.tmod (Int.tdiv x 13) 13) d_M_sets_17 18 rfl 2 (by decide) rfl ?_
  refine g_iload_n C d_M_sets_18 19 rfl rfl 1 rfl ?_
  refine g_bipush C d_M_sets_19 21 rfl rfl ?_
  refine g_idiv C d_M_sets_21 22 rfl (show r32 (Int.tdiv x 13) from ⟨by omega, by omega⟩) (show r32 13 from ⟨by decide, by decide⟩) (show 13 ≠ (0 : Int) by decide) ?_
  refine g_istore_n C d_M_sets_22 23 rfl [(2, iv (Int.tdiv (Int.tdiv x 13) 13)), (3, iv (2)), (0, .ref (ad 33)), (1, iv (x))] rfl (by decide) rfl ?_
  refine g_iinc C d_M_sets_23 26 rfl [(3, iv (1)), (2, iv (Int.tdiv (Int.tdiv x 13) 13)), (0, .ref (ad 33)), (1, iv (x))] 1 rfl (by decide) rfl ?_
  refine g_goto C d_M_sets_26 4 rfl ?_
  refine g_iload_n C d_M_sets_4 5 rfl rfl 0 rfl ?_
  refine g_if_lt C d_M_sets_5 8 rfl (show r32 1 from ⟨by decide, by decide⟩) 29 rfl (fun (w3 : (1 : Int) < 0) => absurd w3 (by decide)) (fun (w3 : ¬ (1 : Int) < 0) => ?_)
  refine g_aload_n C d_M_sets_8 9 rfl rfl 2 rfl ?_
  refine gt_M_tried C G d_M_sets_9 12 rfl fl_M_50 ?_
  refine g_iload_n C d_M_sets_12 13 rfl rfl 0 rfl ?_
  refine g_iload_n C d_M_sets_13 14 rfl rfl 1 rfl ?_
  refine g_bipush C d_M_sets_14 16 rfl rfl ?_
  refine g_irem C d_M_sets_16 17 rfl (show r32 (Int.tdiv (Int.tdiv x 13) 13) from ⟨by omega, by omega⟩) (show r32 13 from ⟨by decide, by decide⟩) (show 13 ≠ (0 : Int) by decide) ?_
  refine st_46 C G (x := Int.tmod (Int.tdiv (Int.tdiv x 13) 13) 13) d_M_sets_17 18 rfl 1 (by decide) rfl ?_
  refine g_iload_n C d_M_sets_18 19 rfl rfl 1 rfl ?_
  refine g_bipush C d_M_sets_19 21 rfl rfl ?_
  refine g_idiv C d_M_sets_21 22 rfl (show r32 (Int.tdiv (Int.tdiv x 13) 13) from ⟨by omega, by omega⟩) (show r32 13 from ⟨by decide, by decide⟩) (show 13 ≠ (0 : Int) by decide) ?_
  refine g_istore_n C d_M_sets_22 23 rfl [(2, iv (Int.tdiv (Int.tdiv (Int.tdiv x 13) 13) 13)), (3, iv (1)), (0, .ref (ad 33)), (1, iv (x))] rfl (by decide) rfl ?_
  refine g_iinc C d_M_sets_23 26 rfl [(3, iv (0)), (2, iv (Int.tdiv (Int.tdiv (Int.tdiv x 13) 13) 13)), (0, .ref (ad 33)), (1, iv (x))] 1 rfl (by decide) rfl ?_
  refine g_goto C d_M_sets_26 4 rfl ?_
  refine g_iload_n C d_M_sets_4 5 rfl rfl 0 rfl ?_
  refine g_if_lt C d_M_sets_5 8 rfl (show r32 0 from ⟨by decide, by decide⟩) 29 rfl (fun (w4 : (0 : Int) < 0) => absurd w4 (by decide)) (fun (w4 : ¬ (0 : Int) < 0) => ?_)
  refine g_aload_n C d_M_sets_8 9 rfl rfl 2 rfl ?_
  refine gt_M_tried C G d_M_sets_9 12 rfl fl_M_50 ?_
  refine g_iload_n C d_M_sets_12 13 rfl rfl 0 rfl ?_
  refine g_iload_n C d_M_sets_13 14 rfl rfl 1 rfl ?_
  refine g_bipush C d_M_sets_14 16 rfl rfl ?_
  refine g_irem C d_M_sets_16 17 rfl (show r32 (Int.tdiv (Int.tdiv (Int.tdiv x 13) 13) 13) from ⟨by omega, by omega⟩) (show r32 13 from ⟨by decide, by decide⟩) (show 13 ≠ (0 : Int) by decide) ?_
  refine st_46 C G (x := Int.tmod (Int.tdiv (Int.tdiv (Int.tdiv x 13) 13) 13) 13) d_M_sets_17 18 rfl 0 (by decide) rfl ?_
  refine g_iload_n C d_M_sets_18 19 rfl rfl 1 rfl ?_
  refine g_bipush C d_M_sets_19 21 rfl rfl ?_
  refine g_idiv C d_M_sets_21 22 rfl (show r32 (Int.tdiv (Int.tdiv (Int.tdiv x 13) 13) 13) from ⟨by omega, by omega⟩) (show r32 13 from ⟨by decide, by decide⟩) (show 13 ≠ (0 : Int) by decide) ?_
  refine g_istore_n C d_M_sets_22 23 rfl [(2, iv (Int.tdiv (Int.tdiv (Int.tdiv (Int.tdiv x 13) 13) 13) 13)), (3, iv (0)), (0, .ref (ad 33)), (1, iv (x))] rfl (by decide) rfl ?_
  refine g_iinc C d_M_sets_23 26 rfl [(3, iv (-1)), (2, iv (Int.tdiv (Int.tdiv (Int.tdiv (Int.tdiv x 13) 13) 13) 13)), (0, .ref (ad 33)), (1, iv (x))] 1 rfl (by decide) rfl ?_
  refine g_goto C d_M_sets_26 4 rfl ?_
  refine g_iload_n C d_M_sets_4 5 rfl rfl 0 rfl ?_
  refine g_if_lt C d_M_sets_5 8 rfl (show r32 (-1) from ⟨by decide, by decide⟩) 29 rfl (fun (w5 : (-1 : Int) < 0) => ?_) (fun (w5 : ¬ (-1 : Int) < 0) => absurd w5 (by decide))
  refine g_iconst C d_M_sets_29 30 rfl ?_
  refine g_istore_n C d_M_sets_30 31 rfl [(3, iv (0)), (2, iv (Int.tdiv (Int.tdiv (Int.tdiv (Int.tdiv x 13) 13) 13) 13)), (0, .ref (ad 33)), (1, iv (x))] rfl (by decide) rfl ?_
  refine g_iload_n C d_M_sets_31 32 rfl rfl 0 rfl ?_
  refine g_iconst C d_M_sets_32 33 rfl ?_
  refine g_icmp_ge C d_M_sets_33 36 rfl (show r32 0 from ⟨by decide, by decide⟩) (show r32 4 from ⟨by decide, by decide⟩) 71 rfl (fun (w6 : 4 ≤ (0 : Int)) => absurd w6 (by decide)) (fun (w6 : ¬ 4 ≤ (0 : Int)) => ?_)
  refine g_aload_n C d_M_sets_36 37 rfl rfl 2 rfl ?_
  refine gt_M_tried C G d_M_sets_37 40 rfl fl_M_50 ?_
  refine g_iload_n C d_M_sets_40 41 rfl rfl 0 rfl ?_
  refine ld_46 C G d_M_sets_41 42 rfl 0 (by decide) rfl ?_
  have JL0 : ∀ zj : Int, zj = (limM S 0) → gW p l e rm_M_sets s m args below meth c D CL A 4 (MQ below (gQ D CL L sz (fun r L' g => r = (some (iv (bi (setsOK S x)))) ∧ L' = L ∧ g = (wd cd ad (setD S x) f0))) args s rm_M_sets.cells rm_M_sets.slots (gA L sz)) 0 0 L (wd cd ad (u2 (u2 (u2 (u2 S 46 3 (Int.tmod x 13)) 46 2 (Int.tmod (Int.tdiv x 13) 13)) 46 1 (Int.tmod (Int.tdiv (Int.tdiv x 13) 13) 13)) 46 0 (Int.tmod (Int.tdiv (Int.tdiv (Int.tdiv x 13) 13) 13) 13)) f0) 60 [(3, iv (0)), (2, iv (Int.tdiv (Int.tdiv (Int.tdiv (Int.tdiv x 13) 13) 13) 13)), (0, .ref (ad 33)), (1, iv (x))] [iv zj, iv (Int.tmod (Int.tdiv (Int.tdiv (Int.tdiv x 13) 13) 13) 13)] := by
    intro zj hzj
    subst hzj
    refine g_icmp_le C d_M_sets_60 63 rfl (show r32 (Int.tmod (Int.tdiv (Int.tdiv (Int.tdiv x 13) 13) 13) 13) from ⟨by omega, by omega⟩) (show r32 (limM S 0) from ⟨by omega, by omega⟩) 65 rfl (fun (w7 : Int.tmod (Int.tdiv (Int.tdiv (Int.tdiv x 13) 13) 13) 13 ≤ limM S 0) => ?_) (fun (w8 : ¬ Int.tmod (Int.tdiv (Int.tdiv (Int.tdiv x 13) 13) 13) 13 ≤ limM S 0) => ?_)
    · skip
      refine g_iinc C d_M_sets_65 68 rfl [(3, iv (1)), (2, iv (Int.tdiv (Int.tdiv (Int.tdiv (Int.tdiv x 13) 13) 13) 13)), (0, .ref (ad 33)), (1, iv (x))] 0 rfl (by decide) rfl ?_
      refine g_goto C d_M_sets_68 31 rfl ?_
      refine g_iload_n C d_M_sets_31 32 rfl rfl 0 rfl ?_
      refine g_iconst C d_M_sets_32 33 rfl ?_
      refine g_icmp_ge C d_M_sets_33 36 rfl (show r32 1 from ⟨by decide, by decide⟩) (show r32 4 from ⟨by decide, by decide⟩) 71 rfl (fun (w9 : 4 ≤ (1 : Int)) => absurd w9 (by decide)) (fun (w9 : ¬ 4 ≤ (1 : Int)) => ?_)
      refine g_aload_n C d_M_sets_36 37 rfl rfl 2 rfl ?_
      refine gt_M_tried C G d_M_sets_37 40 rfl fl_M_50 ?_
      refine g_iload_n C d_M_sets_40 41 rfl rfl 0 rfl ?_
      refine ld_46 C G d_M_sets_41 42 rfl 1 (by decide) rfl ?_
      have JL1 : ∀ zj : Int, zj = (limM S 1) → gW p l e rm_M_sets s m args below meth c D CL A 4 (MQ below (gQ D CL L sz (fun r L' g => r = (some (iv (bi (setsOK S x)))) ∧ L' = L ∧ g = (wd cd ad (setD S x) f0))) args s rm_M_sets.cells rm_M_sets.slots (gA L sz)) 0 0 L (wd cd ad (u2 (u2 (u2 (u2 S 46 3 (Int.tmod x 13)) 46 2 (Int.tmod (Int.tdiv x 13) 13)) 46 1 (Int.tmod (Int.tdiv (Int.tdiv x 13) 13) 13)) 46 0 (Int.tmod (Int.tdiv (Int.tdiv (Int.tdiv x 13) 13) 13) 13)) f0) 60 [(3, iv (1)), (2, iv (Int.tdiv (Int.tdiv (Int.tdiv (Int.tdiv x 13) 13) 13) 13)), (0, .ref (ad 33)), (1, iv (x))] [iv zj, iv (Int.tmod (Int.tdiv (Int.tdiv x 13) 13) 13)] := by
        intro zj hzj
        subst hzj
        refine g_icmp_le C d_M_sets_60 63 rfl (show r32 (Int.tmod (Int.tdiv (Int.tdiv x 13) 13) 13) from ⟨by omega, by omega⟩) (show r32 (limM S 1) from ⟨by omega, by omega⟩) 65 rfl (fun (w10 : Int.tmod (Int.tdiv (Int.tdiv x 13) 13) 13 ≤ limM S 1) => ?_) (fun (w11 : ¬ Int.tmod (Int.tdiv (Int.tdiv x 13) 13) 13 ≤ limM S 1) => ?_)
        · skip
          refine g_iinc C d_M_sets_65 68 rfl [(3, iv (2)), (2, iv (Int.tdiv (Int.tdiv (Int.tdiv (Int.tdiv x 13) 13) 13) 13)), (0, .ref (ad 33)), (1, iv (x))] 0 rfl (by decide) rfl ?_
          refine g_goto C d_M_sets_68 31 rfl ?_
          refine g_iload_n C d_M_sets_31 32 rfl rfl 0 rfl ?_
          refine g_iconst C d_M_sets_32 33 rfl ?_
          refine g_icmp_ge C d_M_sets_33 36 rfl (show r32 2 from ⟨by decide, by decide⟩) (show r32 4 from ⟨by decide, by decide⟩) 71 rfl (fun (w12 : 4 ≤ (2 : Int)) => absurd w12 (by decide)) (fun (w12 : ¬ 4 ≤ (2 : Int)) => ?_)
          refine g_aload_n C d_M_sets_36 37 rfl rfl 2 rfl ?_
          refine gt_M_tried C G d_M_sets_37 40 rfl fl_M_50 ?_
          refine g_iload_n C d_M_sets_40 41 rfl rfl 0 rfl ?_
          refine ld_46 C G d_M_sets_41 42 rfl 2 (by decide) rfl ?_
          have JL2 : ∀ zj : Int, zj = (limM S 2) → gW p l e rm_M_sets s m args below meth c D CL A 4 (MQ below (gQ D CL L sz (fun r L' g => r = (some (iv (bi (setsOK S x)))) ∧ L' = L ∧ g = (wd cd ad (setD S x) f0))) args s rm_M_sets.cells rm_M_sets.slots (gA L sz)) 0 0 L (wd cd ad (u2 (u2 (u2 (u2 S 46 3 (Int.tmod x 13)) 46 2 (Int.tmod (Int.tdiv x 13) 13)) 46 1 (Int.tmod (Int.tdiv (Int.tdiv x 13) 13) 13)) 46 0 (Int.tmod (Int.tdiv (Int.tdiv (Int.tdiv x 13) 13) 13) 13)) f0) 60 [(3, iv (2)), (2, iv (Int.tdiv (Int.tdiv (Int.tdiv (Int.tdiv x 13) 13) 13) 13)), (0, .ref (ad 33)), (1, iv (x))] [iv zj, iv (Int.tmod (Int.tdiv x 13) 13)] := by
            intro zj hzj
            subst hzj
            refine g_icmp_le C d_M_sets_60 63 rfl (show r32 (Int.tmod (Int.tdiv x 13) 13) from ⟨by omega, by omega⟩) (show r32 (limM S 2) from ⟨by omega, by omega⟩) 65 rfl (fun (w13 : Int.tmod (Int.tdiv x 13) 13 ≤ limM S 2) => ?_) (fun (w14 : ¬ Int.tmod (Int.tdiv x 13) 13 ≤ limM S 2) => ?_)
            · skip
              refine g_iinc C d_M_sets_65 68 rfl [(3, iv (3)), (2, iv (Int.tdiv (Int.tdiv (Int.tdiv (Int.tdiv x 13) 13) 13) 13)), (0, .ref (ad 33)), (1, iv (x))] 0 rfl (by decide) rfl ?_
              refine g_goto C d_M_sets_68 31 rfl ?_
              refine g_iload_n C d_M_sets_31 32 rfl rfl 0 rfl ?_
              refine g_iconst C d_M_sets_32 33 rfl ?_
              refine g_icmp_ge C d_M_sets_33 36 rfl (show r32 3 from ⟨by decide, by decide⟩) (show r32 4 from ⟨by decide, by decide⟩) 71 rfl (fun (w15 : 4 ≤ (3 : Int)) => absurd w15 (by decide)) (fun (w15 : ¬ 4 ≤ (3 : Int)) => ?_)
              refine g_aload_n C d_M_sets_36 37 rfl rfl 2 rfl ?_
              refine gt_M_tried C G d_M_sets_37 40 rfl fl_M_50 ?_
              refine g_iload_n C d_M_sets_40 41 rfl rfl 0 rfl ?_
              refine ld_46 C G d_M_sets_41 42 rfl 3 (by decide) rfl ?_
              have JL3 : ∀ zj : Int, zj = (limM S 3) → gW p l e rm_M_sets s m args below meth c D CL A 4 (MQ below (gQ D CL L sz (fun r L' g => r = (some (iv (bi (setsOK S x)))) ∧ L' = L ∧ g = (wd cd ad (setD S x) f0))) args s rm_M_sets.cells rm_M_sets.slots (gA L sz)) 0 0 L (wd cd ad (u2 (u2 (u2 (u2 S 46 3 (Int.tmod x 13)) 46 2 (Int.tmod (Int.tdiv x 13) 13)) 46 1 (Int.tmod (Int.tdiv (Int.tdiv x 13) 13) 13)) 46 0 (Int.tmod (Int.tdiv (Int.tdiv (Int.tdiv x 13) 13) 13) 13)) f0) 60 [(3, iv (3)), (2, iv (Int.tdiv (Int.tdiv (Int.tdiv (Int.tdiv x 13) 13) 13) 13)), (0, .ref (ad 33)), (1, iv (x))] [iv zj, iv (Int.tmod x 13)] := by
                intro zj hzj
                subst hzj
                refine g_icmp_le C d_M_sets_60 63 rfl (show r32 (Int.tmod x 13) from ⟨by omega, by omega⟩) (show r32 (limM S 3) from ⟨by omega, by omega⟩) 65 rfl (fun (w16 : Int.tmod x 13 ≤ limM S 3) => ?_) (fun (w17 : ¬ Int.tmod x 13 ≤ limM S 3) => ?_)
                · skip
                  refine g_iinc C d_M_sets_65 68 rfl [(3, iv (4)), (2, iv (Int.tdiv (Int.tdiv (Int.tdiv (Int.tdiv x 13) 13) 13) 13)), (0, .ref (ad 33)), (1, iv (x))] 0 rfl (by decide) rfl ?_
                  refine g_goto C d_M_sets_68 31 rfl ?_
                  refine g_iload_n C d_M_sets_31 32 rfl rfl 0 rfl ?_
                  refine g_iconst C d_M_sets_32 33 rfl ?_
                  refine g_icmp_ge C d_M_sets_33 36 rfl (show r32 4 from ⟨by decide, by decide⟩) (show r32 4 from ⟨by decide, by decide⟩) 71 rfl (fun (w18 : (4 : Int) ≤ 4) => ?_) (fun (w18 : ¬ (4 : Int) ≤ 4) => absurd w18 (by decide))
                  refine g_iconst C d_M_sets_71 72 rfl ?_
                  exact g_zret C hA hsz hr hl (Or.inr rfl) d_M_sets_72 (by decide) (by decide) ⟨zi_t (by unfold setsOK dg0 dg1 dg2 dg3; omega), rfl, rfl⟩
                · skip
                  refine g_iconst C d_M_sets_63 64 rfl ?_
                  exact g_zret C hA hsz hr hl (Or.inl rfl) d_M_sets_64 (by decide) (by decide) ⟨zi_f (by unfold setsOK dg0 dg1 dg2 dg3; omega), rfl, rfl⟩
              refine g_iload_n C d_M_sets_42 43 rfl rfl 0 rfl ?_
              refine g_aload_n C d_M_sets_43 44 rfl rfl 2 rfl ?_
              refine gt_M_kinds C G d_M_sets_44 47 rfl fl_M_61 ?_
              refine g_icmp_ge C d_M_sets_47 50 rfl (show r32 3 from ⟨by decide, by decide⟩) (show r32 (S 33 6) from ⟨by omega, by omega⟩) 59 rfl (fun (w19 : S 33 6 ≤ 3) => ?_) (fun (w20 : ¬ S 33 6 ≤ 3) => ?_)
              · skip
                refine g_iconst C d_M_sets_59 60 rfl ?_
                exact JL3 0 (by unfold limM; first | (rw [if_pos (by omega)]; done) | (rw [if_neg (by omega)]; done))
              · skip
                refine g_aload_n C d_M_sets_50 51 rfl rfl 2 rfl ?_
                refine gt_M_most C G d_M_sets_51 54 rfl fl_M_32 ?_
                refine g_iload_n C d_M_sets_54 55 rfl rfl 0 rfl ?_
                refine ld_40 C G d_M_sets_55 56 rfl 3 (by decide) rfl ?_
                refine g_goto C d_M_sets_56 60 rfl ?_
                exact JL3 (S 40 3) (by unfold limM; first | (rw [if_pos (by omega)]; done) | (rw [if_neg (by omega)]; done))
            · skip
              refine g_iconst C d_M_sets_63 64 rfl ?_
              exact g_zret C hA hsz hr hl (Or.inl rfl) d_M_sets_64 (by decide) (by decide) ⟨zi_f (by unfold setsOK dg0 dg1 dg2 dg3; omega), rfl, rfl⟩
          refine g_iload_n C d_M_sets_42 43 rfl rfl 0 rfl ?_
          refine g_aload_n C d_M_sets_43 44 rfl rfl 2 rfl ?_
          refine gt_M_kinds C G d_M_sets_44 47 rfl fl_M_61 ?_
          refine g_icmp_ge C d_M_sets_47 50 rfl (show r32 2 from ⟨by decide, by decide⟩) (show r32 (S 33 6) from ⟨by omega, by omega⟩) 59 rfl (fun (w21 : S 33 6 ≤ 2) => ?_) (fun (w22 : ¬ S 33 6 ≤ 2) => ?_)
          · skip
            refine g_iconst C d_M_sets_59 60 rfl ?_
            exact JL2 0 (by unfold limM; first | (rw [if_pos (by omega)]; done) | (rw [if_neg (by omega)]; done))
          · skip
            refine g_aload_n C d_M_sets_50 51 rfl rfl 2 rfl ?_
            refine gt_M_most C G d_M_sets_51 54 rfl fl_M_32 ?_
            refine g_iload_n C d_M_sets_54 55 rfl rfl 0 rfl ?_
            refine ld_40 C G d_M_sets_55 56 rfl 2 (by decide) rfl ?_
            refine g_goto C d_M_sets_56 60 rfl ?_
            exact JL2 (S 40 2) (by unfold limM; first | (rw [if_pos (by omega)]; done) | (rw [if_neg (by omega)]; done))
        · skip
          refine g_iconst C d_M_sets_63 64 rfl ?_
          exact g_zret C hA hsz hr hl (Or.inl rfl) d_M_sets_64 (by decide) (by decide) ⟨zi_f (by unfold setsOK dg0 dg1 dg2 dg3; omega), rfl, rfl⟩
      refine g_iload_n C d_M_sets_42 43 rfl rfl 0 rfl ?_
      refine g_aload_n C d_M_sets_43 44 rfl rfl 2 rfl ?_
      refine gt_M_kinds C G d_M_sets_44 47 rfl fl_M_61 ?_
      refine g_icmp_ge C d_M_sets_47 50 rfl (show r32 1 from ⟨by decide, by decide⟩) (show r32 (S 33 6) from ⟨by omega, by omega⟩) 59 rfl (fun (w23 : S 33 6 ≤ 1) => ?_) (fun (w24 : ¬ S 33 6 ≤ 1) => ?_)
      · skip
        refine g_iconst C d_M_sets_59 60 rfl ?_
        exact JL1 0 (by unfold limM; first | (rw [if_pos (by omega)]; done) | (rw [if_neg (by omega)]; done))
      · skip
        refine g_aload_n C d_M_sets_50 51 rfl rfl 2 rfl ?_
        refine gt_M_most C G d_M_sets_51 54 rfl fl_M_32 ?_
        refine g_iload_n C d_M_sets_54 55 rfl rfl 0 rfl ?_
        refine ld_40 C G d_M_sets_55 56 rfl 1 (by decide) rfl ?_
        refine g_goto C d_M_sets_56 60 rfl ?_
        exact JL1 (S 40 1) (by unfold limM; first | (rw [if_pos (by omega)]; done) | (rw [if_neg (by omega)]; done))
    · skip
      refine g_iconst C d_M_sets_63 64 rfl ?_
      exact g_zret C hA hsz hr hl (Or.inl rfl) d_M_sets_64 (by decide) (by decide) ⟨zi_f (by unfold setsOK dg0 dg1 dg2 dg3; omega), rfl, rfl⟩
  refine g_iload_n C d_M_sets_42 43 rfl rfl 0 rfl ?_
  refine g_aload_n C d_M_sets_43 44 rfl rfl 2 rfl ?_
  refine gt_M_kinds C G d_M_sets_44 47 rfl fl_M_61 ?_
  refine g_icmp_ge C d_M_sets_47 50 rfl (show r32 0 from ⟨by decide, by decide⟩) (show r32 (S 33 6) from ⟨by omega, by omega⟩) 59 rfl (fun (w25 : S 33 6 ≤ 0) => ?_) (fun (w26 : ¬ S 33 6 ≤ 0) => ?_)
  · skip
    refine g_iconst C d_M_sets_59 60 rfl ?_
    exact JL0 0 (by unfold limM; first | (rw [if_pos (by omega)]; done) | (rw [if_neg (by omega)]; done))
  · skip
    refine g_aload_n C d_M_sets_50 51 rfl rfl 2 rfl ?_
    refine gt_M_most C G d_M_sets_51 54 rfl fl_M_32 ?_
    refine g_iload_n C d_M_sets_54 55 rfl rfl 0 rfl ?_
    refine ld_40 C G d_M_sets_55 56 rfl 0 (by decide) rfl ?_
    refine g_goto C d_M_sets_56 60 rfl ?_
    exact JL0 (S 40 0) (by unfold limM; first | (rw [if_pos (by omega)]; done) | (rw [if_neg (by omega)]; done))
abbrev rm_M_heatAt : Room := { frames := 1, cells := 0, slots := 0, locals := 22 }
set_option maxHeartbeats 4000000 in
set_option maxRecDepth 100000 in
theorem t_M_heatAt (G : LO ad L) (x : Int) (hx : r32 x) (h1 : 1 ≤ S 33 1 ∧ S 33 1 ≤ 65536) (h2 : ∀ e, e < 4 → (0 ≤ S 34 e ∧ S 34 e ≤ 100000) ∧ (0 ≤ S 35 e ∧ S 35 e ≤ 100000)) : FM l y_M_heatAt c_M_heatAt 2 (some .long) rm_M_heatAt D cd L (wd cd ad S f0) [.ref (ad 33), iv (x)] (some (jv (if gv (bi (0 ≤ x ∧ x ≤ 9)) 1 = 0 then if x = 0 then S 33 1 else if x = 9 then S 33 18 else if Int.tmod x 2 = 1 then S 34 (Int.tdiv (x - 1) 2).toNat else S 35 (Int.tdiv (x - 1) 2).toNat else 0))) (wd cd ad (if gv (bi (0 ≤ x ∧ x ≤ 9)) 1 = 0 then (u2 S 33 0 (gv (bi (0 ≤ x ∧ x ≤ 9)) 1)) else u2 S 33 0 (gv (bi (0 ≤ x ∧ x ≤ 9)) 1)) f0) := by
  refine g_of (by decide) (Nat.le_of_ble_eq_true rfl) ?_
  intro p e s m args below meth c A sz hA hsz C hr hl hnm
  have C : gC p s m args c D CL (TY cd) A c_M_heatAt "AlloyPlansModel" 2 := C
  change gW _ _ _ _ _ _ _ _ _ _ _ _ _ _ _ _ _ _ _ 0 [(0, .ref (ad 33)), (1, iv (x))] []
  obtain ⟨u0, v0⟩ := h1
  have hx1 : -2147483648 ≤ x := hx.1
  have hx2 : x ≤ 2147483647 := hx.2
  have hmx := Int.tmod_lt_of_pos x (show (0 : Int) < 2 by decide)
  have hmy := Int.lt_tmod_of_pos x (show (0 : Int) < 2 by decide)
  refine g_aload_n C d_M_heatAt_0 1 rfl rfl 0 rfl ?_
  refine g_iload_n C d_M_heatAt_1 2 rfl rfl 1 rfl ?_
  refine g_iconst C d_M_heatAt_2 3 rfl ?_
  refine g_bipush C d_M_heatAt_3 5 rfl rfl ?_
  refine fcS1 C (rest := [.ref (ad 33)]) d_M_heatAt_5 8 rfl (t_M_in x 0 9 (show r32 x from ⟨by omega, by omega⟩) (show r32 0 from ⟨by decide, by decide⟩) (show r32 9 from ⟨by decide, by decide⟩)) ⟨ml_M_57, sm_M_in, ci_M⟩ w_M_in rfl 3 gy_M_in rfl 0 rfl 0 rfl rfl rfl (Nat.le_of_ble_eq_true rfl) ?_
  refine g_iconst C d_M_heatAt_8 9 rfl ?_
  refine fcV1 C (rest := []) d_M_heatAt_9 12 rfl (t_M_goes G (S := S) (bi (0 ≤ x ∧ x ≤ 9)) 1 (bi_r _) (show r32 1 from ⟨by decide, by decide⟩)) rfl (G.1 33 (by decide)) (at_M G) ⟨ml_M_68, im_M_goes, se_M_goes, ci_M⟩ w_M_goes rfl 2 gy_M_goes rfl 0 rfl 0 rfl rfl rfl (Nat.le_of_ble_eq_true rfl) ?_
  refine g_if_ne C d_M_heatAt_12 15 rfl (bi_r _) 17 rfl (fun (w1 : ¬ bi (gv (bi (0 ≤ x ∧ x ≤ 9)) 1 = 0) = 0) => ?_) (fun (w2 : bi (gv (bi (0 ≤ x ∧ x ≤ 9)) 1 = 0) = 0) => ?_)
  · skip
    have w1 : (gv (bi (0 ≤ x ∧ x ≤ 9)) 1 = 0) := bi_t w1
    have hgo : gv (bi (0 ≤ x ∧ x ≤ 9)) 1 = 0 := by assumption
    have hpq := gv_t1 hgo
    refine g_iload_n C d_M_heatAt_17 18 rfl rfl 1 rfl ?_
    refine g_if_ne C d_M_heatAt_18 21 rfl (show r32 x from ⟨by omega, by omega⟩) 27 rfl (fun (w3 : ¬ x = 0) => ?_) (fun (w4 : x = 0) => ?_)
    · skip
      refine g_iload_n C d_M_heatAt_27 28 rfl rfl 1 rfl ?_
      refine g_bipush C d_M_heatAt_28 30 rfl rfl ?_
      refine g_icmp_ne C d_M_heatAt_30 33 rfl (show r32 x from ⟨by omega, by omega⟩) (show r32 9 from ⟨by decide, by decide⟩) 38 rfl (fun (w5 : ¬ x = 9) => ?_) (fun (w6 : x = 9) => ?_)
      · skip
        have hq0 : 0 ≤ Int.tdiv (x - 1) 2 := Int.tdiv_nonneg (by omega) (by decide)
        have hq1 : Int.tdiv (x - 1) 2 < 4 := by have := Int.tdiv_eq_ediv_of_nonneg (a := x - 1) (b := 2) (by omega); omega
        obtain ⟨⟨u3, v3⟩, u4, v4⟩ := h2 (Int.tdiv (x - 1) 2).toNat (by omega)
        refine g_iload_n C d_M_heatAt_38 39 rfl rfl 1 rfl ?_
        refine g_iconst C d_M_heatAt_39 40 rfl ?_
        refine g_irem C d_M_heatAt_40 41 rfl (show r32 x from ⟨by omega, by omega⟩) (show r32 2 from ⟨by decide, by decide⟩) (show 2 ≠ (0 : Int) by decide) ?_
        refine g_iconst C d_M_heatAt_41 42 rfl ?_
        refine g_icmp_ne C d_M_heatAt_42 45 rfl (show r32 (Int.tmod x 2) from ⟨by omega, by omega⟩) (show r32 1 from ⟨by decide, by decide⟩) 59 rfl (fun (w7 : ¬ Int.tmod x 2 = 1) => ?_) (fun (w8 : Int.tmod x 2 = 1) => ?_)
        · skip
          refine g_aload_n C d_M_heatAt_59 60 rfl rfl 0 rfl ?_
          refine gt_M_presentHigh C G d_M_heatAt_60 63 rfl fl_M_17 ?_
          refine g_iload_n C d_M_heatAt_63 64 rfl rfl 1 rfl ?_
          refine g_iconst C d_M_heatAt_64 65 rfl ?_
          refine g_isub C d_M_heatAt_65 66 rfl ?_
          refine g_iconst C d_M_heatAt_66 67 rfl ?_
          refine g_idiv C d_M_heatAt_67 68 rfl (show r32 (x - 1) from ⟨by omega, by omega⟩) (show r32 2 from ⟨by decide, by decide⟩) (show 2 ≠ (0 : Int) by decide) ?_
          refine ld_35 C G d_M_heatAt_68 69 rfl ((Int.toNat (Int.tdiv (x - 1) 2))) (by omega) (show Int.tdiv (x - 1) 2 = (((Int.toNat (Int.tdiv (x - 1) 2)) : Nat) : Int) by omega) ?_
          refine g_i2l C d_M_heatAt_69 70 rfl (show r32 (S 35 ((Int.toNat (Int.tdiv (x - 1) 2)))) from ⟨by omega, by omega⟩) ?_
          exact g_lret C hA hsz hr hl d_M_heatAt_70 (by decide) (by decide) ⟨vj_e (show S 35 ((Int.toNat (Int.tdiv (x - 1) 2))) = _ by rw [if_pos hgo]; rw [if_neg (by omega), if_neg (by omega), if_neg (by omega)]), rfl, by rw [if_pos hgo] <;> rfl⟩
        · skip
          refine g_aload_n C d_M_heatAt_45 46 rfl rfl 0 rfl ?_
          refine gt_M_presentLow C G d_M_heatAt_46 49 rfl fl_M_13 ?_
          refine g_iload_n C d_M_heatAt_49 50 rfl rfl 1 rfl ?_
          refine g_iconst C d_M_heatAt_50 51 rfl ?_
          refine g_isub C d_M_heatAt_51 52 rfl ?_
          refine g_iconst C d_M_heatAt_52 53 rfl ?_
          refine g_idiv C d_M_heatAt_53 54 rfl (show r32 (x - 1) from ⟨by omega, by omega⟩) (show r32 2 from ⟨by decide, by decide⟩) (show 2 ≠ (0 : Int) by decide) ?_
          refine ld_34 C G d_M_heatAt_54 55 rfl ((Int.toNat (Int.tdiv (x - 1) 2))) (by omega) (show Int.tdiv (x - 1) 2 = (((Int.toNat (Int.tdiv (x - 1) 2)) : Nat) : Int) by omega) ?_
          refine g_i2l C d_M_heatAt_55 56 rfl (show r32 (S 34 ((Int.toNat (Int.tdiv (x - 1) 2)))) from ⟨by omega, by omega⟩) ?_
          refine g_goto C d_M_heatAt_56 70 rfl ?_
          exact g_lret C hA hsz hr hl d_M_heatAt_70 (by decide) (by decide) ⟨vj_e (show S 34 ((Int.toNat (Int.tdiv (x - 1) 2))) = _ by rw [if_pos hgo]; rw [if_neg (by omega), if_neg (by omega), if_pos (by omega)]), rfl, by rw [if_pos hgo] <;> rfl⟩
      · skip
        refine g_aload_n C d_M_heatAt_33 34 rfl rfl 0 rfl ?_
        refine gt_M_paid C G d_M_heatAt_34 37 rfl fl_M_116 ?_
        exact g_lret C hA hsz hr hl d_M_heatAt_37 (by decide) (by decide) ⟨vj_e (show S 33 18 = _ by rw [if_pos hgo]; rw [if_neg (by omega), if_pos (by omega)]), rfl, by rw [if_pos hgo] <;> rfl⟩
    · skip
      refine g_aload_n C d_M_heatAt_21 22 rfl rfl 0 rfl ?_
      refine gt_M_kilos C G d_M_heatAt_22 25 rfl fl_M_7 ?_
      refine g_i2l C d_M_heatAt_25 26 rfl (show r32 (S 33 1) from ⟨by omega, by omega⟩) ?_
      exact g_lret C hA hsz hr hl d_M_heatAt_26 (by decide) (by decide) ⟨vj_e (show S 33 1 = _ by rw [if_pos hgo]; rw [if_pos (by omega)]), rfl, by rw [if_pos hgo] <;> rfl⟩
  · skip
    have w2 : ¬ (gv (bi (0 ≤ x ∧ x ≤ 9)) 1 = 0) := bi_f w2
    refine g_lconst C (z := 0) d_M_heatAt_15 16 rfl rfl ?_
    exact g_lret C hA hsz hr hl d_M_heatAt_16 (by decide) (by decide) ⟨vj_e (by rw [if_neg (by assumption)]), rfl, by rw [if_neg (by assumption)]⟩
end M9
