section M12
variable {l : Launch} {D : va_G} {cd : Nat → ClassId} {ad : Nat → Nat} {L : List Nat} {f f0 : Nat → va_E} {S : Nat → Nat → Int}
def oI (S : Nat → Nat → Int) (c : Int) : Nat → Nat → Int → Int × Int
  | 0, _, l => (-1, l)
  | d + 1, n, l => if ¬ S 44 n = c ∨ S 45 n = 0 then oI S c d (n + 1) l else if l = 0 then ((n : Int), l) else oI S c d (n + 1) (l - 1)
def oO (S : Nat → Nat → Int) : Nat → Int → Int
  | 0, _ => -1
  | c + 1, l => if 0 ≤ (oI S (c : Int) (kN S) 0 l).1 then (oI S (c : Int) (kN S) 0 l).1 else oO S c (oI S (c : Int) (kN S) 0 l).2
abbrev rm_M_order : Room := { frames := 1, cells := 0, slots := 0, locals := 22 }
set_option maxHeartbeats 4000000 in
set_option maxRecDepth 100000 in
theorem t_M_order (G : LO ad L) (x : Int) (hx : r32 x) (hI : IM S) : FM l y_M_order c_M_order 5 (some .int) rm_M_order D cd L (wd cd ad S f0) [.ref (ad 33), iv (x)] (some (iv (if gv (bi (0 ≤ x)) (S 33 14) = 0 then oO (u2 S 33 0 (gv (bi (0 ≤ x)) (S 33 14))) 1001 x else 0))) (wd cd ad (if gv (bi (0 ≤ x)) (S 33 14) = 0 then (u2 S 33 0 (gv (bi (0 ≤ x)) (S 33 14))) else (u2 S 33 0 (gv (bi (0 ≤ x)) (S 33 14)))) f0) := by
  refine g_of (by decide) (Nat.le_of_ble_eq_true rfl) ?_
  intro p e s m args below meth c A sz hA hsz C hr hl hnm
  have C : gC p s m args c D CL (TY cd) A c_M_order "AlloyPlansModel" 5 := C
  change gW _ _ _ _ _ _ _ _ _ _ _ _ _ _ _ _ _ _ _ 0 [(0, .ref (ad 33)), (1, iv (x))] []
  have hx1 : -2147483648 ≤ x := hx.1
  have hx2 : x ≤ 2147483647 := hx.2
  obtain ⟨u0, v0⟩ := hI.1
  obtain ⟨u9, v9⟩ := hI.2.2.1
  refine g_aload_n C d_M_order_0 1 rfl rfl 0 rfl ?_
  have JG : ∀ zj : Int, zj = (bi (0 ≤ x)) → gW p l e rm_M_order s m args below meth c D CL A 5 (MQ below (gQ D CL L sz (fun r L' g => r = (some (iv (if gv (bi (0 ≤ x)) (S 33 14) = 0 then oO (u2 S 33 0 (gv (bi (0 ≤ x)) (S 33 14))) 1001 x else 0))) ∧ L' = L ∧ g = (wd cd ad (if gv (bi (0 ≤ x)) (S 33 14) = 0 then (u2 S 33 0 (gv (bi (0 ≤ x)) (S 33 14))) else (u2 S 33 0 (gv (bi (0 ≤ x)) (S 33 14)))) f0))) args s rm_M_order.cells rm_M_order.slots (gA L sz)) 0 0 L (wd cd ad S f0) 10 [(0, .ref (ad 33)), (1, iv (x))] [iv zj, .ref (ad 33)] := by
    intro zj hzj
    subst hzj
    refine g_aload_n C d_M_order_10 11 rfl rfl 0 rfl ?_
    refine gt_M_planned C G d_M_order_11 14 rfl fl_M_72 ?_
    refine fcV1 C (rest := []) d_M_order_14 17 rfl (t_M_goes G (S := S) (bi (0 ≤ x)) (S 33 14) (bi_r _) (show r32 (S 33 14) from ⟨by omega, by omega⟩)) rfl (G.1 33 (by decide)) (at_M G) ⟨ml_M_68, im_M_goes, se_M_goes, ci_M⟩ w_M_goes rfl 2 gy_M_goes rfl 0 rfl 0 rfl rfl rfl (Nat.le_of_ble_eq_true rfl) ?_
    refine g_if_ne C d_M_order_17 20 rfl (bi_r _) 22 rfl (fun (w1 : ¬ bi (gv (bi (0 ≤ x)) (S 33 14) = 0) = 0) => ?_) (fun (w2 : bi (gv (bi (0 ≤ x)) (S 33 14) = 0) = 0) => ?_)
    · skip
      have w1 : (gv (bi (0 ≤ x)) (S 33 14) = 0) := bi_t w1
      have hgo : gv (bi (0 ≤ x)) (S 33 14) = 0 := by assumption
      have hpq := gv_t1 hgo
      obtain ⟨V, hV⟩ : ∃ V, V = (u2 S 33 0 (gv (bi (0 ≤ x)) (S 33 14))) := ⟨_, rfl⟩
      have hIV : IM V := by rw [hV]; exact th_IM hI
      obtain ⟨i0, j0⟩ := hIV.1
      refine (congrArg (fun z => gW p l e rm_M_order s m args below meth c D CL A 5 (MQ below (gQ D CL L sz (fun r L' g => r = (some (iv (if gv (bi (0 ≤ x)) (S 33 14) = 0 then oO (u2 S 33 0 (gv (bi (0 ≤ x)) (S 33 14))) 1001 x else 0))) ∧ L' = L ∧ g = (wd cd ad (if gv (bi (0 ≤ x)) (S 33 14) = 0 then (u2 S 33 0 (gv (bi (0 ≤ x)) (S 33 14))) else (u2 S 33 0 (gv (bi (0 ≤ x)) (S 33 14)))) f0))) args s rm_M_order.cells rm_M_order.slots (gA L sz)) 0 0 L (wd cd ad z f0) 22 [(0, .ref (ad 33)), (1, iv (x))] []) hV).mp ?_
      refine g_iload_n C d_M_order_22 23 rfl rfl 1 rfl ?_
      refine g_istore_n C d_M_order_23 24 rfl [(2, iv (x)), (0, .ref (ad 33)), (1, iv (x))] rfl (by decide) rfl ?_
      refine g_sipush C d_M_order_24 27 rfl rfl ?_
      refine g_istore_n C d_M_order_27 28 rfl [(3, iv (1000)), (2, iv (x)), (0, .ref (ad 33)), (1, iv (x))] rfl (by decide) rfl ?_
      have LP : ∀ (d n : Nat) (lf : Int), n + d = 1001 → oO V d lf = oO V 1001 x → 0 ≤ lf → lf ≤ 2147483647 → gW p l e rm_M_order s m args below meth c D CL A 5 (MQ below (gQ D CL L sz (fun r L' g => r = (some (iv (if gv (bi (0 ≤ x)) (S 33 14) = 0 then oO (u2 S 33 0 (gv (bi (0 ≤ x)) (S 33 14))) 1001 x else 0))) ∧ L' = L ∧ g = (wd cd ad (if gv (bi (0 ≤ x)) (S 33 14) = 0 then (u2 S 33 0 (gv (bi (0 ≤ x)) (S 33 14))) else (u2 S 33 0 (gv (bi (0 ≤ x)) (S 33 14)))) f0))) args s rm_M_order.cells rm_M_order.slots (gA L sz)) 0 0 L (wd cd ad V f0) 28 [(3, iv (1000 - (n : Int))), (2, iv (lf)), (0, .ref (ad 33)), (1, iv (x))] [] := by
        intro d
        induction d with
        | zero =>
          intro n lf hn hR hl0 hl1
          refine g_iload_n C d_M_order_28 29 rfl rfl 0 rfl ?_
          refine g_if_lt C d_M_order_29 32 rfl (show r32 (1000 - (n : Int)) from ⟨by omega, by omega⟩) 90 rfl (fun (w3 : 1000 - (n : Int) < 0) => ?_) (fun (w3 : ¬ 1000 - (n : Int) < 0) => absurd w3 (by omega))
          refine g_iconst C d_M_order_90 91 rfl ?_
          exact g_iret C hA hsz hr hl d_M_order_91 (by decide) (by decide) ⟨vi_e (show -1 = _ by rw [if_pos hgo, ← hV, ← hR]; rfl), rfl, by rw [if_pos hgo, hV]⟩
        | succ d ih =>
          intro n lf hn hR hl0 hl1
          refine g_iload_n C d_M_order_28 29 rfl rfl 0 rfl ?_
          refine g_if_lt C d_M_order_29 32 rfl (show r32 (1000 - (n : Int)) from ⟨by omega, by omega⟩) 90 rfl (fun (w4 : 1000 - (n : Int) < 0) => absurd w4 (by omega)) (fun (w4 : ¬ 1000 - (n : Int) < 0) => ?_)
          refine g_iconst C d_M_order_32 33 rfl ?_
          refine g_istore C d_M_order_33 35 rfl [(4, iv (0)), (3, iv (1000 - (n : Int))), (2, iv (lf)), (0, .ref (ad 33)), (1, iv (x))] (by decide) rfl ?_
          have LI : ∀ (d2 n2 : Nat) (lg : Int), n2 + d2 = (kN V) → oI V (d : Int) d2 n2 lg = oI V (d : Int) (kN V) 0 lf → 0 ≤ lg → lg ≤ 2147483647 → gW p l e rm_M_order s m args below meth c D CL A 5 (MQ below (gQ D CL L sz (fun r L' g => r = (some (iv (if gv (bi (0 ≤ x)) (S 33 14) = 0 then oO (u2 S 33 0 (gv (bi (0 ≤ x)) (S 33 14))) 1001 x else 0))) ∧ L' = L ∧ g = (wd cd ad (if gv (bi (0 ≤ x)) (S 33 14) = 0 then (u2 S 33 0 (gv (bi (0 ≤ x)) (S 33 14))) else (u2 S 33 0 (gv (bi (0 ≤ x)) (S 33 14)))) f0))) args s rm_M_order.cells rm_M_order.slots (gA L sz)) 0 0 L (wd cd ad V f0) 35 [(4, iv ((n2 : Int))), (3, iv (1000 - (n : Int))), (2, iv (lg)), (0, .ref (ad 33)), (1, iv (x))] [] := by
            intro d2
            induction d2 with
            | zero =>
              intro n2 lg hn2 hR2 hg0 hg1
              have hz2 : oI V (d : Int) 0 n2 lg = (-1, lg) := rfl
              have hk2 : V 33 6 ≤ (n2 : Int) ∧ (n2 : Int) ≤ 4 := by unfold kN at hn2; omega
              refine g_iload C d_M_order_35 37 rfl 0 rfl ?_
              refine g_aload_n C d_M_order_37 38 rfl rfl 3 rfl ?_
              refine gt_M_kinds C G d_M_order_38 41 rfl fl_M_61 ?_
              refine g_icmp_ge C d_M_order_41 44 rfl (show r32 ((n2 : Int)) from ⟨by omega, by omega⟩) (show r32 (V 33 6) from ⟨by omega, by omega⟩) 84 rfl (fun (w5 : V 33 6 ≤ (n2 : Int)) => ?_) (fun (w5 : ¬ V 33 6 ≤ (n2 : Int)) => absurd w5 (by omega))
              refine g_iinc C d_M_order_84 87 rfl [(3, iv (1000 - (n : Int) + (-1))), (4, iv ((n2 : Int))), (2, iv (lg)), (0, .ref (ad 33)), (1, iv (x))] 1 rfl (by decide) rfl ?_
              refine g_goto C d_M_order_87 28 rfl ?_
              refine g_sub [0, 2, 3, 4] _ rfl ?_
              rw [show (1000 - (n : Int) + (-1) : Int) = 1000 - ((n + 1 : Nat) : Int) by omega]
              refine ih (n + 1) _ (by omega) ?_ (by omega) (by omega)
              rw [← hR]
              show _ = if 0 ≤ (oI V (d : Int) (kN V) 0 lf).1 then (oI V (d : Int) (kN V) 0 lf).1 else oO V d (oI V (d : Int) (kN V) 0 lf).2
              rw [← hR2, hz2]
              exact (if_neg (by show ¬ (0 : Int) ≤ -1; decide)).symm
            | succ d2 ih2 =>
              intro n2 lg hn2 hR2 hg0 hg1
              have hk2 : (n2 : Int) < V 33 6 := by unfold kN at hn2; omega
              have hc2 := (hIV.2.2.2.2.2.2.2.1 n2 (by omega)).2
              have hp2 := hIV.2.2.2.2.2.2.2.2.2.1 n2 (by omega)
              refine g_iload C d_M_order_35 37 rfl 0 rfl ?_
              refine g_aload_n C d_M_order_37 38 rfl rfl 3 rfl ?_
              refine gt_M_kinds C G d_M_order_38 41 rfl fl_M_61 ?_
              refine g_icmp_ge C d_M_order_41 44 rfl (show r32 ((n2 : Int)) from ⟨by omega, by omega⟩) (show r32 (V 33 6) from ⟨by omega, by omega⟩) 84 rfl (fun (w6 : V 33 6 ≤ (n2 : Int)) => absurd w6 (by omega)) (fun (w6 : ¬ V 33 6 ≤ (n2 : Int)) => ?_)
              refine g_aload_n C d_M_order_44 45 rfl rfl 3 rfl ?_
              refine gt_M_cools C G d_M_order_45 48 rfl fl_M_44 ?_
              refine g_iload C d_M_order_48 50 rfl 0 rfl ?_
              refine ld_44 C G d_M_order_50 51 rfl n2 (by omega) rfl ?_
              refine g_iload_n C d_M_order_51 52 rfl rfl 1 rfl ?_
              refine g_icmp_ne C d_M_order_52 55 rfl (show r32 (V 44 n2) from ⟨by omega, by omega⟩) (show r32 (1000 - (n : Int)) from ⟨by omega, by omega⟩) 78 rfl (fun (w7 : ¬ V 44 n2 = 1000 - (n : Int)) => ?_) (fun (w8 : V 44 n2 = 1000 - (n : Int)) => ?_)
              · skip
                refine g_iinc C d_M_order_78 81 rfl [(4, iv ((n2 : Int) + 1)), (3, iv (1000 - (n : Int))), (2, iv (lg)), (0, .ref (ad 33)), (1, iv (x))] 0 rfl (by decide) rfl ?_
                refine g_goto C d_M_order_81 35 rfl ?_
                exact ih2 (n2 + 1) _ (by omega) (by rw [← hR2]; show _ = if ¬ V 44 n2 = (d : Int) ∨ V 45 n2 = 0 then _ else if lg = 0 then _ else _; rw [if_pos (by omega)] <;> rfl) (by omega) (by omega)
              · skip
                refine g_aload_n C d_M_order_55 56 rfl rfl 3 rfl ?_
                refine gt_M_plan C G d_M_order_56 59 rfl fl_M_47 ?_
                refine g_iload C d_M_order_59 61 rfl 0 rfl ?_
                refine ld_45 C G d_M_order_61 62 rfl n2 (by omega) rfl ?_
                refine g_if_ne C d_M_order_62 65 rfl (show r32 (V 45 n2) from ⟨by omega, by omega⟩) 68 rfl (fun (w9 : ¬ V 45 n2 = 0) => ?_) (fun (w10 : V 45 n2 = 0) => ?_)
                · skip
                  refine g_iload_n C d_M_order_68 69 rfl rfl 2 rfl ?_
                  refine g_if_ne C d_M_order_69 72 rfl (show r32 lg from ⟨by omega, by omega⟩) 75 rfl (fun (w11 : ¬ lg = 0) => ?_) (fun (w12 : lg = 0) => ?_)
                  · skip
                    refine g_iinc C d_M_order_75 78 rfl [(2, iv (lg + (-1))), (4, iv ((n2 : Int))), (3, iv (1000 - (n : Int))), (0, .ref (ad 33)), (1, iv (x))] 2 rfl (by decide) rfl ?_
                    refine g_iinc C d_M_order_78 81 rfl [(4, iv ((n2 : Int) + 1)), (2, iv (lg + (-1))), (3, iv (1000 - (n : Int))), (0, .ref (ad 33)), (1, iv (x))] 1 rfl (by decide) rfl ?_
                    refine g_goto C d_M_order_81 35 rfl ?_
                    refine g_sub [0, 2, 1, 3, 4] _ rfl ?_
                    exact ih2 (n2 + 1) _ (by omega) (by rw [← hR2]; show _ = if ¬ V 44 n2 = (d : Int) ∨ V 45 n2 = 0 then _ else if lg = 0 then _ else _; rw [if_neg (by omega), if_neg (by omega)] <;> rfl) (by omega) (by omega)
                  · skip
                    refine g_iload C d_M_order_72 74 rfl 0 rfl ?_
                    exact g_iret C hA hsz hr hl d_M_order_74 (by decide) (by decide) ⟨vi_e (show (n2 : Int) = _ by rw [if_pos hgo, ← hV, ← hR]; show _ = if 0 ≤ (oI V (d : Int) (kN V) 0 lf).1 then (oI V (d : Int) (kN V) 0 lf).1 else oO V d (oI V (d : Int) (kN V) 0 lf).2; rw [← hR2, show oI V (d : Int) (d2 + 1) n2 lg = ((n2 : Int), lg) by show (if ¬ V 44 n2 = (d : Int) ∨ V 45 n2 = 0 then _ else if lg = 0 then _ else _) = _; rw [if_neg (by omega), if_pos (by omega)]]; exact (if_pos (by show (0 : Int) ≤ (n2 : Int); omega)).symm), rfl, by rw [if_pos hgo, hV]⟩
                · skip
                  refine g_goto C d_M_order_65 78 rfl ?_
                  refine g_iinc C d_M_order_78 81 rfl [(4, iv ((n2 : Int) + 1)), (3, iv (1000 - (n : Int))), (2, iv (lg)), (0, .ref (ad 33)), (1, iv (x))] 0 rfl (by decide) rfl ?_
                  refine g_goto C d_M_order_81 35 rfl ?_
                  exact ih2 (n2 + 1) _ (by omega) (by rw [← hR2]; show _ = if ¬ V 44 n2 = (d : Int) ∨ V 45 n2 = 0 then _ else if lg = 0 then _ else _; rw [if_pos (by omega)] <;> rfl) (by omega) (by omega)
          exact LI (kN V) 0 _ (by omega) rfl (by omega) (by omega)
      exact LP 1001 0 x rfl rfl (by omega) (by omega)
    · skip
      have w2 : ¬ (gv (bi (0 ≤ x)) (S 33 14) = 0) := bi_f w2
      refine g_iconst C d_M_order_20 21 rfl ?_
      exact g_iret C hA hsz hr hl d_M_order_21 (by decide) (by decide) ⟨vi_e (by rw [if_neg (by assumption)]), rfl, by rw [if_neg (by assumption)]⟩
  refine g_iload_n C d_M_order_1 2 rfl rfl 1 rfl ?_
  refine g_if_lt C d_M_order_2 5 rfl (show r32 x from ⟨by omega, by omega⟩) 9 rfl (fun (w13 : x < 0) => ?_) (fun (w14 : ¬ x < 0) => ?_)
  · skip
    refine g_iconst C d_M_order_9 10 rfl ?_
    exact JG 0 (by first | exact (bi_pos (by omega)).symm | exact (bi_neg (by omega)).symm)
  · skip
    refine g_iconst C d_M_order_5 6 rfl ?_
    refine g_goto C d_M_order_6 10 rfl ?_
    exact JG 1 (by first | exact (bi_pos (by omega)).symm | exact (bi_neg (by omega)).symm)
theorem gcd_t {a b : Int} (ha : 0 ≤ a) (hb : 0 ≤ b) : Int.gcd b (Int.tmod a b) = Int.gcd a b := by
  rw [Int.tmod_eq_emod_of_nonneg ha, Int.gcd_comm a b]
  rw [show Int.gcd b (a % b) = Int.gcd b a from by
    unfold Int.gcd
    rw [Int.natAbs_emod_of_nonneg ha]
    rw [Nat.gcd_comm b.natAbs (a.natAbs % b.natAbs), ← Nat.gcd_rec b.natAbs a.natAbs]]
abbrev rm_M_after : Room := { frames := 2, cells := 0, slots := 0, locals := 42 }
set_option maxHeartbeats 4000000 in
set_option maxRecDepth 100000 in
theorem t_M_after (G : LO ad L) (x y z : Int) (hx : r32 x) (hy : r32 y) (hz : r32 z) (hI : IM S) : FM l y_M_after c_M_after 14 (some .long) rm_M_after D cd L (wd cd ad S f0) [.ref (ad 33), iv (x), iv (y), iv (z)] (some (jv (if gv (bi ((0 ≤ x ∧ x ≤ 3) ∧ (0 ≤ y ∧ y ≤ 1) ∧ (0 ≤ z ∧ z ≤ 1))) (S 33 14) = 0 then Int.tdiv (if z = 0 then aM (ldM (u2 S 33 0 (gv (bi ((0 ≤ x ∧ x ≤ 3) ∧ (0 ≤ y ∧ y ≤ 1) ∧ (0 ≤ z ∧ z ≤ 1))) (S 33 14)))) x.toNat y else 1000 * ((ldM (u2 S 33 0 (gv (bi ((0 ≤ x ∧ x ≤ 3) ∧ (0 ≤ y ∧ y ≤ 1) ∧ (0 ≤ z ∧ z ≤ 1))) (S 33 14)))) 33 1 + wM (ldM (u2 S 33 0 (gv (bi ((0 ≤ x ∧ x ≤ 3) ∧ (0 ≤ y ∧ y ≤ 1) ∧ (0 ≤ z ∧ z ≤ 1))) (S 33 14)))))) (Int.gcd (1000 * ((ldM (u2 S 33 0 (gv (bi ((0 ≤ x ∧ x ≤ 3) ∧ (0 ≤ y ∧ y ≤ 1) ∧ (0 ≤ z ∧ z ≤ 1))) (S 33 14)))) 33 1 + wM (ldM (u2 S 33 0 (gv (bi ((0 ≤ x ∧ x ≤ 3) ∧ (0 ≤ y ∧ y ≤ 1) ∧ (0 ≤ z ∧ z ≤ 1))) (S 33 14)))))) (aM (ldM (u2 S 33 0 (gv (bi ((0 ≤ x ∧ x ≤ 3) ∧ (0 ≤ y ∧ y ≤ 1) ∧ (0 ≤ z ∧ z ≤ 1))) (S 33 14)))) x.toNat y) : Int) else 0))) (wd cd ad (if gv (bi ((0 ≤ x ∧ x ≤ 3) ∧ (0 ≤ y ∧ y ≤ 1) ∧ (0 ≤ z ∧ z ≤ 1))) (S 33 14) = 0 then (ldM (u2 S 33 0 (gv (bi ((0 ≤ x ∧ x ≤ 3) ∧ (0 ≤ y ∧ y ≤ 1) ∧ (0 ≤ z ∧ z ≤ 1))) (S 33 14)))) else u2 S 33 0 (gv (bi ((0 ≤ x ∧ x ≤ 3) ∧ (0 ≤ y ∧ y ≤ 1) ∧ (0 ≤ z ∧ z ≤ 1))) (S 33 14))) f0) := by
  refine g_of (by decide) (Nat.le_of_ble_eq_true rfl) ?_
  intro p e s m args below meth c A sz hA hsz C hr hl hnm
  have C : gC p s m args c D CL (TY cd) A c_M_after "AlloyPlansModel" 14 := C
  change gW _ _ _ _ _ _ _ _ _ _ _ _ _ _ _ _ _ _ _ 0 [(0, .ref (ad 33)), (1, iv (x)), (2, iv (y)), (3, iv (z))] []
  have hx1 : -2147483648 ≤ x := hx.1
  have hx2 : x ≤ 2147483647 := hx.2
  have hy1 : -2147483648 ≤ y := hy.1
  have hy2 : y ≤ 2147483647 := hy.2
  have hz1 : -2147483648 ≤ z := hz.1
  have hz2 : z ≤ 2147483647 := hz.2
  obtain ⟨u0, v0⟩ := hI.1
  obtain ⟨u9, v9⟩ := hI.2.2.1
  refine g_aload_n C d_M_after_0 1 rfl rfl 0 rfl ?_
  have JG : ∀ zj : Int, zj = (bi ((0 ≤ x ∧ x ≤ 3) ∧ (0 ≤ y ∧ y ≤ 1) ∧ (0 ≤ z ∧ z ≤ 1))) → gW p l e rm_M_after s m args below meth c D CL A 14 (MQ below (gQ D CL L sz (fun r L' g => r = (some (jv (if gv (bi ((0 ≤ x ∧ x ≤ 3) ∧ (0 ≤ y ∧ y ≤ 1) ∧ (0 ≤ z ∧ z ≤ 1))) (S 33 14) = 0 then Int.tdiv (if z = 0 then aM (ldM (u2 S 33 0 (gv (bi ((0 ≤ x ∧ x ≤ 3) ∧ (0 ≤ y ∧ y ≤ 1) ∧ (0 ≤ z ∧ z ≤ 1))) (S 33 14)))) x.toNat y else 1000 * ((ldM (u2 S 33 0 (gv (bi ((0 ≤ x ∧ x ≤ 3) ∧ (0 ≤ y ∧ y ≤ 1) ∧ (0 ≤ z ∧ z ≤ 1))) (S 33 14)))) 33 1 + wM (ldM (u2 S 33 0 (gv (bi ((0 ≤ x ∧ x ≤ 3) ∧ (0 ≤ y ∧ y ≤ 1) ∧ (0 ≤ z ∧ z ≤ 1))) (S 33 14)))))) (Int.gcd (1000 * ((ldM (u2 S 33 0 (gv (bi ((0 ≤ x ∧ x ≤ 3) ∧ (0 ≤ y ∧ y ≤ 1) ∧ (0 ≤ z ∧ z ≤ 1))) (S 33 14)))) 33 1 + wM (ldM (u2 S 33 0 (gv (bi ((0 ≤ x ∧ x ≤ 3) ∧ (0 ≤ y ∧ y ≤ 1) ∧ (0 ≤ z ∧ z ≤ 1))) (S 33 14)))))) (aM (ldM (u2 S 33 0 (gv (bi ((0 ≤ x ∧ x ≤ 3) ∧ (0 ≤ y ∧ y ≤ 1) ∧ (0 ≤ z ∧ z ≤ 1))) (S 33 14)))) x.toNat y) : Int) else 0))) ∧ L' = L ∧ g = (wd cd ad (if gv (bi ((0 ≤ x ∧ x ≤ 3) ∧ (0 ≤ y ∧ y ≤ 1) ∧ (0 ≤ z ∧ z ≤ 1))) (S 33 14) = 0 then (ldM (u2 S 33 0 (gv (bi ((0 ≤ x ∧ x ≤ 3) ∧ (0 ≤ y ∧ y ≤ 1) ∧ (0 ≤ z ∧ z ≤ 1))) (S 33 14)))) else u2 S 33 0 (gv (bi ((0 ≤ x ∧ x ≤ 3) ∧ (0 ≤ y ∧ y ≤ 1) ∧ (0 ≤ z ∧ z ≤ 1))) (S 33 14))) f0))) args s rm_M_after.cells rm_M_after.slots (gA L sz)) 0 0 L (wd cd ad S f0) 31 [(0, .ref (ad 33)), (1, iv (x)), (2, iv (y)), (3, iv (z))] [iv zj, .ref (ad 33)] := by
    intro zj hzj
    subst hzj
    refine g_aload_n C d_M_after_31 32 rfl rfl 0 rfl ?_
    refine gt_M_planned C G d_M_after_32 35 rfl fl_M_72 ?_
    refine fcV1 C (rest := []) d_M_after_35 38 rfl (t_M_goes G (S := S) (bi ((0 ≤ x ∧ x ≤ 3) ∧ (0 ≤ y ∧ y ≤ 1) ∧ (0 ≤ z ∧ z ≤ 1))) (S 33 14) (bi_r _) (show r32 (S 33 14) from ⟨by omega, by omega⟩)) rfl (G.1 33 (by decide)) (at_M G) ⟨ml_M_68, im_M_goes, se_M_goes, ci_M⟩ w_M_goes rfl 2 gy_M_goes rfl 0 rfl 0 rfl rfl rfl (Nat.le_of_ble_eq_true rfl) ?_
    refine g_if_ne C d_M_after_38 41 rfl (bi_r _) 43 rfl (fun (w1 : ¬ bi (gv (bi ((0 ≤ x ∧ x ≤ 3) ∧ (0 ≤ y ∧ y ≤ 1) ∧ (0 ≤ z ∧ z ≤ 1))) (S 33 14) = 0) = 0) => ?_) (fun (w2 : bi (gv (bi ((0 ≤ x ∧ x ≤ 3) ∧ (0 ≤ y ∧ y ≤ 1) ∧ (0 ≤ z ∧ z ≤ 1))) (S 33 14) = 0) = 0) => ?_)
    · skip
      have w1 : (gv (bi ((0 ≤ x ∧ x ≤ 3) ∧ (0 ≤ y ∧ y ≤ 1) ∧ (0 ≤ z ∧ z ≤ 1))) (S 33 14) = 0) := bi_t w1
      have hgo : gv (bi ((0 ≤ x ∧ x ≤ 3) ∧ (0 ≤ y ∧ y ≤ 1) ∧ (0 ≤ z ∧ z ≤ 1))) (S 33 14) = 0 := by assumption
      have hpq := gv_t1 hgo
      refine g_aload_n C d_M_after_43 44 rfl rfl 0 rfl ?_
      refine fcV0 C (rest := []) d_M_after_44 47 rfl (t_M_load G (S := (u2 S 33 0 (gv (bi ((0 ≤ x ∧ x ≤ 3) ∧ (0 ≤ y ∧ y ≤ 1) ∧ (0 ≤ z ∧ z ≤ 1))) (S 33 14))))) rfl (G.1 33 (by decide)) (at_M G) ⟨ml_M_113, im_M_load, se_M_load, ci_M⟩ w_M_load rfl 0 gy_M_load rfl 0 rfl 0 rfl rfl rfl (Nat.le_of_ble_eq_true rfl) ?_
      obtain ⟨V, hV⟩ : ∃ V, V = (ldM (u2 S 33 0 (gv (bi ((0 ≤ x ∧ x ≤ 3) ∧ (0 ≤ y ∧ y ≤ 1) ∧ (0 ≤ z ∧ z ≤ 1))) (S 33 14)))) := ⟨_, rfl⟩
      have hIV : IM V := by rw [hV]; exact ldM_IM (th_IM hI)
      obtain ⟨i1, j1⟩ := hIV.2.1
      refine (congrArg (fun z9 => gW p l e rm_M_after s m args below meth c D CL A 14 (MQ below (gQ D CL L sz (fun r L' g => r = (some (jv (if gv (bi ((0 ≤ x ∧ x ≤ 3) ∧ (0 ≤ y ∧ y ≤ 1) ∧ (0 ≤ z ∧ z ≤ 1))) (S 33 14) = 0 then Int.tdiv (if z = 0 then aM (ldM (u2 S 33 0 (gv (bi ((0 ≤ x ∧ x ≤ 3) ∧ (0 ≤ y ∧ y ≤ 1) ∧ (0 ≤ z ∧ z ≤ 1))) (S 33 14)))) x.toNat y else 1000 * ((ldM (u2 S 33 0 (gv (bi ((0 ≤ x ∧ x ≤ 3) ∧ (0 ≤ y ∧ y ≤ 1) ∧ (0 ≤ z ∧ z ≤ 1))) (S 33 14)))) 33 1 + wM (ldM (u2 S 33 0 (gv (bi ((0 ≤ x ∧ x ≤ 3) ∧ (0 ≤ y ∧ y ≤ 1) ∧ (0 ≤ z ∧ z ≤ 1))) (S 33 14)))))) (Int.gcd (1000 * ((ldM (u2 S 33 0 (gv (bi ((0 ≤ x ∧ x ≤ 3) ∧ (0 ≤ y ∧ y ≤ 1) ∧ (0 ≤ z ∧ z ≤ 1))) (S 33 14)))) 33 1 + wM (ldM (u2 S 33 0 (gv (bi ((0 ≤ x ∧ x ≤ 3) ∧ (0 ≤ y ∧ y ≤ 1) ∧ (0 ≤ z ∧ z ≤ 1))) (S 33 14)))))) (aM (ldM (u2 S 33 0 (gv (bi ((0 ≤ x ∧ x ≤ 3) ∧ (0 ≤ y ∧ y ≤ 1) ∧ (0 ≤ z ∧ z ≤ 1))) (S 33 14)))) x.toNat y) : Int) else 0))) ∧ L' = L ∧ g = (wd cd ad (if gv (bi ((0 ≤ x ∧ x ≤ 3) ∧ (0 ≤ y ∧ y ≤ 1) ∧ (0 ≤ z ∧ z ≤ 1))) (S 33 14) = 0 then (ldM (u2 S 33 0 (gv (bi ((0 ≤ x ∧ x ≤ 3) ∧ (0 ≤ y ∧ y ≤ 1) ∧ (0 ≤ z ∧ z ≤ 1))) (S 33 14)))) else u2 S 33 0 (gv (bi ((0 ≤ x ∧ x ≤ 3) ∧ (0 ≤ y ∧ y ≤ 1) ∧ (0 ≤ z ∧ z ≤ 1))) (S 33 14))) f0))) args s rm_M_after.cells rm_M_after.slots (gA L sz)) 0 0 L (wd cd ad z9 f0) 47 [(0, .ref (ad 33)), (1, iv (x)), (2, iv (y)), (3, iv (z))] []) hV).mp ?_
      obtain ⟨k, hk⟩ : ∃ k : Nat, x = (k : Int) := ⟨Int.toNat x, by omega⟩
      subst hk
      refine g_aload_n C d_M_after_47 48 rfl rfl 0 rfl ?_
      refine g_iload_n C d_M_after_48 49 rfl rfl 1 rfl ?_
      refine g_iload_n C d_M_after_49 50 rfl rfl 2 rfl ?_
      refine fcV1 C (rest := []) d_M_after_50 53 rfl (t_M_amountI G (S := V) hIV k y (by omega) (by omega)) rfl (G.1 33 (by decide)) (at_M G) ⟨ml_M_93, im_M_amount, se_M_amount, ci_M⟩ w_M_amount rfl 2 gy_M_amount rfl 0 rfl 0 rfl rfl rfl (Nat.le_of_ble_eq_true rfl) ?_
      have ham3 := aM_r (q := k) (x := y) hIV (by omega)
      refine g_lstore C d_M_after_53 55 rfl [(4, jv (aM V k y)), (0, .ref (ad 33)), (1, iv ((k : Int))), (2, iv (y)), (3, iv (z))] (by decide) rfl ?_
      refine g_ldc2 C (z := 1000) d_M_after_55 58 rfl rfl kd_M_87 ?_
      refine g_aload_n C d_M_after_58 59 rfl rfl 1 rfl ?_
      refine gt_M_kilos C G d_M_after_59 62 rfl fl_M_7 ?_
      refine g_aload_n C d_M_after_62 63 rfl rfl 1 rfl ?_
      refine fcV1 C (rest := [iv (V 33 1), jv (1000)]) d_M_after_63 66 rfl (t_M_weight G (S := V) hIV.1) rfl (G.1 33 (by decide)) (at_M G) ⟨ml_M_89, im_M_weight, se_M_weight, ci_M⟩ w_M_weight rfl 0 gy_M_weight rfl 0 rfl 0 rfl rfl rfl (Nat.le_of_ble_eq_true rfl) ?_
      have hsm4 := wM_r hIV
      refine g_iadd C d_M_after_66 67 rfl ?_
      refine g_i2l C d_M_after_67 68 rfl (show r32 ((V 33 1) + (wM V)) from ⟨by omega, by omega⟩) ?_
      refine g_lmul C d_M_after_68 69 rfl ?_
      refine g_lstore C d_M_after_69 71 rfl [(6, jv (1000 * ((V 33 1) + (wM V)))), (4, jv (aM V k y)), (0, .ref (ad 33)), (1, iv ((k : Int))), (2, iv (y)), (3, iv (z))] (by decide) rfl ?_
      refine g_lload C d_M_after_71 73 rfl 0 rfl ?_
      refine g_lstore C d_M_after_73 75 rfl [(8, jv (1000 * ((V 33 1) + (wM V)))), (6, jv (1000 * ((V 33 1) + (wM V)))), (4, jv (aM V k y)), (0, .ref (ad 33)), (1, iv ((k : Int))), (2, iv (y)), (3, iv (z))] (by decide) rfl ?_
      refine g_lload C d_M_after_75 77 rfl 2 rfl ?_
      refine g_lstore C d_M_after_77 79 rfl [(10, jv (aM V k y)), (8, jv (1000 * ((V 33 1) + (wM V)))), (6, jv (1000 * ((V 33 1) + (wM V)))), (4, jv (aM V k y)), (0, .ref (ad 33)), (1, iv ((k : Int))), (2, iv (y)), (3, iv (z))] (by decide) rfl ?_
      have hdn : 0 < 1000 * ((V 33 1) + (wM V)) ∧ 1000 * ((V 33 1) + (wM V)) ≤ 113536000 := by omega
      have LP : ∀ (d : Nat) (a b : Int), b.toNat ≤ d → 0 < a → a ≤ 12000000000000 → 0 ≤ b → b ≤ 12000000000000 → Int.gcd a b = Int.gcd (1000 * ((V 33 1) + (wM V))) (aM V k y) → gW p l e rm_M_after s m args below meth c D CL A 14 (MQ below (gQ D CL L sz (fun r L' g => r = (some (jv (if gv (bi ((0 ≤ (k : Int) ∧ (k : Int) ≤ 3) ∧ (0 ≤ y ∧ y ≤ 1) ∧ (0 ≤ z ∧ z ≤ 1))) (S 33 14) = 0 then Int.tdiv (if z = 0 then aM (ldM (u2 S 33 0 (gv (bi ((0 ≤ (k : Int) ∧ (k : Int) ≤ 3) ∧ (0 ≤ y ∧ y ≤ 1) ∧ (0 ≤ z ∧ z ≤ 1))) (S 33 14)))) (k : Int).toNat y else 1000 * ((ldM (u2 S 33 0 (gv (bi ((0 ≤ (k : Int) ∧ (k : Int) ≤ 3) ∧ (0 ≤ y ∧ y ≤ 1) ∧ (0 ≤ z ∧ z ≤ 1))) (S 33 14)))) 33 1 + wM (ldM (u2 S 33 0 (gv (bi ((0 ≤ (k : Int) ∧ (k : Int) ≤ 3) ∧ (0 ≤ y ∧ y ≤ 1) ∧ (0 ≤ z ∧ z ≤ 1))) (S 33 14)))))) (Int.gcd (1000 * ((ldM (u2 S 33 0 (gv (bi ((0 ≤ (k : Int) ∧ (k : Int) ≤ 3) ∧ (0 ≤ y ∧ y ≤ 1) ∧ (0 ≤ z ∧ z ≤ 1))) (S 33 14)))) 33 1 + wM (ldM (u2 S 33 0 (gv (bi ((0 ≤ (k : Int) ∧ (k : Int) ≤ 3) ∧ (0 ≤ y ∧ y ≤ 1) ∧ (0 ≤ z ∧ z ≤ 1))) (S 33 14)))))) (aM (ldM (u2 S 33 0 (gv (bi ((0 ≤ (k : Int) ∧ (k : Int) ≤ 3) ∧ (0 ≤ y ∧ y ≤ 1) ∧ (0 ≤ z ∧ z ≤ 1))) (S 33 14)))) (k : Int).toNat y) : Int) else 0))) ∧ L' = L ∧ g = (wd cd ad (if gv (bi ((0 ≤ (k : Int) ∧ (k : Int) ≤ 3) ∧ (0 ≤ y ∧ y ≤ 1) ∧ (0 ≤ z ∧ z ≤ 1))) (S 33 14) = 0 then (ldM (u2 S 33 0 (gv (bi ((0 ≤ (k : Int) ∧ (k : Int) ≤ 3) ∧ (0 ≤ y ∧ y ≤ 1) ∧ (0 ≤ z ∧ z ≤ 1))) (S 33 14)))) else u2 S 33 0 (gv (bi ((0 ≤ (k : Int) ∧ (k : Int) ≤ 3) ∧ (0 ≤ y ∧ y ≤ 1) ∧ (0 ≤ z ∧ z ≤ 1))) (S 33 14))) f0))) args s rm_M_after.cells rm_M_after.slots (gA L sz)) 0 0 L (wd cd ad V f0) 79 [(10, jv (b)), (8, jv (a)), (6, jv (1000 * ((V 33 1) + (wM V)))), (4, jv (aM V k y)), (0, .ref (ad 33)), (1, iv ((k : Int))), (2, iv (y)), (3, iv (z))] [] := by
        intro d
        induction d with
        | zero =>
          intro a b hd9 a0 a1 b0 b1 hg
          refine g_lload C d_M_after_79 81 rfl 0 rfl ?_
          refine g_lconst C (z := 0) d_M_after_81 82 rfl rfl ?_
          refine g_lcmp_le C d_M_after_82 83 rfl 86 rfl (show r64 b from ⟨by omega, by omega⟩) (show r64 0 from ⟨by decide, by decide⟩) 104 rfl d_M_after_83 (fun (w5 : b ≤ 0) => ?_) (fun (w5 : ¬ b ≤ 0) => absurd w5 (by omega))
          have hb9 : b = 0 := by omega
          have hga : (Int.gcd (1000 * ((V 33 1) + (wM V))) (aM V k y) : Int) = a := by rw [← hg, hb9, Int.gcd_zero_right]; omega
          have hE : 0 ≤ (if z = 0 then aM V k y else 1000 * ((V 33 1) + (wM V))) ∧ (if z = 0 then aM V k y else 1000 * ((V 33 1) + (wM V))) ≤ 12000000000000 := by split <;> omega
          have JQ : ∀ zj : Int, zj = (if z = 0 then aM V k y else 1000 * ((V 33 1) + (wM V))) → gW p l e rm_M_after s m args below meth c D CL A 14 (MQ below (gQ D CL L sz (fun r L' g => r = (some (jv (if gv (bi ((0 ≤ (k : Int) ∧ (k : Int) ≤ 3) ∧ (0 ≤ y ∧ y ≤ 1) ∧ (0 ≤ z ∧ z ≤ 1))) (S 33 14) = 0 then Int.tdiv (if z = 0 then aM (ldM (u2 S 33 0 (gv (bi ((0 ≤ (k : Int) ∧ (k : Int) ≤ 3) ∧ (0 ≤ y ∧ y ≤ 1) ∧ (0 ≤ z ∧ z ≤ 1))) (S 33 14)))) (k : Int).toNat y else 1000 * ((ldM (u2 S 33 0 (gv (bi ((0 ≤ (k : Int) ∧ (k : Int) ≤ 3) ∧ (0 ≤ y ∧ y ≤ 1) ∧ (0 ≤ z ∧ z ≤ 1))) (S 33 14)))) 33 1 + wM (ldM (u2 S 33 0 (gv (bi ((0 ≤ (k : Int) ∧ (k : Int) ≤ 3) ∧ (0 ≤ y ∧ y ≤ 1) ∧ (0 ≤ z ∧ z ≤ 1))) (S 33 14)))))) (Int.gcd (1000 * ((ldM (u2 S 33 0 (gv (bi ((0 ≤ (k : Int) ∧ (k : Int) ≤ 3) ∧ (0 ≤ y ∧ y ≤ 1) ∧ (0 ≤ z ∧ z ≤ 1))) (S 33 14)))) 33 1 + wM (ldM (u2 S 33 0 (gv (bi ((0 ≤ (k : Int) ∧ (k : Int) ≤ 3) ∧ (0 ≤ y ∧ y ≤ 1) ∧ (0 ≤ z ∧ z ≤ 1))) (S 33 14)))))) (aM (ldM (u2 S 33 0 (gv (bi ((0 ≤ (k : Int) ∧ (k : Int) ≤ 3) ∧ (0 ≤ y ∧ y ≤ 1) ∧ (0 ≤ z ∧ z ≤ 1))) (S 33 14)))) (k : Int).toNat y) : Int) else 0))) ∧ L' = L ∧ g = (wd cd ad (if gv (bi ((0 ≤ (k : Int) ∧ (k : Int) ≤ 3) ∧ (0 ≤ y ∧ y ≤ 1) ∧ (0 ≤ z ∧ z ≤ 1))) (S 33 14) = 0 then (ldM (u2 S 33 0 (gv (bi ((0 ≤ (k : Int) ∧ (k : Int) ≤ 3) ∧ (0 ≤ y ∧ y ≤ 1) ∧ (0 ≤ z ∧ z ≤ 1))) (S 33 14)))) else u2 S 33 0 (gv (bi ((0 ≤ (k : Int) ∧ (k : Int) ≤ 3) ∧ (0 ≤ y ∧ y ≤ 1) ∧ (0 ≤ z ∧ z ≤ 1))) (S 33 14))) f0))) args s rm_M_after.cells rm_M_after.slots (gA L sz)) 0 0 L (wd cd ad V f0) 115 [(10, jv (b)), (8, jv (a)), (6, jv (1000 * ((V 33 1) + (wM V)))), (4, jv (aM V k y)), (0, .ref (ad 33)), (1, iv ((k : Int))), (2, iv (y)), (3, iv (z))] [jv zj] := by
            intro zj hzj
            subst hzj
            refine g_lload C d_M_after_115 117 rfl 1 rfl ?_
            refine g_ldiv C d_M_after_117 118 rfl (show r64 (if z = 0 then aM V k y else 1000 * ((V 33 1) + (wM V))) from ⟨by omega, by omega⟩) (show r64 a from ⟨by omega, by omega⟩) (show a ≠ (0 : Int) by omega) ?_
            exact g_lret C hA hsz hr hl d_M_after_118 (by decide) (by decide) ⟨vj_e (show Int.tdiv (if z = 0 then aM V k y else 1000 * ((V 33 1) + (wM V))) a = _ by rw [if_pos hgo, ← hV]; show _ = Int.tdiv _ (Int.gcd (1000 * (V 33 1 + wM V)) (aM V k y) : Int); rw [hga] <;> rfl), rfl, by rw [if_pos hgo, ← hV]⟩
          refine g_iload_n C d_M_after_104 105 rfl rfl 7 rfl ?_
          refine g_if_ne C d_M_after_105 108 rfl (show r32 z from ⟨by omega, by omega⟩) 113 rfl (fun (w6 : ¬ z = 0) => ?_) (fun (w7 : z = 0) => ?_)
          · skip
            refine g_lload C d_M_after_113 115 rfl 2 rfl ?_
            exact JQ (1000 * ((V 33 1) + (wM V))) (by first | rw [if_pos (by omega)] | rw [if_neg (by omega)])
          · skip
            refine g_lload C d_M_after_108 110 rfl 3 rfl ?_
            refine g_goto C d_M_after_110 115 rfl ?_
            exact JQ (aM V k y) (by first | rw [if_pos (by omega)] | rw [if_neg (by omega)])
        | succ d ih =>
          intro a b hd9 a0 a1 b0 b1 hg
          refine g_lload C d_M_after_79 81 rfl 0 rfl ?_
          refine g_lconst C (z := 0) d_M_after_81 82 rfl rfl ?_
          refine g_lcmp_le C d_M_after_82 83 rfl 86 rfl (show r64 b from ⟨by omega, by omega⟩) (show r64 0 from ⟨by decide, by decide⟩) 104 rfl d_M_after_83 (fun (w8 : b ≤ 0) => ?_) (fun (w9 : ¬ b ≤ 0) => ?_)
          · skip
            have hb9 : b = 0 := by omega
            have hga : (Int.gcd (1000 * ((V 33 1) + (wM V))) (aM V k y) : Int) = a := by rw [← hg, hb9, Int.gcd_zero_right]; omega
            have hE : 0 ≤ (if z = 0 then aM V k y else 1000 * ((V 33 1) + (wM V))) ∧ (if z = 0 then aM V k y else 1000 * ((V 33 1) + (wM V))) ≤ 12000000000000 := by split <;> omega
            have JQ : ∀ zj : Int, zj = (if z = 0 then aM V k y else 1000 * ((V 33 1) + (wM V))) → gW p l e rm_M_after s m args below meth c D CL A 14 (MQ below (gQ D CL L sz (fun r L' g => r = (some (jv (if gv (bi ((0 ≤ (k : Int) ∧ (k : Int) ≤ 3) ∧ (0 ≤ y ∧ y ≤ 1) ∧ (0 ≤ z ∧ z ≤ 1))) (S 33 14) = 0 then Int.tdiv (if z = 0 then aM (ldM (u2 S 33 0 (gv (bi ((0 ≤ (k : Int) ∧ (k : Int) ≤ 3) ∧ (0 ≤ y ∧ y ≤ 1) ∧ (0 ≤ z ∧ z ≤ 1))) (S 33 14)))) (k : Int).toNat y else 1000 * ((ldM (u2 S 33 0 (gv (bi ((0 ≤ (k : Int) ∧ (k : Int) ≤ 3) ∧ (0 ≤ y ∧ y ≤ 1) ∧ (0 ≤ z ∧ z ≤ 1))) (S 33 14)))) 33 1 + wM (ldM (u2 S 33 0 (gv (bi ((0 ≤ (k : Int) ∧ (k : Int) ≤ 3) ∧ (0 ≤ y ∧ y ≤ 1) ∧ (0 ≤ z ∧ z ≤ 1))) (S 33 14)))))) (Int.gcd (1000 * ((ldM (u2 S 33 0 (gv (bi ((0 ≤ (k : Int) ∧ (k : Int) ≤ 3) ∧ (0 ≤ y ∧ y ≤ 1) ∧ (0 ≤ z ∧ z ≤ 1))) (S 33 14)))) 33 1 + wM (ldM (u2 S 33 0 (gv (bi ((0 ≤ (k : Int) ∧ (k : Int) ≤ 3) ∧ (0 ≤ y ∧ y ≤ 1) ∧ (0 ≤ z ∧ z ≤ 1))) (S 33 14)))))) (aM (ldM (u2 S 33 0 (gv (bi ((0 ≤ (k : Int) ∧ (k : Int) ≤ 3) ∧ (0 ≤ y ∧ y ≤ 1) ∧ (0 ≤ z ∧ z ≤ 1))) (S 33 14)))) (k : Int).toNat y) : Int) else 0))) ∧ L' = L ∧ g = (wd cd ad (if gv (bi ((0 ≤ (k : Int) ∧ (k : Int) ≤ 3) ∧ (0 ≤ y ∧ y ≤ 1) ∧ (0 ≤ z ∧ z ≤ 1))) (S 33 14) = 0 then (ldM (u2 S 33 0 (gv (bi ((0 ≤ (k : Int) ∧ (k : Int) ≤ 3) ∧ (0 ≤ y ∧ y ≤ 1) ∧ (0 ≤ z ∧ z ≤ 1))) (S 33 14)))) else u2 S 33 0 (gv (bi ((0 ≤ (k : Int) ∧ (k : Int) ≤ 3) ∧ (0 ≤ y ∧ y ≤ 1) ∧ (0 ≤ z ∧ z ≤ 1))) (S 33 14))) f0))) args s rm_M_after.cells rm_M_after.slots (gA L sz)) 0 0 L (wd cd ad V f0) 115 [(10, jv (b)), (8, jv (a)), (6, jv (1000 * ((V 33 1) + (wM V)))), (4, jv (aM V k y)), (0, .ref (ad 33)), (1, iv ((k : Int))), (2, iv (y)), (3, iv (z))] [jv zj] := by
              intro zj hzj
              subst hzj
              refine g_lload C d_M_after_115 117 rfl 1 rfl ?_
              refine g_ldiv C d_M_after_117 118 rfl (show r64 (if z = 0 then aM V k y else 1000 * ((V 33 1) + (wM V))) from ⟨by omega, by omega⟩) (show r64 a from ⟨by omega, by omega⟩) (show a ≠ (0 : Int) by omega) ?_
              exact g_lret C hA hsz hr hl d_M_after_118 (by decide) (by decide) ⟨vj_e (show Int.tdiv (if z = 0 then aM V k y else 1000 * ((V 33 1) + (wM V))) a = _ by rw [if_pos hgo, ← hV]; show _ = Int.tdiv _ (Int.gcd (1000 * (V 33 1 + wM V)) (aM V k y) : Int); rw [hga] <;> rfl), rfl, by rw [if_pos hgo, ← hV]⟩
            refine g_iload_n C d_M_after_104 105 rfl rfl 7 rfl ?_
            refine g_if_ne C d_M_after_105 108 rfl (show r32 z from ⟨by omega, by omega⟩) 113 rfl (fun (w10 : ¬ z = 0) => ?_) (fun (w11 : z = 0) => ?_)
            · skip
              refine g_lload C d_M_after_113 115 rfl 2 rfl ?_
              exact JQ (1000 * ((V 33 1) + (wM V))) (by first | rw [if_pos (by omega)] | rw [if_neg (by omega)])
            · skip
              refine g_lload C d_M_after_108 110 rfl 3 rfl ?_
              refine g_goto C d_M_after_110 115 rfl ?_
              exact JQ (aM V k y) (by first | rw [if_pos (by omega)] | rw [if_neg (by omega)])
          · skip
            refine g_lload C d_M_after_86 88 rfl 1 rfl ?_
            refine g_lload C d_M_after_88 90 rfl 0 rfl ?_
            refine g_lrem C d_M_after_90 91 rfl (show r64 a from ⟨by omega, by omega⟩) (show r64 b from ⟨by omega, by omega⟩) (show b ≠ (0 : Int) by omega) ?_
            refine g_lstore C d_M_after_91 93 rfl [(12, jv (Int.tmod a b)), (10, jv (b)), (8, jv (a)), (6, jv (1000 * ((V 33 1) + (wM V)))), (4, jv (aM V k y)), (0, .ref (ad 33)), (1, iv ((k : Int))), (2, iv (y)), (3, iv (z))] (by decide) rfl ?_
            refine g_lload C d_M_after_93 95 rfl 1 rfl ?_
            refine g_lstore C d_M_after_95 97 rfl [(8, jv (b)), (12, jv (Int.tmod a b)), (10, jv (b)), (6, jv (1000 * ((V 33 1) + (wM V)))), (4, jv (aM V k y)), (0, .ref (ad 33)), (1, iv ((k : Int))), (2, iv (y)), (3, iv (z))] (by decide) rfl ?_
            refine g_lload C d_M_after_97 99 rfl 1 rfl ?_
            refine g_lstore C d_M_after_99 101 rfl [(10, jv (Int.tmod a b)), (8, jv (b)), (12, jv (Int.tmod a b)), (6, jv (1000 * ((V 33 1) + (wM V)))), (4, jv (aM V k y)), (0, .ref (ad 33)), (1, iv ((k : Int))), (2, iv (y)), (3, iv (z))] (by decide) rfl ?_
            refine g_goto C d_M_after_101 79 rfl ?_
            refine g_sub [0, 1, 3, 4, 5, 6, 7, 8] _ rfl ?_
            have m1 := Int.tmod_nonneg b (show 0 ≤ a by omega)
            have m2 := Int.tmod_lt_of_pos a (show 0 < b by omega)
            exact ih b (Int.tmod a b) (by omega) (by omega) b1 m1 (by omega) (by rw [← hg]; exact gcd_t (by omega) (by omega))
      exact LP _ _ _ (Nat.le_refl _) hdn.1 (by omega) (by omega) (by omega) rfl
    · skip
      have w2 : ¬ (gv (bi ((0 ≤ x ∧ x ≤ 3) ∧ (0 ≤ y ∧ y ≤ 1) ∧ (0 ≤ z ∧ z ≤ 1))) (S 33 14) = 0) := bi_f w2
      refine g_lconst C (z := 0) d_M_after_41 42 rfl rfl ?_
      exact g_lret C hA hsz hr hl d_M_after_42 (by decide) (by decide) ⟨vj_e (by rw [if_neg (by assumption)]), rfl, by rw [if_neg (by assumption)]⟩
  refine g_iload_n C d_M_after_1 2 rfl rfl 1 rfl ?_
  refine fcS1 C (rest := [.ref (ad 33)]) d_M_after_2 5 rfl (t_M_isElement x (show r32 x from ⟨by omega, by omega⟩)) ⟨ml_M_76, sm_M_isElement, ci_M⟩ w_M_isElement rfl 1 gy_M_isElement rfl 0 rfl 0 rfl rfl rfl (Nat.le_of_ble_eq_true rfl) ?_
  refine g_if_eq C d_M_after_5 8 rfl (bi_r _) 30 rfl (fun (w12 : bi (0 ≤ x ∧ x ≤ 3) = 0) => ?_) (fun (w13 : ¬ bi (0 ≤ x ∧ x ≤ 3) = 0) => ?_)
  · skip
    have w12 : ¬ (0 ≤ x ∧ x ≤ 3) := bi_f w12
    refine g_iconst C d_M_after_30 31 rfl ?_
    exact JG 0 (by first | exact (bi_pos (by omega)).symm | exact (bi_neg (by omega)).symm)
  · skip
    have w13 : (0 ≤ x ∧ x ≤ 3) := bi_t w13
    refine g_iload_n C d_M_after_8 9 rfl rfl 2 rfl ?_
    refine g_iconst C d_M_after_9 10 rfl ?_
    refine g_iconst C d_M_after_10 11 rfl ?_
    refine fcS1 C (rest := [.ref (ad 33)]) d_M_after_11 14 rfl (t_M_in y 0 1 (show r32 y from ⟨by omega, by omega⟩) (show r32 0 from ⟨by decide, by decide⟩) (show r32 1 from ⟨by decide, by decide⟩)) ⟨ml_M_57, sm_M_in, ci_M⟩ w_M_in rfl 3 gy_M_in rfl 0 rfl 0 rfl rfl rfl (Nat.le_of_ble_eq_true rfl) ?_
    refine g_if_eq C d_M_after_14 17 rfl (bi_r _) 30 rfl (fun (w14 : bi (0 ≤ y ∧ y ≤ 1) = 0) => ?_) (fun (w15 : ¬ bi (0 ≤ y ∧ y ≤ 1) = 0) => ?_)
    · skip
      have w14 : ¬ (0 ≤ y ∧ y ≤ 1) := bi_f w14
      refine g_iconst C d_M_after_30 31 rfl ?_
      exact JG 0 (by first | exact (bi_pos (by omega)).symm | exact (bi_neg (by omega)).symm)
    · skip
      have w15 : (0 ≤ y ∧ y ≤ 1) := bi_t w15
      refine g_iload_n C d_M_after_17 18 rfl rfl 3 rfl ?_
      refine g_iconst C d_M_after_18 19 rfl ?_
      refine g_iconst C d_M_after_19 20 rfl ?_
      refine fcS1 C (rest := [.ref (ad 33)]) d_M_after_20 23 rfl (t_M_in z 0 1 (show r32 z from ⟨by omega, by omega⟩) (show r32 0 from ⟨by decide, by decide⟩) (show r32 1 from ⟨by decide, by decide⟩)) ⟨ml_M_57, sm_M_in, ci_M⟩ w_M_in rfl 3 gy_M_in rfl 0 rfl 0 rfl rfl rfl (Nat.le_of_ble_eq_true rfl) ?_
      refine g_if_eq C d_M_after_23 26 rfl (bi_r _) 30 rfl (fun (w16 : bi (0 ≤ z ∧ z ≤ 1) = 0) => ?_) (fun (w17 : ¬ bi (0 ≤ z ∧ z ≤ 1) = 0) => ?_)
      · skip
        have w16 : ¬ (0 ≤ z ∧ z ≤ 1) := bi_f w16
        refine g_iconst C d_M_after_30 31 rfl ?_
        exact JG 0 (by first | exact (bi_pos (by omega)).symm | exact (bi_neg (by omega)).symm)
      · skip
        have w17 : (0 ≤ z ∧ z ≤ 1) := bi_t w17
        refine g_iconst C d_M_after_26 27 rfl ?_
        refine g_goto C d_M_after_27 31 rfl ?_
        exact JG 1 (by first | exact (bi_pos (by omega)).symm | exact (bi_neg (by omega)).symm)
end M12
