section M3
variable {l : Launch} {D : va_G} {cd : Nat → ClassId} {ad : Nat → Nat} {L : List Nat} {f f0 : Nat → va_E} {S : Nat → Nat → Int}
theorem g_sub {p : Program} {e : Env} {R : Room} {s : State} {m : MethodId} {args : Array Value} {below : List Frame} {meth : Method} {c : Code} {A : Nat → Prop} {nL : Nat} {Q : State → Prop} {cells slots pc : Nat} {lv : List (Nat × Value)} {st : List Value} (ks : List Nat) (lv' : List (Nat × Value)) (h : lv_pick lv ks = lv') (k : gW p l e R s m args below meth c D CL A nL Q cells slots L f pc lv' st) : gW p l e R s m args below meth c D CL A nL Q cells slots L f pc lv st := fun H locs ls h1 h2 h3 h4 => k H locs ls h1 h2 h3 (lv_sub h4 ks h)
def addP (S : Nat → Nat → Int) (k j : Nat) : Int := bi (j ≠ k ∧ 0 < S 6 j ∧ befA S j k)
def heldP (S : Nat → Nat → Int) (q n : Nat) : Int := heldH S q + sumN (fun j => S 6 j * heldA S j q) n
def eu : Nat → Int → Int → Int
  | 0, a, _ => a
  | n + 1, a, b => if b = 0 then a else eu n b (a.tmod b)
def setS (S : Nat → Nat → Int) (c k m q : Int) (n : Nat) : Nat → Nat → Int := fun k' => if k' = 5 then (fun j => if j = 1 then c else if j = 2 then k else if j = 3 then m else if j = 4 then q else S 5 j) else if k' = 6 then (fun j => if j < n then S 8 j else S 6 j) else S k'
theorem setS_0 (S : Nat → Nat → Int) : u2 (u2 (u2 (u2 S 5 1 0) 5 2 0) 5 3 0) 5 4 0 = setS S 0 0 0 0 0 := by
  funext k' j
  simp only [u2, setS]
  by_cases h5 : k' = 5
  · subst h5
    simp only [if_true, updI]
    by_cases a1 : j = 1
    · subst a1; simp
    · by_cases a2 : j = 2
      · subst a2; simp
      · by_cases a3 : j = 3
        · subst a3; simp
        · by_cases a4 : j = 4
          · subst a4; simp
          · simp [a1, a2, a3, a4]
  · simp only [h5, if_false]
    by_cases h6 : k' = 6
    · subst h6; simp
    · simp [h6]
theorem setS_s (S : Nat → Nat → Int) (c k m q c' k' m' q' : Int) (n : Nat) : u2 (u2 (u2 (u2 (u2 (setS S c k m q n) 6 n (S 8 n)) 5 1 c') 5 2 k') 5 3 m') 5 4 q' = setS S c' k' m' q' (n + 1) := by
  funext x j
  simp only [u2, setS]
  by_cases h5 : x = 5
  · subst h5
    simp only [if_true, updI]
    by_cases a1 : j = 1
    · subst a1; simp
    · by_cases a2 : j = 2
      · subst a2; simp
      · by_cases a3 : j = 3
        · subst a3; simp
        · by_cases a4 : j = 4
          · subst a4; simp
          · simp [a1, a2, a3, a4]
  · simp only [h5, if_false]
    by_cases h6 : x = 6
    · subst h6
      simp only [if_true, updI]
      by_cases h1 : j = n
      · subst h1; simp
      · by_cases h2 : j < n
        · simp [h1, h2, show j < n + 1 by omega]
        · simp [h1, h2, show ¬ j < n + 1 by omega]
    · simp [h6]
theorem setS_ne {S : Nat → Nat → Int} {c k m q : Int} {n x : Nat} (h5 : x ≠ 5) (h6 : x ≠ 6) : setS S c k m q n x = S x := by unfold setS; rw [if_neg h5, if_neg h6]
abbrev rm_P_countAddedBefore : Room := { frames := 1, cells := 0, slots := 0, locals := 23 }
set_option maxHeartbeats 4000000 in
set_option maxRecDepth 100000 in
theorem t_P_countAddedBefore (G : LO ad L) (k : Nat) (hk : k < 4) (h0 : 0 ≤ S 0 4 ∧ S 0 4 ≤ 4) (h6 : ∀ j, j < 4 → 0 ≤ S 6 j ∧ S 6 j ≤ 12) (hc : ∀ j, j < 4 → 0 ≤ S (11 + j) 4 ∧ S (11 + j) 4 ≤ 1000) : FM l y_P_countAddedBefore c_P_countAddedBefore 4 (some .int) rm_P_countAddedBefore D cd L (wd cd ad S f0) [.ref (ad 0), iv ((k : Int))] (some (iv (sumN (addP S k) (S 0 4).toNat))) (wd cd ad S f0) := by
  refine g_of (by decide) (Nat.le_of_ble_eq_true rfl) ?_
  intro p e s m args below meth c A sz hA hsz C hr hl hnm
  have C : gC p s m args c D CL (TY cd) A c_P_countAddedBefore "AlloyPlans" 4 := C
  change gW _ _ _ _ _ _ _ _ _ _ _ _ _ _ _ _ _ _ _ 0 [(0, .ref (ad 0)), (1, iv ((k : Int)))] []
  obtain ⟨u0, v0⟩ := h0
  obtain ⟨u9, v9⟩ := hc k hk
  refine g_iconst C d_P_countAddedBefore_0 1 rfl ?_
  refine g_istore_n C d_P_countAddedBefore_1 2 rfl [(2, iv (0)), (0, .ref (ad 0)), (1, iv ((k : Int)))] rfl (by decide) rfl ?_
  refine g_iconst C d_P_countAddedBefore_2 3 rfl ?_
  refine g_istore_n C d_P_countAddedBefore_3 4 rfl [(3, iv (0)), (2, iv (0)), (0, .ref (ad 0)), (1, iv ((k : Int)))] rfl (by decide) rfl ?_
  have LP : ∀ (d n : Nat) (x : Int), n + d = 4 → x = sumN (addP S k) n → (n : Int) ≤ S 0 4 → gW p l e rm_P_countAddedBefore s m args below meth c D CL A 4 (MQ below (gQ D CL L sz (fun r L' g => r = (some (iv (sumN (addP S k) (S 0 4).toNat))) ∧ L' = L ∧ g = (wd cd ad S f0))) args s rm_P_countAddedBefore.cells rm_P_countAddedBefore.slots (gA L sz)) 0 0 L (wd cd ad S f0) 4 [(3, iv ((n : Int))), (2, iv (x)), (0, .ref (ad 0)), (1, iv ((k : Int)))] [] := by
    intro d
    induction d with
    | zero =>
      intro n x hn hx hle
      have hx : x = sumN (addP S k) n := hx
      refine g_iload_n C d_P_countAddedBefore_4 5 rfl rfl 0 rfl ?_
      refine g_aload_n C d_P_countAddedBefore_5 6 rfl rfl 2 rfl ?_
      refine gt_P_kindCount C G d_P_countAddedBefore_6 9 rfl fl_P_37 ?_
      refine g_icmp_ge C d_P_countAddedBefore_9 12 rfl (show r32 ((n : Int)) from ⟨by omega, by omega⟩) (show r32 (S 0 4) from ⟨by omega, by omega⟩) 55 rfl (fun (w1 : S 0 4 ≤ (n : Int)) => ?_) (fun (w1 : ¬ S 0 4 ≤ (n : Int)) => absurd w1 (by omega))
      refine g_iload_n C d_P_countAddedBefore_55 56 rfl rfl 1 rfl ?_
      exact g_iret C hA hsz hr hl d_P_countAddedBefore_56 (by decide) (by decide) ⟨vi_e (by rw [hx, show n = (S 0 4).toNat by omega]), rfl, rfl⟩
    | succ d ih =>
      intro n x hn hx hle
      obtain ⟨u6, v6⟩ := h6 n (by omega)
      obtain ⟨u7, v7⟩ := hc n (by omega)
      refine g_iload_n C d_P_countAddedBefore_4 5 rfl rfl 0 rfl ?_
      refine g_aload_n C d_P_countAddedBefore_5 6 rfl rfl 2 rfl ?_
      refine gt_P_kindCount C G d_P_countAddedBefore_6 9 rfl fl_P_37 ?_
      refine g_icmp_ge C d_P_countAddedBefore_9 12 rfl (show r32 ((n : Int)) from ⟨by omega, by omega⟩) (show r32 (S 0 4) from ⟨by omega, by omega⟩) 55 rfl (fun (w2 : S 0 4 ≤ (n : Int)) => ?_) (fun (w3 : ¬ S 0 4 ≤ (n : Int)) => ?_)
      · skip
        refine g_iload_n C d_P_countAddedBefore_55 56 rfl rfl 1 rfl ?_
        exact g_iret C hA hsz hr hl d_P_countAddedBefore_56 (by decide) (by decide) ⟨vi_e (by rw [hx, show n = (S 0 4).toNat by omega]), rfl, rfl⟩
      · skip
        refine g_iload_n C d_P_countAddedBefore_12 13 rfl rfl 0 rfl ?_
        refine g_aload_n C d_P_countAddedBefore_13 14 rfl rfl 2 rfl ?_
        refine gt_P_alloys C G d_P_countAddedBefore_14 17 rfl fl_P_18 ?_
        refine ln_4 C G d_P_countAddedBefore_17 18 rfl ?_
        refine g_icmp_ge C d_P_countAddedBefore_18 21 rfl (show r32 ((n : Int)) from ⟨by omega, by omega⟩) (show r32 4 from ⟨by decide, by decide⟩) 55 rfl (fun (w4 : 4 ≤ (n : Int)) => absurd w4 (by omega)) (fun (w4 : ¬ 4 ≤ (n : Int)) => ?_)
        refine g_iload_n C d_P_countAddedBefore_21 22 rfl rfl 0 rfl ?_
        refine g_iload_n C d_P_countAddedBefore_22 23 rfl rfl 3 rfl ?_
        refine g_icmp_eq C d_P_countAddedBefore_23 26 rfl (show r32 ((n : Int)) from ⟨by omega, by omega⟩) (show r32 ((k : Int)) from ⟨by omega, by omega⟩) 49 rfl (fun (w5 : (n : Int) = (k : Int)) => ?_) (fun (w6 : ¬ (n : Int) = (k : Int)) => ?_)
        · skip
          refine g_iinc C d_P_countAddedBefore_49 52 rfl [(3, iv ((n : Int) + 1)), (2, iv (x)), (0, .ref (ad 0)), (1, iv ((k : Int)))] 0 rfl (by decide) rfl ?_
          refine g_goto C d_P_countAddedBefore_52 4 rfl ?_
          have hb : addP S k n = 0 := bi_neg (fun q => by first | exact absurd q.2.1 (by assumption) | exact absurd q.2.2 (by assumption) | (have := q.1; omega))
          exact ih (n + 1) _ (by omega) (show _ = sumN (addP S k) n + addP S k n by rw [← hx, hb] <;> omega) (by omega)
        · skip
          refine g_aload_n C d_P_countAddedBefore_26 27 rfl rfl 2 rfl ?_
          refine gt_P_plan C G d_P_countAddedBefore_27 30 rfl fl_P_26 ?_
          refine g_iload_n C d_P_countAddedBefore_30 31 rfl rfl 0 rfl ?_
          refine fcV1 C (rest := []) d_P_countAddedBefore_31 34 rfl (t_N_isTaken G (S := S) n (by omega) (show r32 (S 6 n) from ⟨by omega, by omega⟩)) rfl (G.1 5 (by decide)) (at_N G) ⟨ml_P_141, im_N_isTaken, se_N_isTaken, ci_N⟩ w_N_isTaken rfl 1 gy_N_isTaken rfl 0 rfl 0 rfl rfl rfl (Nat.le_of_ble_eq_true rfl) ?_
          refine g_if_eq C d_P_countAddedBefore_34 37 rfl (bi_r _) 49 rfl (fun (w7 : bi (0 < S 6 n) = 0) => ?_) (fun (w8 : ¬ bi (0 < S 6 n) = 0) => ?_)
          · skip
            have w7 : ¬ (0 < S 6 n) := bi_f w7
            refine g_iinc C d_P_countAddedBefore_49 52 rfl [(3, iv ((n : Int) + 1)), (2, iv (x)), (0, .ref (ad 0)), (1, iv ((k : Int)))] 0 rfl (by decide) rfl ?_
            refine g_goto C d_P_countAddedBefore_52 4 rfl ?_
            have hb : addP S k n = 0 := bi_neg (fun q => by first | exact absurd q.2.1 (by assumption) | exact absurd q.2.2 (by assumption) | (have := q.1; omega))
            exact ih (n + 1) _ (by omega) (show _ = sumN (addP S k) n + addP S k n by rw [← hx, hb] <;> omega) (by omega)
          · skip
            have w8 : (0 < S 6 n) := bi_t w8
            refine g_aload_n C d_P_countAddedBefore_37 38 rfl rfl 2 rfl ?_
            refine g_iload_n C d_P_countAddedBefore_38 39 rfl rfl 0 rfl ?_
            refine g_iload_n C d_P_countAddedBefore_39 40 rfl rfl 3 rfl ?_
            refine fcV1 C (rest := []) d_P_countAddedBefore_40 43 rfl (t_P_isAddedBefore G (S := S) n k (by omega) (by omega) ⟨by omega, by omega⟩ ⟨by omega, by omega⟩) rfl (G.1 0 (by decide)) (at_P G) ⟨ml_P_186, im_P_isAddedBefore, se_P_isAddedBefore, ci_P⟩ w_P_isAddedBefore rfl 2 gy_P_isAddedBefore rfl 0 rfl 0 rfl rfl rfl (Nat.le_of_ble_eq_true rfl) ?_
            refine g_if_eq C d_P_countAddedBefore_43 46 rfl (bi_r _) 49 rfl (fun (w9 : bi (befA S n k) = 0) => ?_) (fun (w10 : ¬ bi (befA S n k) = 0) => ?_)
            · skip
              have w9 : ¬ (befA S n k) := bi_f w9
              refine g_iinc C d_P_countAddedBefore_49 52 rfl [(3, iv ((n : Int) + 1)), (2, iv (x)), (0, .ref (ad 0)), (1, iv ((k : Int)))] 0 rfl (by decide) rfl ?_
              refine g_goto C d_P_countAddedBefore_52 4 rfl ?_
              have hb : addP S k n = 0 := bi_neg (fun q => by first | exact absurd q.2.1 (by assumption) | exact absurd q.2.2 (by assumption) | (have := q.1; omega))
              exact ih (n + 1) _ (by omega) (show _ = sumN (addP S k) n + addP S k n by rw [← hx, hb] <;> omega) (by omega)
            · skip
              have w10 : (befA S n k) := bi_t w10
              refine g_iinc C d_P_countAddedBefore_46 49 rfl [(2, iv (x + 1)), (3, iv ((n : Int))), (0, .ref (ad 0)), (1, iv ((k : Int)))] 1 rfl (by decide) rfl ?_
              refine g_iinc C d_P_countAddedBefore_49 52 rfl [(3, iv ((n : Int) + 1)), (2, iv (x + 1)), (0, .ref (ad 0)), (1, iv ((k : Int)))] 1 rfl (by decide) rfl ?_
              refine g_goto C d_P_countAddedBefore_52 4 rfl ?_
              have hb : addP S k n = 1 := bi_pos ⟨by omega, by assumption, by assumption⟩
              exact ih (n + 1) _ (by omega) (show _ = sumN (addP S k) n + addP S k n by rw [← hx, hb] <;> omega) (by omega)
  exact LP 4 0 0 rfl rfl u0
abbrev rm_P_heldByPlan : Room := { frames := 1, cells := 0, slots := 0, locals := 21 }
set_option maxHeartbeats 4000000 in
set_option maxRecDepth 100000 in
theorem t_P_heldByPlan (G : LO ad L) (q : Nat) (hq : q < 8) (h0 : 0 ≤ S 0 4 ∧ S 0 4 ≤ 4) (h1 : r32 (S 1 0)) (h2 : r32 (S 2 q)) (h6 : ∀ j, j < 4 → 0 ≤ S 6 j ∧ S 6 j ≤ 12) (ha : ∀ j, j < 4 → (r32 (S (11 + j) 1) ∧ r32 (S (15 + j) q) ∧ r32 (S (11 + j) 3))) : FM l y_P_heldByPlan c_P_heldByPlan 5 (some .long) rm_P_heldByPlan D cd L (wd cd ad S f0) [.ref (ad 0), iv ((q : Int))] (some (jv (heldP S q (S 0 4).toNat))) (wd cd ad S f0) := by
  refine g_of (by decide) (Nat.le_of_ble_eq_true rfl) ?_
  intro p e s m args below meth c A sz hA hsz C hr hl hnm
  have C : gC p s m args c D CL (TY cd) A c_P_heldByPlan "AlloyPlans" 5 := C
  change gW _ _ _ _ _ _ _ _ _ _ _ _ _ _ _ _ _ _ _ 0 [(0, .ref (ad 0)), (1, iv ((q : Int)))] []
  obtain ⟨u0, v0⟩ := h0
  obtain ⟨u1, v1⟩ := h1
  obtain ⟨u2, v2⟩ := h2
  refine g_aload_n C d_P_heldByPlan_0 1 rfl rfl 0 rfl ?_
  refine gt_P_melt C G d_P_heldByPlan_1 4 rfl fl_P_12 ?_
  refine g_iload_n C d_P_heldByPlan_4 5 rfl rfl 1 rfl ?_
  refine fcV1 C (rest := []) d_P_heldByPlan_5 8 rfl (t_E_heldAt G (S := S) q (by omega) (show r32 (S 1 0) from ⟨by omega, by omega⟩) (show r32 (S 2 q) from ⟨by omega, by omega⟩)) rfl (G.1 1 (by decide)) (at_E G) ⟨ml_P_189, im_E_heldAt, se_E_heldAt, ci_E⟩ w_E_heldAt rfl 1 gy_E_heldAt rfl 0 rfl 0 rfl rfl rfl (Nat.le_of_ble_eq_true rfl) ?_
  refine g_lstore_n C d_P_heldByPlan_8 9 rfl [(2, jv (heldH S q)), (0, .ref (ad 0)), (1, iv ((q : Int)))] rfl (by decide) rfl ?_
  refine g_iconst C d_P_heldByPlan_9 10 rfl ?_
  refine g_istore C d_P_heldByPlan_10 12 rfl [(4, iv (0)), (2, jv (heldH S q)), (0, .ref (ad 0)), (1, iv ((q : Int)))] (by decide) rfl ?_
  have LP : ∀ (d n : Nat) (x : Int), n + d = 4 → x = heldP S q n → (n : Int) ≤ S 0 4 → gW p l e rm_P_heldByPlan s m args below meth c D CL A 5 (MQ below (gQ D CL L sz (fun r L' g => r = (some (jv (heldP S q (S 0 4).toNat))) ∧ L' = L ∧ g = (wd cd ad S f0))) args s rm_P_heldByPlan.cells rm_P_heldByPlan.slots (gA L sz)) 0 0 L (wd cd ad S f0) 12 [(4, iv ((n : Int))), (2, jv (x)), (0, .ref (ad 0)), (1, iv ((q : Int)))] [] := by
    intro d
    induction d with
    | zero =>
      intro n x hn hx hle
      refine g_iload C d_P_heldByPlan_12 14 rfl 0 rfl ?_
      refine g_aload_n C d_P_heldByPlan_14 15 rfl rfl 2 rfl ?_
      refine gt_P_kindCount C G d_P_heldByPlan_15 18 rfl fl_P_37 ?_
      refine g_icmp_ge C d_P_heldByPlan_18 21 rfl (show r32 ((n : Int)) from ⟨by omega, by omega⟩) (show r32 (S 0 4) from ⟨by omega, by omega⟩) 63 rfl (fun (w1 : S 0 4 ≤ (n : Int)) => ?_) (fun (w1 : ¬ S 0 4 ≤ (n : Int)) => absurd w1 (by omega))
      refine g_lload_n C d_P_heldByPlan_63 64 rfl rfl 1 rfl ?_
      exact g_lret C hA hsz hr hl d_P_heldByPlan_64 (by decide) (by decide) ⟨vj_e (by rw [hx, show n = (S 0 4).toNat by omega]), rfl, rfl⟩
    | succ d ih =>
      intro n x hn hx hle
      obtain ⟨u6, v6⟩ := h6 n (by omega)
      obtain ⟨⟨u7, v7⟩, ⟨u8, v8⟩, u9, v9⟩ := ha n (by omega)
      refine g_iload C d_P_heldByPlan_12 14 rfl 0 rfl ?_
      refine g_aload_n C d_P_heldByPlan_14 15 rfl rfl 2 rfl ?_
      refine gt_P_kindCount C G d_P_heldByPlan_15 18 rfl fl_P_37 ?_
      refine g_icmp_ge C d_P_heldByPlan_18 21 rfl (show r32 ((n : Int)) from ⟨by omega, by omega⟩) (show r32 (S 0 4) from ⟨by omega, by omega⟩) 63 rfl (fun (w2 : S 0 4 ≤ (n : Int)) => ?_) (fun (w3 : ¬ S 0 4 ≤ (n : Int)) => ?_)
      · skip
        refine g_lload_n C d_P_heldByPlan_63 64 rfl rfl 1 rfl ?_
        exact g_lret C hA hsz hr hl d_P_heldByPlan_64 (by decide) (by decide) ⟨vj_e (by rw [hx, show n = (S 0 4).toNat by omega]), rfl, rfl⟩
      · skip
        refine g_iload C d_P_heldByPlan_21 23 rfl 0 rfl ?_
        refine g_aload_n C d_P_heldByPlan_23 24 rfl rfl 2 rfl ?_
        refine gt_P_alloys C G d_P_heldByPlan_24 27 rfl fl_P_18 ?_
        refine ln_4 C G d_P_heldByPlan_27 28 rfl ?_
        refine g_icmp_ge C d_P_heldByPlan_28 31 rfl (show r32 ((n : Int)) from ⟨by omega, by omega⟩) (show r32 4 from ⟨by decide, by decide⟩) 63 rfl (fun (w4 : 4 ≤ (n : Int)) => absurd w4 (by omega)) (fun (w4 : ¬ 4 ≤ (n : Int)) => ?_)
        refine g_lload_n C d_P_heldByPlan_31 32 rfl rfl 1 rfl ?_
        refine g_aload_n C d_P_heldByPlan_32 33 rfl rfl 2 rfl ?_
        refine gt_P_plan C G d_P_heldByPlan_33 36 rfl fl_P_26 ?_
        refine gt_N_taken C G d_P_heldByPlan_36 39 rfl fl_P_132 ?_
        refine g_iload C d_P_heldByPlan_39 41 rfl 0 rfl ?_
        refine ld_6 C G d_P_heldByPlan_41 42 rfl n (by omega) rfl ?_
        refine g_i2l C d_P_heldByPlan_42 43 rfl (show r32 (S 6 n) from ⟨by omega, by omega⟩) ?_
        refine g_aload_n C d_P_heldByPlan_43 44 rfl rfl 2 rfl ?_
        refine gt_P_alloys C G d_P_heldByPlan_44 47 rfl fl_P_18 ?_
        refine g_iload C d_P_heldByPlan_47 49 rfl 0 rfl ?_
        refine ld_4 C G d_P_heldByPlan_49 50 rfl n (by omega) rfl ?_
        refine g_iload_n C d_P_heldByPlan_50 51 rfl rfl 3 rfl ?_
        refine fcV1 C (rest := [jv (S 6 n), jv (x)]) d_P_heldByPlan_51 54 rfl (t_A_heldInStepAt G (S := S) n q (by omega) (by omega) (show r32 (S (11 + n) 1) from ⟨by omega, by omega⟩) (show r32 (S (15 + n) q) from ⟨by omega, by omega⟩) (show r32 (S (11 + n) 3) from ⟨by omega, by omega⟩)) rfl (G.1 (11 + n) (by omega)) (at_A G n (by omega)) ⟨ml_P_192, im_A_heldInStepAt, se_A_heldInStepAt, ci_A⟩ w_A_heldInStepAt rfl 1 gy_A_heldInStepAt rfl 0 rfl 0 rfl rfl rfl (Nat.le_of_ble_eq_true rfl) ?_
        refine g_lmul C d_P_heldByPlan_54 55 rfl ?_
        refine g_ladd C d_P_heldByPlan_55 56 rfl ?_
        refine g_lstore_n C d_P_heldByPlan_56 57 rfl [(2, jv (x + ((S 6 n) * (heldA S n q)))), (4, iv ((n : Int))), (0, .ref (ad 0)), (1, iv ((q : Int)))] rfl (by decide) rfl ?_
        refine g_iinc C d_P_heldByPlan_57 60 rfl [(4, iv ((n : Int) + 1)), (2, jv (x + ((S 6 n) * (heldA S n q)))), (0, .ref (ad 0)), (1, iv ((q : Int)))] 1 rfl (by decide) rfl ?_
        refine g_goto C d_P_heldByPlan_60 12 rfl ?_
        exact ih (n + 1) _ (by omega) (by rw [hx]; unfold heldP; simp only [sumN, Int.add_assoc]) (by omega)
  exact LP 4 0 _ rfl (by unfold heldP; simp only [sumN, Int.add_zero]) u0
abbrev rm_P_roundedByPlan : Room := { frames := 2, cells := 0, slots := 0, locals := 45 }
set_option maxHeartbeats 4000000 in
set_option maxRecDepth 100000 in
theorem t_P_roundedByPlan (G : LO ad L) (q : Nat) (hq : q < 8) (h0 : 0 ≤ S 0 4 ∧ S 0 4 ≤ 4) (h1 : 1 ≤ S 1 0 ∧ S 1 0 ≤ 65536) (h2 : r32 (S 2 q)) (h3 : 0 ≤ S 5 2 ∧ S 5 2 ≤ 48000) (h4 : 0 ≤ heldP S q (S 0 4).toNat ∧ heldP S q (S 0 4).toNat ≤ 1000000000000000) (h6 : ∀ j, j < 4 → 0 ≤ S 6 j ∧ S 6 j ≤ 12) (ha : ∀ j, j < 4 → (r32 (S (11 + j) 1) ∧ r32 (S (15 + j) q) ∧ r32 (S (11 + j) 3))) : FM l y_P_roundedByPlan c_P_roundedByPlan 6 (some .int) rm_P_roundedByPlan D cd L (wd cd ad S f0) [.ref (ad 0), iv ((q : Int))] (some (iv (if 0 < 1000 * (S 1 0 + S 5 2) then Int.tdiv (if Int.tmod (q : Int) 2 = 0 then heldP S q (S 0 4).toNat else heldP S q (S 0 4).toNat + 1000 * (S 1 0 + S 5 2) - 1) (1000 * (S 1 0 + S 5 2)) else 0))) (wd cd ad S f0) := by
  refine g_of (by decide) (Nat.le_of_ble_eq_true rfl) ?_
  intro p e s m args below meth c A sz hA hsz C hr hl hnm
  have C : gC p s m args c D CL (TY cd) A c_P_roundedByPlan "AlloyPlans" 6 := C
  change gW _ _ _ _ _ _ _ _ _ _ _ _ _ _ _ _ _ _ _ 0 [(0, .ref (ad 0)), (1, iv ((q : Int)))] []
  obtain ⟨u0, v0⟩ := h0
  obtain ⟨u1, v1⟩ := h1
  obtain ⟨u2, v2⟩ := h2
  obtain ⟨u3, v3⟩ := h3
  obtain ⟨u4, v4⟩ := h4
  refine g_aload_n C d_P_roundedByPlan_0 1 rfl rfl 0 rfl ?_
  refine g_iload_n C d_P_roundedByPlan_1 2 rfl rfl 1 rfl ?_
  refine fcV1 C (rest := []) d_P_roundedByPlan_2 5 rfl (t_P_heldByPlan G (S := S) q (by omega) ⟨by omega, by omega⟩ ⟨by omega, by omega⟩ (show r32 (S 2 q) from ⟨by omega, by omega⟩) h6 ha) rfl (G.1 0 (by decide)) (at_P G) ⟨ml_P_148, im_P_heldByPlan, se_P_heldByPlan, ci_P⟩ w_P_heldByPlan rfl 1 gy_P_heldByPlan rfl 0 rfl 0 rfl rfl rfl (Nat.le_of_ble_eq_true rfl) ?_
  refine g_lstore_n C d_P_roundedByPlan_5 6 rfl [(2, jv (heldP S q (S 0 4).toNat)), (0, .ref (ad 0)), (1, iv ((q : Int)))] rfl (by decide) rfl ?_
  refine g_aload_n C d_P_roundedByPlan_6 7 rfl rfl 1 rfl ?_
  refine fcV1 C (rest := []) d_P_roundedByPlan_7 10 rfl (t_P_wholeByPlan G (S := S) ⟨by omega, by omega⟩ ⟨by omega, by omega⟩) rfl (G.1 0 (by decide)) (at_P G) ⟨ml_P_152, im_P_wholeByPlan, se_P_wholeByPlan, ci_P⟩ w_P_wholeByPlan rfl 0 gy_P_wholeByPlan rfl 0 rfl 0 rfl rfl rfl (Nat.le_of_ble_eq_true rfl) ?_
  refine g_lstore C d_P_roundedByPlan_10 12 rfl [(4, jv (1000 * (S 1 0 + S 5 2))), (2, jv (heldP S q (S 0 4).toNat)), (0, .ref (ad 0)), (1, iv ((q : Int)))] (by decide) rfl ?_
  have hE : 0 ≤ (if Int.tmod (q : Int) 2 = 0 then heldP S q (S 0 4).toNat else heldP S q (S 0 4).toNat + 1000 * (S 1 0 + S 5 2) - 1) ∧ (if Int.tmod (q : Int) 2 = 0 then heldP S q (S 0 4).toNat else heldP S q (S 0 4).toNat + 1000 * (S 1 0 + S 5 2) - 1) ≤ 2000000000000000 := by split <;> omega
  obtain ⟨u5, v5⟩ := hE
  have JJ : ∀ zj : Int, zj = (if Int.tmod (q : Int) 2 = 0 then heldP S q (S 0 4).toNat else heldP S q (S 0 4).toNat + 1000 * (S 1 0 + S 5 2) - 1) → gW p l e rm_P_roundedByPlan s m args below meth c D CL A 6 (MQ below (gQ D CL L sz (fun r L' g => r = (some (iv (if 0 < 1000 * (S 1 0 + S 5 2) then Int.tdiv (if Int.tmod (q : Int) 2 = 0 then heldP S q (S 0 4).toNat else heldP S q (S 0 4).toNat + 1000 * (S 1 0 + S 5 2) - 1) (1000 * (S 1 0 + S 5 2)) else 0))) ∧ L' = L ∧ g = (wd cd ad S f0))) args s rm_P_roundedByPlan.cells rm_P_roundedByPlan.slots (gA L sz)) 0 0 L (wd cd ad S f0) 29 [(4, jv (1000 * (S 1 0 + S 5 2))), (2, jv (heldP S q (S 0 4).toNat)), (0, .ref (ad 0)), (1, iv ((q : Int)))] [jv zj] := by
    intro zj hzj
    subst hzj
    refine g_lload C d_P_roundedByPlan_29 31 rfl 0 rfl ?_
    refine fcS1 C (rest := []) d_P_roundedByPlan_31 34 rfl (t_P_quotient (if Int.tmod (q : Int) 2 = 0 then heldP S q (S 0 4).toNat else heldP S q (S 0 4).toNat + 1000 * (S 1 0 + S 5 2) - 1) (1000 * (S 1 0 + S 5 2)) (show r64 (if Int.tmod (q : Int) 2 = 0 then heldP S q (S 0 4).toNat else heldP S q (S 0 4).toNat + 1000 * (S 1 0 + S 5 2) - 1) from ⟨by omega, by omega⟩) (show r64 (1000 * (S 1 0 + S 5 2)) from ⟨by omega, by omega⟩)) ⟨ml_P_160, sm_P_quotient, ci_P⟩ w_P_quotient rfl 2 gy_P_quotient rfl 0 rfl 0 rfl rfl rfl (Nat.le_of_ble_eq_true rfl) ?_
    refine g_l2i C d_P_roundedByPlan_34 35 rfl ?_
    exact g_iret C hA hsz hr hl d_P_roundedByPlan_35 (by decide) (by decide) ⟨rfl, rfl, rfl⟩
  refine g_iload_n C d_P_roundedByPlan_12 13 rfl rfl 3 rfl ?_
  refine fcS1 C (rest := []) d_P_roundedByPlan_13 16 rfl (t_P_isLowEnd ((q : Int)) (show r32 ((q : Int)) from ⟨by omega, by omega⟩)) ⟨ml_P_197, sm_P_isLowEnd, ci_P⟩ w_P_isLowEnd rfl 1 gy_P_isLowEnd rfl 0 rfl 0 rfl rfl rfl (Nat.le_of_ble_eq_true rfl) ?_
  refine g_if_eq C d_P_roundedByPlan_16 19 rfl (bi_r _) 23 rfl (fun (w1 : bi (Int.tmod ((q : Int)) 2 = 0) = 0) => ?_) (fun (w2 : ¬ bi (Int.tmod ((q : Int)) 2 = 0) = 0) => ?_)
  · skip
    have w1 : ¬ (Int.tmod ((q : Int)) 2 = 0) := bi_f w1
    refine g_lload_n C d_P_roundedByPlan_23 24 rfl rfl 1 rfl ?_
    refine g_lload C d_P_roundedByPlan_24 26 rfl 0 rfl ?_
    refine g_ladd C d_P_roundedByPlan_26 27 rfl ?_
    refine g_lconst C (z := 1) d_P_roundedByPlan_27 28 rfl rfl ?_
    refine g_lsub C d_P_roundedByPlan_28 29 rfl ?_
    exact JJ (((heldP S q (S 0 4).toNat) + (1000 * (S 1 0 + S 5 2))) - 1) (by first | rw [if_pos (by omega)] | rw [if_neg (by omega)])
  · skip
    have w2 : (Int.tmod ((q : Int)) 2 = 0) := bi_t w2
    refine g_lload_n C d_P_roundedByPlan_19 20 rfl rfl 1 rfl ?_
    refine g_goto C d_P_roundedByPlan_20 29 rfl ?_
    exact JJ (heldP S q (S 0 4).toNat) (by first | rw [if_pos (by omega)] | rw [if_neg (by omega)])
abbrev rm_P_commonDivisor : Room := { frames := 0, cells := 0, slots := 0, locals := 0 }
set_option maxHeartbeats 4000000 in
set_option maxRecDepth 100000 in
theorem t_P_commonDivisor (a b : Int) (ha : 0 ≤ a ∧ a ≤ 4000000000000000000) (hb : 0 ≤ b ∧ b ≤ 4000000000000000000) : FM l y_P_commonDivisor c_P_commonDivisor 11 (some .long) rm_P_commonDivisor D cd L f [jv (a), jv (b)] (some (jv (eu 200 a b))) f := by
  refine g_of (by decide) (Nat.le_of_ble_eq_true rfl) ?_
  intro p e s m args below meth c A sz hA hsz C hr hl hnm
  have C : gC p s m args c D CL (TY cd) A c_P_commonDivisor "AlloyPlans" 11 := C
  change gW _ _ _ _ _ _ _ _ _ _ _ _ _ _ _ _ _ _ _ 0 [(0, jv (a)), (2, jv (b))] []
  obtain ⟨u0, v0⟩ := ha
  obtain ⟨u1, v1⟩ := hb
  refine g_lload_n C d_P_commonDivisor_0 1 rfl rfl 0 rfl ?_
  refine g_lstore C d_P_commonDivisor_1 3 rfl [(4, jv (a)), (0, jv (a)), (2, jv (b))] (by decide) rfl ?_
  refine g_lload_n C d_P_commonDivisor_3 4 rfl rfl 2 rfl ?_
  refine g_lstore C d_P_commonDivisor_4 6 rfl [(6, jv (b)), (4, jv (a)), (0, jv (a)), (2, jv (b))] (by decide) rfl ?_
  refine g_iconst C d_P_commonDivisor_6 7 rfl ?_
  refine g_istore C d_P_commonDivisor_7 9 rfl [(8, iv (0)), (6, jv (b)), (4, jv (a)), (0, jv (a)), (2, jv (b))] (by decide) rfl ?_
  have LP : ∀ (d n : Nat) (x y : Int), n + d = 200 → eu d x y = eu 200 a b → 0 ≤ x → x ≤ 4000000000000000000 → 0 ≤ y → y ≤ 4000000000000000000 → gW p l e rm_P_commonDivisor s m args below meth c D CL A 11 (MQ below (gQ D CL L sz (fun r L' g => r = (some (jv (eu 200 a b))) ∧ L' = L ∧ g = f)) args s rm_P_commonDivisor.cells rm_P_commonDivisor.slots (gA L sz)) 0 0 L f 9 [(8, iv ((n : Int))), (6, jv (y)), (4, jv (x)), (0, jv (a)), (2, jv (b))] [] := by
    intro d
    induction d with
    | zero =>
      intro n x y hn hx x0 x1 y0 y1
      refine g_iload C d_P_commonDivisor_9 11 rfl 0 rfl ?_
      refine g_sipush C d_P_commonDivisor_11 14 rfl rfl ?_
      refine g_icmp_ge C d_P_commonDivisor_14 17 rfl (show r32 ((n : Int)) from ⟨by omega, by omega⟩) (show r32 200 from ⟨by decide, by decide⟩) 45 rfl (fun (w1 : 200 ≤ (n : Int)) => ?_) (fun (w1 : ¬ 200 ≤ (n : Int)) => absurd w1 (by omega))
      refine g_lload C d_P_commonDivisor_45 47 rfl 2 rfl ?_
      exact g_lret C hA hsz hr hl d_P_commonDivisor_47 (by decide) (by decide) ⟨vj_e (by rw [← hx]; first | rfl | (show _ = if _ then _ else _; rw [if_pos (by omega)])), rfl, rfl⟩
    | succ d ih =>
      intro n x y hn hx x0 x1 y0 y1
      refine g_iload C d_P_commonDivisor_9 11 rfl 0 rfl ?_
      refine g_sipush C d_P_commonDivisor_11 14 rfl rfl ?_
      refine g_icmp_ge C d_P_commonDivisor_14 17 rfl (show r32 ((n : Int)) from ⟨by omega, by omega⟩) (show r32 200 from ⟨by decide, by decide⟩) 45 rfl (fun (w2 : 200 ≤ (n : Int)) => absurd w2 (by omega)) (fun (w2 : ¬ 200 ≤ (n : Int)) => ?_)
      refine g_lload C d_P_commonDivisor_17 19 rfl 1 rfl ?_
      refine g_lconst C (z := 0) d_P_commonDivisor_19 20 rfl rfl ?_
      refine g_lcmp_eq C d_P_commonDivisor_20 21 rfl 24 rfl (show r64 y from ⟨by omega, by omega⟩) (show r64 0 from ⟨by decide, by decide⟩) 45 rfl d_P_commonDivisor_21 (fun (w3 : y = 0) => ?_) (fun (w4 : ¬ y = 0) => ?_)
      · skip
        refine g_lload C d_P_commonDivisor_45 47 rfl 2 rfl ?_
        exact g_lret C hA hsz hr hl d_P_commonDivisor_47 (by decide) (by decide) ⟨vj_e (by rw [← hx]; first | rfl | (show _ = if _ then _ else _; rw [if_pos (by omega)])), rfl, rfl⟩
      · skip
        refine g_lload C d_P_commonDivisor_24 26 rfl 2 rfl ?_
        refine g_lload C d_P_commonDivisor_26 28 rfl 1 rfl ?_
        refine g_lrem C d_P_commonDivisor_28 29 rfl (show r64 x from ⟨by omega, by omega⟩) (show r64 y from ⟨by omega, by omega⟩) (show y ≠ (0 : Int) by omega) ?_
        refine g_lstore C d_P_commonDivisor_29 31 rfl [(9, jv (Int.tmod x y)), (8, iv ((n : Int))), (6, jv (y)), (4, jv (x)), (0, jv (a)), (2, jv (b))] (by decide) rfl ?_
        refine g_lload C d_P_commonDivisor_31 33 rfl 2 rfl ?_
        refine g_lstore C d_P_commonDivisor_33 35 rfl [(4, jv (y)), (9, jv (Int.tmod x y)), (8, iv ((n : Int))), (6, jv (y)), (0, jv (a)), (2, jv (b))] (by decide) rfl ?_
        refine g_lload C d_P_commonDivisor_35 37 rfl 1 rfl ?_
        refine g_lstore C d_P_commonDivisor_37 39 rfl [(6, jv (Int.tmod x y)), (4, jv (y)), (9, jv (Int.tmod x y)), (8, iv ((n : Int))), (0, jv (a)), (2, jv (b))] (by decide) rfl ?_
        refine g_iinc C d_P_commonDivisor_39 42 rfl [(8, iv ((n : Int) + 1)), (6, jv (Int.tmod x y)), (4, jv (y)), (9, jv (Int.tmod x y)), (0, jv (a)), (2, jv (b))] 3 rfl (by decide) rfl ?_
        refine g_goto C d_P_commonDivisor_42 9 rfl ?_
        have m1 := Int.tmod_nonneg y x0
        have m2 := Int.tmod_lt_of_pos x (show 0 < y by omega)
        refine g_sub [0, 1, 2, 4, 5] _ rfl ?_
        exact ih (n + 1) _ _ (by omega) (by rw [← hx]; show _ = if _ then _ else _; rw [if_neg (by omega)]) (by omega) (by omega) (by omega) (by omega)
  exact LP 200 0 a b rfl rfl u0 v0 u1 v1
def cS (S : Nat → Nat → Int) (n : Nat) : Int := sumN (fun j => S 8 j * S (11 + j) 0) n
def kS (S : Nat → Nat → Int) (n : Nat) : Int := sumN (fun j => S 8 j * S (11 + j) 1) n
def mS (S : Nat → Nat → Int) (n : Nat) : Int := sumN (fun j => bi (0 < S 8 j)) n
def qS (S : Nat → Nat → Int) (n : Nat) : Int := sumN (fun j => S 8 j * (S (11 + j) 1 * S (11 + j) 4)) n
abbrev rm_N_settle : Room := { frames := 1, cells := 0, slots := 0, locals := 20 }
set_option maxHeartbeats 4000000 in
set_option maxRecDepth 100000 in
theorem t_N_settle (G : LO ad L) (x : Int) (h0 : 0 ≤ x ∧ x ≤ 4) (h8 : ∀ j, j < 4 → 0 ≤ S 8 j ∧ S 8 j ≤ 12) : FM l y_N_settle c_N_settle 6 none rm_N_settle D cd L (wd cd ad S f0) [.ref (ad 5), .ref (ad 8), .ref (ad 4), iv (x)] none (wd cd ad (u2 (setS S (cS S x.toNat) (kS S x.toNat) (mS S x.toNat) (qS S x.toNat) x.toNat) 5 0 1) f0) := by
  refine g_of (by decide) (Nat.le_of_ble_eq_true rfl) ?_
  intro p e s m args below meth c A sz hA hsz C hr hl hnm
  have C : gC p s m args c D CL (TY cd) A c_N_settle "AlloyPlans$Plan" 6 := C
  change gW _ _ _ _ _ _ _ _ _ _ _ _ _ _ _ _ _ _ _ 0 [(0, .ref (ad 5)), (1, .ref (ad 8)), (2, .ref (ad 4)), (3, iv (x))] []
  obtain ⟨u0, v0⟩ := h0
  refine g_aload_n C d_N_settle_0 1 rfl rfl 0 rfl ?_
  refine g_iconst C d_N_settle_1 2 rfl ?_
  refine pt_N_cents C G (z := 0) d_N_settle_2 5 rfl fl_N_19 ?_
  refine g_aload_n C d_N_settle_5 6 rfl rfl 0 rfl ?_
  refine g_iconst C d_N_settle_6 7 rfl ?_
  refine pt_N_kilos C G (z := 0) d_N_settle_7 10 rfl fl_N_23 ?_
  refine g_aload_n C d_N_settle_10 11 rfl rfl 0 rfl ?_
  refine g_iconst C d_N_settle_11 12 rfl ?_
  refine pt_N_kinds C G (z := 0) d_N_settle_12 15 rfl fl_N_26 ?_
  refine g_aload_n C d_N_settle_15 16 rfl rfl 0 rfl ?_
  refine g_iconst C d_N_settle_16 17 rfl ?_
  refine pt_N_cooling C G (z := 0) d_N_settle_17 20 rfl fl_N_29 ?_
  refine g_iconst C d_N_settle_20 21 rfl ?_
  refine g_istore C d_N_settle_21 23 rfl [(4, iv (0)), (0, .ref (ad 5)), (1, .ref (ad 8)), (2, .ref (ad 4)), (3, iv (x))] (by decide) rfl ?_
  have hz0 : (u2 (u2 (u2 (u2 S 5 1 (0)) 5 2 (0)) 5 3 (0)) 5 4 (0)) = setS S (cS S 0) (kS S 0) (mS S 0) (qS S 0) 0 := setS_0 S
  have LP : ∀ (d n : Nat) (T : Nat → Nat → Int), n + d = 4 → T = setS S (cS S n) (kS S n) (mS S n) (qS S n) n → (n : Int) ≤ x → gW p l e rm_N_settle s m args below meth c D CL A 6 (MQ below (gQ D CL L sz (fun r L' g => r = none ∧ L' = L ∧ g = (wd cd ad (u2 (setS S (cS S x.toNat) (kS S x.toNat) (mS S x.toNat) (qS S x.toNat) x.toNat) 5 0 1) f0))) args s rm_N_settle.cells rm_N_settle.slots (gA L sz)) 0 0 L (wd cd ad T f0) 23 [(4, iv ((n : Int))), (0, .ref (ad 5)), (1, .ref (ad 8)), (2, .ref (ad 4)), (3, iv (x))] [] := by
    intro d
    induction d with
    | zero =>
      intro n T hn hT hle
      refine g_iload C d_N_settle_23 25 rfl 0 rfl ?_
      refine g_iload_n C d_N_settle_25 26 rfl rfl 4 rfl ?_
      refine g_icmp_ge C d_N_settle_26 29 rfl (show r32 ((n : Int)) from ⟨by omega, by omega⟩) (show r32 x from ⟨by omega, by omega⟩) 136 rfl (fun (w1 : x ≤ (n : Int)) => ?_) (fun (w1 : ¬ x ≤ (n : Int)) => absurd w1 (by omega))
      refine g_aload_n C d_N_settle_136 137 rfl rfl 1 rfl ?_
      refine g_iconst C d_N_settle_137 138 rfl ?_
      refine pt_N_stands C G (z := 1) d_N_settle_138 141 rfl fl_N_15 (Or.inr rfl) ?_
      exact g_vret C hA hsz hr hl d_N_settle_141 (by decide) (by decide) ⟨rfl, rfl, by rw [hT, show n = x.toNat by omega]⟩
    | succ d ih =>
      intro n T hn hT hle
      obtain ⟨u8, v8⟩ := h8 n (by omega)
      have e8 : T 8 n = S 8 n := by rw [hT]; rfl
      refine g_iload C d_N_settle_23 25 rfl 0 rfl ?_
      refine g_iload_n C d_N_settle_25 26 rfl rfl 4 rfl ?_
      refine g_icmp_ge C d_N_settle_26 29 rfl (show r32 ((n : Int)) from ⟨by omega, by omega⟩) (show r32 x from ⟨by omega, by omega⟩) 136 rfl (fun (w2 : x ≤ (n : Int)) => ?_) (fun (w3 : ¬ x ≤ (n : Int)) => ?_)
      · skip
        refine g_aload_n C d_N_settle_136 137 rfl rfl 1 rfl ?_
        refine g_iconst C d_N_settle_137 138 rfl ?_
        refine pt_N_stands C G (z := 1) d_N_settle_138 141 rfl fl_N_15 (Or.inr rfl) ?_
        exact g_vret C hA hsz hr hl d_N_settle_141 (by decide) (by decide) ⟨rfl, rfl, by rw [hT, show n = x.toNat by omega]⟩
      · skip
        refine g_iload C d_N_settle_29 31 rfl 0 rfl ?_
        refine g_aload_n C d_N_settle_31 32 rfl rfl 1 rfl ?_
        refine gt_N_taken C G d_N_settle_32 35 rfl fl_N_9 ?_
        refine ln_6 C G d_N_settle_35 36 rfl ?_
        refine g_icmp_ge C d_N_settle_36 39 rfl (show r32 ((n : Int)) from ⟨by omega, by omega⟩) (show r32 4 from ⟨by decide, by decide⟩) 136 rfl (fun (w4 : 4 ≤ (n : Int)) => absurd w4 (by omega)) (fun (w4 : ¬ 4 ≤ (n : Int)) => ?_)
        refine g_aload_n C d_N_settle_39 40 rfl rfl 2 rfl ?_
        refine g_iload C d_N_settle_40 42 rfl 0 rfl ?_
        refine ld_8 C G d_N_settle_42 43 rfl n (by omega) rfl ?_
        refine g_istore C d_N_settle_43 45 rfl [(5, iv (T 8 n)), (4, iv ((n : Int))), (0, .ref (ad 5)), (1, .ref (ad 8)), (2, .ref (ad 4)), (3, iv (x))] (by decide) rfl ?_
        refine g_aload_n C d_N_settle_45 46 rfl rfl 2 rfl ?_
        refine gt_N_taken C G d_N_settle_46 49 rfl fl_N_9 ?_
        refine g_iload C d_N_settle_49 51 rfl 1 rfl ?_
        refine g_iload C d_N_settle_51 53 rfl 0 rfl ?_
        refine st_6 C G (x := T 8 n) d_N_settle_53 54 rfl n (by omega) rfl ?_
        refine g_aload_n C d_N_settle_54 55 rfl rfl 2 rfl ?_
        refine g_dup C d_N_settle_55 56 rfl rfl ?_
        refine gt_N_cents C G d_N_settle_56 59 rfl fl_N_19 ?_
        refine g_iload C d_N_settle_59 61 rfl 0 rfl ?_
        refine g_aload_n C d_N_settle_61 62 rfl rfl 4 rfl ?_
        refine g_iload C d_N_settle_62 64 rfl 1 rfl ?_
        refine ld_4 C G d_N_settle_64 65 rfl n (by omega) rfl ?_
        refine gt_A_cents C G d_N_settle_65 68 rfl n (by omega) fl_N_32 ?_
        refine g_imul C d_N_settle_68 69 rfl ?_
        refine g_iadd C d_N_settle_69 70 rfl ?_
        refine pt_N_cents C G (z := (T 5 1) + ((T 8 n) * ((u2 T 6 n (T 8 n)) (11 + n) 0))) d_N_settle_70 73 rfl fl_N_19 ?_
        refine g_aload_n C d_N_settle_73 74 rfl rfl 2 rfl ?_
        refine g_dup C d_N_settle_74 75 rfl rfl ?_
        refine gt_N_kilos C G d_N_settle_75 78 rfl fl_N_23 ?_
        refine g_iload C d_N_settle_78 80 rfl 0 rfl ?_
        refine g_aload_n C d_N_settle_80 81 rfl rfl 4 rfl ?_
        refine g_iload C d_N_settle_81 83 rfl 1 rfl ?_
        refine ld_4 C G d_N_settle_83 84 rfl n (by omega) rfl ?_
        refine gt_A_kilos C G d_N_settle_84 87 rfl n (by omega) fl_N_35 ?_
        refine g_imul C d_N_settle_87 88 rfl ?_
        refine g_iadd C d_N_settle_88 89 rfl ?_
        refine pt_N_kilos C G (z := (T 5 2) + ((T 8 n) * ((u2 (u2 T 6 n (T 8 n)) 5 1 ((T 5 1) + ((T 8 n) * ((u2 T 6 n (T 8 n)) (11 + n) 0)))) (11 + n) 1))) d_N_settle_89 92 rfl fl_N_23 ?_
        refine g_aload_n C d_N_settle_92 93 rfl rfl 2 rfl ?_
        refine g_dup C d_N_settle_93 94 rfl rfl ?_
        refine gt_N_kinds C G d_N_settle_94 97 rfl fl_N_26 ?_
        have JK : ∀ zj : Int, zj = (bi (0 < S 8 n)) → gW p l e rm_N_settle s m args below meth c D CL A 6 (MQ below (gQ D CL L sz (fun r L' g => r = none ∧ L' = L ∧ g = (wd cd ad (u2 (setS S (cS S x.toNat) (kS S x.toNat) (mS S x.toNat) (qS S x.toNat) x.toNat) 5 0 1) f0))) args s rm_N_settle.cells rm_N_settle.slots (gA L sz)) 0 0 L (wd cd ad (u2 (u2 (u2 T 6 n (T 8 n)) 5 1 ((T 5 1) + ((T 8 n) * ((u2 T 6 n (T 8 n)) (11 + n) 0)))) 5 2 ((T 5 2) + ((T 8 n) * ((u2 (u2 T 6 n (T 8 n)) 5 1 ((T 5 1) + ((T 8 n) * ((u2 T 6 n (T 8 n)) (11 + n) 0)))) (11 + n) 1)))) f0) 107 [(5, iv (T 8 n)), (4, iv ((n : Int))), (0, .ref (ad 5)), (1, .ref (ad 8)), (2, .ref (ad 4)), (3, iv (x))] [iv zj, iv (T 5 3), .ref (ad 5)] := by
          intro zj hzj
          subst hzj
          refine g_iadd C d_N_settle_107 108 rfl ?_
          refine pt_N_kinds C G (z := (T 5 3) + (bi (0 < S 8 n))) d_N_settle_108 111 rfl fl_N_26 ?_
          refine g_aload_n C d_N_settle_111 112 rfl rfl 2 rfl ?_
          refine g_dup C d_N_settle_112 113 rfl rfl ?_
          refine gt_N_cooling C G d_N_settle_113 116 rfl fl_N_29 ?_
          refine g_iload C d_N_settle_116 118 rfl 0 rfl ?_
          refine g_aload_n C d_N_settle_118 119 rfl rfl 4 rfl ?_
          refine g_iload C d_N_settle_119 121 rfl 1 rfl ?_
          refine ld_4 C G d_N_settle_121 122 rfl n (by omega) rfl ?_
          refine fcV1 C (rest := [iv (T 8 n), iv (T 5 4), .ref (ad 5)]) d_N_settle_122 125 rfl (t_A_coolingOfStep G (S := (u2 (u2 (u2 (u2 T 6 n (T 8 n)) 5 1 ((T 5 1) + ((T 8 n) * ((u2 T 6 n (T 8 n)) (11 + n) 0)))) 5 2 ((T 5 2) + ((T 8 n) * ((u2 (u2 T 6 n (T 8 n)) 5 1 ((T 5 1) + ((T 8 n) * ((u2 T 6 n (T 8 n)) (11 + n) 0)))) (11 + n) 1)))) 5 3 ((T 5 3) + (bi (0 < S 8 n))))) n (by omega)) rfl (G.1 (11 + n) (by omega)) (at_A G n (by omega)) ⟨ml_N_36, im_A_coolingOfStep, se_A_coolingOfStep, ci_A⟩ w_A_coolingOfStep rfl 0 gy_A_coolingOfStep rfl 0 rfl 0 rfl rfl rfl (Nat.le_of_ble_eq_true rfl) ?_
          refine g_imul C d_N_settle_125 126 rfl ?_
          refine g_iadd C d_N_settle_126 127 rfl ?_
          refine pt_N_cooling C G (z := (T 5 4) + ((T 8 n) * (((u2 (u2 (u2 (u2 T 6 n (T 8 n)) 5 1 ((T 5 1) + ((T 8 n) * ((u2 T 6 n (T 8 n)) (11 + n) 0)))) 5 2 ((T 5 2) + ((T 8 n) * ((u2 (u2 T 6 n (T 8 n)) 5 1 ((T 5 1) + ((T 8 n) * ((u2 T 6 n (T 8 n)) (11 + n) 0)))) (11 + n) 1)))) 5 3 ((T 5 3) + (bi (0 < S 8 n)))) (11 + n) 1) * ((u2 (u2 (u2 (u2 T 6 n (T 8 n)) 5 1 ((T 5 1) + ((T 8 n) * ((u2 T 6 n (T 8 n)) (11 + n) 0)))) 5 2 ((T 5 2) + ((T 8 n) * ((u2 (u2 T 6 n (T 8 n)) 5 1 ((T 5 1) + ((T 8 n) * ((u2 T 6 n (T 8 n)) (11 + n) 0)))) (11 + n) 1)))) 5 3 ((T 5 3) + (bi (0 < S 8 n)))) (11 + n) 4)))) d_N_settle_127 130 rfl fl_N_29 ?_
          refine g_iinc C d_N_settle_130 133 rfl [(4, iv ((n : Int) + 1)), (5, iv (T 8 n)), (0, .ref (ad 5)), (1, .ref (ad 8)), (2, .ref (ad 4)), (3, iv (x))] 1 rfl (by decide) rfl ?_
          refine g_goto C d_N_settle_133 23 rfl ?_
          refine g_sub [0, 2, 3, 4, 5] _ rfl ?_
          refine ih (n + 1) _ (by omega) ?_ (by omega)
          refine Eq.trans ?_ (setS_s S (cS S n) (kS S n) (mS S n) (qS S n) (cS S (n + 1)) (kS S (n + 1)) (mS S (n + 1)) (qS S (n + 1)) n)
          subst hT
          have g0 : cS S (n + 1) = cS S n + S 8 n * S (11 + n) 0 := rfl
          have g1 : kS S (n + 1) = kS S n + S 8 n * S (11 + n) 1 := rfl
          have g2 : mS S (n + 1) = mS S n + bi (0 < S 8 n) := rfl
          have g3 : qS S (n + 1) = qS S n + S 8 n * (S (11 + n) 1 * S (11 + n) 4) := rfl
          rw [g0, g1, g2, g3]
          have e1 : setS S (cS S n) (kS S n) (mS S n) (qS S n) n 5 1 = cS S n := rfl
          have e2 : setS S (cS S n) (kS S n) (mS S n) (qS S n) n 5 2 = kS S n := rfl
          have e3 : setS S (cS S n) (kS S n) (mS S n) (qS S n) n 5 3 = mS S n := rfl
          have e4 : setS S (cS S n) (kS S n) (mS S n) (qS S n) n 5 4 = qS S n := rfl
          have ea : setS S (cS S n) (kS S n) (mS S n) (qS S n) n (11 + n) = S (11 + n) := setS_ne (by omega) (by omega)
          have e8 : setS S (cS S n) (kS S n) (mS S n) (qS S n) n 8 = S 8 := rfl
          simp only [u2_ne (show (11 + n : Nat) ≠ 6 by omega), u2_ne (show (11 + n : Nat) ≠ 5 by omega), u2_ne (show (5 : Nat) ≠ 6 by decide), u2_j (show (2 : Nat) ≠ 1 by decide), u2_j (show (3 : Nat) ≠ 1 by decide), u2_j (show (3 : Nat) ≠ 2 by decide), u2_j (show (4 : Nat) ≠ 1 by decide), u2_j (show (4 : Nat) ≠ 2 by decide), u2_j (show (4 : Nat) ≠ 3 by decide), ea, e1, e2, e3, e4, e8]
        refine g_iload C d_N_settle_97 99 rfl 0 rfl ?_
        refine g_if_le C d_N_settle_99 102 rfl (show r32 (T 8 n) from ⟨by omega, by omega⟩) 106 rfl (fun (w5 : T 8 n ≤ 0) => ?_) (fun (w6 : ¬ T 8 n ≤ 0) => ?_)
        · skip
          refine g_iconst C d_N_settle_106 107 rfl ?_
          exact JK 0 (by first | exact (bi_pos (by omega)).symm | exact (bi_neg (by omega)).symm)
        · skip
          refine g_iconst C d_N_settle_102 103 rfl ?_
          refine g_goto C d_N_settle_103 107 rfl ?_
          exact JK 1 (by first | exact (bi_pos (by omega)).symm | exact (bi_neg (by omega)).symm)
  exact LP 4 0 _ rfl hz0 u0
end M3
