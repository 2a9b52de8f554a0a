section M14
variable {l : Launch} {D : va_G} {cd : Nat → ClassId} {ad : Nat → Nat} {L : List Nat} {f f0 : Nat → va_E} {S : Nat → Nat → Int}
theorem df_E : ∀ j, j < 5 → defaultValue (tyX1 j) = vp_V [iv 0, iv 0, jv 0, .null, .null] j := by
  intro j hj
  rcases (show j = 0 ∨ j = 1 ∨ j = 2 ∨ j = 3 ∨ j = 4 by omega) with rfl | rfl | rfl | rfl | rfl <;> rfl
theorem df_A : ∀ j, j < 7 → defaultValue (tyX0 j) = vp_V [iv 0, iv 0, iv 0, iv 0, iv 0, .null, .null] j := by
  intro j hj
  rcases (show j = 0 ∨ j = 1 ∨ j = 2 ∨ j = 3 ∨ j = 4 ∨ j = 5 ∨ j = 6 by omega) with rfl | rfl | rfl | rfl | rfl | rfl | rfl <;> rfl
theorem df_N : ∀ j, j < 6 → defaultValue (tyX3 j) = vp_V [iv 0, iv 0, iv 0, iv 0, iv 0, .null] j := by
  intro j hj
  rcases (show j = 0 ∨ j = 1 ∨ j = 2 ∨ j = 3 ∨ j = 4 ∨ j = 5 by omega) with rfl | rfl | rfl | rfl | rfl | rfl <;> rfl
theorem df_X : ∀ j, j < 4 → defaultValue (tyX2 j) = vp_V [iv 0, iv 0, iv 0, .null] j := by
  intro j hj
  rcases (show j = 0 ∨ j = 1 ∨ j = 2 ∨ j = 3 by omega) with rfl | rfl | rfl | rfl <;> rfl
theorem df_S : ∀ j, j < 7 → defaultValue (tyX4 j) = vp_V [iv 0, iv 0, .null, iv 0, iv 0, .null, .null] j := by
  intro j hj
  rcases (show j = 0 ∨ j = 1 ∨ j = 2 ∨ j = 3 ∨ j = 4 ∨ j = 5 ∨ j = 6 by omega) with rfl | rfl | rfl | rfl | rfl | rfl | rfl <;> rfl
theorem df_P : ∀ j, j < 5 → defaultValue (tyX5 j) = vp_V [.null, .null, .null, .null, iv 0] j := by
  intro j hj
  rcases (show j = 0 ∨ j = 1 ∨ j = 2 ∨ j = 3 ∨ j = 4 by omega) with rfl | rfl | rfl | rfl | rfl <;> rfl
theorem df_M : ∀ j, j < 19 → defaultValue (tyX6 j) = vp_V [iv 0, iv 0, .null, .null, .null, .null, iv 0, .null, .null, .null, .null, .null, .null, .null, iv 0, .null, .null, iv 0, jv 0] j := by
  intro j hj
  rcases (show j = 0 ∨ j = 1 ∨ j = 2 ∨ j = 3 ∨ j = 4 ∨ j = 5 ∨ j = 6 ∨ j = 7 ∨ j = 8 ∨ j = 9 ∨ j = 10 ∨ j = 11 ∨ j = 12 ∨ j = 13 ∨ j = 14 ∨ j = 15 ∨ j = 16 ∨ j = 17 ∨ j = 18 by omega) with rfl | rfl | rfl | rfl | rfl | rfl | rfl | rfl | rfl | rfl | rfl | rfl | rfl | rfl | rfl | rfl | rfl | rfl | rfl <;> rfl
abbrev rm_E_init : Room := { frames := 1, cells := 2, slots := 16, locals := 40 }
set_option maxHeartbeats 8000000 in
set_option maxRecDepth 100000 in
theorem t_E_init {a : Nat} (ha : a ∈ L) (hf : f a = .inr (1, [iv 0, iv 0, jv 0, .null, .null])) : gMet l y_E_init c_E_init 2 none rm_E_init D CL (TY cd) L f [.ref a] (fun r L' f' => r = none ∧ ∃ q0 q1, GZ L f a [q0, q1] (.inr (1, [iv 1, iv 0, jv 0, .ref q0, .ref q1])) [ia (cd 0) 8 (fun _ => 0), ia (cd 0) 8 (updI (updI (updI (updI (updI (updI (updI (updI (fun _ => 0) 0 0) 1 100000) 2 0) 3 100000) 4 0) 5 100000) 6 0) 7 100000)] L' f') := by
  refine g_of (by decide) (Nat.le_of_ble_eq_true rfl) ?_
  intro p e s m args below meth c A sz hA hsz C hr hl hnm
  have C : gC p s m args c D CL (TY cd) A c_E_init "AlloyPlans$Melt" 2 := C
  have g := gz_0 ha hf
  have hQ : ∀ Q9 : State → Prop, Q9 = MQ below (gQ D CL L sz (fun r L' f' => r = none ∧ ∃ q0 q1, GZ L f a [q0, q1] (.inr (1, [iv 1, iv 0, jv 0, .ref q0, .ref q1])) [ia (cd 0) 8 (fun _ => 0), ia (cd 0) 8 (updI (updI (updI (updI (updI (updI (updI (updI (fun _ => 0) 0 0) 1 100000) 2 0) 3 100000) 4 0) 5 100000) 6 0) 7 100000)] L' f')) args s rm_E_init.cells rm_E_init.slots (gA L sz) → gW p l e rm_E_init s m args below meth c D CL A 2 Q9 0 0 L f 0 [(0, .ref a)] [] := by
    intro Q9 hQ9
    refine g_aload_n C d_E_init_0 1 rfl rfl 0 rfl ?_
    refine g_obj C ml_E_3 d_E_init_1 4 rfl (by decide) (by decide) ?_
    refine g_aload_n C d_E_init_4 5 rfl rfl 0 rfl ?_
    refine g_iconst C d_E_init_5 6 rfl ?_
    refine g_put C d_E_init_6 9 rfl in_E (ci := 1) rfl (gz_a g) (gz_me g) 0 (by decide) fl_E_9 tyX1 tyX1_ok nmX1 rfl (ty := .int) (by decide +kernel) rfl rfl (Nat.le_of_ble_eq_true rfl) ?_
    have g := gz_put (X := .inr (1, [iv 1, iv 0, jv 0, .null, .null])) g
    obtain ⟨f1, hf9⟩ : ∃ fz, fz = va_up f a (.inr (1, [iv 1, iv 0, jv 0, .null, .null])) := ⟨_, rfl⟩
    rw [← hf9] at g
    refine (congrArg (fun z9 => gW p l e rm_E_init s m args below meth c D CL A 2 Q9 0 0 L z9 9 [(0, .ref a)] []) hf9).mp ?_
    clear hf9
    have g : GZ L f a [] (.inr (1, [iv 1, iv 0, jv 0, .null, .null])) [] L f1 := g
    refine g_aload_n C d_E_init_9 10 rfl rfl 0 rfl ?_
    refine g_bipush C d_E_init_10 12 rfl rfl ?_
    refine r_newa C g (ty := .int) rfl (t0 := 0) rfl ac_int 8 (a0 := (8, .inl (fun _ => Int32.ofInt 0))) (fun _ => rfl) rfl (by decide) (by decide) 1 rfl 8 rfl (by decide) (by decide) d_E_init_12 14 rfl (fun q0 L2 f2 g => ?_)
    have g : GZ L f a [q0] (.inr (1, [iv 1, iv 0, jv 0, .null, .null])) [ia (cd 0) 8 (fun _ => 0)] L2 f2 := g
    refine g_putF C d_E_init_14 17 rfl in_E (ci := 1) rfl (gz_a g) (gz_me g) 3 (by decide) fl_E_15 tyX1 tyX1_ok nmX1 rfl hnm rfl (ty := (.array .int)) (by decide +kernel) rfl rfl (Nat.le_of_ble_eq_true rfl) ?_
    have g := gz_put (X := .inr (1, [iv 1, iv 0, jv 0, .ref q0, .null])) g
    obtain ⟨f3, hf9⟩ : ∃ fz, fz = va_up f2 a (.inr (1, [iv 1, iv 0, jv 0, .ref q0, .null])) := ⟨_, rfl⟩
    rw [← hf9] at g
    refine (congrArg (fun z9 => gW p l e rm_E_init s m args below meth c D CL A 2 Q9 1 8 L2 z9 17 [(0, .ref a)] []) hf9).mp ?_
    clear hf9
    have g : GZ L f a [q0] (.inr (1, [iv 1, iv 0, jv 0, .ref q0, .null])) [ia (cd 0) 8 (fun _ => 0)] L2 f3 := g
    refine g_aload_n C d_E_init_17 18 rfl rfl 0 rfl ?_
    refine g_bipush C d_E_init_18 20 rfl rfl ?_
    refine r_newa C g (ty := .int) rfl (t0 := 0) rfl ac_int 8 (a0 := (8, .inl (fun _ => Int32.ofInt 0))) (fun _ => rfl) rfl (by decide) (by decide) 2 rfl 16 rfl (by decide) (by decide) d_E_init_20 22 rfl (fun q1 L4 f4 g => ?_)
    have g : GZ L f a [q0, q1] (.inr (1, [iv 1, iv 0, jv 0, .ref q0, .null])) [ia (cd 0) 8 (fun _ => 0), ia (cd 0) 8 (fun _ => 0)] L4 f4 := g
    refine g_putF C d_E_init_22 25 rfl in_E (ci := 1) rfl (gz_a g) (gz_me g) 4 (by decide) fl_E_19 tyX1 tyX1_ok nmX1 rfl hnm rfl (ty := (.array .int)) (by decide +kernel) rfl rfl (Nat.le_of_ble_eq_true rfl) ?_
    have g := gz_put (X := .inr (1, [iv 1, iv 0, jv 0, .ref q0, .ref q1])) g
    obtain ⟨f5, hf9⟩ : ∃ fz, fz = va_up f4 a (.inr (1, [iv 1, iv 0, jv 0, .ref q0, .ref q1])) := ⟨_, rfl⟩
    rw [← hf9] at g
    refine (congrArg (fun z9 => gW p l e rm_E_init s m args below meth c D CL A 2 Q9 2 16 L4 z9 25 [(0, .ref a)] []) hf9).mp ?_
    clear hf9
    have g : GZ L f a [q0, q1] (.inr (1, [iv 1, iv 0, jv 0, .ref q0, .ref q1])) [ia (cd 0) 8 (fun _ => 0), ia (cd 0) 8 (fun _ => 0)] L4 f5 := g
    refine g_iconst C d_E_init_25 26 rfl ?_
    refine g_istore_n C d_E_init_26 27 rfl [(1, iv 0), (0, .ref a)] rfl (by decide) rfl ?_
    refine g_iload_n C d_E_init_27 28 rfl rfl 0 rfl ?_
    refine g_aload_n C d_E_init_28 29 rfl rfl 1 rfl ?_
    refine g_get C d_E_init_29 32 rfl in_E (ci := 1) rfl (gz_a g) (gz_me g) 4 (by decide) fl_E_19 rfl ?_
    refine g_alen C (t0 := 0) d_E_init_32 33 rfl (gz_mem g (j := 1) rfl) (gz_at g (j := 1) rfl rfl) rfl ?_
    change gW _ _ _ _ _ _ _ _ _ _ _ _ _ _ _ _ _ _ _ _ _ [iv 8, iv 0]
    refine g_icmp_ge C d_E_init_33 36 rfl (show r32 0 from ⟨by decide, by decide⟩) (show r32 8 from ⟨by decide, by decide⟩) 61 rfl (fun (h9 : (8 : Int) ≤ 0) => absurd h9 (by decide)) (fun (h9 : ¬ (8 : Int) ≤ 0) => ?_)
    refine g_aload_n C d_E_init_36 37 rfl rfl 1 rfl ?_
    refine g_get C d_E_init_37 40 rfl in_E (ci := 1) rfl (gz_a g) (gz_me g) 4 (by decide) fl_E_19 rfl ?_
    refine g_iload_n C d_E_init_40 41 rfl rfl 0 rfl ?_
    refine g_iload_n C d_E_init_41 42 rfl rfl 0 rfl ?_
    refine fcN1 C (rest := [iv 0, .ref q1]) d_E_init_42 45 rfl (t_P_isLowEnd 0 ⟨by decide, by decide⟩) (gN_n_E22 C.2.1.2.1) ⟨ci_P, sm_P_isLowEnd⟩ w_P_isLowEnd 1 gy_P_isLowEnd rfl 2 rfl 16 rfl rfl rfl (Nat.le_of_ble_eq_true rfl) ?_
    refine g_if_eq C d_E_init_45 48 rfl (bi_r _) 52 rfl (fun h9 => absurd h9 (by decide)) (fun h9 => ?_)
    refine g_iconst C d_E_init_48 49 rfl ?_
    refine g_goto C d_E_init_49 54 rfl ?_
    refine g_iast C (t0 := 0) d_E_init_54 55 rfl (gz_mem g (j := 1) rfl) (gz_at g (j := 1) rfl rfl) rfl (by decide) (by decide) ⟨by decide, by decide⟩ ?_
    have g := gz_set (j := 1) (X := ia (cd 0) 8 (updI (fun _ => 0) 0 0)) g rfl
    obtain ⟨f6, hf9⟩ : ∃ fz, fz = va_up f5 q1 (ia (cd 0) 8 (updI (fun _ => 0) 0 0)) := ⟨_, rfl⟩
    rw [← hf9] at g
    refine (congrArg (fun z9 => gW p l e rm_E_init s m args below meth c D CL A 2 Q9 2 16 L4 z9 55 [(1, iv 0), (0, .ref a)] []) hf9).mp ?_
    clear hf9
    have g : GZ L f a [q0, q1] (.inr (1, [iv 1, iv 0, jv 0, .ref q0, .ref q1])) [ia (cd 0) 8 (fun _ => 0), ia (cd 0) 8 (updI (fun _ => 0) 0 0)] L4 f6 := g
    refine g_iinc C d_E_init_55 58 rfl [(1, iv 1), (0, .ref a)] 0 rfl (by decide) rfl ?_
    refine g_goto C d_E_init_58 27 rfl ?_
    refine g_iload_n C d_E_init_27 28 rfl rfl 0 rfl ?_
    refine g_aload_n C d_E_init_28 29 rfl rfl 1 rfl ?_
    refine g_get C d_E_init_29 32 rfl in_E (ci := 1) rfl (gz_a g) (gz_me g) 4 (by decide) fl_E_19 rfl ?_
    refine g_alen C (t0 := 0) d_E_init_32 33 rfl (gz_mem g (j := 1) rfl) (gz_at g (j := 1) rfl rfl) rfl ?_
    change gW _ _ _ _ _ _ _ _ _ _ _ _ _ _ _ _ _ _ _ _ _ [iv 8, iv 1]
    refine g_icmp_ge C d_E_init_33 36 rfl (show r32 1 from ⟨by decide, by decide⟩) (show r32 8 from ⟨by decide, by decide⟩) 61 rfl (fun (h9 : (8 : Int) ≤ 1) => absurd h9 (by decide)) (fun (h9 : ¬ (8 : Int) ≤ 1) => ?_)
    refine g_aload_n C d_E_init_36 37 rfl rfl 1 rfl ?_
    refine g_get C d_E_init_37 40 rfl in_E (ci := 1) rfl (gz_a g) (gz_me g) 4 (by decide) fl_E_19 rfl ?_
    refine g_iload_n C d_E_init_40 41 rfl rfl 0 rfl ?_
    refine g_iload_n C d_E_init_41 42 rfl rfl 0 rfl ?_
    refine fcN1 C (rest := [iv 1, .ref q1]) d_E_init_42 45 rfl (t_P_isLowEnd 1 ⟨by decide, by decide⟩) (gN_n_E22 C.2.1.2.1) ⟨ci_P, sm_P_isLowEnd⟩ w_P_isLowEnd 1 gy_P_isLowEnd rfl 2 rfl 16 rfl rfl rfl (Nat.le_of_ble_eq_true rfl) ?_
    refine g_if_eq C d_E_init_45 48 rfl (bi_r _) 52 rfl (fun h9 => ?_) (fun h9 => absurd h9 (by decide))
    refine g_ldc C (z := 100000) d_E_init_52 54 rfl rfl kc_E_26 ?_
    refine g_iast C (t0 := 0) d_E_init_54 55 rfl (gz_mem g (j := 1) rfl) (gz_at g (j := 1) rfl rfl) rfl (by decide) (by decide) ⟨by decide, by decide⟩ ?_
    have g := gz_set (j := 1) (X := ia (cd 0) 8 (updI (updI (fun _ => 0) 0 0) 1 100000)) g rfl
    obtain ⟨f7, hf9⟩ : ∃ fz, fz = va_up f6 q1 (ia (cd 0) 8 (updI (updI (fun _ => 0) 0 0) 1 100000)) := ⟨_, rfl⟩
    rw [← hf9] at g
    refine (congrArg (fun z9 => gW p l e rm_E_init s m args below meth c D CL A 2 Q9 2 16 L4 z9 55 [(1, iv 1), (0, .ref a)] []) hf9).mp ?_
    clear hf9
    have g : GZ L f a [q0, q1] (.inr (1, [iv 1, iv 0, jv 0, .ref q0, .ref q1])) [ia (cd 0) 8 (fun _ => 0), ia (cd 0) 8 (updI (updI (fun _ => 0) 0 0) 1 100000)] L4 f7 := g
    refine g_iinc C d_E_init_55 58 rfl [(1, iv 2), (0, .ref a)] 0 rfl (by decide) rfl ?_
    refine g_goto C d_E_init_58 27 rfl ?_
    refine g_iload_n C d_E_init_27 28 rfl rfl 0 rfl ?_
    refine g_aload_n C d_E_init_28 29 rfl rfl 1 rfl ?_
    refine g_get C d_E_init_29 32 rfl in_E (ci := 1) rfl (gz_a g) (gz_me g) 4 (by decide) fl_E_19 rfl ?_
    refine g_alen C (t0 := 0) d_E_init_32 33 rfl (gz_mem g (j := 1) rfl) (gz_at g (j := 1) rfl rfl) rfl ?_
    change gW _ _ _ _ _ _ _ _ _ _ _ _ _ _ _ _ _ _ _ _ _ [iv 8, iv 2]
    refine g_icmp_ge C d_E_init_33 36 rfl (show r32 2 from ⟨by decide, by decide⟩) (show r32 8 from ⟨by decide, by decide⟩) 61 rfl (fun (h9 : (8 : Int) ≤ 2) => absurd h9 (by decide)) (fun (h9 : ¬ (8 : Int) ≤ 2) => ?_)
    refine g_aload_n C d_E_init_36 37 rfl rfl 1 rfl ?_
    refine g_get C d_E_init_37 40 rfl in_E (ci := 1) rfl (gz_a g) (gz_me g) 4 (by decide) fl_E_19 rfl ?_
    refine g_iload_n C d_E_init_40 41 rfl rfl 0 rfl ?_
    refine g_iload_n C d_E_init_41 42 rfl rfl 0 rfl ?_
    refine fcN1 C (rest := [iv 2, .ref q1]) d_E_init_42 45 rfl (t_P_isLowEnd 2 ⟨by decide, by decide⟩) (gN_n_E22 C.2.1.2.1) ⟨ci_P, sm_P_isLowEnd⟩ w_P_isLowEnd 1 gy_P_isLowEnd rfl 2 rfl 16 rfl rfl rfl (Nat.le_of_ble_eq_true rfl) ?_
    refine g_if_eq C d_E_init_45 48 rfl (bi_r _) 52 rfl (fun h9 => absurd h9 (by decide)) (fun h9 => ?_)
    refine g_iconst C d_E_init_48 49 rfl ?_
    refine g_goto C d_E_init_49 54 rfl ?_
    refine g_iast C (t0 := 0) d_E_init_54 55 rfl (gz_mem g (j := 1) rfl) (gz_at g (j := 1) rfl rfl) rfl (by decide) (by decide) ⟨by decide, by decide⟩ ?_
    have g := gz_set (j := 1) (X := ia (cd 0) 8 (updI (updI (updI (fun _ => 0) 0 0) 1 100000) 2 0)) g rfl
    obtain ⟨f8, hf9⟩ : ∃ fz, fz = va_up f7 q1 (ia (cd 0) 8 (updI (updI (updI (fun _ => 0) 0 0) 1 100000) 2 0)) := ⟨_, rfl⟩
    rw [← hf9] at g
    refine (congrArg (fun z9 => gW p l e rm_E_init s m args below meth c D CL A 2 Q9 2 16 L4 z9 55 [(1, iv 2), (0, .ref a)] []) hf9).mp ?_
    clear hf9
    have g : GZ L f a [q0, q1] (.inr (1, [iv 1, iv 0, jv 0, .ref q0, .ref q1])) [ia (cd 0) 8 (fun _ => 0), ia (cd 0) 8 (updI (updI (updI (fun _ => 0) 0 0) 1 100000) 2 0)] L4 f8 := g
    refine g_iinc C d_E_init_55 58 rfl [(1, iv 3), (0, .ref a)] 0 rfl (by decide) rfl ?_
    refine g_goto C d_E_init_58 27 rfl ?_
    refine g_iload_n C d_E_init_27 28 rfl rfl 0 rfl ?_
    refine g_aload_n C d_E_init_28 29 rfl rfl 1 rfl ?_
    refine g_get C d_E_init_29 32 rfl in_E (ci := 1) rfl (gz_a g) (gz_me g) 4 (by decide) fl_E_19 rfl ?_
    refine g_alen C (t0 := 0) d_E_init_32 33 rfl (gz_mem g (j := 1) rfl) (gz_at g (j := 1) rfl rfl) rfl ?_
    change gW _ _ _ _ _ _ _ _ _ _ _ _ _ _ _ _ _ _ _ _ _ [iv 8, iv 3]
    refine g_icmp_ge C d_E_init_33 36 rfl (show r32 3 from ⟨by decide, by decide⟩) (show r32 8 from ⟨by decide, by decide⟩) 61 rfl (fun (h9 : (8 : Int) ≤ 3) => absurd h9 (by decide)) (fun (h9 : ¬ (8 : Int) ≤ 3) => ?_)
    refine g_aload_n C d_E_init_36 37 rfl rfl 1 rfl ?_
    refine g_get C d_E_init_37 40 rfl in_E (ci := 1) rfl (gz_a g) (gz_me g) 4 (by decide) fl_E_19 rfl ?_
    refine g_iload_n C d_E_init_40 41 rfl rfl 0 rfl ?_
    refine g_iload_n C d_E_init_41 42 rfl rfl 0 rfl ?_
    refine fcN1 C (rest := [iv 3, .ref q1]) d_E_init_42 45 rfl (t_P_isLowEnd 3 ⟨by decide, by decide⟩) (gN_n_E22 C.2.1.2.1) ⟨ci_P, sm_P_isLowEnd⟩ w_P_isLowEnd 1 gy_P_isLowEnd rfl 2 rfl 16 rfl rfl rfl (Nat.le_of_ble_eq_true rfl) ?_
    refine g_if_eq C d_E_init_45 48 rfl (bi_r _) 52 rfl (fun h9 => ?_) (fun h9 => absurd h9 (by decide))
    refine g_ldc C (z := 100000) d_E_init_52 54 rfl rfl kc_E_26 ?_
    refine g_iast C (t0 := 0) d_E_init_54 55 rfl (gz_mem g (j := 1) rfl) (gz_at g (j := 1) rfl rfl) rfl (by decide) (by decide) ⟨by decide, by decide⟩ ?_
    have g := gz_set (j := 1) (X := ia (cd 0) 8 (updI (updI (updI (updI (fun _ => 0) 0 0) 1 100000) 2 0) 3 100000)) g rfl
    obtain ⟨f9, hf9⟩ : ∃ fz, fz = va_up f8 q1 (ia (cd 0) 8 (updI (updI (updI (updI (fun _ => 0) 0 0) 1 100000) 2 0) 3 100000)) := ⟨_, rfl⟩
    rw [← hf9] at g
    refine (congrArg (fun z9 => gW p l e rm_E_init s m args below meth c D CL A 2 Q9 2 16 L4 z9 55 [(1, iv 3), (0, .ref a)] []) hf9).mp ?_
    clear hf9
    have g : GZ L f a [q0, q1] (.inr (1, [iv 1, iv 0, jv 0, .ref q0, .ref q1])) [ia (cd 0) 8 (fun _ => 0), ia (cd 0) 8 (updI (updI (updI (updI (fun _ => 0) 0 0) 1 100000) 2 0) 3 100000)] L4 f9 := g
    refine g_iinc C d_E_init_55 58 rfl [(1, iv 4), (0, .ref a)] 0 rfl (by decide) rfl ?_
    refine g_goto C d_E_init_58 27 rfl ?_
    refine g_iload_n C d_E_init_27 28 rfl rfl 0 rfl ?_
    refine g_aload_n C d_E_init_28 29 rfl rfl 1 rfl ?_
    refine g_get C d_E_init_29 32 rfl in_E (ci := 1) rfl (gz_a g) (gz_me g) 4 (by decide) fl_E_19 rfl ?_
    refine g_alen C (t0 := 0) d_E_init_32 33 rfl (gz_mem g (j := 1) rfl) (gz_at g (j := 1) rfl rfl) rfl ?_
    change gW _ _ _ _ _ _ _ _ _ _ _ _ _ _ _ _ _ _ _ _ _ [iv 8, iv 4]
    refine g_icmp_ge C d_E_init_33 36 rfl (show r32 4 from ⟨by decide, by decide⟩) (show r32 8 from ⟨by decide, by decide⟩) 61 rfl (fun (h9 : (8 : Int) ≤ 4) => absurd h9 (by decide)) (fun (h9 : ¬ (8 : Int) ≤ 4) => ?_)
    refine g_aload_n C d_E_init_36 37 rfl rfl 1 rfl ?_
    refine g_get C d_E_init_37 40 rfl in_E (ci := 1) rfl (gz_a g) (gz_me g) 4 (by decide) fl_E_19 rfl ?_
    refine g_iload_n C d_E_init_40 41 rfl rfl 0 rfl ?_
    refine g_iload_n C d_E_init_41 42 rfl rfl 0 rfl ?_
    refine fcN1 C (rest := [iv 4, .ref q1]) d_E_init_42 45 rfl (t_P_isLowEnd 4 ⟨by decide, by decide⟩) (gN_n_E22 C.2.1.2.1) ⟨ci_P, sm_P_isLowEnd⟩ w_P_isLowEnd 1 gy_P_isLowEnd rfl 2 rfl 16 rfl rfl rfl (Nat.le_of_ble_eq_true rfl) ?_
    refine g_if_eq C d_E_init_45 48 rfl (bi_r _) 52 rfl (fun h9 => absurd h9 (by decide)) (fun h9 => ?_)
    refine g_iconst C d_E_init_48 49 rfl ?_
    refine g_goto C d_E_init_49 54 rfl ?_
    refine g_iast C (t0 := 0) d_E_init_54 55 rfl (gz_mem g (j := 1) rfl) (gz_at g (j := 1) rfl rfl) rfl (by decide) (by decide) ⟨by decide, by decide⟩ ?_
    have g := gz_set (j := 1) (X := ia (cd 0) 8 (updI (updI (updI (updI (updI (fun _ => 0) 0 0) 1 100000) 2 0) 3 100000) 4 0)) g rfl
    obtain ⟨f10, hf9⟩ : ∃ fz, fz = va_up f9 q1 (ia (cd 0) 8 (updI (updI (updI (updI (updI (fun _ => 0) 0 0) 1 100000) 2 0) 3 100000) 4 0)) := ⟨_, rfl⟩
    rw [← hf9] at g
    refine (congrArg (fun z9 => gW p l e rm_E_init s m args below meth c D CL A 2 Q9 2 16 L4 z9 55 [(1, iv 4), (0, .ref a)] []) hf9).mp ?_
    clear hf9
    have g : GZ L f a [q0, q1] (.inr (1, [iv 1, iv 0, jv 0, .ref q0, .ref q1])) [ia (cd 0) 8 (fun _ => 0), ia (cd 0) 8 (updI (updI (updI (updI (updI (fun _ => 0) 0 0) 1 100000) 2 0) 3 100000) 4 0)] L4 f10 := g
    refine g_iinc C d_E_init_55 58 rfl [(1, iv 5), (0, .ref a)] 0 rfl (by decide) rfl ?_
    refine g_goto C d_E_init_58 27 rfl ?_
    refine g_iload_n C d_E_init_27 28 rfl rfl 0 rfl ?_
    refine g_aload_n C d_E_init_28 29 rfl rfl 1 rfl ?_
    refine g_get C d_E_init_29 32 rfl in_E (ci := 1) rfl (gz_a g) (gz_me g) 4 (by decide) fl_E_19 rfl ?_
    refine g_alen C (t0 := 0) d_E_init_32 33 rfl (gz_mem g (j := 1) rfl) (gz_at g (j := 1) rfl rfl) rfl ?_
    change gW _ _ _ _ _ _ _ _ _ _ _ _ _ _ _ _ _ _ _ _ _ [iv 8, iv 5]
    refine g_icmp_ge C d_E_init_33 36 rfl (show r32 5 from ⟨by decide, by decide⟩) (show r32 8 from ⟨by decide, by decide⟩) 61 rfl (fun (h9 : (8 : Int) ≤ 5) => absurd h9 (by decide)) (fun (h9 : ¬ (8 : Int) ≤ 5) => ?_)
    refine g_aload_n C d_E_init_36 37 rfl rfl 1 rfl ?_
    refine g_get C d_E_init_37 40 rfl in_E (ci := 1) rfl (gz_a g) (gz_me g) 4 (by decide) fl_E_19 rfl ?_
    refine g_iload_n C d_E_init_40 41 rfl rfl 0 rfl ?_
    refine g_iload_n C d_E_init_41 42 rfl rfl 0 rfl ?_
    refine fcN1 C (rest := [iv 5, .ref q1]) d_E_init_42 45 rfl (t_P_isLowEnd 5 ⟨by decide, by decide⟩) (gN_n_E22 C.2.1.2.1) ⟨ci_P, sm_P_isLowEnd⟩ w_P_isLowEnd 1 gy_P_isLowEnd rfl 2 rfl 16 rfl rfl rfl (Nat.le_of_ble_eq_true rfl) ?_
    refine g_if_eq C d_E_init_45 48 rfl (bi_r _) 52 rfl (fun h9 => ?_) (fun h9 => absurd h9 (by decide))
    refine g_ldc C (z := 100000) d_E_init_52 54 rfl rfl kc_E_26 ?_
    refine g_iast C (t0 := 0) d_E_init_54 55 rfl (gz_mem g (j := 1) rfl) (gz_at g (j := 1) rfl rfl) rfl (by decide) (by decide) ⟨by decide, by decide⟩ ?_
    have g := gz_set (j := 1) (X := ia (cd 0) 8 (updI (updI (updI (updI (updI (updI (fun _ => 0) 0 0) 1 100000) 2 0) 3 100000) 4 0) 5 100000)) g rfl
    obtain ⟨f11, hf9⟩ : ∃ fz, fz = va_up f10 q1 (ia (cd 0) 8 (updI (updI (updI (updI (updI (updI (fun _ => 0) 0 0) 1 100000) 2 0) 3 100000) 4 0) 5 100000)) := ⟨_, rfl⟩
    rw [← hf9] at g
    refine (congrArg (fun z9 => gW p l e rm_E_init s m args below meth c D CL A 2 Q9 2 16 L4 z9 55 [(1, iv 5), (0, .ref a)] []) hf9).mp ?_
    clear hf9
    have g : GZ L f a [q0, q1] (.inr (1, [iv 1, iv 0, jv 0, .ref q0, .ref q1])) [ia (cd 0) 8 (fun _ => 0), ia (cd 0) 8 (updI (updI (updI (updI (updI (updI (fun _ => 0) 0 0) 1 100000) 2 0) 3 100000) 4 0) 5 100000)] L4 f11 := g
    refine g_iinc C d_E_init_55 58 rfl [(1, iv 6), (0, .ref a)] 0 rfl (by decide) rfl ?_
    refine g_goto C d_E_init_58 27 rfl ?_
    refine g_iload_n C d_E_init_27 28 rfl rfl 0 rfl ?_
    refine g_aload_n C d_E_init_28 29 rfl rfl 1 rfl ?_
    refine g_get C d_E_init_29 32 rfl in_E (ci := 1) rfl (gz_a g) (gz_me g) 4 (by decide) fl_E_19 rfl ?_
    refine g_alen C (t0 := 0) d_E_init_32 33 rfl (gz_mem g (j := 1) rfl) (gz_at g (j := 1) rfl rfl) rfl ?_
    change gW _ _ _ _ _ _ _ _ _ _ _ _ _ _ _ _ _ _ _ _ _ [iv 8, iv 6]
    refine g_icmp_ge C d_E_init_33 36 rfl (show r32 6 from ⟨by decide, by decide⟩) (show r32 8 from ⟨by decide, by decide⟩) 61 rfl (fun (h9 : (8 : Int) ≤ 6) => absurd h9 (by decide)) (fun (h9 : ¬ (8 : Int) ≤ 6) => ?_)
    refine g_aload_n C d_E_init_36 37 rfl rfl 1 rfl ?_
    refine g_get C d_E_init_37 40 rfl in_E (ci := 1) rfl (gz_a g) (gz_me g) 4 (by decide) fl_E_19 rfl ?_
    refine g_iload_n C d_E_init_40 41 rfl rfl 0 rfl ?_
    refine g_iload_n C d_E_init_41 42 rfl rfl 0 rfl ?_
    refine fcN1 C (rest := [iv 6, .ref q1]) d_E_init_42 45 rfl (t_P_isLowEnd 6 ⟨by decide, by decide⟩) (gN_n_E22 C.2.1.2.1) ⟨ci_P, sm_P_isLowEnd⟩ w_P_isLowEnd 1 gy_P_isLowEnd rfl 2 rfl 16 rfl rfl rfl (Nat.le_of_ble_eq_true rfl) ?_
    refine g_if_eq C d_E_init_45 48 rfl (bi_r _) 52 rfl (fun h9 => absurd h9 (by decide)) (fun h9 => ?_)
    refine g_iconst C d_E_init_48 49 rfl ?_
    refine g_goto C d_E_init_49 54 rfl ?_
    refine g_iast C (t0 := 0) d_E_init_54 55 rfl (gz_mem g (j := 1) rfl) (gz_at g (j := 1) rfl rfl) rfl (by decide) (by decide) ⟨by decide, by decide⟩ ?_
    have g := gz_set (j := 1) (X := ia (cd 0) 8 (updI (updI (updI (updI (updI (updI (updI (fun _ => 0) 0 0) 1 100000) 2 0) 3 100000) 4 0) 5 100000) 6 0)) g rfl
    obtain ⟨f12, hf9⟩ : ∃ fz, fz = va_up f11 q1 (ia (cd 0) 8 (updI (updI (updI (updI (updI (updI (updI (fun _ => 0) 0 0) 1 100000) 2 0) 3 100000) 4 0) 5 100000) 6 0)) := ⟨_, rfl⟩
    rw [← hf9] at g
    refine (congrArg (fun z9 => gW p l e rm_E_init s m args below meth c D CL A 2 Q9 2 16 L4 z9 55 [(1, iv 6), (0, .ref a)] []) hf9).mp ?_
    clear hf9
    have g : GZ L f a [q0, q1] (.inr (1, [iv 1, iv 0, jv 0, .ref q0, .ref q1])) [ia (cd 0) 8 (fun _ => 0), ia (cd 0) 8 (updI (updI (updI (updI (updI (updI (updI (fun _ => 0) 0 0) 1 100000) 2 0) 3 100000) 4 0) 5 100000) 6 0)] L4 f12 := g
    refine g_iinc C d_E_init_55 58 rfl [(1, iv 7), (0, .ref a)] 0 rfl (by decide) rfl ?_
    refine g_goto C d_E_init_58 27 rfl ?_
    refine g_iload_n C d_E_init_27 28 rfl rfl 0 rfl ?_
    refine g_aload_n C d_E_init_28 29 rfl rfl 1 rfl ?_
    refine g_get C d_E_init_29 32 rfl in_E (ci := 1) rfl (gz_a g) (gz_me g) 4 (by decide) fl_E_19 rfl ?_
    refine g_alen C (t0 := 0) d_E_init_32 33 rfl (gz_mem g (j := 1) rfl) (gz_at g (j := 1) rfl rfl) rfl ?_
    change gW _ _ _ _ _ _ _ _ _ _ _ _ _ _ _ _ _ _ _ _ _ [iv 8, iv 7]
    refine g_icmp_ge C d_E_init_33 36 rfl (show r32 7 from ⟨by decide, by decide⟩) (show r32 8 from ⟨by decide, by decide⟩) 61 rfl (fun (h9 : (8 : Int) ≤ 7) => absurd h9 (by decide)) (fun (h9 : ¬ (8 : Int) ≤ 7) => ?_)
    refine g_aload_n C d_E_init_36 37 rfl rfl 1 rfl ?_
    refine g_get C d_E_init_37 40 rfl in_E (ci := 1) rfl (gz_a g) (gz_me g) 4 (by decide) fl_E_19 rfl ?_
    refine g_iload_n C d_E_init_40 41 rfl rfl 0 rfl ?_
    refine g_iload_n C d_E_init_41 42 rfl rfl 0 rfl ?_
    refine fcN1 C (rest := [iv 7, .ref q1]) d_E_init_42 45 rfl (t_P_isLowEnd 7 ⟨by decide, by decide⟩) (gN_n_E22 C.2.1.2.1) ⟨ci_P, sm_P_isLowEnd⟩ w_P_isLowEnd 1 gy_P_isLowEnd rfl 2 rfl 16 rfl rfl rfl (Nat.le_of_ble_eq_true rfl) ?_
    refine g_if_eq C d_E_init_45 48 rfl (bi_r _) 52 rfl (fun h9 => ?_) (fun h9 => absurd h9 (by decide))
    refine g_ldc C (z := 100000) d_E_init_52 54 rfl rfl kc_E_26 ?_
    refine g_iast C (t0 := 0) d_E_init_54 55 rfl (gz_mem g (j := 1) rfl) (gz_at g (j := 1) rfl rfl) rfl (by decide) (by decide) ⟨by decide, by decide⟩ ?_
    have g := gz_set (j := 1) (X := ia (cd 0) 8 (updI (updI (updI (updI (updI (updI (updI (updI (fun _ => 0) 0 0) 1 100000) 2 0) 3 100000) 4 0) 5 100000) 6 0) 7 100000)) g rfl
    obtain ⟨f13, hf9⟩ : ∃ fz, fz = va_up f12 q1 (ia (cd 0) 8 (updI (updI (updI (updI (updI (updI (updI (updI (fun _ => 0) 0 0) 1 100000) 2 0) 3 100000) 4 0) 5 100000) 6 0) 7 100000)) := ⟨_, rfl⟩
    rw [← hf9] at g
    refine (congrArg (fun z9 => gW p l e rm_E_init s m args below meth c D CL A 2 Q9 2 16 L4 z9 55 [(1, iv 7), (0, .ref a)] []) hf9).mp ?_
    clear hf9
    have g : GZ L f a [q0, q1] (.inr (1, [iv 1, iv 0, jv 0, .ref q0, .ref q1])) [ia (cd 0) 8 (fun _ => 0), ia (cd 0) 8 (updI (updI (updI (updI (updI (updI (updI (updI (fun _ => 0) 0 0) 1 100000) 2 0) 3 100000) 4 0) 5 100000) 6 0) 7 100000)] L4 f13 := g
    refine g_iinc C d_E_init_55 58 rfl [(1, iv 8), (0, .ref a)] 0 rfl (by decide) rfl ?_
    refine g_goto C d_E_init_58 27 rfl ?_
    refine g_iload_n C d_E_init_27 28 rfl rfl 0 rfl ?_
    refine g_aload_n C d_E_init_28 29 rfl rfl 1 rfl ?_
    refine g_get C d_E_init_29 32 rfl in_E (ci := 1) rfl (gz_a g) (gz_me g) 4 (by decide) fl_E_19 rfl ?_
    refine g_alen C (t0 := 0) d_E_init_32 33 rfl (gz_mem g (j := 1) rfl) (gz_at g (j := 1) rfl rfl) rfl ?_
    change gW _ _ _ _ _ _ _ _ _ _ _ _ _ _ _ _ _ _ _ _ _ [iv 8, iv 8]
    refine g_icmp_ge C d_E_init_33 36 rfl (show r32 8 from ⟨by decide, by decide⟩) (show r32 8 from ⟨by decide, by decide⟩) 61 rfl (fun (h9 : (8 : Int) ≤ 8) => ?_) (fun (h9 : ¬ (8 : Int) ≤ 8) => absurd h9 (by decide))
    rw [hQ9]
    exact g_vret C hA hsz hr hl d_E_init_61 (by decide) (by decide) ⟨rfl, q0, q1, g⟩
  exact hQ _ rfl
abbrev rm_A_init : Room := { frames := 1, cells := 2, slots := 16, locals := 40 }
set_option maxHeartbeats 8000000 in
set_option maxRecDepth 100000 in
theorem t_A_init {a : Nat} (ha : a ∈ L) (hf : f a = .inr (0, [iv 0, iv 0, iv 0, iv 0, iv 0, .null, .null])) : gMet l y_A_init c_A_init 1 none rm_A_init D CL (TY cd) L f [.ref a] (fun r L' f' => r = none ∧ ∃ q0 q1, GZ L f a [q0, q1] (.inr (0, [iv 0, iv 1, iv 0, iv 1000, iv 0, .ref q0, .ref q1])) [ia (cd 0) 8 (fun _ => 0), ja (cd 1) 8 (fun _ => 0)] L' f') := by
  refine g_of (by decide) (Nat.le_of_ble_eq_true rfl) ?_
  intro p e s m args below meth c A sz hA hsz C hr hl hnm
  have C : gC p s m args c D CL (TY cd) A c_A_init "AlloyPlans$Alloy" 1 := C
  have g := gz_0 ha hf
  have hQ : ∀ Q9 : State → Prop, Q9 = MQ below (gQ D CL L sz (fun r L' f' => r = none ∧ ∃ q0 q1, GZ L f a [q0, q1] (.inr (0, [iv 0, iv 1, iv 0, iv 1000, iv 0, .ref q0, .ref q1])) [ia (cd 0) 8 (fun _ => 0), ja (cd 1) 8 (fun _ => 0)] L' f')) args s rm_A_init.cells rm_A_init.slots (gA L sz) → gW p l e rm_A_init s m args below meth c D CL A 1 Q9 0 0 L f 0 [(0, .ref a)] [] := by
    intro Q9 hQ9
    refine g_aload_n C d_A_init_0 1 rfl rfl 0 rfl ?_
    refine g_obj C ml_A_3 d_A_init_1 4 rfl (by decide) (by decide) ?_
    refine g_aload_n C d_A_init_4 5 rfl rfl 0 rfl ?_
    refine g_iconst C d_A_init_5 6 rfl ?_
    refine g_put C d_A_init_6 9 rfl in_A (ci := 0) rfl (gz_a g) (gz_me g) 1 (by decide) fl_A_9 tyX0 tyX0_ok nmX0 rfl (ty := .int) (by decide +kernel) rfl rfl (Nat.le_of_ble_eq_true rfl) ?_
    have g := gz_put (X := .inr (0, [iv 0, iv 1, iv 0, iv 0, iv 0, .null, .null])) g
    obtain ⟨f1, hf9⟩ : ∃ fz, fz = va_up f a (.inr (0, [iv 0, iv 1, iv 0, iv 0, iv 0, .null, .null])) := ⟨_, rfl⟩
    rw [← hf9] at g
    refine (congrArg (fun z9 => gW p l e rm_A_init s m args below meth c D CL A 1 Q9 0 0 L z9 9 [(0, .ref a)] []) hf9).mp ?_
    clear hf9
    have g : GZ L f a [] (.inr (0, [iv 0, iv 1, iv 0, iv 0, iv 0, .null, .null])) [] L f1 := g
    refine g_aload_n C d_A_init_9 10 rfl rfl 0 rfl ?_
    refine g_sipush C d_A_init_10 13 rfl rfl ?_
    refine g_put C d_A_init_13 16 rfl in_A (ci := 0) rfl (gz_a g) (gz_me g) 3 (by decide) fl_A_15 tyX0 tyX0_ok nmX0 rfl (ty := .int) (by decide +kernel) rfl rfl (Nat.le_of_ble_eq_true rfl) ?_
    have g := gz_put (X := .inr (0, [iv 0, iv 1, iv 0, iv 1000, iv 0, .null, .null])) g
    obtain ⟨f2, hf9⟩ : ∃ fz, fz = va_up f1 a (.inr (0, [iv 0, iv 1, iv 0, iv 1000, iv 0, .null, .null])) := ⟨_, rfl⟩
    rw [← hf9] at g
    refine (congrArg (fun z9 => gW p l e rm_A_init s m args below meth c D CL A 1 Q9 0 0 L z9 16 [(0, .ref a)] []) hf9).mp ?_
    clear hf9
    have g : GZ L f a [] (.inr (0, [iv 0, iv 1, iv 0, iv 1000, iv 0, .null, .null])) [] L f2 := g
    refine g_aload_n C d_A_init_16 17 rfl rfl 0 rfl ?_
    refine g_bipush C d_A_init_17 19 rfl rfl ?_
    refine r_newa C g (ty := .int) rfl (t0 := 0) rfl ac_int 8 (a0 := (8, .inl (fun _ => Int32.ofInt 0))) (fun _ => rfl) rfl (by decide) (by decide) 1 rfl 8 rfl (by decide) (by decide) d_A_init_19 21 rfl (fun q0 L3 f3 g => ?_)
    have g : GZ L f a [q0] (.inr (0, [iv 0, iv 1, iv 0, iv 1000, iv 0, .null, .null])) [ia (cd 0) 8 (fun _ => 0)] L3 f3 := g
    refine g_putF C d_A_init_21 24 rfl in_A (ci := 0) rfl (gz_a g) (gz_me g) 5 (by decide) fl_A_18 tyX0 tyX0_ok nmX0 rfl hnm rfl (ty := (.array .int)) (by decide +kernel) rfl rfl (Nat.le_of_ble_eq_true rfl) ?_
    have g := gz_put (X := .inr (0, [iv 0, iv 1, iv 0, iv 1000, iv 0, .ref q0, .null])) g
    obtain ⟨f4, hf9⟩ : ∃ fz, fz = va_up f3 a (.inr (0, [iv 0, iv 1, iv 0, iv 1000, iv 0, .ref q0, .null])) := ⟨_, rfl⟩
    rw [← hf9] at g
    refine (congrArg (fun z9 => gW p l e rm_A_init s m args below meth c D CL A 1 Q9 1 8 L3 z9 24 [(0, .ref a)] []) hf9).mp ?_
    clear hf9
    have g : GZ L f a [q0] (.inr (0, [iv 0, iv 1, iv 0, iv 1000, iv 0, .ref q0, .null])) [ia (cd 0) 8 (fun _ => 0)] L3 f4 := g
    refine g_aload_n C d_A_init_24 25 rfl rfl 0 rfl ?_
    refine g_bipush C d_A_init_25 27 rfl rfl ?_
    refine r_newa C g (ty := .long) rfl (t0 := 1) rfl ac_long 8 (a0 := (8, .inr (.inl (fun _ => Int64.ofInt 0)))) (fun _ => rfl) rfl (by decide) (by decide) 2 rfl 16 rfl (by decide) (by decide) d_A_init_27 29 rfl (fun q1 L5 f5 g => ?_)
    have g : GZ L f a [q0, q1] (.inr (0, [iv 0, iv 1, iv 0, iv 1000, iv 0, .ref q0, .null])) [ia (cd 0) 8 (fun _ => 0), ja (cd 1) 8 (fun _ => 0)] L5 f5 := g
    refine g_putF C d_A_init_29 32 rfl in_A (ci := 0) rfl (gz_a g) (gz_me g) 6 (by decide) fl_A_22 tyX0 tyX0_ok nmX0 rfl hnm rfl (ty := (.array .long)) (by decide +kernel) rfl rfl (Nat.le_of_ble_eq_true rfl) ?_
    have g := gz_put (X := .inr (0, [iv 0, iv 1, iv 0, iv 1000, iv 0, .ref q0, .ref q1])) g
    obtain ⟨f6, hf9⟩ : ∃ fz, fz = va_up f5 a (.inr (0, [iv 0, iv 1, iv 0, iv 1000, iv 0, .ref q0, .ref q1])) := ⟨_, rfl⟩
    rw [← hf9] at g
    refine (congrArg (fun z9 => gW p l e rm_A_init s m args below meth c D CL A 1 Q9 2 16 L5 z9 32 [(0, .ref a)] []) hf9).mp ?_
    clear hf9
    have g : GZ L f a [q0, q1] (.inr (0, [iv 0, iv 1, iv 0, iv 1000, iv 0, .ref q0, .ref q1])) [ia (cd 0) 8 (fun _ => 0), ja (cd 1) 8 (fun _ => 0)] L5 f6 := g
    rw [hQ9]
    exact g_vret C hA hsz hr hl d_A_init_32 (by decide) (by decide) ⟨rfl, q0, q1, g⟩
  exact hQ _ rfl
abbrev rm_N_init : Room := { frames := 1, cells := 1, slots := 4, locals := 40 }
set_option maxHeartbeats 8000000 in
set_option maxRecDepth 100000 in
theorem t_N_init {a : Nat} (ha : a ∈ L) (hf : f a = .inr (3, [iv 0, iv 0, iv 0, iv 0, iv 0, .null])) : gMet l y_N_init c_N_init 1 none rm_N_init D CL (TY cd) L f [.ref a] (fun r L' f' => r = none ∧ ∃ q0, GZ L f a [q0] (.inr (3, [iv 0, iv 0, iv 0, iv 0, iv 0, .ref q0])) [ia (cd 0) 4 (fun _ => 0)] L' f') := by
  refine g_of (by decide) (Nat.le_of_ble_eq_true rfl) ?_
  intro p e s m args below meth c A sz hA hsz C hr hl hnm
  have C : gC p s m args c D CL (TY cd) A c_N_init "AlloyPlans$Plan" 1 := C
  have g := gz_0 ha hf
  have hQ : ∀ Q9 : State → Prop, Q9 = MQ below (gQ D CL L sz (fun r L' f' => r = none ∧ ∃ q0, GZ L f a [q0] (.inr (3, [iv 0, iv 0, iv 0, iv 0, iv 0, .ref q0])) [ia (cd 0) 4 (fun _ => 0)] L' f')) args s rm_N_init.cells rm_N_init.slots (gA L sz) → gW p l e rm_N_init s m args below meth c D CL A 1 Q9 0 0 L f 0 [(0, .ref a)] [] := by
    intro Q9 hQ9
    refine g_aload_n C d_N_init_0 1 rfl rfl 0 rfl ?_
    refine g_obj C ml_N_3 d_N_init_1 4 rfl (by decide) (by decide) ?_
    refine g_aload_n C d_N_init_4 5 rfl rfl 0 rfl ?_
    refine g_iconst C d_N_init_5 6 rfl ?_
    refine r_newa C g (ty := .int) rfl (t0 := 0) rfl ac_int 4 (a0 := (4, .inl (fun _ => Int32.ofInt 0))) (fun _ => rfl) rfl (by decide) (by decide) 1 rfl 4 rfl (by decide) (by decide) d_N_init_6 8 rfl (fun q0 L1 f1 g => ?_)
    have g : GZ L f a [q0] (.inr (3, [iv 0, iv 0, iv 0, iv 0, iv 0, .null])) [ia (cd 0) 4 (fun _ => 0)] L1 f1 := g
    refine g_putF C d_N_init_8 11 rfl in_N (ci := 3) rfl (gz_a g) (gz_me g) 5 (by decide) fl_N_9 tyX3 tyX3_ok nmX3 rfl hnm rfl (ty := (.array .int)) (by decide +kernel) rfl rfl (Nat.le_of_ble_eq_true rfl) ?_
    have g := gz_put (X := .inr (3, [iv 0, iv 0, iv 0, iv 0, iv 0, .ref q0])) g
    obtain ⟨f2, hf9⟩ : ∃ fz, fz = va_up f1 a (.inr (3, [iv 0, iv 0, iv 0, iv 0, iv 0, .ref q0])) := ⟨_, rfl⟩
    rw [← hf9] at g
    refine (congrArg (fun z9 => gW p l e rm_N_init s m args below meth c D CL A 1 Q9 1 4 L1 z9 11 [(0, .ref a)] []) hf9).mp ?_
    clear hf9
    have g : GZ L f a [q0] (.inr (3, [iv 0, iv 0, iv 0, iv 0, iv 0, .ref q0])) [ia (cd 0) 4 (fun _ => 0)] L1 f2 := g
    rw [hQ9]
    exact g_vret C hA hsz hr hl d_N_init_11 (by decide) (by decide) ⟨rfl, q0, g⟩
  exact hQ _ rfl
abbrev rm_X_init : Room := { frames := 1, cells := 1, slots := 8, locals := 40 }
set_option maxHeartbeats 8000000 in
set_option maxRecDepth 100000 in
theorem t_X_init {a : Nat} (ha : a ∈ L) (hf : f a = .inr (2, [iv 0, iv 0, iv 0, .null])) : gMet l y_X_init c_X_init 1 none rm_X_init D CL (TY cd) L f [.ref a] (fun r L' f' => r = none ∧ ∃ q0, GZ L f a [q0] (.inr (2, [iv 0, iv 0, iv 0, .ref q0])) [ja (cd 1) 8 (fun _ => 0)] L' f') := by
  refine g_of (by decide) (Nat.le_of_ble_eq_true rfl) ?_
  intro p e s m args below meth c A sz hA hsz C hr hl hnm
  have C : gC p s m args c D CL (TY cd) A c_X_init "AlloyPlans$Mix" 1 := C
  have g := gz_0 ha hf
  have hQ : ∀ Q9 : State → Prop, Q9 = MQ below (gQ D CL L sz (fun r L' f' => r = none ∧ ∃ q0, GZ L f a [q0] (.inr (2, [iv 0, iv 0, iv 0, .ref q0])) [ja (cd 1) 8 (fun _ => 0)] L' f')) args s rm_X_init.cells rm_X_init.slots (gA L sz) → gW p l e rm_X_init s m args below meth c D CL A 1 Q9 0 0 L f 0 [(0, .ref a)] [] := by
    intro Q9 hQ9
    refine g_aload_n C d_X_init_0 1 rfl rfl 0 rfl ?_
    refine g_obj C ml_X_3 d_X_init_1 4 rfl (by decide) (by decide) ?_
    refine g_aload_n C d_X_init_4 5 rfl rfl 0 rfl ?_
    refine g_bipush C d_X_init_5 7 rfl rfl ?_
    refine r_newa C g (ty := .long) rfl (t0 := 1) rfl ac_long 8 (a0 := (8, .inr (.inl (fun _ => Int64.ofInt 0)))) (fun _ => rfl) rfl (by decide) (by decide) 1 rfl 8 rfl (by decide) (by decide) d_X_init_7 9 rfl (fun q0 L1 f1 g => ?_)
    have g : GZ L f a [q0] (.inr (2, [iv 0, iv 0, iv 0, .null])) [ja (cd 1) 8 (fun _ => 0)] L1 f1 := g
    refine g_putF C d_X_init_9 12 rfl in_X (ci := 2) rfl (gz_a g) (gz_me g) 3 (by decide) fl_X_9 tyX2 tyX2_ok nmX2 rfl hnm rfl (ty := (.array .long)) (by decide +kernel) rfl rfl (Nat.le_of_ble_eq_true rfl) ?_
    have g := gz_put (X := .inr (2, [iv 0, iv 0, iv 0, .ref q0])) g
    obtain ⟨f2, hf9⟩ : ∃ fz, fz = va_up f1 a (.inr (2, [iv 0, iv 0, iv 0, .ref q0])) := ⟨_, rfl⟩
    rw [← hf9] at g
    refine (congrArg (fun z9 => gW p l e rm_X_init s m args below meth c D CL A 1 Q9 1 8 L1 z9 12 [(0, .ref a)] []) hf9).mp ?_
    clear hf9
    have g : GZ L f a [q0] (.inr (2, [iv 0, iv 0, iv 0, .ref q0])) [ja (cd 1) 8 (fun _ => 0)] L1 f2 := g
    rw [hQ9]
    exact g_vret C hA hsz hr hl d_X_init_12 (by decide) (by decide) ⟨rfl, q0, g⟩
  exact hQ _ rfl
abbrev rm_S_init : Room := { frames := 2, cells := 13, slots := 73, locals := 60 }
set_option maxHeartbeats 8000000 in
set_option maxRecDepth 100000 in
theorem t_S_init {a : Nat} (ha : a ∈ L) (hf : f a = .inr (4, [iv 0, iv 0, .null, iv 0, iv 0, .null, .null])) : gMet l y_S_init c_S_init 2 none rm_S_init D CL (TY cd) L f [.ref a] (fun r L' f' => r = none ∧ ∃ q0 q1 q2 q3 q4 q5 q6 q7 q8 q9 q10 q11 q12, GZ L f a [q0, q1, q2, q3, q4, q5, q6, q7, q8, q9, q10, q11, q12] (.inr (4, [iv 0, iv 0, .ref q0, iv 0, iv 0, .ref q1, .ref q2])) [ia (cd 0) 4 (fun _ => 0), ia (cd 0) 4 (fun _ => 0), qa (cd 3) 5 (va_up (va_up (va_up (va_up (va_up (fun _ => none) 0 (some q3)) 1 (some q5)) 2 (some q7)) 3 (some q9)) 4 (some q11)), .inr (2, [iv 0, iv 0, iv 0, .ref q4]), ja (cd 1) 8 (fun _ => 0), .inr (2, [iv 0, iv 0, iv 0, .ref q6]), ja (cd 1) 8 (fun _ => 0), .inr (2, [iv 0, iv 0, iv 0, .ref q8]), ja (cd 1) 8 (fun _ => 0), .inr (2, [iv 0, iv 0, iv 0, .ref q10]), ja (cd 1) 8 (fun _ => 0), .inr (2, [iv 0, iv 0, iv 0, .ref q12]), ja (cd 1) 8 (fun _ => 0)] L' f') := by
  refine g_of (by decide) (Nat.le_of_ble_eq_true rfl) ?_
  intro p e s m args below meth c A sz hA hsz C hr hl hnm
  have C : gC p s m args c D CL (TY cd) A c_S_init "AlloyPlans$Search" 2 := C
  have g := gz_0 ha hf
  have hQ : ∀ Q9 : State → Prop, Q9 = MQ below (gQ D CL L sz (fun r L' f' => r = none ∧ ∃ q0 q1 q2 q3 q4 q5 q6 q7 q8 q9 q10 q11 q12, GZ L f a [q0, q1, q2, q3, q4, q5, q6, q7, q8, q9, q10, q11, q12] (.inr (4, [iv 0, iv 0, .ref q0, iv 0, iv 0, .ref q1, .ref q2])) [ia (cd 0) 4 (fun _ => 0), ia (cd 0) 4 (fun _ => 0), qa (cd 3) 5 (va_up (va_up (va_up (va_up (va_up (fun _ => none) 0 (some q3)) 1 (some q5)) 2 (some q7)) 3 (some q9)) 4 (some q11)), .inr (2, [iv 0, iv 0, iv 0, .ref q4]), ja (cd 1) 8 (fun _ => 0), .inr (2, [iv 0, iv 0, iv 0, .ref q6]), ja (cd 1) 8 (fun _ => 0), .inr (2, [iv 0, iv 0, iv 0, .ref q8]), ja (cd 1) 8 (fun _ => 0), .inr (2, [iv 0, iv 0, iv 0, .ref q10]), ja (cd 1) 8 (fun _ => 0), .inr (2, [iv 0, iv 0, iv 0, .ref q12]), ja (cd 1) 8 (fun _ => 0)] L' f')) args s rm_S_init.cells rm_S_init.slots (gA L sz) → gW p l e rm_S_init s m args below meth c D CL A 2 Q9 0 0 L f 0 [(0, .ref a)] [] := by
    intro Q9 hQ9
    refine g_aload_n C d_S_init_0 1 rfl rfl 0 rfl ?_
    refine g_obj C ml_S_3 d_S_init_1 4 rfl (by decide) (by decide) ?_
    refine g_aload_n C d_S_init_4 5 rfl rfl 0 rfl ?_
    refine g_iconst C d_S_init_5 6 rfl ?_
    refine r_newa C g (ty := .int) rfl (t0 := 0) rfl ac_int 4 (a0 := (4, .inl (fun _ => Int32.ofInt 0))) (fun _ => rfl) rfl (by decide) (by decide) 1 rfl 4 rfl (by decide) (by decide) d_S_init_6 8 rfl (fun q0 L1 f1 g => ?_)
    have g : GZ L f a [q0] (.inr (4, [iv 0, iv 0, .null, iv 0, iv 0, .null, .null])) [ia (cd 0) 4 (fun _ => 0)] L1 f1 := g
    refine g_putF C d_S_init_8 11 rfl in_S (ci := 4) rfl (gz_a g) (gz_me g) 2 (by decide) fl_S_9 tyX4 tyX4_ok nmX4 rfl hnm rfl (ty := (.array .int)) (by decide +kernel) rfl rfl (Nat.le_of_ble_eq_true rfl) ?_
    have g := gz_put (X := .inr (4, [iv 0, iv 0, .ref q0, iv 0, iv 0, .null, .null])) g
    obtain ⟨f2, hf9⟩ : ∃ fz, fz = va_up f1 a (.inr (4, [iv 0, iv 0, .ref q0, iv 0, iv 0, .null, .null])) := ⟨_, rfl⟩
    rw [← hf9] at g
    refine (congrArg (fun z9 => gW p l e rm_S_init s m args below meth c D CL A 2 Q9 1 4 L1 z9 11 [(0, .ref a)] []) hf9).mp ?_
    clear hf9
    have g : GZ L f a [q0] (.inr (4, [iv 0, iv 0, .ref q0, iv 0, iv 0, .null, .null])) [ia (cd 0) 4 (fun _ => 0)] L1 f2 := g
    refine g_aload_n C d_S_init_11 12 rfl rfl 0 rfl ?_
    refine g_iconst C d_S_init_12 13 rfl ?_
    refine r_newa C g (ty := .int) rfl (t0 := 0) rfl ac_int 4 (a0 := (4, .inl (fun _ => Int32.ofInt 0))) (fun _ => rfl) rfl (by decide) (by decide) 2 rfl 8 rfl (by decide) (by decide) d_S_init_13 15 rfl (fun q1 L3 f3 g => ?_)
    have g : GZ L f a [q0, q1] (.inr (4, [iv 0, iv 0, .ref q0, iv 0, iv 0, .null, .null])) [ia (cd 0) 4 (fun _ => 0), ia (cd 0) 4 (fun _ => 0)] L3 f3 := g
    refine g_putF C d_S_init_15 18 rfl in_S (ci := 4) rfl (gz_a g) (gz_me g) 5 (by decide) fl_S_15 tyX4 tyX4_ok nmX4 rfl hnm rfl (ty := (.array .int)) (by decide +kernel) rfl rfl (Nat.le_of_ble_eq_true rfl) ?_
    have g := gz_put (X := .inr (4, [iv 0, iv 0, .ref q0, iv 0, iv 0, .ref q1, .null])) g
    obtain ⟨f4, hf9⟩ : ∃ fz, fz = va_up f3 a (.inr (4, [iv 0, iv 0, .ref q0, iv 0, iv 0, .ref q1, .null])) := ⟨_, rfl⟩
    rw [← hf9] at g
    refine (congrArg (fun z9 => gW p l e rm_S_init s m args below meth c D CL A 2 Q9 2 8 L3 z9 18 [(0, .ref a)] []) hf9).mp ?_
    clear hf9
    have g : GZ L f a [q0, q1] (.inr (4, [iv 0, iv 0, .ref q0, iv 0, iv 0, .ref q1, .null])) [ia (cd 0) 4 (fun _ => 0), ia (cd 0) 4 (fun _ => 0)] L3 f4 := g
    refine g_aload_n C d_S_init_18 19 rfl rfl 0 rfl ?_
    refine g_iconst C d_S_init_19 20 rfl ?_
    refine r_newq C g (t0 := 3) rfl kl_S_18 (gN_n_oMix C.2.1.2.1) 5 rfl (by decide) (by decide) 3 rfl 13 rfl (by decide) (by decide) d_S_init_20 23 rfl (fun q2 L5 f5 g => ?_)
    have g : GZ L f a [q0, q1, q2] (.inr (4, [iv 0, iv 0, .ref q0, iv 0, iv 0, .ref q1, .null])) [ia (cd 0) 4 (fun _ => 0), ia (cd 0) 4 (fun _ => 0), qa (cd 3) 5 (fun _ => none)] L5 f5 := g
    refine g_putF C d_S_init_23 26 rfl in_S (ci := 4) rfl (gz_a g) (gz_me g) 6 (by decide) fl_S_20 tyX4 tyX4_ok nmX4 rfl hnm rfl (ty := (.array (.object "AlloyPlans$Mix"))) (by decide +kernel) rfl rfl (Nat.le_of_ble_eq_true rfl) ?_
    have g := gz_put (X := .inr (4, [iv 0, iv 0, .ref q0, iv 0, iv 0, .ref q1, .ref q2])) g
    obtain ⟨f6, hf9⟩ : ∃ fz, fz = va_up f5 a (.inr (4, [iv 0, iv 0, .ref q0, iv 0, iv 0, .ref q1, .ref q2])) := ⟨_, rfl⟩
    rw [← hf9] at g
    refine (congrArg (fun z9 => gW p l e rm_S_init s m args below meth c D CL A 2 Q9 3 13 L5 z9 26 [(0, .ref a)] []) hf9).mp ?_
    clear hf9
    have g : GZ L f a [q0, q1, q2] (.inr (4, [iv 0, iv 0, .ref q0, iv 0, iv 0, .ref q1, .ref q2])) [ia (cd 0) 4 (fun _ => 0), ia (cd 0) 4 (fun _ => 0), qa (cd 3) 5 (fun _ => none)] L5 f6 := g
    refine g_iconst C d_S_init_26 27 rfl ?_
    refine g_istore_n C d_S_init_27 28 rfl [(1, iv 0), (0, .ref a)] rfl (by decide) rfl ?_
    refine g_iload_n C d_S_init_28 29 rfl rfl 0 rfl ?_
    refine g_aload_n C d_S_init_29 30 rfl rfl 1 rfl ?_
    refine g_get C d_S_init_30 33 rfl in_S (ci := 4) rfl (gz_a g) (gz_me g) 6 (by decide) fl_S_20 rfl ?_
    refine g_alen C (t0 := 3) d_S_init_33 34 rfl (gz_mem g (j := 2) rfl) (gz_at g (j := 2) rfl rfl) rfl ?_
    change gW _ _ _ _ _ _ _ _ _ _ _ _ _ _ _ _ _ _ _ _ _ [iv 5, iv 0]
    refine g_icmp_ge C d_S_init_34 37 rfl (show r32 0 from ⟨by decide, by decide⟩) (show r32 5 from ⟨by decide, by decide⟩) 56 rfl (fun (h9 : (5 : Int) ≤ 0) => absurd h9 (by decide)) (fun (h9 : ¬ (5 : Int) ≤ 0) => ?_)
    refine g_aload_n C d_S_init_37 38 rfl rfl 1 rfl ?_
    refine g_get C d_S_init_38 41 rfl in_S (ci := 4) rfl (gz_a g) (gz_me g) 6 (by decide) fl_S_20 rfl ?_
    refine g_iload_n C d_S_init_41 42 rfl rfl 0 rfl ?_
    refine r_new C g in_X (ci := 2) rfl tyX2 tyX2_ok [iv 0, iv 0, iv 0, .null] df_X ⟨kl_S_18, cm_X, ci_X⟩ 4 rfl 17 rfl (by decide) (by decide) d_S_init_42 45 rfl (fun q3 L7 f7 g => ?_)
    have g : GZ L f a [q0, q1, q2, q3] (.inr (4, [iv 0, iv 0, .ref q0, iv 0, iv 0, .ref q1, .ref q2])) [ia (cd 0) 4 (fun _ => 0), ia (cd 0) 4 (fun _ => 0), qa (cd 3) 5 (fun _ => none), .inr (2, [iv 0, iv 0, iv 0, .null])] L7 f7 := g
    refine g_dup C d_S_init_45 46 rfl rfl ?_
    refine r_init C (t_X_init (gz_mem g (j := 3) rfl) (gz_at g (j := 3) rfl rfl)) d_S_init_46 49 rfl ⟨ml_S_24, im_X_init, ci_X⟩ w_X_init rfl gy_X_init 5 rfl 25 rfl rfl (Nat.le_of_ble_eq_true rfl) (fun L8 f8 h => ?_)
    obtain ⟨q4, g2⟩ := h
    have g : GZ L f a [q0, q1, q2, q3, q4] (.inr (4, [iv 0, iv 0, .ref q0, iv 0, iv 0, .ref q1, .ref q2])) [ia (cd 0) 4 (fun _ => 0), ia (cd 0) 4 (fun _ => 0), qa (cd 3) 5 (fun _ => none), .inr (2, [iv 0, iv 0, iv 0, .ref q4]), ja (cd 1) 8 (fun _ => 0)] L8 f8 := gz_sub g (j := 3) rfl g2
    refine g_aast C (t0 := 3) (ci := 2) (r := (RX2, TX2, 4)) d_S_init_49 50 rfl (gz_mem g (j := 2) rfl) (gz_at g (j := 2) rfl rfl) rfl (gz_mem g (j := 3) rfl) (gz_at g (j := 3) rfl rfl) rfl (by decide) (by decide) ⟨by decide, by decide⟩ ?_
    have g := gz_set (j := 2) (X := qa (cd 3) 5 (va_up (fun _ => none) 0 (some q3))) g rfl
    obtain ⟨f9, hf9⟩ : ∃ fz, fz = va_up f8 q2 (qa (cd 3) 5 (va_up (fun _ => none) 0 (some q3))) := ⟨_, rfl⟩
    rw [← hf9] at g
    refine (congrArg (fun z9 => gW p l e rm_S_init s m args below meth c D CL A 2 Q9 5 25 L8 z9 50 [(1, iv 0), (0, .ref a)] []) hf9).mp ?_
    clear hf9
    have g : GZ L f a [q0, q1, q2, q3, q4] (.inr (4, [iv 0, iv 0, .ref q0, iv 0, iv 0, .ref q1, .ref q2])) [ia (cd 0) 4 (fun _ => 0), ia (cd 0) 4 (fun _ => 0), qa (cd 3) 5 (va_up (fun _ => none) 0 (some q3)), .inr (2, [iv 0, iv 0, iv 0, .ref q4]), ja (cd 1) 8 (fun _ => 0)] L8 f9 := g
    refine g_iinc C d_S_init_50 53 rfl [(1, iv 1), (0, .ref a)] 0 rfl (by decide) rfl ?_
    refine g_goto C d_S_init_53 28 rfl ?_
    refine g_iload_n C d_S_init_28 29 rfl rfl 0 rfl ?_
    refine g_aload_n C d_S_init_29 30 rfl rfl 1 rfl ?_
    refine g_get C d_S_init_30 33 rfl in_S (ci := 4) rfl (gz_a g) (gz_me g) 6 (by decide) fl_S_20 rfl ?_
    refine g_alen C (t0 := 3) d_S_init_33 34 rfl (gz_mem g (j := 2) rfl) (gz_at g (j := 2) rfl rfl) rfl ?_
    change gW _ _ _ _ _ _ _ _ _ _ _ _ _ _ _ _ _ _ _ _ _ [iv 5, iv 1]
    refine g_icmp_ge C d_S_init_34 37 rfl (show r32 1 from ⟨by decide, by decide⟩) (show r32 5 from ⟨by decide, by decide⟩) 56 rfl (fun (h9 : (5 : Int) ≤ 1) => absurd h9 (by decide)) (fun (h9 : ¬ (5 : Int) ≤ 1) => ?_)
    refine g_aload_n C d_S_init_37 38 rfl rfl 1 rfl ?_
    refine g_get C d_S_init_38 41 rfl in_S (ci := 4) rfl (gz_a g) (gz_me g) 6 (by decide) fl_S_20 rfl ?_
    refine g_iload_n C d_S_init_41 42 rfl rfl 0 rfl ?_
    refine r_new C g in_X (ci := 2) rfl tyX2 tyX2_ok [iv 0, iv 0, iv 0, .null] df_X ⟨kl_S_18, cm_X, ci_X⟩ 6 rfl 29 rfl (by decide) (by decide) d_S_init_42 45 rfl (fun q5 L10 f10 g => ?_)
    have g : GZ L f a [q0, q1, q2, q3, q4, q5] (.inr (4, [iv 0, iv 0, .ref q0, iv 0, iv 0, .ref q1, .ref q2])) [ia (cd 0) 4 (fun _ => 0), ia (cd 0) 4 (fun _ => 0), qa (cd 3) 5 (va_up (fun _ => none) 0 (some q3)), .inr (2, [iv 0, iv 0, iv 0, .ref q4]), ja (cd 1) 8 (fun _ => 0), .inr (2, [iv 0, iv 0, iv 0, .null])] L10 f10 := g
    refine g_dup C d_S_init_45 46 rfl rfl ?_
    refine r_init C (t_X_init (gz_mem g (j := 5) rfl) (gz_at g (j := 5) rfl rfl)) d_S_init_46 49 rfl ⟨ml_S_24, im_X_init, ci_X⟩ w_X_init rfl gy_X_init 7 rfl 37 rfl rfl (Nat.le_of_ble_eq_true rfl) (fun L11 f11 h => ?_)
    obtain ⟨q6, g2⟩ := h
    have g : GZ L f a [q0, q1, q2, q3, q4, q5, q6] (.inr (4, [iv 0, iv 0, .ref q0, iv 0, iv 0, .ref q1, .ref q2])) [ia (cd 0) 4 (fun _ => 0), ia (cd 0) 4 (fun _ => 0), qa (cd 3) 5 (va_up (fun _ => none) 0 (some q3)), .inr (2, [iv 0, iv 0, iv 0, .ref q4]), ja (cd 1) 8 (fun _ => 0), .inr (2, [iv 0, iv 0, iv 0, .ref q6]), ja (cd 1) 8 (fun _ => 0)] L11 f11 := gz_sub g (j := 5) rfl g2
    refine g_aast C (t0 := 3) (ci := 2) (r := (RX2, TX2, 4)) d_S_init_49 50 rfl (gz_mem g (j := 2) rfl) (gz_at g (j := 2) rfl rfl) rfl (gz_mem g (j := 5) rfl) (gz_at g (j := 5) rfl rfl) rfl (by decide) (by decide) ⟨by decide, by decide⟩ ?_
    have g := gz_set (j := 2) (X := qa (cd 3) 5 (va_up (va_up (fun _ => none) 0 (some q3)) 1 (some q5))) g rfl
    obtain ⟨f12, hf9⟩ : ∃ fz, fz = va_up f11 q2 (qa (cd 3) 5 (va_up (va_up (fun _ => none) 0 (some q3)) 1 (some q5))) := ⟨_, rfl⟩
    rw [← hf9] at g
    refine (congrArg (fun z9 => gW p l e rm_S_init s m args below meth c D CL A 2 Q9 7 37 L11 z9 50 [(1, iv 1), (0, .ref a)] []) hf9).mp ?_
    clear hf9
    have g : GZ L f a [q0, q1, q2, q3, q4, q5, q6] (.inr (4, [iv 0, iv 0, .ref q0, iv 0, iv 0, .ref q1, .ref q2])) [ia (cd 0) 4 (fun _ => 0), ia (cd 0) 4 (fun _ => 0), qa (cd 3) 5 (va_up (va_up (fun _ => none) 0 (some q3)) 1 (some q5)), .inr (2, [iv 0, iv 0, iv 0, .ref q4]), ja (cd 1) 8 (fun _ => 0), .inr (2, [iv 0, iv 0, iv 0, .ref q6]), ja (cd 1) 8 (fun _ => 0)] L11 f12 := g
    refine g_iinc C d_S_init_50 53 rfl [(1, iv 2), (0, .ref a)] 0 rfl (by decide) rfl ?_
    refine g_goto C d_S_init_53 28 rfl ?_
    refine g_iload_n C d_S_init_28 29 rfl rfl 0 rfl ?_
    refine g_aload_n C d_S_init_29 30 rfl rfl 1 rfl ?_
    refine g_get C d_S_init_30 33 rfl in_S (ci := 4) rfl (gz_a g) (gz_me g) 6 (by decide) fl_S_20 rfl ?_
    refine g_alen C (t0 := 3) d_S_init_33 34 rfl (gz_mem g (j := 2) rfl) (gz_at g (j := 2) rfl rfl) rfl ?_
    change gW _ _ _ _ _ _ _ _ _ _ _ _ _ _ _ _ _ _ _ _ _ [iv 5, iv 2]
    refine g_icmp_ge C d_S_init_34 37 rfl (show r32 2 from ⟨by decide, by decide⟩) (show r32 5 from ⟨by decide, by decide⟩) 56 rfl (fun (h9 : (5 : Int) ≤ 2) => absurd h9 (by decide)) (fun (h9 : ¬ (5 : Int) ≤ 2) => ?_)
    refine g_aload_n C d_S_init_37 38 rfl rfl 1 rfl ?_
    refine g_get C d_S_init_38 41 rfl in_S (ci := 4) rfl (gz_a g) (gz_me g) 6 (by decide) fl_S_20 rfl ?_
    refine g_iload_n C d_S_init_41 42 rfl rfl 0 rfl ?_
    refine r_new C g in_X (ci := 2) rfl tyX2 tyX2_ok [iv 0, iv 0, iv 0, .null] df_X ⟨kl_S_18, cm_X, ci_X⟩ 8 rfl 41 rfl (by decide) (by decide) d_S_init_42 45 rfl (fun q7 L13 f13 g => ?_)
    have g : GZ L f a [q0, q1, q2, q3, q4, q5, q6, q7] (.inr (4, [iv 0, iv 0, .ref q0, iv 0, iv 0, .ref q1, .ref q2])) [ia (cd 0) 4 (fun _ => 0), ia (cd 0) 4 (fun _ => 0), qa (cd 3) 5 (va_up (va_up (fun _ => none) 0 (some q3)) 1 (some q5)), .inr (2, [iv 0, iv 0, iv 0, .ref q4]), ja (cd 1) 8 (fun _ => 0), .inr (2, [iv 0, iv 0, iv 0, .ref q6]), ja (cd 1) 8 (fun _ => 0), .inr (2, [iv 0, iv 0, iv 0, .null])] L13 f13 := g
    refine g_dup C d_S_init_45 46 rfl rfl ?_
    refine r_init C (t_X_init (gz_mem g (j := 7) rfl) (gz_at g (j := 7) rfl rfl)) d_S_init_46 49 rfl ⟨ml_S_24, im_X_init, ci_X⟩ w_X_init rfl gy_X_init 9 rfl 49 rfl rfl (Nat.le_of_ble_eq_true rfl) (fun L14 f14 h => ?_)
    obtain ⟨q8, g2⟩ := h
    have g : GZ L f a [q0, q1, q2, q3, q4, q5, q6, q7, q8] (.inr (4, [iv 0, iv 0, .ref q0, iv 0, iv 0, .ref q1, .ref q2])) [ia (cd 0) 4 (fun _ => 0), ia (cd 0) 4 (fun _ => 0), qa (cd 3) 5 (va_up (va_up (fun _ => none) 0 (some q3)) 1 (some q5)), .inr (2, [iv 0, iv 0, iv 0, .ref q4]), ja (cd 1) 8 (fun _ => 0), .inr (2, [iv 0, iv 0, iv 0, .ref q6]), ja (cd 1) 8 (fun _ => 0), .inr (2, [iv 0, iv 0, iv 0, .ref q8]), ja (cd 1) 8 (fun _ => 0)] L14 f14 := gz_sub g (j := 7) rfl g2
    refine g_aast C (t0 := 3) (ci := 2) (r := (RX2, TX2, 4)) d_S_init_49 50 rfl (gz_mem g (j := 2) rfl) (gz_at g (j := 2) rfl rfl) rfl (gz_mem g (j := 7) rfl) (gz_at g (j := 7) rfl rfl) rfl (by decide) (by decide) ⟨by decide, by decide⟩ ?_
    have g := gz_set (j := 2) (X := qa (cd 3) 5 (va_up (va_up (va_up (fun _ => none) 0 (some q3)) 1 (some q5)) 2 (some q7))) g rfl
    obtain ⟨f15, hf9⟩ : ∃ fz, fz = va_up f14 q2 (qa (cd 3) 5 (va_up (va_up (va_up (fun _ => none) 0 (some q3)) 1 (some q5)) 2 (some q7))) := ⟨_, rfl⟩
    rw [← hf9] at g
    refine (congrArg (fun z9 => gW p l e rm_S_init s m args below meth c D CL A 2 Q9 9 49 L14 z9 50 [(1, iv 2), (0, .ref a)] []) hf9).mp ?_
    clear hf9
    have g : GZ L f a [q0, q1, q2, q3, q4, q5, q6, q7, q8] (.inr (4, [iv 0, iv 0, .ref q0, iv 0, iv 0, .ref q1, .ref q2])) [ia (cd 0) 4 (fun _ => 0), ia (cd 0) 4 (fun _ => 0), qa (cd 3) 5 (va_up (va_up (va_up (fun _ => none) 0 (some q3)) 1 (some q5)) 2 (some q7)), .inr (2, [iv 0, iv 0, iv 0, .ref q4]), ja (cd 1) 8 (fun _ => 0), .inr (2, [iv 0, iv 0, iv 0, .ref q6]), ja (cd 1) 8 (fun _ => 0), .inr (2, [iv 0, iv 0, iv 0, .ref q8]), ja (cd 1) 8 (fun _ => 0)] L14 f15 := g
    refine g_iinc C d_S_init_50 53 rfl [(1, iv 3), (0, .ref a)] 0 rfl (by decide) rfl ?_
    refine g_goto C d_S_init_53 28 rfl ?_
    refine g_iload_n C d_S_init_28 29 rfl rfl 0 rfl ?_
    refine g_aload_n C d_S_init_29 30 rfl rfl 1 rfl ?_
    refine g_get C d_S_init_30 33 rfl in_S (ci := 4) rfl (gz_a g) (gz_me g) 6 (by decide) fl_S_20 rfl ?_
    refine g_alen C (t0 := 3) d_S_init_33 34 rfl (gz_mem g (j := 2) rfl) (gz_at g (j := 2) rfl rfl) rfl ?_
    change gW _ _ _ _ _ _ _ _ _ _ _ _ _ _ _ _ _ _ _ _ _ [iv 5, iv 3]
    refine g_icmp_ge C d_S_init_34 37 rfl (show r32 3 from ⟨by decide, by decide⟩) (show r32 5 from ⟨by decide, by decide⟩) 56 rfl (fun (h9 : (5 : Int) ≤ 3) => absurd h9 (by decide)) (fun (h9 : ¬ (5 : Int) ≤ 3) => ?_)
    refine g_aload_n C d_S_init_37 38 rfl rfl 1 rfl ?_
    refine g_get C d_S_init_38 41 rfl in_S (ci := 4) rfl (gz_a g) (gz_me g) 6 (by decide) fl_S_20 rfl ?_
    refine g_iload_n C d_S_init_41 42 rfl rfl 0 rfl ?_
    refine r_new C g in_X (ci := 2) rfl tyX2 tyX2_ok [iv 0, iv 0, iv 0, .null] df_X ⟨kl_S_18, cm_X, ci_X⟩ 10 rfl 53 rfl (by decide) (by decide) d_S_init_42 45 rfl (fun q9 L16 f16 g => ?_)
    have g : GZ L f a [q0, q1, q2, q3, q4, q5, q6, q7, q8, q9] (.inr (4, [iv 0, iv 0, .ref q0, iv 0, iv 0, .ref q1, .ref q2])) [ia (cd 0) 4 (fun _ => 0), ia (cd 0) 4 (fun _ => 0), qa (cd 3) 5 (va_up (va_up (va_up (fun _ => none) 0 (some q3)) 1 (some q5)) 2 (some q7)), .inr (2, [iv 0, iv 0, iv 0, .ref q4]), ja (cd 1) 8 (fun _ => 0), .inr (2, [iv 0, iv 0, iv 0, .ref q6]), ja (cd 1) 8 (fun _ => 0), .inr (2, [iv 0, iv 0, iv 0, .ref q8]), ja (cd 1) 8 (fun _ => 0), .inr (2, [iv 0, iv 0, iv 0, .null])] L16 f16 := g
    refine g_dup C d_S_init_45 46 rfl rfl ?_
    refine r_init C (t_X_init (gz_mem g (j := 9) rfl) (gz_at g (j := 9) rfl rfl)) d_S_init_46 49 rfl ⟨ml_S_24, im_X_init, ci_X⟩ w_X_init rfl gy_X_init 11 rfl 61 rfl rfl (Nat.le_of_ble_eq_true rfl) (fun L17 f17 h => ?_)
    obtain ⟨q10, g2⟩ := h
    have g : GZ L f a [q0, q1, q2, q3, q4, q5, q6, q7, q8, q9, q10] (.inr (4, [iv 0, iv 0, .ref q0, iv 0, iv 0, .ref q1, .ref q2])) [ia (cd 0) 4 (fun _ => 0), ia (cd 0) 4 (fun _ => 0), qa (cd 3) 5 (va_up (va_up (va_up (fun _ => none) 0 (some q3)) 1 (some q5)) 2 (some q7)), .inr (2, [iv 0, iv 0, iv 0, .ref q4]), ja (cd 1) 8 (fun _ => 0), .inr (2, [iv 0, iv 0, iv 0, .ref q6]), ja (cd 1) 8 (fun _ => 0), .inr (2, [iv 0, iv 0, iv 0, .ref q8]), ja (cd 1) 8 (fun _ => 0), .inr (2, [iv 0, iv 0, iv 0, .ref q10]), ja (cd 1) 8 (fun _ => 0)] L17 f17 := gz_sub g (j := 9) rfl g2
    refine g_aast C (t0 := 3) (ci := 2) (r := (RX2, TX2, 4)) d_S_init_49 50 rfl (gz_mem g (j := 2) rfl) (gz_at g (j := 2) rfl rfl) rfl (gz_mem g (j := 9) rfl) (gz_at g (j := 9) rfl rfl) rfl (by decide) (by decide) ⟨by decide, by decide⟩ ?_
    have g := gz_set (j := 2) (X := qa (cd 3) 5 (va_up (va_up (va_up (va_up (fun _ => none) 0 (some q3)) 1 (some q5)) 2 (some q7)) 3 (some q9))) g rfl
    obtain ⟨f18, hf9⟩ : ∃ fz, fz = va_up f17 q2 (qa (cd 3) 5 (va_up (va_up (va_up (va_up (fun _ => none) 0 (some q3)) 1 (some q5)) 2 (some q7)) 3 (some q9))) := ⟨_, rfl⟩
    rw [← hf9] at g
    refine (congrArg (fun z9 => gW p l e rm_S_init s m args below meth c D CL A 2 Q9 11 61 L17 z9 50 [(1, iv 3), (0, .ref a)] []) hf9).mp ?_
    clear hf9
    have g : GZ L f a [q0, q1, q2, q3, q4, q5, q6, q7, q8, q9, q10] (.inr (4, [iv 0, iv 0, .ref q0, iv 0, iv 0, .ref q1, .ref q2])) [ia (cd 0) 4 (fun _ => 0), ia (cd 0) 4 (fun _ => 0), qa (cd 3) 5 (va_up (va_up (va_up (va_up (fun _ => none) 0 (some q3)) 1 (some q5)) 2 (some q7)) 3 (some q9)), .inr (2, [iv 0, iv 0, iv 0, .ref q4]), ja (cd 1) 8 (fun _ => 0), .inr (2, [iv 0, iv 0, iv 0, .ref q6]), ja (cd 1) 8 (fun _ => 0), .inr (2, [iv 0, iv 0, iv 0, .ref q8]), ja (cd 1) 8 (fun _ => 0), .inr (2, [iv 0, iv 0, iv 0, .ref q10]), ja (cd 1) 8 (fun _ => 0)] L17 f18 := g
    refine g_iinc C d_S_init_50 53 rfl [(1, iv 4), (0, .ref a)] 0 rfl (by decide) rfl ?_
    refine g_goto C d_S_init_53 28 rfl ?_
    refine g_iload_n C d_S_init_28 29 rfl rfl 0 rfl ?_
    refine g_aload_n C d_S_init_29 30 rfl rfl 1 rfl ?_
    refine g_get C d_S_init_30 33 rfl in_S (ci := 4) rfl (gz_a g) (gz_me g) 6 (by decide) fl_S_20 rfl ?_
    refine g_alen C (t0 := 3) d_S_init_33 34 rfl (gz_mem g (j := 2) rfl) (gz_at g (j := 2) rfl rfl) rfl ?_
    change gW _ _ _ _ _ _ _ _ _ _ _ _ _ _ _ _ _ _ _ _ _ [iv 5, iv 4]
    refine g_icmp_ge C d_S_init_34 37 rfl (show r32 4 from ⟨by decide, by decide⟩) (show r32 5 from ⟨by decide, by decide⟩) 56 rfl (fun (h9 : (5 : Int) ≤ 4) => absurd h9 (by decide)) (fun (h9 : ¬ (5 : Int) ≤ 4) => ?_)
    refine g_aload_n C d_S_init_37 38 rfl rfl 1 rfl ?_
    refine g_get C d_S_init_38 41 rfl in_S (ci := 4) rfl (gz_a g) (gz_me g) 6 (by decide) fl_S_20 rfl ?_
    refine g_iload_n C d_S_init_41 42 rfl rfl 0 rfl ?_
    refine r_new C g in_X (ci := 2) rfl tyX2 tyX2_ok [iv 0, iv 0, iv 0, .null] df_X ⟨kl_S_18, cm_X, ci_X⟩ 12 rfl 65 rfl (by decide) (by decide) d_S_init_42 45 rfl (fun q11 L19 f19 g => ?_)
    have g : GZ L f a [q0, q1, q2, q3, q4, q5, q6, q7, q8, q9, q10, q11] (.inr (4, [iv 0, iv 0, .ref q0, iv 0, iv 0, .ref q1, .ref q2])) [ia (cd 0) 4 (fun _ => 0), ia (cd 0) 4 (fun _ => 0), qa (cd 3) 5 (va_up (va_up (va_up (va_up (fun _ => none) 0 (some q3)) 1 (some q5)) 2 (some q7)) 3 (some q9)), .inr (2, [iv 0, iv 0, iv 0, .ref q4]), ja (cd 1) 8 (fun _ => 0), .inr (2, [iv 0, iv 0, iv 0, .ref q6]), ja (cd 1) 8 (fun _ => 0), .inr (2, [iv 0, iv 0, iv 0, .ref q8]), ja (cd 1) 8 (fun _ => 0), .inr (2, [iv 0, iv 0, iv 0, .ref q10]), ja (cd 1) 8 (fun _ => 0), .inr (2, [iv 0, iv 0, iv 0, .null])] L19 f19 := g
    refine g_dup C d_S_init_45 46 rfl rfl ?_
    refine r_init C (t_X_init (gz_mem g (j := 11) rfl) (gz_at g (j := 11) rfl rfl)) d_S_init_46 49 rfl ⟨ml_S_24, im_X_init, ci_X⟩ w_X_init rfl gy_X_init 13 rfl 73 rfl rfl (Nat.le_of_ble_eq_true rfl) (fun L20 f20 h => ?_)
    obtain ⟨q12, g2⟩ := h
    have g : GZ L f a [q0, q1, q2, q3, q4, q5, q6, q7, q8, q9, q10, q11, q12] (.inr (4, [iv 0, iv 0, .ref q0, iv 0, iv 0, .ref q1, .ref q2])) [ia (cd 0) 4 (fun _ => 0), ia (cd 0) 4 (fun _ => 0), qa (cd 3) 5 (va_up (va_up (va_up (va_up (fun _ => none) 0 (some q3)) 1 (some q5)) 2 (some q7)) 3 (some q9)), .inr (2, [iv 0, iv 0, iv 0, .ref q4]), ja (cd 1) 8 (fun _ => 0), .inr (2, [iv 0, iv 0, iv 0, .ref q6]), ja (cd 1) 8 (fun _ => 0), .inr (2, [iv 0, iv 0, iv 0, .ref q8]), ja (cd 1) 8 (fun _ => 0), .inr (2, [iv 0, iv 0, iv 0, .ref q10]), ja (cd 1) 8 (fun _ => 0), .inr (2, [iv 0, iv 0, iv 0, .ref q12]), ja (cd 1) 8 (fun _ => 0)] L20 f20 := gz_sub g (j := 11) rfl g2
    refine g_aast C (t0 := 3) (ci := 2) (r := (RX2, TX2, 4)) d_S_init_49 50 rfl (gz_mem g (j := 2) rfl) (gz_at g (j := 2) rfl rfl) rfl (gz_mem g (j := 11) rfl) (gz_at g (j := 11) rfl rfl) rfl (by decide) (by decide) ⟨by decide, by decide⟩ ?_
    have g := gz_set (j := 2) (X := qa (cd 3) 5 (va_up (va_up (va_up (va_up (va_up (fun _ => none) 0 (some q3)) 1 (some q5)) 2 (some q7)) 3 (some q9)) 4 (some q11))) g rfl
    obtain ⟨f21, hf9⟩ : ∃ fz, fz = va_up f20 q2 (qa (cd 3) 5 (va_up (va_up (va_up (va_up (va_up (fun _ => none) 0 (some q3)) 1 (some q5)) 2 (some q7)) 3 (some q9)) 4 (some q11))) := ⟨_, rfl⟩
    rw [← hf9] at g
    refine (congrArg (fun z9 => gW p l e rm_S_init s m args below meth c D CL A 2 Q9 13 73 L20 z9 50 [(1, iv 4), (0, .ref a)] []) hf9).mp ?_
    clear hf9
    have g : GZ L f a [q0, q1, q2, q3, q4, q5, q6, q7, q8, q9, q10, q11, q12] (.inr (4, [iv 0, iv 0, .ref q0, iv 0, iv 0, .ref q1, .ref q2])) [ia (cd 0) 4 (fun _ => 0), ia (cd 0) 4 (fun _ => 0), qa (cd 3) 5 (va_up (va_up (va_up (va_up (va_up (fun _ => none) 0 (some q3)) 1 (some q5)) 2 (some q7)) 3 (some q9)) 4 (some q11)), .inr (2, [iv 0, iv 0, iv 0, .ref q4]), ja (cd 1) 8 (fun _ => 0), .inr (2, [iv 0, iv 0, iv 0, .ref q6]), ja (cd 1) 8 (fun _ => 0), .inr (2, [iv 0, iv 0, iv 0, .ref q8]), ja (cd 1) 8 (fun _ => 0), .inr (2, [iv 0, iv 0, iv 0, .ref q10]), ja (cd 1) 8 (fun _ => 0), .inr (2, [iv 0, iv 0, iv 0, .ref q12]), ja (cd 1) 8 (fun _ => 0)] L20 f21 := g
    refine g_iinc C d_S_init_50 53 rfl [(1, iv 5), (0, .ref a)] 0 rfl (by decide) rfl ?_
    refine g_goto C d_S_init_53 28 rfl ?_
    refine g_iload_n C d_S_init_28 29 rfl rfl 0 rfl ?_
    refine g_aload_n C d_S_init_29 30 rfl rfl 1 rfl ?_
    refine g_get C d_S_init_30 33 rfl in_S (ci := 4) rfl (gz_a g) (gz_me g) 6 (by decide) fl_S_20 rfl ?_
    refine g_alen C (t0 := 3) d_S_init_33 34 rfl (gz_mem g (j := 2) rfl) (gz_at g (j := 2) rfl rfl) rfl ?_
    change gW _ _ _ _ _ _ _ _ _ _ _ _ _ _ _ _ _ _ _ _ _ [iv 5, iv 5]
    refine g_icmp_ge C d_S_init_34 37 rfl (show r32 5 from ⟨by decide, by decide⟩) (show r32 5 from ⟨by decide, by decide⟩) 56 rfl (fun (h9 : (5 : Int) ≤ 5) => ?_) (fun (h9 : ¬ (5 : Int) ≤ 5) => absurd h9 (by decide))
    rw [hQ9]
    exact g_vret C hA hsz hr hl d_S_init_56 (by decide) (by decide) ⟨rfl, q0, q1, q2, q3, q4, q5, q6, q7, q8, q9, q10, q11, q12, g⟩
  exact hQ _ rfl
abbrev rm_P_init : Room := { frames := 3, cells := 32, slots := 207, locals := 81 }
set_option maxHeartbeats 8000000 in
set_option maxRecDepth 100000 in
theorem t_P_init {a : Nat} (ha : a ∈ L) (hf : f a = .inr (5, [.null, .null, .null, .null, iv 0])) : gMet l y_P_init c_P_init 2 none rm_P_init D CL (TY cd) L f [.ref a] (fun r L' f' => r = none ∧ ∃ q0 q1 q2 q3 q4 q5 q6 q7 q8 q9 q10 q11 q12 q13 q14 q15 q16 q17 q18 q19 q20 q21 q22 q23 q24 q25 q26 q27 q28 q29 q30 q31, GZ L f a [q0, q1, q2, q3, q4, q5, q6, q7, q8, q9, q10, q11, q12, q13, q14, q15, q16, q17, q18, q19, q20, q21, q22, q23, q24, q25, q26, q27, q28, q29, q30, q31] (.inr (5, [.ref q0, .ref q3, .ref q16, .ref q18, iv 0])) [.inr (1, [iv 1, iv 0, jv 0, .ref q1, .ref q2]), ia (cd 0) 8 (fun _ => 0), ia (cd 0) 8 (updI (updI (updI (updI (updI (updI (updI (updI (fun _ => 0) 0 0) 1 100000) 2 0) 3 100000) 4 0) 5 100000) 6 0) 7 100000), qa (cd 2) 4 (va_up (va_up (va_up (va_up (fun _ => none) 0 (some q4)) 1 (some q7)) 2 (some q10)) 3 (some q13)), .inr (0, [iv 0, iv 1, iv 0, iv 1000, iv 0, .ref q5, .ref q6]), ia (cd 0) 8 (fun _ => 0), ja (cd 1) 8 (fun _ => 0), .inr (0, [iv 0, iv 1, iv 0, iv 1000, iv 0, .ref q8, .ref q9]), ia (cd 0) 8 (fun _ => 0), ja (cd 1) 8 (fun _ => 0), .inr (0, [iv 0, iv 1, iv 0, iv 1000, iv 0, .ref q11, .ref q12]), ia (cd 0) 8 (fun _ => 0), ja (cd 1) 8 (fun _ => 0), .inr (0, [iv 0, iv 1, iv 0, iv 1000, iv 0, .ref q14, .ref q15]), ia (cd 0) 8 (fun _ => 0), ja (cd 1) 8 (fun _ => 0), .inr (3, [iv 0, iv 0, iv 0, iv 0, iv 0, .ref q17]), ia (cd 0) 4 (fun _ => 0), .inr (4, [iv 0, iv 0, .ref q19, iv 0, iv 0, .ref q20, .ref q21]), ia (cd 0) 4 (fun _ => 0), ia (cd 0) 4 (fun _ => 0), qa (cd 3) 5 (va_up (va_up (va_up (va_up (va_up (fun _ => none) 0 (some q22)) 1 (some q24)) 2 (some q26)) 3 (some q28)) 4 (some q30)), .inr (2, [iv 0, iv 0, iv 0, .ref q23]), ja (cd 1) 8 (fun _ => 0), .inr (2, [iv 0, iv 0, iv 0, .ref q25]), ja (cd 1) 8 (fun _ => 0), .inr (2, [iv 0, iv 0, iv 0, .ref q27]), ja (cd 1) 8 (fun _ => 0), .inr (2, [iv 0, iv 0, iv 0, .ref q29]), ja (cd 1) 8 (fun _ => 0), .inr (2, [iv 0, iv 0, iv 0, .ref q31]), ja (cd 1) 8 (fun _ => 0)] L' f') := by
  refine g_of (by decide) (Nat.le_of_ble_eq_true rfl) ?_
  intro p e s m args below meth c A sz hA hsz C hr hl hnm
  have C : gC p s m args c D CL (TY cd) A c_P_init "AlloyPlans" 2 := C
  have g := gz_0 ha hf
  have hQ : ∀ Q9 : State → Prop, Q9 = MQ below (gQ D CL L sz (fun r L' f' => r = none ∧ ∃ q0 q1 q2 q3 q4 q5 q6 q7 q8 q9 q10 q11 q12 q13 q14 q15 q16 q17 q18 q19 q20 q21 q22 q23 q24 q25 q26 q27 q28 q29 q30 q31, GZ L f a [q0, q1, q2, q3, q4, q5, q6, q7, q8, q9, q10, q11, q12, q13, q14, q15, q16, q17, q18, q19, q20, q21, q22, q23, q24, q25, q26, q27, q28, q29, q30, q31] (.inr (5, [.ref q0, .ref q3, .ref q16, .ref q18, iv 0])) [.inr (1, [iv 1, iv 0, jv 0, .ref q1, .ref q2]), ia (cd 0) 8 (fun _ => 0), ia (cd 0) 8 (updI (updI (updI (updI (updI (updI (updI (updI (fun _ => 0) 0 0) 1 100000) 2 0) 3 100000) 4 0) 5 100000) 6 0) 7 100000), qa (cd 2) 4 (va_up (va_up (va_up (va_up (fun _ => none) 0 (some q4)) 1 (some q7)) 2 (some q10)) 3 (some q13)), .inr (0, [iv 0, iv 1, iv 0, iv 1000, iv 0, .ref q5, .ref q6]), ia (cd 0) 8 (fun _ => 0), ja (cd 1) 8 (fun _ => 0), .inr (0, [iv 0, iv 1, iv 0, iv 1000, iv 0, .ref q8, .ref q9]), ia (cd 0) 8 (fun _ => 0), ja (cd 1) 8 (fun _ => 0), .inr (0, [iv 0, iv 1, iv 0, iv 1000, iv 0, .ref q11, .ref q12]), ia (cd 0) 8 (fun _ => 0), ja (cd 1) 8 (fun _ => 0), .inr (0, [iv 0, iv 1, iv 0, iv 1000, iv 0, .ref q14, .ref q15]), ia (cd 0) 8 (fun _ => 0), ja (cd 1) 8 (fun _ => 0), .inr (3, [iv 0, iv 0, iv 0, iv 0, iv 0, .ref q17]), ia (cd 0) 4 (fun _ => 0), .inr (4, [iv 0, iv 0, .ref q19, iv 0, iv 0, .ref q20, .ref q21]), ia (cd 0) 4 (fun _ => 0), ia (cd 0) 4 (fun _ => 0), qa (cd 3) 5 (va_up (va_up (va_up (va_up (va_up (fun _ => none) 0 (some q22)) 1 (some q24)) 2 (some q26)) 3 (some q28)) 4 (some q30)), .inr (2, [iv 0, iv 0, iv 0, .ref q23]), ja (cd 1) 8 (fun _ => 0), .inr (2, [iv 0, iv 0, iv 0, .ref q25]), ja (cd 1) 8 (fun _ => 0), .inr (2, [iv 0, iv 0, iv 0, .ref q27]), ja (cd 1) 8 (fun _ => 0), .inr (2, [iv 0, iv 0, iv 0, .ref q29]), ja (cd 1) 8 (fun _ => 0), .inr (2, [iv 0, iv 0, iv 0, .ref q31]), ja (cd 1) 8 (fun _ => 0)] L' f')) args s rm_P_init.cells rm_P_init.slots (gA L sz) → gW p l e rm_P_init s m args below meth c D CL A 2 Q9 0 0 L f 0 [(0, .ref a)] [] := by
    intro Q9 hQ9
    refine g_aload_n C d_P_init_0 1 rfl rfl 0 rfl ?_
    refine g_obj C ml_P_3 d_P_init_1 4 rfl (by decide) (by decide) ?_
    refine g_aload_n C d_P_init_4 5 rfl rfl 0 rfl ?_
    refine r_new C g in_E (ci := 1) rfl tyX1 tyX1_ok [iv 0, iv 0, jv 0, .null, .null] df_E ⟨kl_P_9, cm_E, ci_E⟩ 1 rfl 5 rfl (by decide) (by decide) d_P_init_5 8 rfl (fun q0 L1 f1 g => ?_)
    have g : GZ L f a [q0] (.inr (5, [.null, .null, .null, .null, iv 0])) [.inr (1, [iv 0, iv 0, jv 0, .null, .null])] L1 f1 := g
    refine g_dup C d_P_init_8 9 rfl rfl ?_
    refine r_init C (t_E_init (gz_mem g (j := 0) rfl) (gz_at g (j := 0) rfl rfl)) d_P_init_9 12 rfl ⟨ml_P_11, im_E_init, ci_E⟩ w_E_init rfl gy_E_init 3 rfl 21 rfl rfl (Nat.le_of_ble_eq_true rfl) (fun L2 f2 h => ?_)
    obtain ⟨q1, q2, g2⟩ := h
    have g : GZ L f a [q0, q1, q2] (.inr (5, [.null, .null, .null, .null, iv 0])) [.inr (1, [iv 1, iv 0, jv 0, .ref q1, .ref q2]), ia (cd 0) 8 (fun _ => 0), ia (cd 0) 8 (updI (updI (updI (updI (updI (updI (updI (updI (fun _ => 0) 0 0) 1 100000) 2 0) 3 100000) 4 0) 5 100000) 6 0) 7 100000)] L2 f2 := gz_sub g (j := 0) rfl g2
    refine g_putF C d_P_init_12 15 rfl in_P (ci := 5) rfl (gz_a g) (gz_me g) 0 (by decide) fl_P_12 tyX5 tyX5_ok nmX5 rfl hnm rfl (ty := (.object "AlloyPlans$Melt")) (by decide +kernel) rfl rfl (Nat.le_of_ble_eq_true rfl) ?_
    have g := gz_put (X := .inr (5, [.ref q0, .null, .null, .null, iv 0])) g
    obtain ⟨f3, hf9⟩ : ∃ fz, fz = va_up f2 a (.inr (5, [.ref q0, .null, .null, .null, iv 0])) := ⟨_, rfl⟩
    rw [← hf9] at g
    refine (congrArg (fun z9 => gW p l e rm_P_init s m args below meth c D CL A 2 Q9 3 21 L2 z9 15 [(0, .ref a)] []) hf9).mp ?_
    clear hf9
    have g : GZ L f a [q0, q1, q2] (.inr (5, [.ref q0, .null, .null, .null, iv 0])) [.inr (1, [iv 1, iv 0, jv 0, .ref q1, .ref q2]), ia (cd 0) 8 (fun _ => 0), ia (cd 0) 8 (updI (updI (updI (updI (updI (updI (updI (updI (fun _ => 0) 0 0) 1 100000) 2 0) 3 100000) 4 0) 5 100000) 6 0) 7 100000)] L2 f3 := g
    refine g_aload_n C d_P_init_15 16 rfl rfl 0 rfl ?_
    refine g_iconst C d_P_init_16 17 rfl ?_
    refine r_newq C g (t0 := 2) rfl kl_P_16 (gN_n_oAlloy C.2.1.2.1) 4 rfl (by decide) (by decide) 4 rfl 25 rfl (by decide) (by decide) d_P_init_17 20 rfl (fun q3 L4 f4 g => ?_)
    have g : GZ L f a [q0, q1, q2, q3] (.inr (5, [.ref q0, .null, .null, .null, iv 0])) [.inr (1, [iv 1, iv 0, jv 0, .ref q1, .ref q2]), ia (cd 0) 8 (fun _ => 0), ia (cd 0) 8 (updI (updI (updI (updI (updI (updI (updI (updI (fun _ => 0) 0 0) 1 100000) 2 0) 3 100000) 4 0) 5 100000) 6 0) 7 100000), qa (cd 2) 4 (fun _ => none)] L4 f4 := g
    refine g_putF C d_P_init_20 23 rfl in_P (ci := 5) rfl (gz_a g) (gz_me g) 1 (by decide) fl_P_18 tyX5 tyX5_ok nmX5 rfl hnm rfl (ty := (.array (.object "AlloyPlans$Alloy"))) (by decide +kernel) rfl rfl (Nat.le_of_ble_eq_true rfl) ?_
    have g := gz_put (X := .inr (5, [.ref q0, .ref q3, .null, .null, iv 0])) g
    obtain ⟨f5, hf9⟩ : ∃ fz, fz = va_up f4 a (.inr (5, [.ref q0, .ref q3, .null, .null, iv 0])) := ⟨_, rfl⟩
    rw [← hf9] at g
    refine (congrArg (fun z9 => gW p l e rm_P_init s m args below meth c D CL A 2 Q9 4 25 L4 z9 23 [(0, .ref a)] []) hf9).mp ?_
    clear hf9
    have g : GZ L f a [q0, q1, q2, q3] (.inr (5, [.ref q0, .ref q3, .null, .null, iv 0])) [.inr (1, [iv 1, iv 0, jv 0, .ref q1, .ref q2]), ia (cd 0) 8 (fun _ => 0), ia (cd 0) 8 (updI (updI (updI (updI (updI (updI (updI (updI (fun _ => 0) 0 0) 1 100000) 2 0) 3 100000) 4 0) 5 100000) 6 0) 7 100000), qa (cd 2) 4 (fun _ => none)] L4 f5 := g
    refine g_iconst C d_P_init_23 24 rfl ?_
    refine g_istore_n C d_P_init_24 25 rfl [(1, iv 0), (0, .ref a)] rfl (by decide) rfl ?_
    refine g_iload_n C d_P_init_25 26 rfl rfl 0 rfl ?_
    refine g_aload_n C d_P_init_26 27 rfl rfl 1 rfl ?_
    refine g_get C d_P_init_27 30 rfl in_P (ci := 5) rfl (gz_a g) (gz_me g) 1 (by decide) fl_P_18 rfl ?_
    refine g_alen C (t0 := 2) d_P_init_30 31 rfl (gz_mem g (j := 3) rfl) (gz_at g (j := 3) rfl rfl) rfl ?_
    change gW _ _ _ _ _ _ _ _ _ _ _ _ _ _ _ _ _ _ _ _ _ [iv 4, iv 0]
    refine g_icmp_ge C d_P_init_31 34 rfl (show r32 0 from ⟨by decide, by decide⟩) (show r32 4 from ⟨by decide, by decide⟩) 53 rfl (fun (h9 : (4 : Int) ≤ 0) => absurd h9 (by decide)) (fun (h9 : ¬ (4 : Int) ≤ 0) => ?_)
    refine g_aload_n C d_P_init_34 35 rfl rfl 1 rfl ?_
    refine g_get C d_P_init_35 38 rfl in_P (ci := 5) rfl (gz_a g) (gz_me g) 1 (by decide) fl_P_18 rfl ?_
    refine g_iload_n C d_P_init_38 39 rfl rfl 0 rfl ?_
    refine r_new C g in_A (ci := 0) rfl tyX0 tyX0_ok [iv 0, iv 0, iv 0, iv 0, iv 0, .null, .null] df_A ⟨kl_P_16, cm_A, ci_A⟩ 5 rfl 32 rfl (by decide) (by decide) d_P_init_39 42 rfl (fun q4 L6 f6 g => ?_)
    have g : GZ L f a [q0, q1, q2, q3, q4] (.inr (5, [.ref q0, .ref q3, .null, .null, iv 0])) [.inr (1, [iv 1, iv 0, jv 0, .ref q1, .ref q2]), ia (cd 0) 8 (fun _ => 0), ia (cd 0) 8 (updI (updI (updI (updI (updI (updI (updI (updI (fun _ => 0) 0 0) 1 100000) 2 0) 3 100000) 4 0) 5 100000) 6 0) 7 100000), qa (cd 2) 4 (fun _ => none), .inr (0, [iv 0, iv 0, iv 0, iv 0, iv 0, .null, .null])] L6 f6 := g
    refine g_dup C d_P_init_42 43 rfl rfl ?_
    refine r_init C (t_A_init (gz_mem g (j := 4) rfl) (gz_at g (j := 4) rfl rfl)) d_P_init_43 46 rfl ⟨ml_P_22, im_A_init, ci_A⟩ w_A_init rfl gy_A_init 7 rfl 48 rfl rfl (Nat.le_of_ble_eq_true rfl) (fun L7 f7 h => ?_)
    obtain ⟨q5, q6, g2⟩ := h
    have g : GZ L f a [q0, q1, q2, q3, q4, q5, q6] (.inr (5, [.ref q0, .ref q3, .null, .null, iv 0])) [.inr (1, [iv 1, iv 0, jv 0, .ref q1, .ref q2]), ia (cd 0) 8 (fun _ => 0), ia (cd 0) 8 (updI (updI (updI (updI (updI (updI (updI (updI (fun _ => 0) 0 0) 1 100000) 2 0) 3 100000) 4 0) 5 100000) 6 0) 7 100000), qa (cd 2) 4 (fun _ => none), .inr (0, [iv 0, iv 1, iv 0, iv 1000, iv 0, .ref q5, .ref q6]), ia (cd 0) 8 (fun _ => 0), ja (cd 1) 8 (fun _ => 0)] L7 f7 := gz_sub g (j := 4) rfl g2
    refine g_aast C (t0 := 2) (ci := 0) (r := (RX0, TX0, 7)) d_P_init_46 47 rfl (gz_mem g (j := 3) rfl) (gz_at g (j := 3) rfl rfl) rfl (gz_mem g (j := 4) rfl) (gz_at g (j := 4) rfl rfl) rfl (by decide) (by decide) ⟨by decide, by decide⟩ ?_
    have g := gz_set (j := 3) (X := qa (cd 2) 4 (va_up (fun _ => none) 0 (some q4))) g rfl
    obtain ⟨f8, hf9⟩ : ∃ fz, fz = va_up f7 q3 (qa (cd 2) 4 (va_up (fun _ => none) 0 (some q4))) := ⟨_, rfl⟩
    rw [← hf9] at g
    refine (congrArg (fun z9 => gW p l e rm_P_init s m args below meth c D CL A 2 Q9 7 48 L7 z9 47 [(1, iv 0), (0, .ref a)] []) hf9).mp ?_
    clear hf9
    have g : GZ L f a [q0, q1, q2, q3, q4, q5, q6] (.inr (5, [.ref q0, .ref q3, .null, .null, iv 0])) [.inr (1, [iv 1, iv 0, jv 0, .ref q1, .ref q2]), ia (cd 0) 8 (fun _ => 0), ia (cd 0) 8 (updI (updI (updI (updI (updI (updI (updI (updI (fun _ => 0) 0 0) 1 100000) 2 0) 3 100000) 4 0) 5 100000) 6 0) 7 100000), qa (cd 2) 4 (va_up (fun _ => none) 0 (some q4)), .inr (0, [iv 0, iv 1, iv 0, iv 1000, iv 0, .ref q5, .ref q6]), ia (cd 0) 8 (fun _ => 0), ja (cd 1) 8 (fun _ => 0)] L7 f8 := g
    refine g_iinc C d_P_init_47 50 rfl [(1, iv 1), (0, .ref a)] 0 rfl (by decide) rfl ?_
    refine g_goto C d_P_init_50 25 rfl ?_
    refine g_iload_n C d_P_init_25 26 rfl rfl 0 rfl ?_
    refine g_aload_n C d_P_init_26 27 rfl rfl 1 rfl ?_
    refine g_get C d_P_init_27 30 rfl in_P (ci := 5) rfl (gz_a g) (gz_me g) 1 (by decide) fl_P_18 rfl ?_
    refine g_alen C (t0 := 2) d_P_init_30 31 rfl (gz_mem g (j := 3) rfl) (gz_at g (j := 3) rfl rfl) rfl ?_
    change gW _ _ _ _ _ _ _ _ _ _ _ _ _ _ _ _ _ _ _ _ _ [iv 4, iv 1]
    refine g_icmp_ge C d_P_init_31 34 rfl (show r32 1 from ⟨by decide, by decide⟩) (show r32 4 from ⟨by decide, by decide⟩) 53 rfl (fun (h9 : (4 : Int) ≤ 1) => absurd h9 (by decide)) (fun (h9 : ¬ (4 : Int) ≤ 1) => ?_)
    refine g_aload_n C d_P_init_34 35 rfl rfl 1 rfl ?_
    refine g_get C d_P_init_35 38 rfl in_P (ci := 5) rfl (gz_a g) (gz_me g) 1 (by decide) fl_P_18 rfl ?_
    refine g_iload_n C d_P_init_38 39 rfl rfl 0 rfl ?_
    refine r_new C g in_A (ci := 0) rfl tyX0 tyX0_ok [iv 0, iv 0, iv 0, iv 0, iv 0, .null, .null] df_A ⟨kl_P_16, cm_A, ci_A⟩ 8 rfl 55 rfl (by decide) (by decide) d_P_init_39 42 rfl (fun q7 L9 f9 g => ?_)
    have g : GZ L f a [q0, q1, q2, q3, q4, q5, q6, q7] (.inr (5, [.ref q0, .ref q3, .null, .null, iv 0])) [.inr (1, [iv 1, iv 0, jv 0, .ref q1, .ref q2]), ia (cd 0) 8 (fun _ => 0), ia (cd 0) 8 (updI (updI (updI (updI (updI (updI (updI (updI (fun _ => 0) 0 0) 1 100000) 2 0) 3 100000) 4 0) 5 100000) 6 0) 7 100000), qa (cd 2) 4 (va_up (fun _ => none) 0 (some q4)), .inr (0, [iv 0, iv 1, iv 0, iv 1000, iv 0, .ref q5, .ref q6]), ia (cd 0) 8 (fun _ => 0), ja (cd 1) 8 (fun _ => 0), .inr (0, [iv 0, iv 0, iv 0, iv 0, iv 0, .null, .null])] L9 f9 := g
    refine g_dup C d_P_init_42 43 rfl rfl ?_
    refine r_init C (t_A_init (gz_mem g (j := 7) rfl) (gz_at g (j := 7) rfl rfl)) d_P_init_43 46 rfl ⟨ml_P_22, im_A_init, ci_A⟩ w_A_init rfl gy_A_init 10 rfl 71 rfl rfl (Nat.le_of_ble_eq_true rfl) (fun L10 f10 h => ?_)
    obtain ⟨q8, q9, g2⟩ := h
    have g : GZ L f a [q0, q1, q2, q3, q4, q5, q6, q7, q8, q9] (.inr (5, [.ref q0, .ref q3, .null, .null, iv 0])) [.inr (1, [iv 1, iv 0, jv 0, .ref q1, .ref q2]), ia (cd 0) 8 (fun _ => 0), ia (cd 0) 8 (updI (updI (updI (updI (updI (updI (updI (updI (fun _ => 0) 0 0) 1 100000) 2 0) 3 100000) 4 0) 5 100000) 6 0) 7 100000), qa (cd 2) 4 (va_up (fun _ => none) 0 (some q4)), .inr (0, [iv 0, iv 1, iv 0, iv 1000, iv 0, .ref q5, .ref q6]), ia (cd 0) 8 (fun _ => 0), ja (cd 1) 8 (fun _ => 0), .inr (0, [iv 0, iv 1, iv 0, iv 1000, iv 0, .ref q8, .ref q9]), ia (cd 0) 8 (fun _ => 0), ja (cd 1) 8 (fun _ => 0)] L10 f10 := gz_sub g (j := 7) rfl g2
    refine g_aast C (t0 := 2) (ci := 0) (r := (RX0, TX0, 7)) d_P_init_46 47 rfl (gz_mem g (j := 3) rfl) (gz_at g (j := 3) rfl rfl) rfl (gz_mem g (j := 7) rfl) (gz_at g (j := 7) rfl rfl) rfl (by decide) (by decide) ⟨by decide, by decide⟩ ?_
    have g := gz_set (j := 3) (X := qa (cd 2) 4 (va_up (va_up (fun _ => none) 0 (some q4)) 1 (some q7))) g rfl
    obtain ⟨f11, hf9⟩ : ∃ fz, fz = va_up f10 q3 (qa (cd 2) 4 (va_up (va_up (fun _ => none) 0 (some q4)) 1 (some q7))) := ⟨_, rfl⟩
    rw [← hf9] at g
    refine (congrArg (fun z9 => gW p l e rm_P_init s m args below meth c D CL A 2 Q9 10 71 L10 z9 47 [(1, iv 1), (0, .ref a)] []) hf9).mp ?_
    clear hf9
    have g : GZ L f a [q0, q1, q2, q3, q4, q5, q6, q7, q8, q9] (.inr (5, [.ref q0, .ref q3, .null, .null, iv 0])) [.inr (1, [iv 1, iv 0, jv 0, .ref q1, .ref q2]), ia (cd 0) 8 (fun _ => 0), ia (cd 0) 8 (updI (updI (updI (updI (updI (updI (updI (updI (fun _ => 0) 0 0) 1 100000) 2 0) 3 100000) 4 0) 5 100000) 6 0) 7 100000), qa (cd 2) 4 (va_up (va_up (fun _ => none) 0 (some q4)) 1 (some q7)), .inr (0, [iv 0, iv 1, iv 0, iv 1000, iv 0, .ref q5, .ref q6]), ia (cd 0) 8 (fun _ => 0), ja (cd 1) 8 (fun _ => 0), .inr (0, [iv 0, iv 1, iv 0, iv 1000, iv 0, .ref q8, .ref q9]), ia (cd 0) 8 (fun _ => 0), ja (cd 1) 8 (fun _ => 0)] L10 f11 := g
    refine g_iinc C d_P_init_47 50 rfl [(1, iv 2), (0, .ref a)] 0 rfl (by decide) rfl ?_
    refine g_goto C d_P_init_50 25 rfl ?_
    refine g_iload_n C d_P_init_25 26 rfl rfl 0 rfl ?_
    refine g_aload_n C d_P_init_26 27 rfl rfl 1 rfl ?_
    refine g_get C d_P_init_27 30 rfl in_P (ci := 5) rfl (gz_a g) (gz_me g) 1 (by decide) fl_P_18 rfl ?_
    refine g_alen C (t0 := 2) d_P_init_30 31 rfl (gz_mem g (j := 3) rfl) (gz_at g (j := 3) rfl rfl) rfl ?_
    change gW _ _ _ _ _ _ _ _ _ _ _ _ _ _ _ _ _ _ _ _ _ [iv 4, iv 2]
    refine g_icmp_ge C d_P_init_31 34 rfl (show r32 2 from ⟨by decide, by decide⟩) (show r32 4 from ⟨by decide, by decide⟩) 53 rfl (fun (h9 : (4 : Int) ≤ 2) => absurd h9 (by decide)) (fun (h9 : ¬ (4 : Int) ≤ 2) => ?_)
    refine g_aload_n C d_P_init_34 35 rfl rfl 1 rfl ?_
    refine g_get C d_P_init_35 38 rfl in_P (ci := 5) rfl (gz_a g) (gz_me g) 1 (by decide) fl_P_18 rfl ?_
    refine g_iload_n C d_P_init_38 39 rfl rfl 0 rfl ?_
    refine r_new C g in_A (ci := 0) rfl tyX0 tyX0_ok [iv 0, iv 0, iv 0, iv 0, iv 0, .null, .null] df_A ⟨kl_P_16, cm_A, ci_A⟩ 11 rfl 78 rfl (by decide) (by decide) d_P_init_39 42 rfl (fun q10 L12 f12 g => ?_)
    have g : GZ L f a [q0, q1, q2, q3, q4, q5, q6, q7, q8, q9, q10] (.inr (5, [.ref q0, .ref q3, .null, .null, iv 0])) [.inr (1, [iv 1, iv 0, jv 0, .ref q1, .ref q2]), ia (cd 0) 8 (fun _ => 0), ia (cd 0) 8 (updI (updI (updI (updI (updI (updI (updI (updI (fun _ => 0) 0 0) 1 100000) 2 0) 3 100000) 4 0) 5 100000) 6 0) 7 100000), qa (cd 2) 4 (va_up (va_up (fun _ => none) 0 (some q4)) 1 (some q7)), .inr (0, [iv 0, iv 1, iv 0, iv 1000, iv 0, .ref q5, .ref q6]), ia (cd 0) 8 (fun _ => 0), ja (cd 1) 8 (fun _ => 0), .inr (0, [iv 0, iv 1, iv 0, iv 1000, iv 0, .ref q8, .ref q9]), ia (cd 0) 8 (fun _ => 0), ja (cd 1) 8 (fun _ => 0), .inr (0, [iv 0, iv 0, iv 0, iv 0, iv 0, .null, .null])] L12 f12 := g
    refine g_dup C d_P_init_42 43 rfl rfl ?_
    refine r_init C (t_A_init (gz_mem g (j := 10) rfl) (gz_at g (j := 10) rfl rfl)) d_P_init_43 46 rfl ⟨ml_P_22, im_A_init, ci_A⟩ w_A_init rfl gy_A_init 13 rfl 94 rfl rfl (Nat.le_of_ble_eq_true rfl) (fun L13 f13 h => ?_)
    obtain ⟨q11, q12, g2⟩ := h
    have g : GZ L f a [q0, q1, q2, q3, q4, q5, q6, q7, q8, q9, q10, q11, q12] (.inr (5, [.ref q0, .ref q3, .null, .null, iv 0])) [.inr (1, [iv 1, iv 0, jv 0, .ref q1, .ref q2]), ia (cd 0) 8 (fun _ => 0), ia (cd 0) 8 (updI (updI (updI (updI (updI (updI (updI (updI (fun _ => 0) 0 0) 1 100000) 2 0) 3 100000) 4 0) 5 100000) 6 0) 7 100000), qa (cd 2) 4 (va_up (va_up (fun _ => none) 0 (some q4)) 1 (some q7)), .inr (0, [iv 0, iv 1, iv 0, iv 1000, iv 0, .ref q5, .ref q6]), ia (cd 0) 8 (fun _ => 0), ja (cd 1) 8 (fun _ => 0), .inr (0, [iv 0, iv 1, iv 0, iv 1000, iv 0, .ref q8, .ref q9]), ia (cd 0) 8 (fun _ => 0), ja (cd 1) 8 (fun _ => 0), .inr (0, [iv 0, iv 1, iv 0, iv 1000, iv 0, .ref q11, .ref q12]), ia (cd 0) 8 (fun _ => 0), ja (cd 1) 8 (fun _ => 0)] L13 f13 := gz_sub g (j := 10) rfl g2
    refine g_aast C (t0 := 2) (ci := 0) (r := (RX0, TX0, 7)) d_P_init_46 47 rfl (gz_mem g (j := 3) rfl) (gz_at g (j := 3) rfl rfl) rfl (gz_mem g (j := 10) rfl) (gz_at g (j := 10) rfl rfl) rfl (by decide) (by decide) ⟨by decide, by decide⟩ ?_
    have g := gz_set (j := 3) (X := qa (cd 2) 4 (va_up (va_up (va_up (fun _ => none) 0 (some q4)) 1 (some q7)) 2 (some q10))) g rfl
    obtain ⟨f14, hf9⟩ : ∃ fz, fz = va_up f13 q3 (qa (cd 2) 4 (va_up (va_up (va_up (fun _ => none) 0 (some q4)) 1 (some q7)) 2 (some q10))) := ⟨_, rfl⟩
    rw [← hf9] at g
    refine (congrArg (fun z9 => gW p l e rm_P_init s m args below meth c D CL A 2 Q9 13 94 L13 z9 47 [(1, iv 2), (0, .ref a)] []) hf9).mp ?_
    clear hf9
    have g : GZ L f a [q0, q1, q2, q3, q4, q5, q6, q7, q8, q9, q10, q11, q12] (.inr (5, [.ref q0, .ref q3, .null, .null, iv 0])) [.inr (1, [iv 1, iv 0, jv 0, .ref q1, .ref q2]), ia (cd 0) 8 (fun _ => 0), ia (cd 0) 8 (updI (updI (updI (updI (updI (updI (updI (updI (fun _ => 0) 0 0) 1 100000) 2 0) 3 100000) 4 0) 5 100000) 6 0) 7 100000), qa (cd 2) 4 (va_up (va_up (va_up (fun _ => none) 0 (some q4)) 1 (some q7)) 2 (some q10)), .inr (0, [iv 0, iv 1, iv 0, iv 1000, iv 0, .ref q5, .ref q6]), ia (cd 0) 8 (fun _ => 0), ja (cd 1) 8 (fun _ => 0), .inr (0, [iv 0, iv 1, iv 0, iv 1000, iv 0, .ref q8, .ref q9]), ia (cd 0) 8 (fun _ => 0), ja (cd 1) 8 (fun _ => 0), .inr (0, [iv 0, iv 1, iv 0, iv 1000, iv 0, .ref q11, .ref q12]), ia (cd 0) 8 (fun _ => 0), ja (cd 1) 8 (fun _ => 0)] L13 f14 := g
    refine g_iinc C d_P_init_47 50 rfl [(1, iv 3), (0, .ref a)] 0 rfl (by decide) rfl ?_
    refine g_goto C d_P_init_50 25 rfl ?_
    refine g_iload_n C d_P_init_25 26 rfl rfl 0 rfl ?_
    refine g_aload_n C d_P_init_26 27 rfl rfl 1 rfl ?_
    refine g_get C d_P_init_27 30 rfl in_P (ci := 5) rfl (gz_a g) (gz_me g) 1 (by decide) fl_P_18 rfl ?_
    refine g_alen C (t0 := 2) d_P_init_30 31 rfl (gz_mem g (j := 3) rfl) (gz_at g (j := 3) rfl rfl) rfl ?_
    change gW _ _ _ _ _ _ _ _ _ _ _ _ _ _ _ _ _ _ _ _ _ [iv 4, iv 3]
    refine g_icmp_ge C d_P_init_31 34 rfl (show r32 3 from ⟨by decide, by decide⟩) (show r32 4 from ⟨by decide, by decide⟩) 53 rfl (fun (h9 : (4 : Int) ≤ 3) => absurd h9 (by decide)) (fun (h9 : ¬ (4 : Int) ≤ 3) => ?_)
    refine g_aload_n C d_P_init_34 35 rfl rfl 1 rfl ?_
    refine g_get C d_P_init_35 38 rfl in_P (ci := 5) rfl (gz_a g) (gz_me g) 1 (by decide) fl_P_18 rfl ?_
    refine g_iload_n C d_P_init_38 39 rfl rfl 0 rfl ?_
    refine r_new C g in_A (ci := 0) rfl tyX0 tyX0_ok [iv 0, iv 0, iv 0, iv 0, iv 0, .null, .null] df_A ⟨kl_P_16, cm_A, ci_A⟩ 14 rfl 101 rfl (by decide) (by decide) d_P_init_39 42 rfl (fun q13 L15 f15 g => ?_)
    have g : GZ L f a [q0, q1, q2, q3, q4, q5, q6, q7, q8, q9, q10, q11, q12, q13] (.inr (5, [.ref q0, .ref q3, .null, .null, iv 0])) [.inr (1, [iv 1, iv 0, jv 0, .ref q1, .ref q2]), ia (cd 0) 8 (fun _ => 0), ia (cd 0) 8 (updI (updI (updI (updI (updI (updI (updI (updI (fun _ => 0) 0 0) 1 100000) 2 0) 3 100000) 4 0) 5 100000) 6 0) 7 100000), qa (cd 2) 4 (va_up (va_up (va_up (fun _ => none) 0 (some q4)) 1 (some q7)) 2 (some q10)), .inr (0, [iv 0, iv 1, iv 0, iv 1000, iv 0, .ref q5, .ref q6]), ia (cd 0) 8 (fun _ => 0), ja (cd 1) 8 (fun _ => 0), .inr (0, [iv 0, iv 1, iv 0, iv 1000, iv 0, .ref q8, .ref q9]), ia (cd 0) 8 (fun _ => 0), ja (cd 1) 8 (fun _ => 0), .inr (0, [iv 0, iv 1, iv 0, iv 1000, iv 0, .ref q11, .ref q12]), ia (cd 0) 8 (fun _ => 0), ja (cd 1) 8 (fun _ => 0), .inr (0, [iv 0, iv 0, iv 0, iv 0, iv 0, .null, .null])] L15 f15 := g
    refine g_dup C d_P_init_42 43 rfl rfl ?_
    refine r_init C (t_A_init (gz_mem g (j := 13) rfl) (gz_at g (j := 13) rfl rfl)) d_P_init_43 46 rfl ⟨ml_P_22, im_A_init, ci_A⟩ w_A_init rfl gy_A_init 16 rfl 117 rfl rfl (Nat.le_of_ble_eq_true rfl) (fun L16 f16 h => ?_)
    obtain ⟨q14, q15, g2⟩ := h
    have g : GZ L f a [q0, q1, q2, q3, q4, q5, q6, q7, q8, q9, q10, q11, q12, q13, q14, q15] (.inr (5, [.ref q0, .ref q3, .null, .null, iv 0])) [.inr (1, [iv 1, iv 0, jv 0, .ref q1, .ref q2]), ia (cd 0) 8 (fun _ => 0), ia (cd 0) 8 (updI (updI (updI (updI (updI (updI (updI (updI (fun _ => 0) 0 0) 1 100000) 2 0) 3 100000) 4 0) 5 100000) 6 0) 7 100000), qa (cd 2) 4 (va_up (va_up (va_up (fun _ => none) 0 (some q4)) 1 (some q7)) 2 (some q10)), .inr (0, [iv 0, iv 1, iv 0, iv 1000, iv 0, .ref q5, .ref q6]), ia (cd 0) 8 (fun _ => 0), ja (cd 1) 8 (fun _ => 0), .inr (0, [iv 0, iv 1, iv 0, iv 1000, iv 0, .ref q8, .ref q9]), ia (cd 0) 8 (fun _ => 0), ja (cd 1) 8 (fun _ => 0), .inr (0, [iv 0, iv 1, iv 0, iv 1000, iv 0, .ref q11, .ref q12]), ia (cd 0) 8 (fun _ => 0), ja (cd 1) 8 (fun _ => 0), .inr (0, [iv 0, iv 1, iv 0, iv 1000, iv 0, .ref q14, .ref q15]), ia (cd 0) 8 (fun _ => 0), ja (cd 1) 8 (fun _ => 0)] L16 f16 := gz_sub g (j := 13) rfl g2
    refine g_aast C (t0 := 2) (ci := 0) (r := (RX0, TX0, 7)) d_P_init_46 47 rfl (gz_mem g (j := 3) rfl) (gz_at g (j := 3) rfl rfl) rfl (gz_mem g (j := 13) rfl) (gz_at g (j := 13) rfl rfl) rfl (by decide) (by decide) ⟨by decide, by decide⟩ ?_
    have g := gz_set (j := 3) (X := qa (cd 2) 4 (va_up (va_up (va_up (va_up (fun _ => none) 0 (some q4)) 1 (some q7)) 2 (some q10)) 3 (some q13))) g rfl
    obtain ⟨f17, hf9⟩ : ∃ fz, fz = va_up f16 q3 (qa (cd 2) 4 (va_up (va_up (va_up (va_up (fun _ => none) 0 (some q4)) 1 (some q7)) 2 (some q10)) 3 (some q13))) := ⟨_, rfl⟩
    rw [← hf9] at g
    refine (congrArg (fun z9 => gW p l e rm_P_init s m args below meth c D CL A 2 Q9 16 117 L16 z9 47 [(1, iv 3), (0, .ref a)] []) hf9).mp ?_
    clear hf9
    have g : GZ L f a [q0, q1, q2, q3, q4, q5, q6, q7, q8, q9, q10, q11, q12, q13, q14, q15] (.inr (5, [.ref q0, .ref q3, .null, .null, iv 0])) [.inr (1, [iv 1, iv 0, jv 0, .ref q1, .ref q2]), ia (cd 0) 8 (fun _ => 0), ia (cd 0) 8 (updI (updI (updI (updI (updI (updI (updI (updI (fun _ => 0) 0 0) 1 100000) 2 0) 3 100000) 4 0) 5 100000) 6 0) 7 100000), qa (cd 2) 4 (va_up (va_up (va_up (va_up (fun _ => none) 0 (some q4)) 1 (some q7)) 2 (some q10)) 3 (some q13)), .inr (0, [iv 0, iv 1, iv 0, iv 1000, iv 0, .ref q5, .ref q6]), ia (cd 0) 8 (fun _ => 0), ja (cd 1) 8 (fun _ => 0), .inr (0, [iv 0, iv 1, iv 0, iv 1000, iv 0, .ref q8, .ref q9]), ia (cd 0) 8 (fun _ => 0), ja (cd 1) 8 (fun _ => 0), .inr (0, [iv 0, iv 1, iv 0, iv 1000, iv 0, .ref q11, .ref q12]), ia (cd 0) 8 (fun _ => 0), ja (cd 1) 8 (fun _ => 0), .inr (0, [iv 0, iv 1, iv 0, iv 1000, iv 0, .ref q14, .ref q15]), ia (cd 0) 8 (fun _ => 0), ja (cd 1) 8 (fun _ => 0)] L16 f17 := g
    refine g_iinc C d_P_init_47 50 rfl [(1, iv 4), (0, .ref a)] 0 rfl (by decide) rfl ?_
    refine g_goto C d_P_init_50 25 rfl ?_
    refine g_iload_n C d_P_init_25 26 rfl rfl 0 rfl ?_
    refine g_aload_n C d_P_init_26 27 rfl rfl 1 rfl ?_
    refine g_get C d_P_init_27 30 rfl in_P (ci := 5) rfl (gz_a g) (gz_me g) 1 (by decide) fl_P_18 rfl ?_
    refine g_alen C (t0 := 2) d_P_init_30 31 rfl (gz_mem g (j := 3) rfl) (gz_at g (j := 3) rfl rfl) rfl ?_
    change gW _ _ _ _ _ _ _ _ _ _ _ _ _ _ _ _ _ _ _ _ _ [iv 4, iv 4]
    refine g_icmp_ge C d_P_init_31 34 rfl (show r32 4 from ⟨by decide, by decide⟩) (show r32 4 from ⟨by decide, by decide⟩) 53 rfl (fun (h9 : (4 : Int) ≤ 4) => ?_) (fun (h9 : ¬ (4 : Int) ≤ 4) => absurd h9 (by decide))
    refine g_aload_n C d_P_init_53 54 rfl rfl 1 rfl ?_
    refine r_new C g in_N (ci := 3) rfl tyX3 tyX3_ok [iv 0, iv 0, iv 0, iv 0, iv 0, .null] df_N ⟨kl_P_23, cm_N, ci_N⟩ 17 rfl 123 rfl (by decide) (by decide) d_P_init_54 57 rfl (fun q16 L18 f18 g => ?_)
    have g : GZ L f a [q0, q1, q2, q3, q4, q5, q6, q7, q8, q9, q10, q11, q12, q13, q14, q15, q16] (.inr (5, [.ref q0, .ref q3, .null, .null, iv 0])) [.inr (1, [iv 1, iv 0, jv 0, .ref q1, .ref q2]), ia (cd 0) 8 (fun _ => 0), ia (cd 0) 8 (updI (updI (updI (updI (updI (updI (updI (updI (fun _ => 0) 0 0) 1 100000) 2 0) 3 100000) 4 0) 5 100000) 6 0) 7 100000), qa (cd 2) 4 (va_up (va_up (va_up (va_up (fun _ => none) 0 (some q4)) 1 (some q7)) 2 (some q10)) 3 (some q13)), .inr (0, [iv 0, iv 1, iv 0, iv 1000, iv 0, .ref q5, .ref q6]), ia (cd 0) 8 (fun _ => 0), ja (cd 1) 8 (fun _ => 0), .inr (0, [iv 0, iv 1, iv 0, iv 1000, iv 0, .ref q8, .ref q9]), ia (cd 0) 8 (fun _ => 0), ja (cd 1) 8 (fun _ => 0), .inr (0, [iv 0, iv 1, iv 0, iv 1000, iv 0, .ref q11, .ref q12]), ia (cd 0) 8 (fun _ => 0), ja (cd 1) 8 (fun _ => 0), .inr (0, [iv 0, iv 1, iv 0, iv 1000, iv 0, .ref q14, .ref q15]), ia (cd 0) 8 (fun _ => 0), ja (cd 1) 8 (fun _ => 0), .inr (3, [iv 0, iv 0, iv 0, iv 0, iv 0, .null])] L18 f18 := g
    refine g_dup C d_P_init_57 58 rfl rfl ?_
    refine r_init C (t_N_init (gz_mem g (j := 16) rfl) (gz_at g (j := 16) rfl rfl)) d_P_init_58 61 rfl ⟨ml_P_25, im_N_init, ci_N⟩ w_N_init rfl gy_N_init 18 rfl 127 rfl rfl (Nat.le_of_ble_eq_true rfl) (fun L19 f19 h => ?_)
    obtain ⟨q17, g2⟩ := h
    have g : GZ L f a [q0, q1, q2, q3, q4, q5, q6, q7, q8, q9, q10, q11, q12, q13, q14, q15, q16, q17] (.inr (5, [.ref q0, .ref q3, .null, .null, iv 0])) [.inr (1, [iv 1, iv 0, jv 0, .ref q1, .ref q2]), ia (cd 0) 8 (fun _ => 0), ia (cd 0) 8 (updI (updI (updI (updI (updI (updI (updI (updI (fun _ => 0) 0 0) 1 100000) 2 0) 3 100000) 4 0) 5 100000) 6 0) 7 100000), qa (cd 2) 4 (va_up (va_up (va_up (va_up (fun _ => none) 0 (some q4)) 1 (some q7)) 2 (some q10)) 3 (some q13)), .inr (0, [iv 0, iv 1, iv 0, iv 1000, iv 0, .ref q5, .ref q6]), ia (cd 0) 8 (fun _ => 0), ja (cd 1) 8 (fun _ => 0), .inr (0, [iv 0, iv 1, iv 0, iv 1000, iv 0, .ref q8, .ref q9]), ia (cd 0) 8 (fun _ => 0), ja (cd 1) 8 (fun _ => 0), .inr (0, [iv 0, iv 1, iv 0, iv 1000, iv 0, .ref q11, .ref q12]), ia (cd 0) 8 (fun _ => 0), ja (cd 1) 8 (fun _ => 0), .inr (0, [iv 0, iv 1, iv 0, iv 1000, iv 0, .ref q14, .ref q15]), ia (cd 0) 8 (fun _ => 0), ja (cd 1) 8 (fun _ => 0), .inr (3, [iv 0, iv 0, iv 0, iv 0, iv 0, .ref q17]), ia (cd 0) 4 (fun _ => 0)] L19 f19 := gz_sub g (j := 16) rfl g2
    refine g_putF C d_P_init_61 64 rfl in_P (ci := 5) rfl (gz_a g) (gz_me g) 2 (by decide) fl_P_26 tyX5 tyX5_ok nmX5 rfl hnm rfl (ty := (.object "AlloyPlans$Plan")) (by decide +kernel) rfl rfl (Nat.le_of_ble_eq_true rfl) ?_
    have g := gz_put (X := .inr (5, [.ref q0, .ref q3, .ref q16, .null, iv 0])) g
    obtain ⟨f20, hf9⟩ : ∃ fz, fz = va_up f19 a (.inr (5, [.ref q0, .ref q3, .ref q16, .null, iv 0])) := ⟨_, rfl⟩
    rw [← hf9] at g
    refine (congrArg (fun z9 => gW p l e rm_P_init s m args below meth c D CL A 2 Q9 18 127 L19 z9 64 [(1, iv 4), (0, .ref a)] []) hf9).mp ?_
    clear hf9
    have g : GZ L f a [q0, q1, q2, q3, q4, q5, q6, q7, q8, q9, q10, q11, q12, q13, q14, q15, q16, q17] (.inr (5, [.ref q0, .ref q3, .ref q16, .null, iv 0])) [.inr (1, [iv 1, iv 0, jv 0, .ref q1, .ref q2]), ia (cd 0) 8 (fun _ => 0), ia (cd 0) 8 (updI (updI (updI (updI (updI (updI (updI (updI (fun _ => 0) 0 0) 1 100000) 2 0) 3 100000) 4 0) 5 100000) 6 0) 7 100000), qa (cd 2) 4 (va_up (va_up (va_up (va_up (fun _ => none) 0 (some q4)) 1 (some q7)) 2 (some q10)) 3 (some q13)), .inr (0, [iv 0, iv 1, iv 0, iv 1000, iv 0, .ref q5, .ref q6]), ia (cd 0) 8 (fun _ => 0), ja (cd 1) 8 (fun _ => 0), .inr (0, [iv 0, iv 1, iv 0, iv 1000, iv 0, .ref q8, .ref q9]), ia (cd 0) 8 (fun _ => 0), ja (cd 1) 8 (fun _ => 0), .inr (0, [iv 0, iv 1, iv 0, iv 1000, iv 0, .ref q11, .ref q12]), ia (cd 0) 8 (fun _ => 0), ja (cd 1) 8 (fun _ => 0), .inr (0, [iv 0, iv 1, iv 0, iv 1000, iv 0, .ref q14, .ref q15]), ia (cd 0) 8 (fun _ => 0), ja (cd 1) 8 (fun _ => 0), .inr (3, [iv 0, iv 0, iv 0, iv 0, iv 0, .ref q17]), ia (cd 0) 4 (fun _ => 0)] L19 f20 := g
    refine g_aload_n C d_P_init_64 65 rfl rfl 1 rfl ?_
    refine r_new C g in_S (ci := 4) rfl tyX4 tyX4_ok [iv 0, iv 0, .null, iv 0, iv 0, .null, .null] df_S ⟨kl_P_30, cm_S, ci_S⟩ 19 rfl 134 rfl (by decide) (by decide) d_P_init_65 68 rfl (fun q18 L21 f21 g => ?_)
    have g : GZ L f a [q0, q1, q2, q3, q4, q5, q6, q7, q8, q9, q10, q11, q12, q13, q14, q15, q16, q17, q18] (.inr (5, [.ref q0, .ref q3, .ref q16, .null, iv 0])) [.inr (1, [iv 1, iv 0, jv 0, .ref q1, .ref q2]), ia (cd 0) 8 (fun _ => 0), ia (cd 0) 8 (updI (updI (updI (updI (updI (updI (updI (updI (fun _ => 0) 0 0) 1 100000) 2 0) 3 100000) 4 0) 5 100000) 6 0) 7 100000), qa (cd 2) 4 (va_up (va_up (va_up (va_up (fun _ => none) 0 (some q4)) 1 (some q7)) 2 (some q10)) 3 (some q13)), .inr (0, [iv 0, iv 1, iv 0, iv 1000, iv 0, .ref q5, .ref q6]), ia (cd 0) 8 (fun _ => 0), ja (cd 1) 8 (fun _ => 0), .inr (0, [iv 0, iv 1, iv 0, iv 1000, iv 0, .ref q8, .ref q9]), ia (cd 0) 8 (fun _ => 0), ja (cd 1) 8 (fun _ => 0), .inr (0, [iv 0, iv 1, iv 0, iv 1000, iv 0, .ref q11, .ref q12]), ia (cd 0) 8 (fun _ => 0), ja (cd 1) 8 (fun _ => 0), .inr (0, [iv 0, iv 1, iv 0, iv 1000, iv 0, .ref q14, .ref q15]), ia (cd 0) 8 (fun _ => 0), ja (cd 1) 8 (fun _ => 0), .inr (3, [iv 0, iv 0, iv 0, iv 0, iv 0, .ref q17]), ia (cd 0) 4 (fun _ => 0), .inr (4, [iv 0, iv 0, .null, iv 0, iv 0, .null, .null])] L21 f21 := g
    refine g_dup C d_P_init_68 69 rfl rfl ?_
    refine r_init C (t_S_init (gz_mem g (j := 18) rfl) (gz_at g (j := 18) rfl rfl)) d_P_init_69 72 rfl ⟨ml_P_32, im_S_init, ci_S⟩ w_S_init rfl gy_S_init 32 rfl 207 rfl rfl (Nat.le_of_ble_eq_true rfl) (fun L22 f22 h => ?_)
    obtain ⟨q19, q20, q21, q22, q23, q24, q25, q26, q27, q28, q29, q30, q31, g2⟩ := h
    have g : GZ L f a [q0, q1, q2, q3, q4, q5, q6, q7, q8, q9, q10, q11, q12, q13, q14, q15, q16, q17, q18, q19, q20, q21, q22, q23, q24, q25, q26, q27, q28, q29, q30, q31] (.inr (5, [.ref q0, .ref q3, .ref q16, .null, iv 0])) [.inr (1, [iv 1, iv 0, jv 0, .ref q1, .ref q2]), ia (cd 0) 8 (fun _ => 0), ia (cd 0) 8 (updI (updI (updI (updI (updI (updI (updI (updI (fun _ => 0) 0 0) 1 100000) 2 0) 3 100000) 4 0) 5 100000) 6 0) 7 100000), qa (cd 2) 4 (va_up (va_up (va_up (va_up (fun _ => none) 0 (some q4)) 1 (some q7)) 2 (some q10)) 3 (some q13)), .inr (0, [iv 0, iv 1, iv 0, iv 1000, iv 0, .ref q5, .ref q6]), ia (cd 0) 8 (fun _ => 0), ja (cd 1) 8 (fun _ => 0), .inr (0, [iv 0, iv 1, iv 0, iv 1000, iv 0, .ref q8, .ref q9]), ia (cd 0) 8 (fun _ => 0), ja (cd 1) 8 (fun _ => 0), .inr (0, [iv 0, iv 1, iv 0, iv 1000, iv 0, .ref q11, .ref q12]), ia (cd 0) 8 (fun _ => 0), ja (cd 1) 8 (fun _ => 0), .inr (0, [iv 0, iv 1, iv 0, iv 1000, iv 0, .ref q14, .ref q15]), ia (cd 0) 8 (fun _ => 0), ja (cd 1) 8 (fun _ => 0), .inr (3, [iv 0, iv 0, iv 0, iv 0, iv 0, .ref q17]), ia (cd 0) 4 (fun _ => 0), .inr (4, [iv 0, iv 0, .ref q19, iv 0, iv 0, .ref q20, .ref q21]), ia (cd 0) 4 (fun _ => 0), ia (cd 0) 4 (fun _ => 0), qa (cd 3) 5 (va_up (va_up (va_up (va_up (va_up (fun _ => none) 0 (some q22)) 1 (some q24)) 2 (some q26)) 3 (some q28)) 4 (some q30)), .inr (2, [iv 0, iv 0, iv 0, .ref q23]), ja (cd 1) 8 (fun _ => 0), .inr (2, [iv 0, iv 0, iv 0, .ref q25]), ja (cd 1) 8 (fun _ => 0), .inr (2, [iv 0, iv 0, iv 0, .ref q27]), ja (cd 1) 8 (fun _ => 0), .inr (2, [iv 0, iv 0, iv 0, .ref q29]), ja (cd 1) 8 (fun _ => 0), .inr (2, [iv 0, iv 0, iv 0, .ref q31]), ja (cd 1) 8 (fun _ => 0)] L22 f22 := gz_sub g (j := 18) rfl g2
    refine g_putF C d_P_init_72 75 rfl in_P (ci := 5) rfl (gz_a g) (gz_me g) 3 (by decide) fl_P_33 tyX5 tyX5_ok nmX5 rfl hnm rfl (ty := (.object "AlloyPlans$Search")) (by decide +kernel) rfl rfl (Nat.le_of_ble_eq_true rfl) ?_
    have g := gz_put (X := .inr (5, [.ref q0, .ref q3, .ref q16, .ref q18, iv 0])) g
    obtain ⟨f23, hf9⟩ : ∃ fz, fz = va_up f22 a (.inr (5, [.ref q0, .ref q3, .ref q16, .ref q18, iv 0])) := ⟨_, rfl⟩
    rw [← hf9] at g
    refine (congrArg (fun z9 => gW p l e rm_P_init s m args below meth c D CL A 2 Q9 32 207 L22 z9 75 [(1, iv 4), (0, .ref a)] []) hf9).mp ?_
    clear hf9
    have g : GZ L f a [q0, q1, q2, q3, q4, q5, q6, q7, q8, q9, q10, q11, q12, q13, q14, q15, q16, q17, q18, q19, q20, q21, q22, q23, q24, q25, q26, q27, q28, q29, q30, q31] (.inr (5, [.ref q0, .ref q3, .ref q16, .ref q18, iv 0])) [.inr (1, [iv 1, iv 0, jv 0, .ref q1, .ref q2]), ia (cd 0) 8 (fun _ => 0), ia (cd 0) 8 (updI (updI (updI (updI (updI (updI (updI (updI (fun _ => 0) 0 0) 1 100000) 2 0) 3 100000) 4 0) 5 100000) 6 0) 7 100000), qa (cd 2) 4 (va_up (va_up (va_up (va_up (fun _ => none) 0 (some q4)) 1 (some q7)) 2 (some q10)) 3 (some q13)), .inr (0, [iv 0, iv 1, iv 0, iv 1000, iv 0, .ref q5, .ref q6]), ia (cd 0) 8 (fun _ => 0), ja (cd 1) 8 (fun _ => 0), .inr (0, [iv 0, iv 1, iv 0, iv 1000, iv 0, .ref q8, .ref q9]), ia (cd 0) 8 (fun _ => 0), ja (cd 1) 8 (fun _ => 0), .inr (0, [iv 0, iv 1, iv 0, iv 1000, iv 0, .ref q11, .ref q12]), ia (cd 0) 8 (fun _ => 0), ja (cd 1) 8 (fun _ => 0), .inr (0, [iv 0, iv 1, iv 0, iv 1000, iv 0, .ref q14, .ref q15]), ia (cd 0) 8 (fun _ => 0), ja (cd 1) 8 (fun _ => 0), .inr (3, [iv 0, iv 0, iv 0, iv 0, iv 0, .ref q17]), ia (cd 0) 4 (fun _ => 0), .inr (4, [iv 0, iv 0, .ref q19, iv 0, iv 0, .ref q20, .ref q21]), ia (cd 0) 4 (fun _ => 0), ia (cd 0) 4 (fun _ => 0), qa (cd 3) 5 (va_up (va_up (va_up (va_up (va_up (fun _ => none) 0 (some q22)) 1 (some q24)) 2 (some q26)) 3 (some q28)) 4 (some q30)), .inr (2, [iv 0, iv 0, iv 0, .ref q23]), ja (cd 1) 8 (fun _ => 0), .inr (2, [iv 0, iv 0, iv 0, .ref q25]), ja (cd 1) 8 (fun _ => 0), .inr (2, [iv 0, iv 0, iv 0, .ref q27]), ja (cd 1) 8 (fun _ => 0), .inr (2, [iv 0, iv 0, iv 0, .ref q29]), ja (cd 1) 8 (fun _ => 0), .inr (2, [iv 0, iv 0, iv 0, .ref q31]), ja (cd 1) 8 (fun _ => 0)] L22 f23 := g
    refine g_aload_n C d_P_init_75 76 rfl rfl 1 rfl ?_
    refine g_iconst C d_P_init_76 77 rfl ?_
    refine g_put C d_P_init_77 80 rfl in_P (ci := 5) rfl (gz_a g) (gz_me g) 4 (by decide) fl_P_37 tyX5 tyX5_ok nmX5 rfl (ty := .int) (by decide +kernel) rfl rfl (Nat.le_of_ble_eq_true rfl) ?_
    have g := gz_put (X := .inr (5, [.ref q0, .ref q3, .ref q16, .ref q18, iv 0])) g
    obtain ⟨f24, hf9⟩ : ∃ fz, fz = va_up f23 a (.inr (5, [.ref q0, .ref q3, .ref q16, .ref q18, iv 0])) := ⟨_, rfl⟩
    rw [← hf9] at g
    refine (congrArg (fun z9 => gW p l e rm_P_init s m args below meth c D CL A 2 Q9 32 207 L22 z9 80 [(1, iv 4), (0, .ref a)] []) hf9).mp ?_
    clear hf9
    have g : GZ L f a [q0, q1, q2, q3, q4, q5, q6, q7, q8, q9, q10, q11, q12, q13, q14, q15, q16, q17, q18, q19, q20, q21, q22, q23, q24, q25, q26, q27, q28, q29, q30, q31] (.inr (5, [.ref q0, .ref q3, .ref q16, .ref q18, iv 0])) [.inr (1, [iv 1, iv 0, jv 0, .ref q1, .ref q2]), ia (cd 0) 8 (fun _ => 0), ia (cd 0) 8 (updI (updI (updI (updI (updI (updI (updI (updI (fun _ => 0) 0 0) 1 100000) 2 0) 3 100000) 4 0) 5 100000) 6 0) 7 100000), qa (cd 2) 4 (va_up (va_up (va_up (va_up (fun _ => none) 0 (some q4)) 1 (some q7)) 2 (some q10)) 3 (some q13)), .inr (0, [iv 0, iv 1, iv 0, iv 1000, iv 0, .ref q5, .ref q6]), ia (cd 0) 8 (fun _ => 0), ja (cd 1) 8 (fun _ => 0), .inr (0, [iv 0, iv 1, iv 0, iv 1000, iv 0, .ref q8, .ref q9]), ia (cd 0) 8 (fun _ => 0), ja (cd 1) 8 (fun _ => 0), .inr (0, [iv 0, iv 1, iv 0, iv 1000, iv 0, .ref q11, .ref q12]), ia (cd 0) 8 (fun _ => 0), ja (cd 1) 8 (fun _ => 0), .inr (0, [iv 0, iv 1, iv 0, iv 1000, iv 0, .ref q14, .ref q15]), ia (cd 0) 8 (fun _ => 0), ja (cd 1) 8 (fun _ => 0), .inr (3, [iv 0, iv 0, iv 0, iv 0, iv 0, .ref q17]), ia (cd 0) 4 (fun _ => 0), .inr (4, [iv 0, iv 0, .ref q19, iv 0, iv 0, .ref q20, .ref q21]), ia (cd 0) 4 (fun _ => 0), ia (cd 0) 4 (fun _ => 0), qa (cd 3) 5 (va_up (va_up (va_up (va_up (va_up (fun _ => none) 0 (some q22)) 1 (some q24)) 2 (some q26)) 3 (some q28)) 4 (some q30)), .inr (2, [iv 0, iv 0, iv 0, .ref q23]), ja (cd 1) 8 (fun _ => 0), .inr (2, [iv 0, iv 0, iv 0, .ref q25]), ja (cd 1) 8 (fun _ => 0), .inr (2, [iv 0, iv 0, iv 0, .ref q27]), ja (cd 1) 8 (fun _ => 0), .inr (2, [iv 0, iv 0, iv 0, .ref q29]), ja (cd 1) 8 (fun _ => 0), .inr (2, [iv 0, iv 0, iv 0, .ref q31]), ja (cd 1) 8 (fun _ => 0)] L22 f24 := g
    rw [hQ9]
    exact g_vret C hA hsz hr hl d_P_init_80 (by decide) (by decide) ⟨rfl, q0, q1, q2, q3, q4, q5, q6, q7, q8, q9, q10, q11, q12, q13, q14, q15, q16, q17, q18, q19, q20, q21, q22, q23, q24, q25, q26, q27, q28, q29, q30, q31, g⟩
  exact hQ _ rfl
abbrev rm_M_init : Room := { frames := 1, cells := 13, slots := 76, locals := 40 }
set_option maxHeartbeats 8000000 in
set_option maxRecDepth 100000 in
theorem t_M_init {a : Nat} (ha : a ∈ L) (hf : f a = .inr (6, [iv 0, iv 0, .null, .null, .null, .null, iv 0, .null, .null, .null, .null, .null, .null, .null, iv 0, .null, .null, iv 0, jv 0])) : gMet l y_M_init c_M_init 2 none rm_M_init D CL (TY cd) L f [.ref a] (fun r L' f' => r = none ∧ ∃ q0 q1 q2 q3 q4 q5 q6 q7 q8 q9 q10 q11 q12, GZ L f a [q0, q1, q2, q3, q4, q5, q6, q7, q8, q9, q10, q11, q12] (.inr (6, [iv 0, iv 1, .ref q0, .ref q1, .ref q2, .ref q3, iv 0, .ref q4, .ref q5, .ref q6, .ref q7, .ref q8, .ref q9, .ref q10, iv 0, .ref q11, .ref q12, iv 0, jv 0])) [ia (cd 0) 4 (fun _ => 0), ia (cd 0) 4 (fun _ => 0), ia (cd 0) 4 (fun _ => 0), ia (cd 0) 4 (updI (updI (updI (updI (fun _ => 0) 0 100000) 1 100000) 2 100000) 3 100000), ia (cd 0) 4 (fun _ => 0), ia (cd 0) 4 (fun _ => 0), ia (cd 0) 4 (fun _ => 0), ia (cd 0) 16 (fun _ => 0), ia (cd 0) 16 (fun _ => 0), ia (cd 0) 4 (fun _ => 0), ia (cd 0) 4 (fun _ => 0), ia (cd 0) 4 (fun _ => 0), ia (cd 0) 4 (fun _ => 0)] L' f') := by
  refine g_of (by decide) (Nat.le_of_ble_eq_true rfl) ?_
  intro p e s m args below meth c A sz hA hsz C hr hl hnm
  have C : gC p s m args c D CL (TY cd) A c_M_init "AlloyPlansModel" 2 := C
  have g := gz_0 ha hf
  have hQ : ∀ Q9 : State → Prop, Q9 = MQ below (gQ D CL L sz (fun r L' f' => r = none ∧ ∃ q0 q1 q2 q3 q4 q5 q6 q7 q8 q9 q10 q11 q12, GZ L f a [q0, q1, q2, q3, q4, q5, q6, q7, q8, q9, q10, q11, q12] (.inr (6, [iv 0, iv 1, .ref q0, .ref q1, .ref q2, .ref q3, iv 0, .ref q4, .ref q5, .ref q6, .ref q7, .ref q8, .ref q9, .ref q10, iv 0, .ref q11, .ref q12, iv 0, jv 0])) [ia (cd 0) 4 (fun _ => 0), ia (cd 0) 4 (fun _ => 0), ia (cd 0) 4 (fun _ => 0), ia (cd 0) 4 (updI (updI (updI (updI (fun _ => 0) 0 100000) 1 100000) 2 100000) 3 100000), ia (cd 0) 4 (fun _ => 0), ia (cd 0) 4 (fun _ => 0), ia (cd 0) 4 (fun _ => 0), ia (cd 0) 16 (fun _ => 0), ia (cd 0) 16 (fun _ => 0), ia (cd 0) 4 (fun _ => 0), ia (cd 0) 4 (fun _ => 0), ia (cd 0) 4 (fun _ => 0), ia (cd 0) 4 (fun _ => 0)] L' f')) args s rm_M_init.cells rm_M_init.slots (gA L sz) → gW p l e rm_M_init s m args below meth c D CL A 2 Q9 0 0 L f 0 [(0, .ref a)] [] := by
    intro Q9 hQ9
    refine g_aload_n C d_M_init_0 1 rfl rfl 0 rfl ?_
    refine g_obj C ml_M_1 d_M_init_1 4 rfl (by decide) (by decide) ?_
    refine g_aload_n C d_M_init_4 5 rfl rfl 0 rfl ?_
    refine g_iconst C d_M_init_5 6 rfl ?_
    refine g_put C d_M_init_6 9 rfl in_M (ci := 6) rfl (gz_a g) (gz_me g) 1 (by decide) fl_M_7 tyX6 tyX6_ok nmX6 rfl (ty := .int) (by decide +kernel) rfl rfl (Nat.le_of_ble_eq_true rfl) ?_
    have g := gz_put (X := .inr (6, [iv 0, iv 1, .null, .null, .null, .null, iv 0, .null, .null, .null, .null, .null, .null, .null, iv 0, .null, .null, iv 0, jv 0])) g
    obtain ⟨f1, hf9⟩ : ∃ fz, fz = va_up f a (.inr (6, [iv 0, iv 1, .null, .null, .null, .null, iv 0, .null, .null, .null, .null, .null, .null, .null, iv 0, .null, .null, iv 0, jv 0])) := ⟨_, rfl⟩
    rw [← hf9] at g
    refine (congrArg (fun z9 => gW p l e rm_M_init s m args below meth c D CL A 2 Q9 0 0 L z9 9 [(0, .ref a)] []) hf9).mp ?_
    clear hf9
    have g : GZ L f a [] (.inr (6, [iv 0, iv 1, .null, .null, .null, .null, iv 0, .null, .null, .null, .null, .null, .null, .null, iv 0, .null, .null, iv 0, jv 0])) [] L f1 := g
    refine g_aload_n C d_M_init_9 10 rfl rfl 0 rfl ?_
    refine g_iconst C d_M_init_10 11 rfl ?_
    refine r_newa C g (ty := .int) rfl (t0 := 0) rfl ac_int 4 (a0 := (4, .inl (fun _ => Int32.ofInt 0))) (fun _ => rfl) rfl (by decide) (by decide) 1 rfl 4 rfl (by decide) (by decide) d_M_init_11 13 rfl (fun q0 L2 f2 g => ?_)
    have g : GZ L f a [q0] (.inr (6, [iv 0, iv 1, .null, .null, .null, .null, iv 0, .null, .null, .null, .null, .null, .null, .null, iv 0, .null, .null, iv 0, jv 0])) [ia (cd 0) 4 (fun _ => 0)] L2 f2 := g
    refine g_putF C d_M_init_13 16 rfl in_M (ci := 6) rfl (gz_a g) (gz_me g) 2 (by decide) fl_M_13 tyX6 tyX6_ok nmX6 rfl hnm rfl (ty := (.array .int)) (by decide +kernel) rfl rfl (Nat.le_of_ble_eq_true rfl) ?_
    have g := gz_put (X := .inr (6, [iv 0, iv 1, .ref q0, .null, .null, .null, iv 0, .null, .null, .null, .null, .null, .null, .null, iv 0, .null, .null, iv 0, jv 0])) g
    obtain ⟨f3, hf9⟩ : ∃ fz, fz = va_up f2 a (.inr (6, [iv 0, iv 1, .ref q0, .null, .null, .null, iv 0, .null, .null, .null, .null, .null, .null, .null, iv 0, .null, .null, iv 0, jv 0])) := ⟨_, rfl⟩
    rw [← hf9] at g
    refine (congrArg (fun z9 => gW p l e rm_M_init s m args below meth c D CL A 2 Q9 1 4 L2 z9 16 [(0, .ref a)] []) hf9).mp ?_
    clear hf9
    have g : GZ L f a [q0] (.inr (6, [iv 0, iv 1, .ref q0, .null, .null, .null, iv 0, .null, .null, .null, .null, .null, .null, .null, iv 0, .null, .null, iv 0, jv 0])) [ia (cd 0) 4 (fun _ => 0)] L2 f3 := g
    refine g_aload_n C d_M_init_16 17 rfl rfl 0 rfl ?_
    refine g_iconst C d_M_init_17 18 rfl ?_
    refine r_newa C g (ty := .int) rfl (t0 := 0) rfl ac_int 4 (a0 := (4, .inl (fun _ => Int32.ofInt 0))) (fun _ => rfl) rfl (by decide) (by decide) 2 rfl 8 rfl (by decide) (by decide) d_M_init_18 20 rfl (fun q1 L4 f4 g => ?_)
    have g : GZ L f a [q0, q1] (.inr (6, [iv 0, iv 1, .ref q0, .null, .null, .null, iv 0, .null, .null, .null, .null, .null, .null, .null, iv 0, .null, .null, iv 0, jv 0])) [ia (cd 0) 4 (fun _ => 0), ia (cd 0) 4 (fun _ => 0)] L4 f4 := g
    refine g_putF C d_M_init_20 23 rfl in_M (ci := 6) rfl (gz_a g) (gz_me g) 3 (by decide) fl_M_17 tyX6 tyX6_ok nmX6 rfl hnm rfl (ty := (.array .int)) (by decide +kernel) rfl rfl (Nat.le_of_ble_eq_true rfl) ?_
    have g := gz_put (X := .inr (6, [iv 0, iv 1, .ref q0, .ref q1, .null, .null, iv 0, .null, .null, .null, .null, .null, .null, .null, iv 0, .null, .null, iv 0, jv 0])) g
    obtain ⟨f5, hf9⟩ : ∃ fz, fz = va_up f4 a (.inr (6, [iv 0, iv 1, .ref q0, .ref q1, .null, .null, iv 0, .null, .null, .null, .null, .null, .null, .null, iv 0, .null, .null, iv 0, jv 0])) := ⟨_, rfl⟩
    rw [← hf9] at g
    refine (congrArg (fun z9 => gW p l e rm_M_init s m args below meth c D CL A 2 Q9 2 8 L4 z9 23 [(0, .ref a)] []) hf9).mp ?_
    clear hf9
    have g : GZ L f a [q0, q1] (.inr (6, [iv 0, iv 1, .ref q0, .ref q1, .null, .null, iv 0, .null, .null, .null, .null, .null, .null, .null, iv 0, .null, .null, iv 0, jv 0])) [ia (cd 0) 4 (fun _ => 0), ia (cd 0) 4 (fun _ => 0)] L4 f5 := g
    refine g_aload_n C d_M_init_23 24 rfl rfl 0 rfl ?_
    refine g_iconst C d_M_init_24 25 rfl ?_
    refine r_newa C g (ty := .int) rfl (t0 := 0) rfl ac_int 4 (a0 := (4, .inl (fun _ => Int32.ofInt 0))) (fun _ => rfl) rfl (by decide) (by decide) 3 rfl 12 rfl (by decide) (by decide) d_M_init_25 27 rfl (fun q2 L6 f6 g => ?_)
    have g : GZ L f a [q0, q1, q2] (.inr (6, [iv 0, iv 1, .ref q0, .ref q1, .null, .null, iv 0, .null, .null, .null, .null, .null, .null, .null, iv 0, .null, .null, iv 0, jv 0])) [ia (cd 0) 4 (fun _ => 0), ia (cd 0) 4 (fun _ => 0), ia (cd 0) 4 (fun _ => 0)] L6 f6 := g
    refine g_putF C d_M_init_27 30 rfl in_M (ci := 6) rfl (gz_a g) (gz_me g) 4 (by decide) fl_M_20 tyX6 tyX6_ok nmX6 rfl hnm rfl (ty := (.array .int)) (by decide +kernel) rfl rfl (Nat.le_of_ble_eq_true rfl) ?_
    have g := gz_put (X := .inr (6, [iv 0, iv 1, .ref q0, .ref q1, .ref q2, .null, iv 0, .null, .null, .null, .null, .null, .null, .null, iv 0, .null, .null, iv 0, jv 0])) g
    obtain ⟨f7, hf9⟩ : ∃ fz, fz = va_up f6 a (.inr (6, [iv 0, iv 1, .ref q0, .ref q1, .ref q2, .null, iv 0, .null, .null, .null, .null, .null, .null, .null, iv 0, .null, .null, iv 0, jv 0])) := ⟨_, rfl⟩
    rw [← hf9] at g
    refine (congrArg (fun z9 => gW p l e rm_M_init s m args below meth c D CL A 2 Q9 3 12 L6 z9 30 [(0, .ref a)] []) hf9).mp ?_
    clear hf9
    have g : GZ L f a [q0, q1, q2] (.inr (6, [iv 0, iv 1, .ref q0, .ref q1, .ref q2, .null, iv 0, .null, .null, .null, .null, .null, .null, .null, iv 0, .null, .null, iv 0, jv 0])) [ia (cd 0) 4 (fun _ => 0), ia (cd 0) 4 (fun _ => 0), ia (cd 0) 4 (fun _ => 0)] L6 f7 := g
    refine g_aload_n C d_M_init_30 31 rfl rfl 0 rfl ?_
    refine g_iconst C d_M_init_31 32 rfl ?_
    refine r_newa C g (ty := .int) rfl (t0 := 0) rfl ac_int 4 (a0 := (4, .inl (fun _ => Int32.ofInt 0))) (fun _ => rfl) rfl (by decide) (by decide) 4 rfl 16 rfl (by decide) (by decide) d_M_init_32 34 rfl (fun q3 L8 f8 g => ?_)
    have g : GZ L f a [q0, q1, q2, q3] (.inr (6, [iv 0, iv 1, .ref q0, .ref q1, .ref q2, .null, iv 0, .null, .null, .null, .null, .null, .null, .null, iv 0, .null, .null, iv 0, jv 0])) [ia (cd 0) 4 (fun _ => 0), ia (cd 0) 4 (fun _ => 0), ia (cd 0) 4 (fun _ => 0), ia (cd 0) 4 (fun _ => 0)] L8 f8 := g
    refine g_putF C d_M_init_34 37 rfl in_M (ci := 6) rfl (gz_a g) (gz_me g) 5 (by decide) fl_M_23 tyX6 tyX6_ok nmX6 rfl hnm rfl (ty := (.array .int)) (by decide +kernel) rfl rfl (Nat.le_of_ble_eq_true rfl) ?_
    have g := gz_put (X := .inr (6, [iv 0, iv 1, .ref q0, .ref q1, .ref q2, .ref q3, iv 0, .null, .null, .null, .null, .null, .null, .null, iv 0, .null, .null, iv 0, jv 0])) g
    obtain ⟨f9, hf9⟩ : ∃ fz, fz = va_up f8 a (.inr (6, [iv 0, iv 1, .ref q0, .ref q1, .ref q2, .ref q3, iv 0, .null, .null, .null, .null, .null, .null, .null, iv 0, .null, .null, iv 0, jv 0])) := ⟨_, rfl⟩
    rw [← hf9] at g
    refine (congrArg (fun z9 => gW p l e rm_M_init s m args below meth c D CL A 2 Q9 4 16 L8 z9 37 [(0, .ref a)] []) hf9).mp ?_
    clear hf9
    have g : GZ L f a [q0, q1, q2, q3] (.inr (6, [iv 0, iv 1, .ref q0, .ref q1, .ref q2, .ref q3, iv 0, .null, .null, .null, .null, .null, .null, .null, iv 0, .null, .null, iv 0, jv 0])) [ia (cd 0) 4 (fun _ => 0), ia (cd 0) 4 (fun _ => 0), ia (cd 0) 4 (fun _ => 0), ia (cd 0) 4 (fun _ => 0)] L8 f9 := g
    refine g_aload_n C d_M_init_37 38 rfl rfl 0 rfl ?_
    refine g_iconst C d_M_init_38 39 rfl ?_
    refine r_newa C g (ty := .int) rfl (t0 := 0) rfl ac_int 4 (a0 := (4, .inl (fun _ => Int32.ofInt 0))) (fun _ => rfl) rfl (by decide) (by decide) 5 rfl 20 rfl (by decide) (by decide) d_M_init_39 41 rfl (fun q4 L10 f10 g => ?_)
    have g : GZ L f a [q0, q1, q2, q3, q4] (.inr (6, [iv 0, iv 1, .ref q0, .ref q1, .ref q2, .ref q3, iv 0, .null, .null, .null, .null, .null, .null, .null, iv 0, .null, .null, iv 0, jv 0])) [ia (cd 0) 4 (fun _ => 0), ia (cd 0) 4 (fun _ => 0), ia (cd 0) 4 (fun _ => 0), ia (cd 0) 4 (fun _ => 0), ia (cd 0) 4 (fun _ => 0)] L10 f10 := g
    refine g_putF C d_M_init_41 44 rfl in_M (ci := 6) rfl (gz_a g) (gz_me g) 7 (by decide) fl_M_26 tyX6 tyX6_ok nmX6 rfl hnm rfl (ty := (.array .int)) (by decide +kernel) rfl rfl (Nat.le_of_ble_eq_true rfl) ?_
    have g := gz_put (X := .inr (6, [iv 0, iv 1, .ref q0, .ref q1, .ref q2, .ref q3, iv 0, .ref q4, .null, .null, .null, .null, .null, .null, iv 0, .null, .null, iv 0, jv 0])) g
    obtain ⟨f11, hf9⟩ : ∃ fz, fz = va_up f10 a (.inr (6, [iv 0, iv 1, .ref q0, .ref q1, .ref q2, .ref q3, iv 0, .ref q4, .null, .null, .null, .null, .null, .null, iv 0, .null, .null, iv 0, jv 0])) := ⟨_, rfl⟩
    rw [← hf9] at g
    refine (congrArg (fun z9 => gW p l e rm_M_init s m args below meth c D CL A 2 Q9 5 20 L10 z9 44 [(0, .ref a)] []) hf9).mp ?_
    clear hf9
    have g : GZ L f a [q0, q1, q2, q3, q4] (.inr (6, [iv 0, iv 1, .ref q0, .ref q1, .ref q2, .ref q3, iv 0, .ref q4, .null, .null, .null, .null, .null, .null, iv 0, .null, .null, iv 0, jv 0])) [ia (cd 0) 4 (fun _ => 0), ia (cd 0) 4 (fun _ => 0), ia (cd 0) 4 (fun _ => 0), ia (cd 0) 4 (fun _ => 0), ia (cd 0) 4 (fun _ => 0)] L10 f11 := g
    refine g_aload_n C d_M_init_44 45 rfl rfl 0 rfl ?_
    refine g_iconst C d_M_init_45 46 rfl ?_
    refine r_newa C g (ty := .int) rfl (t0 := 0) rfl ac_int 4 (a0 := (4, .inl (fun _ => Int32.ofInt 0))) (fun _ => rfl) rfl (by decide) (by decide) 6 rfl 24 rfl (by decide) (by decide) d_M_init_46 48 rfl (fun q5 L12 f12 g => ?_)
    have g : GZ L f a [q0, q1, q2, q3, q4, q5] (.inr (6, [iv 0, iv 1, .ref q0, .ref q1, .ref q2, .ref q3, iv 0, .ref q4, .null, .null, .null, .null, .null, .null, iv 0, .null, .null, iv 0, jv 0])) [ia (cd 0) 4 (fun _ => 0), ia (cd 0) 4 (fun _ => 0), ia (cd 0) 4 (fun _ => 0), ia (cd 0) 4 (fun _ => 0), ia (cd 0) 4 (fun _ => 0), ia (cd 0) 4 (fun _ => 0)] L12 f12 := g
    refine g_putF C d_M_init_48 51 rfl in_M (ci := 6) rfl (gz_a g) (gz_me g) 8 (by decide) fl_M_29 tyX6 tyX6_ok nmX6 rfl hnm rfl (ty := (.array .int)) (by decide +kernel) rfl rfl (Nat.le_of_ble_eq_true rfl) ?_
    have g := gz_put (X := .inr (6, [iv 0, iv 1, .ref q0, .ref q1, .ref q2, .ref q3, iv 0, .ref q4, .ref q5, .null, .null, .null, .null, .null, iv 0, .null, .null, iv 0, jv 0])) g
    obtain ⟨f13, hf9⟩ : ∃ fz, fz = va_up f12 a (.inr (6, [iv 0, iv 1, .ref q0, .ref q1, .ref q2, .ref q3, iv 0, .ref q4, .ref q5, .null, .null, .null, .null, .null, iv 0, .null, .null, iv 0, jv 0])) := ⟨_, rfl⟩
    rw [← hf9] at g
    refine (congrArg (fun z9 => gW p l e rm_M_init s m args below meth c D CL A 2 Q9 6 24 L12 z9 51 [(0, .ref a)] []) hf9).mp ?_
    clear hf9
    have g : GZ L f a [q0, q1, q2, q3, q4, q5] (.inr (6, [iv 0, iv 1, .ref q0, .ref q1, .ref q2, .ref q3, iv 0, .ref q4, .ref q5, .null, .null, .null, .null, .null, iv 0, .null, .null, iv 0, jv 0])) [ia (cd 0) 4 (fun _ => 0), ia (cd 0) 4 (fun _ => 0), ia (cd 0) 4 (fun _ => 0), ia (cd 0) 4 (fun _ => 0), ia (cd 0) 4 (fun _ => 0), ia (cd 0) 4 (fun _ => 0)] L12 f13 := g
    refine g_aload_n C d_M_init_51 52 rfl rfl 0 rfl ?_
    refine g_iconst C d_M_init_52 53 rfl ?_
    refine r_newa C g (ty := .int) rfl (t0 := 0) rfl ac_int 4 (a0 := (4, .inl (fun _ => Int32.ofInt 0))) (fun _ => rfl) rfl (by decide) (by decide) 7 rfl 28 rfl (by decide) (by decide) d_M_init_53 55 rfl (fun q6 L14 f14 g => ?_)
    have g : GZ L f a [q0, q1, q2, q3, q4, q5, q6] (.inr (6, [iv 0, iv 1, .ref q0, .ref q1, .ref q2, .ref q3, iv 0, .ref q4, .ref q5, .null, .null, .null, .null, .null, iv 0, .null, .null, iv 0, jv 0])) [ia (cd 0) 4 (fun _ => 0), ia (cd 0) 4 (fun _ => 0), ia (cd 0) 4 (fun _ => 0), ia (cd 0) 4 (fun _ => 0), ia (cd 0) 4 (fun _ => 0), ia (cd 0) 4 (fun _ => 0), ia (cd 0) 4 (fun _ => 0)] L14 f14 := g
    refine g_putF C d_M_init_55 58 rfl in_M (ci := 6) rfl (gz_a g) (gz_me g) 9 (by decide) fl_M_32 tyX6 tyX6_ok nmX6 rfl hnm rfl (ty := (.array .int)) (by decide +kernel) rfl rfl (Nat.le_of_ble_eq_true rfl) ?_
    have g := gz_put (X := .inr (6, [iv 0, iv 1, .ref q0, .ref q1, .ref q2, .ref q3, iv 0, .ref q4, .ref q5, .ref q6, .null, .null, .null, .null, iv 0, .null, .null, iv 0, jv 0])) g
    obtain ⟨f15, hf9⟩ : ∃ fz, fz = va_up f14 a (.inr (6, [iv 0, iv 1, .ref q0, .ref q1, .ref q2, .ref q3, iv 0, .ref q4, .ref q5, .ref q6, .null, .null, .null, .null, iv 0, .null, .null, iv 0, jv 0])) := ⟨_, rfl⟩
    rw [← hf9] at g
    refine (congrArg (fun z9 => gW p l e rm_M_init s m args below meth c D CL A 2 Q9 7 28 L14 z9 58 [(0, .ref a)] []) hf9).mp ?_
    clear hf9
    have g : GZ L f a [q0, q1, q2, q3, q4, q5, q6] (.inr (6, [iv 0, iv 1, .ref q0, .ref q1, .ref q2, .ref q3, iv 0, .ref q4, .ref q5, .ref q6, .null, .null, .null, .null, iv 0, .null, .null, iv 0, jv 0])) [ia (cd 0) 4 (fun _ => 0), ia (cd 0) 4 (fun _ => 0), ia (cd 0) 4 (fun _ => 0), ia (cd 0) 4 (fun _ => 0), ia (cd 0) 4 (fun _ => 0), ia (cd 0) 4 (fun _ => 0), ia (cd 0) 4 (fun _ => 0)] L14 f15 := g
    refine g_aload_n C d_M_init_58 59 rfl rfl 0 rfl ?_
    refine g_bipush C d_M_init_59 61 rfl rfl ?_
    refine r_newa C g (ty := .int) rfl (t0 := 0) rfl ac_int 16 (a0 := (16, .inl (fun _ => Int32.ofInt 0))) (fun _ => rfl) rfl (by decide) (by decide) 8 rfl 44 rfl (by decide) (by decide) d_M_init_61 63 rfl (fun q7 L16 f16 g => ?_)
    have g : GZ L f a [q0, q1, q2, q3, q4, q5, q6, q7] (.inr (6, [iv 0, iv 1, .ref q0, .ref q1, .ref q2, .ref q3, iv 0, .ref q4, .ref q5, .ref q6, .null, .null, .null, .null, iv 0, .null, .null, iv 0, jv 0])) [ia (cd 0) 4 (fun _ => 0), ia (cd 0) 4 (fun _ => 0), ia (cd 0) 4 (fun _ => 0), ia (cd 0) 4 (fun _ => 0), ia (cd 0) 4 (fun _ => 0), ia (cd 0) 4 (fun _ => 0), ia (cd 0) 4 (fun _ => 0), ia (cd 0) 16 (fun _ => 0)] L16 f16 := g
    refine g_putF C d_M_init_63 66 rfl in_M (ci := 6) rfl (gz_a g) (gz_me g) 10 (by decide) fl_M_35 tyX6 tyX6_ok nmX6 rfl hnm rfl (ty := (.array .int)) (by decide +kernel) rfl rfl (Nat.le_of_ble_eq_true rfl) ?_
    have g := gz_put (X := .inr (6, [iv 0, iv 1, .ref q0, .ref q1, .ref q2, .ref q3, iv 0, .ref q4, .ref q5, .ref q6, .ref q7, .null, .null, .null, iv 0, .null, .null, iv 0, jv 0])) g
    obtain ⟨f17, hf9⟩ : ∃ fz, fz = va_up f16 a (.inr (6, [iv 0, iv 1, .ref q0, .ref q1, .ref q2, .ref q3, iv 0, .ref q4, .ref q5, .ref q6, .ref q7, .null, .null, .null, iv 0, .null, .null, iv 0, jv 0])) := ⟨_, rfl⟩
    rw [← hf9] at g
    refine (congrArg (fun z9 => gW p l e rm_M_init s m args below meth c D CL A 2 Q9 8 44 L16 z9 66 [(0, .ref a)] []) hf9).mp ?_
    clear hf9
    have g : GZ L f a [q0, q1, q2, q3, q4, q5, q6, q7] (.inr (6, [iv 0, iv 1, .ref q0, .ref q1, .ref q2, .ref q3, iv 0, .ref q4, .ref q5, .ref q6, .ref q7, .null, .null, .null, iv 0, .null, .null, iv 0, jv 0])) [ia (cd 0) 4 (fun _ => 0), ia (cd 0) 4 (fun _ => 0), ia (cd 0) 4 (fun _ => 0), ia (cd 0) 4 (fun _ => 0), ia (cd 0) 4 (fun _ => 0), ia (cd 0) 4 (fun _ => 0), ia (cd 0) 4 (fun _ => 0), ia (cd 0) 16 (fun _ => 0)] L16 f17 := g
    refine g_aload_n C d_M_init_66 67 rfl rfl 0 rfl ?_
    refine g_bipush C d_M_init_67 69 rfl rfl ?_
    refine r_newa C g (ty := .int) rfl (t0 := 0) rfl ac_int 16 (a0 := (16, .inl (fun _ => Int32.ofInt 0))) (fun _ => rfl) rfl (by decide) (by decide) 9 rfl 60 rfl (by decide) (by decide) d_M_init_69 71 rfl (fun q8 L18 f18 g => ?_)
    have g : GZ L f a [q0, q1, q2, q3, q4, q5, q6, q7, q8] (.inr (6, [iv 0, iv 1, .ref q0, .ref q1, .ref q2, .ref q3, iv 0, .ref q4, .ref q5, .ref q6, .ref q7, .null, .null, .null, iv 0, .null, .null, iv 0, jv 0])) [ia (cd 0) 4 (fun _ => 0), ia (cd 0) 4 (fun _ => 0), ia (cd 0) 4 (fun _ => 0), ia (cd 0) 4 (fun _ => 0), ia (cd 0) 4 (fun _ => 0), ia (cd 0) 4 (fun _ => 0), ia (cd 0) 4 (fun _ => 0), ia (cd 0) 16 (fun _ => 0), ia (cd 0) 16 (fun _ => 0)] L18 f18 := g
    refine g_putF C d_M_init_71 74 rfl in_M (ci := 6) rfl (gz_a g) (gz_me g) 11 (by decide) fl_M_38 tyX6 tyX6_ok nmX6 rfl hnm rfl (ty := (.array .int)) (by decide +kernel) rfl rfl (Nat.le_of_ble_eq_true rfl) ?_
    have g := gz_put (X := .inr (6, [iv 0, iv 1, .ref q0, .ref q1, .ref q2, .ref q3, iv 0, .ref q4, .ref q5, .ref q6, .ref q7, .ref q8, .null, .null, iv 0, .null, .null, iv 0, jv 0])) g
    obtain ⟨f19, hf9⟩ : ∃ fz, fz = va_up f18 a (.inr (6, [iv 0, iv 1, .ref q0, .ref q1, .ref q2, .ref q3, iv 0, .ref q4, .ref q5, .ref q6, .ref q7, .ref q8, .null, .null, iv 0, .null, .null, iv 0, jv 0])) := ⟨_, rfl⟩
    rw [← hf9] at g
    refine (congrArg (fun z9 => gW p l e rm_M_init s m args below meth c D CL A 2 Q9 9 60 L18 z9 74 [(0, .ref a)] []) hf9).mp ?_
    clear hf9
    have g : GZ L f a [q0, q1, q2, q3, q4, q5, q6, q7, q8] (.inr (6, [iv 0, iv 1, .ref q0, .ref q1, .ref q2, .ref q3, iv 0, .ref q4, .ref q5, .ref q6, .ref q7, .ref q8, .null, .null, iv 0, .null, .null, iv 0, jv 0])) [ia (cd 0) 4 (fun _ => 0), ia (cd 0) 4 (fun _ => 0), ia (cd 0) 4 (fun _ => 0), ia (cd 0) 4 (fun _ => 0), ia (cd 0) 4 (fun _ => 0), ia (cd 0) 4 (fun _ => 0), ia (cd 0) 4 (fun _ => 0), ia (cd 0) 16 (fun _ => 0), ia (cd 0) 16 (fun _ => 0)] L18 f19 := g
    refine g_aload_n C d_M_init_74 75 rfl rfl 0 rfl ?_
    refine g_iconst C d_M_init_75 76 rfl ?_
    refine r_newa C g (ty := .int) rfl (t0 := 0) rfl ac_int 4 (a0 := (4, .inl (fun _ => Int32.ofInt 0))) (fun _ => rfl) rfl (by decide) (by decide) 10 rfl 64 rfl (by decide) (by decide) d_M_init_76 78 rfl (fun q9 L20 f20 g => ?_)
    have g : GZ L f a [q0, q1, q2, q3, q4, q5, q6, q7, q8, q9] (.inr (6, [iv 0, iv 1, .ref q0, .ref q1, .ref q2, .ref q3, iv 0, .ref q4, .ref q5, .ref q6, .ref q7, .ref q8, .null, .null, iv 0, .null, .null, iv 0, jv 0])) [ia (cd 0) 4 (fun _ => 0), ia (cd 0) 4 (fun _ => 0), ia (cd 0) 4 (fun _ => 0), ia (cd 0) 4 (fun _ => 0), ia (cd 0) 4 (fun _ => 0), ia (cd 0) 4 (fun _ => 0), ia (cd 0) 4 (fun _ => 0), ia (cd 0) 16 (fun _ => 0), ia (cd 0) 16 (fun _ => 0), ia (cd 0) 4 (fun _ => 0)] L20 f20 := g
    refine g_putF C d_M_init_78 81 rfl in_M (ci := 6) rfl (gz_a g) (gz_me g) 12 (by decide) fl_M_41 tyX6 tyX6_ok nmX6 rfl hnm rfl (ty := (.array .int)) (by decide +kernel) rfl rfl (Nat.le_of_ble_eq_true rfl) ?_
    have g := gz_put (X := .inr (6, [iv 0, iv 1, .ref q0, .ref q1, .ref q2, .ref q3, iv 0, .ref q4, .ref q5, .ref q6, .ref q7, .ref q8, .ref q9, .null, iv 0, .null, .null, iv 0, jv 0])) g
    obtain ⟨f21, hf9⟩ : ∃ fz, fz = va_up f20 a (.inr (6, [iv 0, iv 1, .ref q0, .ref q1, .ref q2, .ref q3, iv 0, .ref q4, .ref q5, .ref q6, .ref q7, .ref q8, .ref q9, .null, iv 0, .null, .null, iv 0, jv 0])) := ⟨_, rfl⟩
    rw [← hf9] at g
    refine (congrArg (fun z9 => gW p l e rm_M_init s m args below meth c D CL A 2 Q9 10 64 L20 z9 81 [(0, .ref a)] []) hf9).mp ?_
    clear hf9
    have g : GZ L f a [q0, q1, q2, q3, q4, q5, q6, q7, q8, q9] (.inr (6, [iv 0, iv 1, .ref q0, .ref q1, .ref q2, .ref q3, iv 0, .ref q4, .ref q5, .ref q6, .ref q7, .ref q8, .ref q9, .null, iv 0, .null, .null, iv 0, jv 0])) [ia (cd 0) 4 (fun _ => 0), ia (cd 0) 4 (fun _ => 0), ia (cd 0) 4 (fun _ => 0), ia (cd 0) 4 (fun _ => 0), ia (cd 0) 4 (fun _ => 0), ia (cd 0) 4 (fun _ => 0), ia (cd 0) 4 (fun _ => 0), ia (cd 0) 16 (fun _ => 0), ia (cd 0) 16 (fun _ => 0), ia (cd 0) 4 (fun _ => 0)] L20 f21 := g
    refine g_aload_n C d_M_init_81 82 rfl rfl 0 rfl ?_
    refine g_iconst C d_M_init_82 83 rfl ?_
    refine r_newa C g (ty := .int) rfl (t0 := 0) rfl ac_int 4 (a0 := (4, .inl (fun _ => Int32.ofInt 0))) (fun _ => rfl) rfl (by decide) (by decide) 11 rfl 68 rfl (by decide) (by decide) d_M_init_83 85 rfl (fun q10 L22 f22 g => ?_)
    have g : GZ L f a [q0, q1, q2, q3, q4, q5, q6, q7, q8, q9, q10] (.inr (6, [iv 0, iv 1, .ref q0, .ref q1, .ref q2, .ref q3, iv 0, .ref q4, .ref q5, .ref q6, .ref q7, .ref q8, .ref q9, .null, iv 0, .null, .null, iv 0, jv 0])) [ia (cd 0) 4 (fun _ => 0), ia (cd 0) 4 (fun _ => 0), ia (cd 0) 4 (fun _ => 0), ia (cd 0) 4 (fun _ => 0), ia (cd 0) 4 (fun _ => 0), ia (cd 0) 4 (fun _ => 0), ia (cd 0) 4 (fun _ => 0), ia (cd 0) 16 (fun _ => 0), ia (cd 0) 16 (fun _ => 0), ia (cd 0) 4 (fun _ => 0), ia (cd 0) 4 (fun _ => 0)] L22 f22 := g
    refine g_putF C d_M_init_85 88 rfl in_M (ci := 6) rfl (gz_a g) (gz_me g) 13 (by decide) fl_M_44 tyX6 tyX6_ok nmX6 rfl hnm rfl (ty := (.array .int)) (by decide +kernel) rfl rfl (Nat.le_of_ble_eq_true rfl) ?_
    have g := gz_put (X := .inr (6, [iv 0, iv 1, .ref q0, .ref q1, .ref q2, .ref q3, iv 0, .ref q4, .ref q5, .ref q6, .ref q7, .ref q8, .ref q9, .ref q10, iv 0, .null, .null, iv 0, jv 0])) g
    obtain ⟨f23, hf9⟩ : ∃ fz, fz = va_up f22 a (.inr (6, [iv 0, iv 1, .ref q0, .ref q1, .ref q2, .ref q3, iv 0, .ref q4, .ref q5, .ref q6, .ref q7, .ref q8, .ref q9, .ref q10, iv 0, .null, .null, iv 0, jv 0])) := ⟨_, rfl⟩
    rw [← hf9] at g
    refine (congrArg (fun z9 => gW p l e rm_M_init s m args below meth c D CL A 2 Q9 11 68 L22 z9 88 [(0, .ref a)] []) hf9).mp ?_
    clear hf9
    have g : GZ L f a [q0, q1, q2, q3, q4, q5, q6, q7, q8, q9, q10] (.inr (6, [iv 0, iv 1, .ref q0, .ref q1, .ref q2, .ref q3, iv 0, .ref q4, .ref q5, .ref q6, .ref q7, .ref q8, .ref q9, .ref q10, iv 0, .null, .null, iv 0, jv 0])) [ia (cd 0) 4 (fun _ => 0), ia (cd 0) 4 (fun _ => 0), ia (cd 0) 4 (fun _ => 0), ia (cd 0) 4 (fun _ => 0), ia (cd 0) 4 (fun _ => 0), ia (cd 0) 4 (fun _ => 0), ia (cd 0) 4 (fun _ => 0), ia (cd 0) 16 (fun _ => 0), ia (cd 0) 16 (fun _ => 0), ia (cd 0) 4 (fun _ => 0), ia (cd 0) 4 (fun _ => 0)] L22 f23 := g
    refine g_aload_n C d_M_init_88 89 rfl rfl 0 rfl ?_
    refine g_iconst C d_M_init_89 90 rfl ?_
    refine r_newa C g (ty := .int) rfl (t0 := 0) rfl ac_int 4 (a0 := (4, .inl (fun _ => Int32.ofInt 0))) (fun _ => rfl) rfl (by decide) (by decide) 12 rfl 72 rfl (by decide) (by decide) d_M_init_90 92 rfl (fun q11 L24 f24 g => ?_)
    have g : GZ L f a [q0, q1, q2, q3, q4, q5, q6, q7, q8, q9, q10, q11] (.inr (6, [iv 0, iv 1, .ref q0, .ref q1, .ref q2, .ref q3, iv 0, .ref q4, .ref q5, .ref q6, .ref q7, .ref q8, .ref q9, .ref q10, iv 0, .null, .null, iv 0, jv 0])) [ia (cd 0) 4 (fun _ => 0), ia (cd 0) 4 (fun _ => 0), ia (cd 0) 4 (fun _ => 0), ia (cd 0) 4 (fun _ => 0), ia (cd 0) 4 (fun _ => 0), ia (cd 0) 4 (fun _ => 0), ia (cd 0) 4 (fun _ => 0), ia (cd 0) 16 (fun _ => 0), ia (cd 0) 16 (fun _ => 0), ia (cd 0) 4 (fun _ => 0), ia (cd 0) 4 (fun _ => 0), ia (cd 0) 4 (fun _ => 0)] L24 f24 := g
    refine g_putF C d_M_init_92 95 rfl in_M (ci := 6) rfl (gz_a g) (gz_me g) 15 (by decide) fl_M_47 tyX6 tyX6_ok nmX6 rfl hnm rfl (ty := (.array .int)) (by decide +kernel) rfl rfl (Nat.le_of_ble_eq_true rfl) ?_
    have g := gz_put (X := .inr (6, [iv 0, iv 1, .ref q0, .ref q1, .ref q2, .ref q3, iv 0, .ref q4, .ref q5, .ref q6, .ref q7, .ref q8, .ref q9, .ref q10, iv 0, .ref q11, .null, iv 0, jv 0])) g
    obtain ⟨f25, hf9⟩ : ∃ fz, fz = va_up f24 a (.inr (6, [iv 0, iv 1, .ref q0, .ref q1, .ref q2, .ref q3, iv 0, .ref q4, .ref q5, .ref q6, .ref q7, .ref q8, .ref q9, .ref q10, iv 0, .ref q11, .null, iv 0, jv 0])) := ⟨_, rfl⟩
    rw [← hf9] at g
    refine (congrArg (fun z9 => gW p l e rm_M_init s m args below meth c D CL A 2 Q9 12 72 L24 z9 95 [(0, .ref a)] []) hf9).mp ?_
    clear hf9
    have g : GZ L f a [q0, q1, q2, q3, q4, q5, q6, q7, q8, q9, q10, q11] (.inr (6, [iv 0, iv 1, .ref q0, .ref q1, .ref q2, .ref q3, iv 0, .ref q4, .ref q5, .ref q6, .ref q7, .ref q8, .ref q9, .ref q10, iv 0, .ref q11, .null, iv 0, jv 0])) [ia (cd 0) 4 (fun _ => 0), ia (cd 0) 4 (fun _ => 0), ia (cd 0) 4 (fun _ => 0), ia (cd 0) 4 (fun _ => 0), ia (cd 0) 4 (fun _ => 0), ia (cd 0) 4 (fun _ => 0), ia (cd 0) 4 (fun _ => 0), ia (cd 0) 16 (fun _ => 0), ia (cd 0) 16 (fun _ => 0), ia (cd 0) 4 (fun _ => 0), ia (cd 0) 4 (fun _ => 0), ia (cd 0) 4 (fun _ => 0)] L24 f25 := g
    refine g_aload_n C d_M_init_95 96 rfl rfl 0 rfl ?_
    refine g_iconst C d_M_init_96 97 rfl ?_
    refine r_newa C g (ty := .int) rfl (t0 := 0) rfl ac_int 4 (a0 := (4, .inl (fun _ => Int32.ofInt 0))) (fun _ => rfl) rfl (by decide) (by decide) 13 rfl 76 rfl (by decide) (by decide) d_M_init_97 99 rfl (fun q12 L26 f26 g => ?_)
    have g : GZ L f a [q0, q1, q2, q3, q4, q5, q6, q7, q8, q9, q10, q11, q12] (.inr (6, [iv 0, iv 1, .ref q0, .ref q1, .ref q2, .ref q3, iv 0, .ref q4, .ref q5, .ref q6, .ref q7, .ref q8, .ref q9, .ref q10, iv 0, .ref q11, .null, iv 0, jv 0])) [ia (cd 0) 4 (fun _ => 0), ia (cd 0) 4 (fun _ => 0), ia (cd 0) 4 (fun _ => 0), ia (cd 0) 4 (fun _ => 0), ia (cd 0) 4 (fun _ => 0), ia (cd 0) 4 (fun _ => 0), ia (cd 0) 4 (fun _ => 0), ia (cd 0) 16 (fun _ => 0), ia (cd 0) 16 (fun _ => 0), ia (cd 0) 4 (fun _ => 0), ia (cd 0) 4 (fun _ => 0), ia (cd 0) 4 (fun _ => 0), ia (cd 0) 4 (fun _ => 0)] L26 f26 := g
    refine g_putF C d_M_init_99 102 rfl in_M (ci := 6) rfl (gz_a g) (gz_me g) 16 (by decide) fl_M_50 tyX6 tyX6_ok nmX6 rfl hnm rfl (ty := (.array .int)) (by decide +kernel) rfl rfl (Nat.le_of_ble_eq_true rfl) ?_
    have g := gz_put (X := .inr (6, [iv 0, iv 1, .ref q0, .ref q1, .ref q2, .ref q3, iv 0, .ref q4, .ref q5, .ref q6, .ref q7, .ref q8, .ref q9, .ref q10, iv 0, .ref q11, .ref q12, iv 0, jv 0])) g
    obtain ⟨f27, hf9⟩ : ∃ fz, fz = va_up f26 a (.inr (6, [iv 0, iv 1, .ref q0, .ref q1, .ref q2, .ref q3, iv 0, .ref q4, .ref q5, .ref q6, .ref q7, .ref q8, .ref q9, .ref q10, iv 0, .ref q11, .ref q12, iv 0, jv 0])) := ⟨_, rfl⟩
    rw [← hf9] at g
    refine (congrArg (fun z9 => gW p l e rm_M_init s m args below meth c D CL A 2 Q9 13 76 L26 z9 102 [(0, .ref a)] []) hf9).mp ?_
    clear hf9
    have g : GZ L f a [q0, q1, q2, q3, q4, q5, q6, q7, q8, q9, q10, q11, q12] (.inr (6, [iv 0, iv 1, .ref q0, .ref q1, .ref q2, .ref q3, iv 0, .ref q4, .ref q5, .ref q6, .ref q7, .ref q8, .ref q9, .ref q10, iv 0, .ref q11, .ref q12, iv 0, jv 0])) [ia (cd 0) 4 (fun _ => 0), ia (cd 0) 4 (fun _ => 0), ia (cd 0) 4 (fun _ => 0), ia (cd 0) 4 (fun _ => 0), ia (cd 0) 4 (fun _ => 0), ia (cd 0) 4 (fun _ => 0), ia (cd 0) 4 (fun _ => 0), ia (cd 0) 16 (fun _ => 0), ia (cd 0) 16 (fun _ => 0), ia (cd 0) 4 (fun _ => 0), ia (cd 0) 4 (fun _ => 0), ia (cd 0) 4 (fun _ => 0), ia (cd 0) 4 (fun _ => 0)] L26 f27 := g
    refine g_iconst C d_M_init_102 103 rfl ?_
    refine g_istore_n C d_M_init_103 104 rfl [(1, iv 0), (0, .ref a)] rfl (by decide) rfl ?_
    refine g_iload_n C d_M_init_104 105 rfl rfl 0 rfl ?_
    refine g_iconst C d_M_init_105 106 rfl ?_
    refine g_icmp_ge C d_M_init_106 109 rfl (show r32 0 from ⟨by decide, by decide⟩) (show r32 4 from ⟨by decide, by decide⟩) 123 rfl (fun (h9 : (4 : Int) ≤ 0) => absurd h9 (by decide)) (fun (h9 : ¬ (4 : Int) ≤ 0) => ?_)
    refine g_aload_n C d_M_init_109 110 rfl rfl 1 rfl ?_
    refine g_get C d_M_init_110 113 rfl in_M (ci := 6) rfl (gz_a g) (gz_me g) 5 (by decide) fl_M_23 rfl ?_
    refine g_iload_n C d_M_init_113 114 rfl rfl 0 rfl ?_
    refine g_ldc C (z := 100000) d_M_init_114 116 rfl rfl kc_M_53 ?_
    refine g_iast C (t0 := 0) d_M_init_116 117 rfl (gz_mem g (j := 3) rfl) (gz_at g (j := 3) rfl rfl) rfl (by decide) (by decide) ⟨by decide, by decide⟩ ?_
    have g := gz_set (j := 3) (X := ia (cd 0) 4 (updI (fun _ => 0) 0 100000)) g rfl
    obtain ⟨f28, hf9⟩ : ∃ fz, fz = va_up f27 q3 (ia (cd 0) 4 (updI (fun _ => 0) 0 100000)) := ⟨_, rfl⟩
    rw [← hf9] at g
    refine (congrArg (fun z9 => gW p l e rm_M_init s m args below meth c D CL A 2 Q9 13 76 L26 z9 117 [(1, iv 0), (0, .ref a)] []) hf9).mp ?_
    clear hf9
    have g : GZ L f a [q0, q1, q2, q3, q4, q5, q6, q7, q8, q9, q10, q11, q12] (.inr (6, [iv 0, iv 1, .ref q0, .ref q1, .ref q2, .ref q3, iv 0, .ref q4, .ref q5, .ref q6, .ref q7, .ref q8, .ref q9, .ref q10, iv 0, .ref q11, .ref q12, iv 0, jv 0])) [ia (cd 0) 4 (fun _ => 0), ia (cd 0) 4 (fun _ => 0), ia (cd 0) 4 (fun _ => 0), ia (cd 0) 4 (updI (fun _ => 0) 0 100000), ia (cd 0) 4 (fun _ => 0), ia (cd 0) 4 (fun _ => 0), ia (cd 0) 4 (fun _ => 0), ia (cd 0) 16 (fun _ => 0), ia (cd 0) 16 (fun _ => 0), ia (cd 0) 4 (fun _ => 0), ia (cd 0) 4 (fun _ => 0), ia (cd 0) 4 (fun _ => 0), ia (cd 0) 4 (fun _ => 0)] L26 f28 := g
    refine g_iinc C d_M_init_117 120 rfl [(1, iv 1), (0, .ref a)] 0 rfl (by decide) rfl ?_
    refine g_goto C d_M_init_120 104 rfl ?_
    refine g_iload_n C d_M_init_104 105 rfl rfl 0 rfl ?_
    refine g_iconst C d_M_init_105 106 rfl ?_
    refine g_icmp_ge C d_M_init_106 109 rfl (show r32 1 from ⟨by decide, by decide⟩) (show r32 4 from ⟨by decide, by decide⟩) 123 rfl (fun (h9 : (4 : Int) ≤ 1) => absurd h9 (by decide)) (fun (h9 : ¬ (4 : Int) ≤ 1) => ?_)
    refine g_aload_n C d_M_init_109 110 rfl rfl 1 rfl ?_
    refine g_get C d_M_init_110 113 rfl in_M (ci := 6) rfl (gz_a g) (gz_me g) 5 (by decide) fl_M_23 rfl ?_
    refine g_iload_n C d_M_init_113 114 rfl rfl 0 rfl ?_
    refine g_ldc C (z := 100000) d_M_init_114 116 rfl rfl kc_M_53 ?_
    refine g_iast C (t0 := 0) d_M_init_116 117 rfl (gz_mem g (j := 3) rfl) (gz_at g (j := 3) rfl rfl) rfl (by decide) (by decide) ⟨by decide, by decide⟩ ?_
    have g := gz_set (j := 3) (X := ia (cd 0) 4 (updI (updI (fun _ => 0) 0 100000) 1 100000)) g rfl
    obtain ⟨f29, hf9⟩ : ∃ fz, fz = va_up f28 q3 (ia (cd 0) 4 (updI (updI (fun _ => 0) 0 100000) 1 100000)) := ⟨_, rfl⟩
    rw [← hf9] at g
    refine (congrArg (fun z9 => gW p l e rm_M_init s m args below meth c D CL A 2 Q9 13 76 L26 z9 117 [(1, iv 1), (0, .ref a)] []) hf9).mp ?_
    clear hf9
    have g : GZ L f a [q0, q1, q2, q3, q4, q5, q6, q7, q8, q9, q10, q11, q12] (.inr (6, [iv 0, iv 1, .ref q0, .ref q1, .ref q2, .ref q3, iv 0, .ref q4, .ref q5, .ref q6, .ref q7, .ref q8, .ref q9, .ref q10, iv 0, .ref q11, .ref q12, iv 0, jv 0])) [ia (cd 0) 4 (fun _ => 0), ia (cd 0) 4 (fun _ => 0), ia (cd 0) 4 (fun _ => 0), ia (cd 0) 4 (updI (updI (fun _ => 0) 0 100000) 1 100000), ia (cd 0) 4 (fun _ => 0), ia (cd 0) 4 (fun _ => 0), ia (cd 0) 4 (fun _ => 0), ia (cd 0) 16 (fun _ => 0), ia (cd 0) 16 (fun _ => 0), ia (cd 0) 4 (fun _ => 0), ia (cd 0) 4 (fun _ => 0), ia (cd 0) 4 (fun _ => 0), ia (cd 0) 4 (fun _ => 0)] L26 f29 := g
    refine g_iinc C d_M_init_117 120 rfl [(1, iv 2), (0, .ref a)] 0 rfl (by decide) rfl ?_
    refine g_goto C d_M_init_120 104 rfl ?_
    refine g_iload_n C d_M_init_104 105 rfl rfl 0 rfl ?_
    refine g_iconst C d_M_init_105 106 rfl ?_
    refine g_icmp_ge C d_M_init_106 109 rfl (show r32 2 from ⟨by decide, by decide⟩) (show r32 4 from ⟨by decide, by decide⟩) 123 rfl (fun (h9 : (4 : Int) ≤ 2) => absurd h9 (by decide)) (fun (h9 : ¬ (4 : Int) ≤ 2) => ?_)
    refine g_aload_n C d_M_init_109 110 rfl rfl 1 rfl ?_
    refine g_get C d_M_init_110 113 rfl in_M (ci := 6) rfl (gz_a g) (gz_me g) 5 (by decide) fl_M_23 rfl ?_
    refine g_iload_n C d_M_init_113 114 rfl rfl 0 rfl ?_
    refine g_ldc C (z := 100000) d_M_init_114 116 rfl rfl kc_M_53 ?_
    refine g_iast C (t0 := 0) d_M_init_116 117 rfl (gz_mem g (j := 3) rfl) (gz_at g (j := 3) rfl rfl) rfl (by decide) (by decide) ⟨by decide, by decide⟩ ?_
    have g := gz_set (j := 3) (X := ia (cd 0) 4 (updI (updI (updI (fun _ => 0) 0 100000) 1 100000) 2 100000)) g rfl
    obtain ⟨f30, hf9⟩ : ∃ fz, fz = va_up f29 q3 (ia (cd 0) 4 (updI (updI (updI (fun _ => 0) 0 100000) 1 100000) 2 100000)) := ⟨_, rfl⟩
    rw [← hf9] at g
    refine (congrArg (fun z9 => gW p l e rm_M_init s m args below meth c D CL A 2 Q9 13 76 L26 z9 117 [(1, iv 2), (0, .ref a)] []) hf9).mp ?_
    clear hf9
    have g : GZ L f a [q0, q1, q2, q3, q4, q5, q6, q7, q8, q9, q10, q11, q12] (.inr (6, [iv 0, iv 1, .ref q0, .ref q1, .ref q2, .ref q3, iv 0, .ref q4, .ref q5, .ref q6, .ref q7, .ref q8, .ref q9, .ref q10, iv 0, .ref q11, .ref q12, iv 0, jv 0])) [ia (cd 0) 4 (fun _ => 0), ia (cd 0) 4 (fun _ => 0), ia (cd 0) 4 (fun _ => 0), ia (cd 0) 4 (updI (updI (updI (fun _ => 0) 0 100000) 1 100000) 2 100000), ia (cd 0) 4 (fun _ => 0), ia (cd 0) 4 (fun _ => 0), ia (cd 0) 4 (fun _ => 0), ia (cd 0) 16 (fun _ => 0), ia (cd 0) 16 (fun _ => 0), ia (cd 0) 4 (fun _ => 0), ia (cd 0) 4 (fun _ => 0), ia (cd 0) 4 (fun _ => 0), ia (cd 0) 4 (fun _ => 0)] L26 f30 := g
    refine g_iinc C d_M_init_117 120 rfl [(1, iv 3), (0, .ref a)] 0 rfl (by decide) rfl ?_
    refine g_goto C d_M_init_120 104 rfl ?_
    refine g_iload_n C d_M_init_104 105 rfl rfl 0 rfl ?_
    refine g_iconst C d_M_init_105 106 rfl ?_
    refine g_icmp_ge C d_M_init_106 109 rfl (show r32 3 from ⟨by decide, by decide⟩) (show r32 4 from ⟨by decide, by decide⟩) 123 rfl (fun (h9 : (4 : Int) ≤ 3) => absurd h9 (by decide)) (fun (h9 : ¬ (4 : Int) ≤ 3) => ?_)
    refine g_aload_n C d_M_init_109 110 rfl rfl 1 rfl ?_
    refine g_get C d_M_init_110 113 rfl in_M (ci := 6) rfl (gz_a g) (gz_me g) 5 (by decide) fl_M_23 rfl ?_
    refine g_iload_n C d_M_init_113 114 rfl rfl 0 rfl ?_
    refine g_ldc C (z := 100000) d_M_init_114 116 rfl rfl kc_M_53 ?_
    refine g_iast C (t0 := 0) d_M_init_116 117 rfl (gz_mem g (j := 3) rfl) (gz_at g (j := 3) rfl rfl) rfl (by decide) (by decide) ⟨by decide, by decide⟩ ?_
    have g := gz_set (j := 3) (X := ia (cd 0) 4 (updI (updI (updI (updI (fun _ => 0) 0 100000) 1 100000) 2 100000) 3 100000)) g rfl
    obtain ⟨f31, hf9⟩ : ∃ fz, fz = va_up f30 q3 (ia (cd 0) 4 (updI (updI (updI (updI (fun _ => 0) 0 100000) 1 100000) 2 100000) 3 100000)) := ⟨_, rfl⟩
    rw [← hf9] at g
    refine (congrArg (fun z9 => gW p l e rm_M_init s m args below meth c D CL A 2 Q9 13 76 L26 z9 117 [(1, iv 3), (0, .ref a)] []) hf9).mp ?_
    clear hf9
    have g : GZ L f a [q0, q1, q2, q3, q4, q5, q6, q7, q8, q9, q10, q11, q12] (.inr (6, [iv 0, iv 1, .ref q0, .ref q1, .ref q2, .ref q3, iv 0, .ref q4, .ref q5, .ref q6, .ref q7, .ref q8, .ref q9, .ref q10, iv 0, .ref q11, .ref q12, iv 0, jv 0])) [ia (cd 0) 4 (fun _ => 0), ia (cd 0) 4 (fun _ => 0), ia (cd 0) 4 (fun _ => 0), ia (cd 0) 4 (updI (updI (updI (updI (fun _ => 0) 0 100000) 1 100000) 2 100000) 3 100000), ia (cd 0) 4 (fun _ => 0), ia (cd 0) 4 (fun _ => 0), ia (cd 0) 4 (fun _ => 0), ia (cd 0) 16 (fun _ => 0), ia (cd 0) 16 (fun _ => 0), ia (cd 0) 4 (fun _ => 0), ia (cd 0) 4 (fun _ => 0), ia (cd 0) 4 (fun _ => 0), ia (cd 0) 4 (fun _ => 0)] L26 f31 := g
    refine g_iinc C d_M_init_117 120 rfl [(1, iv 4), (0, .ref a)] 0 rfl (by decide) rfl ?_
    refine g_goto C d_M_init_120 104 rfl ?_
    refine g_iload_n C d_M_init_104 105 rfl rfl 0 rfl ?_
    refine g_iconst C d_M_init_105 106 rfl ?_
    refine g_icmp_ge C d_M_init_106 109 rfl (show r32 4 from ⟨by decide, by decide⟩) (show r32 4 from ⟨by decide, by decide⟩) 123 rfl (fun (h9 : (4 : Int) ≤ 4) => ?_) (fun (h9 : ¬ (4 : Int) ≤ 4) => absurd h9 (by decide))
    rw [hQ9]
    exact g_vret C hA hsz hr hl d_M_init_123 (by decide) (by decide) ⟨rfl, q0, q1, q2, q3, q4, q5, q6, q7, q8, q9, q10, q11, q12, g⟩
  exact hQ _ rfl
end M14
