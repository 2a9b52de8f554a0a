def bi (p : Prop) [Decidable p] : Int := if p then 1 else 0
theorem bi_01 (p : Prop) [Decidable p] : bi p = 0 ∨ bi p = 1 := by unfold bi; split <;> simp
theorem bi_r (p : Prop) [Decidable p] : r32 (bi p) := by rcases bi_01 p with h | h <;> rw [h] <;> exact ⟨by decide, by decide⟩
theorem bi_pos {p : Prop} [Decidable p] (h : p) : bi p = 1 := if_pos h
theorem bi_neg {p : Prop} [Decidable p] (h : ¬ p) : bi p = 0 := if_neg h
theorem bi_t {p : Prop} [Decidable p] (h : ¬ bi p = 0) : p := Decidable.byContradiction (fun q => h (bi_neg q))
theorem bi_f {p : Prop} [Decidable p] (h : bi p = 0) : ¬ p := fun q => by rw [bi_pos q] at h; cases h
theorem zi_t {p : Prop} [Decidable p] (h : p) : some (iv 1) = some (iv (bi p)) := by rw [bi_pos h]
theorem zi_f {p : Prop} [Decidable p] (h : ¬ p) : some (iv 0) = some (iv (bi p)) := by rw [bi_neg h]
theorem vi_e {a b : Int} (h : a = b) : some (iv a) = some (iv b) := by rw [h]
theorem vj_e {a b : Int} (h : a = b) : some (jv a) = some (jv b) := by rw [h]
abbrev EXN : List String := ["java/lang/RuntimeException", "java/lang/Exception"]
/-- the first n places of cell k set to g -/
def uA (S : Nat → Nat → Int) (k n : Nat) (g : Nat → Int) : Nat → Nat → Int := uR S k (fun j => if j < n then g j else S k j)
theorem uA_0 (S : Nat → Nat → Int) (k : Nat) (g : Nat → Int) : uA S k 0 g = S := by
  funext k' j
  unfold uA uR
  split
  · next h => subst h; simp
  · rfl
theorem uA_s (S : Nat → Nat → Int) (k n : Nat) (g : Nat → Int) : u2 (uA S k n g) k n (g n) = uA S k (n + 1) g := by
  funext k' j
  unfold u2 uA uR updI
  by_cases h : k' = k
  · subst h
    simp only [if_true]
    by_cases h1 : j = n
    · subst h1; simp
    · simp only [h1, if_false]
      by_cases h2 : j < n
      · rw [if_pos h2, if_pos (by omega)]
      · rw [if_neg h2, if_neg (by omega)]
  · simp only [h, if_false]
theorem uA_ne {S : Nat → Nat → Int} {k n k' : Nat} {g : Nat → Int} (h : k' ≠ k) : uA S k n g k' = S k' := by unfold uA uR; rw [if_neg h]
theorem uA_ge {S : Nat → Nat → Int} {k n j : Nat} {g : Nat → Int} (h : n ≤ j) : uA S k n g k j = S k j := by unfold uA uR; simp [Nat.not_lt.mpr h]
theorem uA_lt {S : Nat → Nat → Int} {k n j : Nat} {g : Nat → Int} (h : j < n) : uA S k n g k j = g j := by unfold uA uR; simp [h]
theorem u2_ne {S : Nat → Nat → Int} {k j k' : Nat} {z : Int} (h : k' ≠ k) : u2 S k j z k' = S k' := by unfold u2; rw [if_neg h]
theorem u2_eq {S : Nat → Nat → Int} {k j : Nat} {z : Int} : u2 S k j z k j = z := by unfold u2 updI; simp
theorem u2_j {S : Nat → Nat → Int} {k j i : Nat} {z : Int} (h : i ≠ j) : u2 S k j z k i = S k i := by unfold u2 updI; simp [h]
theorem wM_max_s : Cond.static Lib.Math.max.name ∈ TB := tb_mem (List.mem_of_getElem? (i := 437) (by decide +kernel)) rfl
set_option maxRecDepth 20000 in
theorem wM_max_c : Cond.code Lib.Math.max.name Lib.Math.max.code 2 (some .int) ∈ TB := tb_mem (List.mem_of_getElem? (i := 438) rfl) rfl
theorem wA_static : Cond.static arraycopyName ∈ TB := tb_mem (List.mem_of_getElem? (i := 440) (by decide +kernel)) rfl
theorem wA_native : Cond.native arraycopyName ∈ TB := tb_mem (List.mem_of_getElem? (i := 441) (by decide +kernel)) rfl
theorem wC_int : Cond.arrayClass .int ∈ TB := tb_mem (List.mem_of_getElem? (i := 55) (by decide +kernel)) rfl
theorem wC_long : Cond.arrayClass .long ∈ TB := tb_mem (List.mem_of_getElem? (i := 94) (by decide +kernel)) rfl
theorem wC_byte : Cond.arrayClass .byte ∈ TB := tb_mem (List.mem_of_getElem? (i := 273) (by decide +kernel)) rfl
theorem gy_P_init : gY y_P_init 0 = true := by decide +kernel
theorem gy_P_heat : gY y_P_heat 1 = true := by decide +kernel
theorem gy_P_present : gY y_P_present 3 = true := by decide +kernel
theorem gy_P_aim : gY y_P_aim 3 = true := by decide +kernel
theorem gy_P_kind : gY y_P_kind 3 = true := by decide +kernel
theorem gy_P_holds : gY y_P_holds 4 = true := by decide +kernel
theorem gy_P_yields : gY y_P_yields 3 = true := by decide +kernel
theorem gy_P_run : gY y_P_run 1 = true := by decide +kernel
theorem gy_P_steps : gY y_P_steps 1 = true := by decide +kernel
theorem gy_P_planned : gY y_P_planned 1 = true := by decide +kernel
theorem gy_P_order : gY y_P_order 1 = true := by decide +kernel
theorem gy_P_after : gY y_P_after 3 = true := by decide +kernel
theorem gy_P_add : gY y_P_add 0 = true := by decide +kernel
theorem gy_P_heatAt : gY y_P_heatAt 1 = true := by decide +kernel
theorem gy_P_requireIndex : gY y_P_requireIndex 1 = true := by decide +kernel
theorem gy_P_requireRange : gY y_P_requireRange 1 = true := by decide +kernel
theorem gy_P_requirePlan : gY y_P_requirePlan 0 = true := by decide +kernel
theorem gy_P_isWithin : gY y_P_isWithin 3 = true := by decide +kernel
theorem gy_P_isSpan : gY y_P_isSpan 2 = true := by decide +kernel
theorem gy_P_isKind : gY y_P_isKind 1 = true := by decide +kernel
theorem gy_P_isLowEnd : gY y_P_isLowEnd 1 = true := by decide +kernel
theorem gy_P_tell : gY y_P_tell 4 = true := by decide +kernel
theorem gy_P_countAddedBefore : gY y_P_countAddedBefore 1 = true := by decide +kernel
theorem gy_P_isAddedBefore : gY y_P_isAddedBefore 2 = true := by decide +kernel
theorem gy_P_heldByPlan : gY y_P_heldByPlan 1 = true := by decide +kernel
theorem gy_P_wholeByPlan : gY y_P_wholeByPlan 0 = true := by decide +kernel
theorem gy_P_roundedByPlan : gY y_P_roundedByPlan 1 = true := by decide +kernel
theorem gy_P_quotient : gY y_P_quotient 2 = true := by decide +kernel
theorem gy_P_commonDivisor : gY y_P_commonDivisor 2 = true := by decide +kernel
theorem gy_P_surplusAt : gY y_P_surplusAt 3 = true := by decide +kernel
theorem gy_M_init : gY y_M_init 0 = true := by decide +kernel
theorem gy_M_thrown : gY y_M_thrown 0 = true := by decide +kernel
theorem gy_M_in : gY y_M_in 3 = true := by decide +kernel
theorem gy_M_goes : gY y_M_goes 2 = true := by decide +kernel
theorem gy_M_isElement : gY y_M_isElement 1 = true := by decide +kernel
theorem gy_M_isKind : gY y_M_isKind 1 = true := by decide +kernel
theorem gy_M_areShares : gY y_M_areShares 2 = true := by decide +kernel
theorem gy_M_heat : gY y_M_heat 1 = true := by decide +kernel
theorem gy_M_present : gY y_M_present 3 = true := by decide +kernel
theorem gy_M_aim : gY y_M_aim 3 = true := by decide +kernel
theorem gy_M_kind : gY y_M_kind 3 = true := by decide +kernel
theorem gy_M_holds : gY y_M_holds 4 = true := by decide +kernel
theorem gy_M_yields : gY y_M_yields 3 = true := by decide +kernel
theorem gy_M_weight : gY y_M_weight 0 = true := by decide +kernel
theorem gy_M_cost : gY y_M_cost 0 = true := by decide +kernel
theorem gy_M_used : gY y_M_used 0 = true := by decide +kernel
theorem gy_M_cooling : gY y_M_cooling 0 = true := by decide +kernel
theorem gy_M_amount : gY y_M_amount 2 = true := by decide +kernel
theorem gy_M_isMet : gY y_M_isMet 1 = true := by decide +kernel
theorem gy_M_sets : gY y_M_sets 1 = true := by decide +kernel
theorem gy_M_run : gY y_M_run 1 = true := by decide +kernel
theorem gy_M_load : gY y_M_load 0 = true := by decide +kernel
theorem gy_M_steps : gY y_M_steps 1 = true := by decide +kernel
theorem gy_M_planned : gY y_M_planned 1 = true := by decide +kernel
theorem gy_M_order : gY y_M_order 1 = true := by decide +kernel
theorem gy_M_after : gY y_M_after 3 = true := by decide +kernel
theorem gy_M_add : gY y_M_add 0 = true := by decide +kernel
theorem gy_M_heatAt : gY y_M_heatAt 1 = true := by decide +kernel
theorem gy_A_init : gY y_A_init 0 = true := by decide +kernel
theorem gy_A_coolingOfStep : gY y_A_coolingOfStep 0 = true := by decide +kernel
theorem gy_A_heldInStepAt : gY y_A_heldInStepAt 1 = true := by decide +kernel
theorem gy_A_weighAgainst : gY y_A_weighAgainst 1 = true := by decide +kernel
theorem gy_E_init : gY y_E_init 0 = true := by decide +kernel
theorem gy_E_heldAt : gY y_E_heldAt 1 = true := by decide +kernel
theorem gy_E_surplusOfHeat : gY y_E_surplusOfHeat 1 = true := by decide +kernel
theorem gy_X_init : gY y_X_init 0 = true := by decide +kernel
theorem gy_X_becomeHeat : gY y_X_becomeHeat 2 = true := by decide +kernel
theorem gy_X_becomeLike : gY y_X_becomeLike 1 = true := by decide +kernel
theorem gy_X_takeStep : gY y_X_takeStep 2 = true := by decide +kernel
theorem gy_X_countMet : gY y_X_countMet 0 = true := by decide +kernel
theorem gy_N_init : gY y_N_init 0 = true := by decide +kernel
theorem gy_N_forget : gY y_N_forget 0 = true := by decide +kernel
theorem gy_N_isTaken : gY y_N_isTaken 1 = true := by decide +kernel
theorem gy_N_settle : gY y_N_settle 3 = true := by decide +kernel
theorem gy_S_init : gY y_S_init 0 = true := by decide +kernel
theorem gy_S_goThrough : gY y_S_goThrough 4 = true := by decide +kernel
theorem gy_S_tryKindsFrom : gY y_S_tryKindsFrom 3 = true := by decide +kernel
theorem gy_S_isWorthTrying : gY y_S_isWorthTrying 1 = true := by decide +kernel
theorem gy_S_judge : gY y_S_judge 1 = true := by decide +kernel
theorem gy_L_heat : gY y_L_heat 2 = true := by decide +kernel
theorem gy_L_present : gY y_L_present 4 = true := by decide +kernel
theorem gy_L_aim : gY y_L_aim 4 = true := by decide +kernel
theorem gy_L_kind : gY y_L_kind 5 = true := by decide +kernel
theorem gy_L_holds : gY y_L_holds 5 = true := by decide +kernel
theorem gy_L_yields : gY y_L_yields 4 = true := by decide +kernel
theorem gy_L_run : gY y_L_run 3 = true := by decide +kernel
theorem gy_L_steps : gY y_L_steps 3 = true := by decide +kernel
theorem gy_L_planned : gY y_L_planned 3 = true := by decide +kernel
theorem gy_L_order : gY y_L_order 3 = true := by decide +kernel
theorem gy_L_after : gY y_L_after 5 = true := by decide +kernel
theorem gy_L_add : gY y_L_add 2 = true := by decide +kernel
theorem gy_L_heatAt : gY y_L_heatAt 3 = true := by decide +kernel
theorem hat_48 {args : Array Value} {s : State} (hts : ∀ w ∈ TB, w.before args s = true) (hN : gN s) : ∀ w ∈ vx_atS "AlloyPlans" 48 xISE EXN, w.before args s = true :=
  vx_hat (B := [.castable xISE xISE, .declares ⟨"java/lang/RuntimeException", "<init>", "(Ljava/lang/String;)V"⟩, .declares ⟨"java/lang/Exception", "<init>", "(Ljava/lang/String;)V"⟩, .declares ⟨"java/lang/Throwable", "<init>", "(Ljava/lang/String;)V"⟩]) (fun w hw => hts w ((by decide +kernel : ∀ w ∈ (vx_atS "AlloyPlans" 48 xISE EXN).filter goodWord, w ∈ TB) w hw)) (by decide +kernel) (vx_c (va_Nw.use rfl (gN_n_cISE hN)) (vx_c (va_Nw.use rfl (gN_n_dRuntimeException hN)) (vx_c (va_Nw.use rfl (gN_n_dException hN)) (vx_c (va_Nw.use rfl (gN_n_dThrowable hN)) vx_n))))
theorem hgd_48 : ∀ w ∈ Cond.classLink "AlloyPlans" 44 xISE :: Cond.initialized xISE :: vx_atS "AlloyPlans" 48 xISE EXN, vx_ot w = true := by decide +kernel
theorem hat_89 {args : Array Value} {s : State} (hts : ∀ w ∈ TB, w.before args s = true) (hN : gN s) : ∀ w ∈ vx_atS "AlloyPlans" 89 xUOE EXN, w.before args s = true :=
  vx_hat (B := [.castable xUOE xUOE, .declares ⟨"java/lang/RuntimeException", "<init>", "(Ljava/lang/String;)V"⟩, .declares ⟨"java/lang/Exception", "<init>", "(Ljava/lang/String;)V"⟩, .declares ⟨"java/lang/Throwable", "<init>", "(Ljava/lang/String;)V"⟩]) (fun w hw => hts w ((by decide +kernel : ∀ w ∈ (vx_atS "AlloyPlans" 89 xUOE EXN).filter goodWord, w ∈ TB) w hw)) (by decide +kernel) (vx_c (va_Nw.use rfl (gN_n_cUOE hN)) (vx_c (va_Nw.use rfl (gN_n_dRuntimeException hN)) (vx_c (va_Nw.use rfl (gN_n_dException hN)) (vx_c (va_Nw.use rfl (gN_n_dThrowable hN)) vx_n))))
theorem hgd_89 : ∀ w ∈ Cond.classLink "AlloyPlans" 85 xUOE :: Cond.initialized xUOE :: vx_atS "AlloyPlans" 89 xUOE EXN, vx_ot w = true := by decide +kernel
theorem hat_175 {args : Array Value} {s : State} (hts : ∀ w ∈ TB, w.before args s = true) (hN : gN s) : ∀ w ∈ vx_atS "AlloyPlans" 175 xIOB EXN, w.before args s = true :=
  vx_hat (B := [.castable xIOB xIOB, .declares ⟨"java/lang/RuntimeException", "<init>", "(Ljava/lang/String;)V"⟩, .declares ⟨"java/lang/Exception", "<init>", "(Ljava/lang/String;)V"⟩, .declares ⟨"java/lang/Throwable", "<init>", "(Ljava/lang/String;)V"⟩]) (fun w hw => hts w ((by decide +kernel : ∀ w ∈ (vx_atS "AlloyPlans" 175 xIOB EXN).filter goodWord, w ∈ TB) w hw)) (by decide +kernel) (vx_c (va_Nw.use rfl (gN_n_cIOB hN)) (vx_c (va_Nw.use rfl (gN_n_dRuntimeException hN)) (vx_c (va_Nw.use rfl (gN_n_dException hN)) (vx_c (va_Nw.use rfl (gN_n_dThrowable hN)) vx_n))))
theorem hgd_175 : ∀ w ∈ Cond.classLink "AlloyPlans" 171 xIOB :: Cond.initialized xIOB :: vx_atS "AlloyPlans" 175 xIOB EXN, vx_ot w = true := by decide +kernel
theorem hat_180 {args : Array Value} {s : State} (hts : ∀ w ∈ TB, w.before args s = true) (hN : gN s) : ∀ w ∈ vx_atS "AlloyPlans" 180 xIAE EXN, w.before args s = true :=
  vx_hat (B := [.castable xIAE xIAE, .declares ⟨"java/lang/RuntimeException", "<init>", "(Ljava/lang/String;)V"⟩, .declares ⟨"java/lang/Exception", "<init>", "(Ljava/lang/String;)V"⟩, .declares ⟨"java/lang/Throwable", "<init>", "(Ljava/lang/String;)V"⟩]) (fun w hw => hts w ((by decide +kernel : ∀ w ∈ (vx_atS "AlloyPlans" 180 xIAE EXN).filter goodWord, w ∈ TB) w hw)) (by decide +kernel) (vx_c (va_Nw.use rfl (gN_n_cIAE hN)) (vx_c (va_Nw.use rfl (gN_n_dRuntimeException hN)) (vx_c (va_Nw.use rfl (gN_n_dException hN)) (vx_c (va_Nw.use rfl (gN_n_dThrowable hN)) vx_n))))
theorem hgd_180 : ∀ w ∈ Cond.classLink "AlloyPlans" 176 xIAE :: Cond.initialized xIAE :: vx_atS "AlloyPlans" 180 xIAE EXN, vx_ot w = true := by decide +kernel
