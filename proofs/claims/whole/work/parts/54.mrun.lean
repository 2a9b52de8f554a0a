section M11
variable {l : Launch} {D : va_G} {cd : Nat → ClassId} {ad : Nat → Nat} {L : List Nat} {f f0 : Nat → va_E} {S : Nat → Nat → Int}
def emM (U : Nat → Nat → Int) : Int := if metM U 0 then (if metM U 1 then (if metM U 2 then (if metM U 3 then 4 else 3) else 2) else 1) else 0
theorem emM_r (U : Nat → Nat → Int) : 0 ≤ emM U ∧ emM U ≤ 4 := by unfold emM; repeat' split; all_goals omega
def nxM (S : Nat → Nat → Int) (x : Int) (n : Nat) (s : Int × Int × Int × Int) : Int × Int × Int × Int :=
  if setsOK S n ∧ qM (setD S n) ≤ x then
    (if emM (setD S n) < 4 then (s.1, s.2.1, s.2.2.1, if s.2.2.2 < emM (setD S n) then emM (setD S n) else s.2.2.2)
     else if 0 ≤ s.1 ∧ (s.2.1 < cM (setD S n) ∨ (cM (setD S n) = s.2.1 ∧ s.2.2.1 ≤ uM (setD S n))) then (s.1, s.2.1, s.2.2.1, if s.2.2.2 < emM (setD S n) then emM (setD S n) else s.2.2.2)
     else ((n : Int), cM (setD S n), uM (setD S n), if s.2.2.2 < emM (setD S n) then emM (setD S n) else s.2.2.2))
  else s
def rlM (S : Nat → Nat → Int) (x : Int) : Nat → Nat → Int × Int × Int × Int → Int × Int × Int × Int
  | 0, _, s => s
  | d + 1, n, s => rlM S x d (n + 1) (nxM S x n s)
def tN (S : Nat → Nat → Int) : Nat → (Nat → Nat → Int)
  | 0 => S
  | n + 1 => setD S (n : Int)
theorem tN_s (S : Nat → Nat → Int) (n : Nat) : setD (tN S n) (n : Int) = tN S (n + 1) := by
  cases n with
  | zero => rfl
  | succ n => exact setD_setD _ _
theorem tN_ne (S : Nat → Nat → Int) (n : Nat) {y : Nat} (h : y ≠ 46) : tN S n y = S y := by
  cases n with
  | zero => rfl
  | succ n => exact setD_ne h
theorem tN_IM {S : Nat → Nat → Int} (h : IM S) (n : Nat) : IM (tN S n) := by
  cases n with
  | zero => exact h
  | succ n => exact IM_set h (by omega)
theorem limM_t (S : Nat → Nat → Int) (n k : Nat) : limM (tN S n) k = limM S k := by
  unfold limM
  rw [tN_ne S n (show 40 ≠ 46 by decide), tN_ne S n (show 33 ≠ 46 by decide)]
theorem setsOK_t (S : Nat → Nat → Int) (n : Nat) (c : Int) : setsOK (tN S n) c ↔ setsOK S c := by
  unfold setsOK
  rw [limM_t, limM_t, limM_t, limM_t]
def r0M : Int × Int × Int × Int := (-1, 0, 0, 0)
def resM (S : Nat → Nat → Int) (x : Int) : Int × Int × Int × Int := rlM S x 28561 0 r0M
def plM (S : Nat → Nat → Int) (b : Int) : Nat → Nat → Int := uA (setD (u2 (tN S 28561) 33 14 1) b) 45 4 (setD (u2 (tN S 28561) 33 14 1) b 46)
def runM (S : Nat → Nat → Int) (x : Int) : Nat → Nat → Int := if (resM S x).1 < 0 then u2 (tN S 28561) 33 14 0 else plM S (resM S x).1
abbrev rm_M_run : Room := { frames := 2, cells := 0, slots := 0, locals := 48 }
set_option maxHeartbeats 4000000 in
set_option maxRecDepth 100000 in
theorem t_M_run (G : LO ad L) (x : Int) (hx : r32 x) (hI : IM S) : FM l y_M_run c_M_run 9 (some .int) rm_M_run D cd L (wd cd ad S f0) [.ref (ad 33), iv (x)] (some (iv (if gv (bi (0 ≤ x ∧ x ≤ 100000000)) 1 = 0 then (if (resM (u2 S 33 0 (gv (bi (0 ≤ x ∧ x ≤ 100000000)) 1)) x).1 < 0 then 1 + (resM (u2 S 33 0 (gv (bi (0 ≤ x ∧ x ≤ 100000000)) 1)) x).2.2.2 else 0) else 0))) (wd cd ad (if gv (bi (0 ≤ x ∧ x ≤ 100000000)) 1 = 0 then runM (u2 S 33 0 (gv (bi (0 ≤ x ∧ x ≤ 100000000)) 1)) x else (u2 S 33 0 (gv (bi (0 ≤ x ∧ x ≤ 100000000)) 1))) f0) := by
  refine g_of (by decide) (Nat.le_of_ble_eq_true rfl) ?_
  intro p e s m args below meth c A sz hA hsz C hr hl hnm
  have C : gC p s m args c D CL (TY cd) A c_M_run "AlloyPlansModel" 9 := C
  change gW _ _ _ _ _ _ _ _ _ _ _ _ _ _ _ _ _ _ _ 0 [(0, .ref (ad 33)), (1, iv (x))] []
  obtain ⟨u0, v0⟩ := hI.1
  have hx1 : -2147483648 ≤ x := hx.1
  have hx2 : x ≤ 2147483647 := hx.2
  refine g_aload_n C d_M_run_0 1 rfl rfl 0 rfl ?_
  refine g_iload_n C d_M_run_1 2 rfl rfl 1 rfl ?_
  refine g_iconst C d_M_run_2 3 rfl ?_
  refine g_ldc C (z := 100000000) d_M_run_3 5 rfl rfl kc_M_97 ?_
  refine fcS1 C (rest := [.ref (ad 33)]) d_M_run_5 8 rfl (t_M_in x 0 100000000 (show r32 x from ⟨by omega, by omega⟩) (show r32 0 from ⟨by decide, by decide⟩) (show r32 100000000 from ⟨by decide, by decide⟩)) ⟨ml_M_57, sm_M_in, ci_M⟩ w_M_in rfl 3 gy_M_in rfl 0 rfl 0 rfl rfl rfl (Nat.le_of_ble_eq_true rfl) ?_
  refine g_iconst C d_M_run_8 9 rfl ?_
  refine fcV1 C (rest := []) d_M_run_9 12 rfl (t_M_goes G (S := S) (bi (0 ≤ x ∧ x ≤ 100000000)) 1 (bi_r _) (show r32 1 from ⟨by decide, by decide⟩)) rfl (G.1 33 (by decide)) (at_M G) ⟨ml_M_68, im_M_goes, se_M_goes, ci_M⟩ w_M_goes rfl 2 gy_M_goes rfl 0 rfl 0 rfl rfl rfl (Nat.le_of_ble_eq_true rfl) ?_
  refine g_if_ne C d_M_run_12 15 rfl (bi_r _) 17 rfl (fun (w1 : ¬ bi (gv (bi (0 ≤ x ∧ x ≤ 100000000)) 1 = 0) = 0) => ?_) (fun (w2 : bi (gv (bi (0 ≤ x ∧ x ≤ 100000000)) 1 = 0) = 0) => ?_)
  · skip
    have w1 : (gv (bi (0 ≤ x ∧ x ≤ 100000000)) 1 = 0) := bi_t w1
    have hgo : gv (bi (0 ≤ x ∧ x ≤ 100000000)) 1 = 0 := by assumption
    have hpq := gv_t1 hgo
    obtain ⟨V, hV⟩ : ∃ V, V = (u2 S 33 0 (gv (bi (0 ≤ x ∧ x ≤ 100000000)) 1)) := ⟨_, rfl⟩
    have hIV : IM V := by rw [hV]; exact th_IM hI
    refine (congrArg (fun z => gW p l e rm_M_run s m args below meth c D CL A 9 (MQ below (gQ D CL L sz (fun r L' g => r = (some (iv (if gv (bi (0 ≤ x ∧ x ≤ 100000000)) 1 = 0 then (if (resM (u2 S 33 0 (gv (bi (0 ≤ x ∧ x ≤ 100000000)) 1)) x).1 < 0 then 1 + (resM (u2 S 33 0 (gv (bi (0 ≤ x ∧ x ≤ 100000000)) 1)) x).2.2.2 else 0) else 0))) ∧ L' = L ∧ g = (wd cd ad (if gv (bi (0 ≤ x ∧ x ≤ 100000000)) 1 = 0 then runM (u2 S 33 0 (gv (bi (0 ≤ x ∧ x ≤ 100000000)) 1)) x else (u2 S 33 0 (gv (bi (0 ≤ x ∧ x ≤ 100000000)) 1))) f0))) args s rm_M_run.cells rm_M_run.slots (gA L sz)) 0 0 L (wd cd ad z f0) 17 [(0, .ref (ad 33)), (1, iv (x))] []) hV).mp ?_
    refine g_sipush C d_M_run_17 20 rfl rfl ?_
    refine g_istore_n C d_M_run_20 21 rfl [(2, iv (28561)), (0, .ref (ad 33)), (1, iv (x))] rfl (by decide) rfl ?_
    refine g_iconst C d_M_run_21 22 rfl ?_
    refine g_istore_n C d_M_run_22 23 rfl [(3, iv (-1)), (2, iv (28561)), (0, .ref (ad 33)), (1, iv (x))] rfl (by decide) rfl ?_
    refine g_iconst C d_M_run_23 24 rfl ?_
    refine g_istore C d_M_run_24 26 rfl [(4, iv (0)), (3, iv (-1)), (2, iv (28561)), (0, .ref (ad 33)), (1, iv (x))] (by decide) rfl ?_
    refine g_iconst C d_M_run_26 27 rfl ?_
    refine g_istore C d_M_run_27 29 rfl [(5, iv (0)), (4, iv (0)), (3, iv (-1)), (2, iv (28561)), (0, .ref (ad 33)), (1, iv (x))] (by decide) rfl ?_
    refine g_iconst C d_M_run_29 30 rfl ?_
    refine g_istore C d_M_run_30 32 rfl [(6, iv (0)), (5, iv (0)), (4, iv (0)), (3, iv (-1)), (2, iv (28561)), (0, .ref (ad 33)), (1, iv (x))] (by decide) rfl ?_
    refine g_iconst C d_M_run_32 33 rfl ?_
    refine g_istore C d_M_run_33 35 rfl [(7, iv (0)), (6, iv (0)), (5, iv (0)), (4, iv (0)), (3, iv (-1)), (2, iv (28561)), (0, .ref (ad 33)), (1, iv (x))] (by decide) rfl ?_
    have LP : ∀ (d n : Nat) (b bc bu r : Int) (T : Nat → Nat → Int), n + d = 28561 → T = tN V n → rlM V x d n (b, bc, bu, r) = resM V x → -1 ≤ b ∧ b < 28561 → (0 ≤ b → setsOK V b) → 0 ≤ bc ∧ bc ≤ 4800000 → 0 ≤ bu ∧ bu ≤ 4 → 0 ≤ r ∧ r ≤ 4 → gW p l e rm_M_run s m args below meth c D CL A 9 (MQ below (gQ D CL L sz (fun r L' g => r = (some (iv (if gv (bi (0 ≤ x ∧ x ≤ 100000000)) 1 = 0 then (if (resM (u2 S 33 0 (gv (bi (0 ≤ x ∧ x ≤ 100000000)) 1)) x).1 < 0 then 1 + (resM (u2 S 33 0 (gv (bi (0 ≤ x ∧ x ≤ 100000000)) 1)) x).2.2.2 else 0) else 0))) ∧ L' = L ∧ g = (wd cd ad (if gv (bi (0 ≤ x ∧ x ≤ 100000000)) 1 = 0 then runM (u2 S 33 0 (gv (bi (0 ≤ x ∧ x ≤ 100000000)) 1)) x else (u2 S 33 0 (gv (bi (0 ≤ x ∧ x ≤ 100000000)) 1))) f0))) args s rm_M_run.cells rm_M_run.slots (gA L sz)) 0 0 L (wd cd ad T f0) 35 [(7, iv ((n : Int))), (6, iv (r)), (5, iv (bu)), (4, iv (bc)), (3, iv (b)), (2, iv (28561)), (0, .ref (ad 33)), (1, iv (x))] [] := by
      intro d
      induction d with
      | zero =>
        intro n b bc bu r T hn hT hR hb0 hbs hc0 hu0 hr0
        have hIT : IM T := by rw [hT]; exact tN_IM hIV n
        have hR1 : (b, bc, bu, r) = resM V x := hR
        have hn9 : n = 28561 := by omega
        refine g_iload C d_M_run_35 37 rfl 0 rfl ?_
        refine g_iload_n C d_M_run_37 38 rfl rfl 5 rfl ?_
        refine g_icmp_ge C d_M_run_38 41 rfl (show r32 ((n : Int)) from ⟨by omega, by omega⟩) (show r32 28561 from ⟨by decide, by decide⟩) 160 rfl (fun (w3 : 28561 ≤ (n : Int)) => ?_) (fun (w3 : ¬ 28561 ≤ (n : Int)) => absurd w3 (by omega))
        refine g_aload_n C d_M_run_160 161 rfl rfl 6 rfl ?_
        refine g_iload_n C d_M_run_161 162 rfl rfl 4 rfl ?_
        refine g_if_lt C d_M_run_162 165 rfl (show r32 b from ⟨by omega, by omega⟩) 169 rfl (fun (w4 : b < 0) => ?_) (fun (w5 : ¬ b < 0) => ?_)
        · skip
          refine g_iconst C d_M_run_169 170 rfl ?_
          refine pt_M_planned C G (z := 0) d_M_run_170 173 rfl fl_M_72 (Or.inl rfl) ?_
          refine g_aload_n C d_M_run_173 174 rfl rfl 6 rfl ?_
          refine gt_M_planned C G d_M_run_174 177 rfl fl_M_72 ?_
          refine g_if_ne C d_M_run_177 180 rfl (show r32 0 from ⟨by decide, by decide⟩) 185 rfl (fun (w6 : ¬ (0 : Int) = 0) => absurd w6 (by decide)) (fun (w6 : (0 : Int) = 0) => ?_)
          refine g_iconst C d_M_run_180 181 rfl ?_
          refine g_iload C d_M_run_181 183 rfl 1 rfl ?_
          refine g_iadd C d_M_run_183 184 rfl ?_
          exact g_iret C hA hsz hr hl d_M_run_184 (by decide) (by decide) ⟨vi_e (show 1 + r = _ by rw [if_pos hgo, ← hV, ← hR1, if_pos (by omega)]), rfl, by rw [if_pos hgo, ← hV]; unfold runM; rw [← hR1, if_pos (by omega), hT, hn9]⟩
        · skip
          refine g_iconst C d_M_run_165 166 rfl ?_
          refine g_goto C d_M_run_166 170 rfl ?_
          refine pt_M_planned C G (z := 1) d_M_run_170 173 rfl fl_M_72 (Or.inr rfl) ?_
          refine g_aload_n C d_M_run_173 174 rfl rfl 6 rfl ?_
          refine gt_M_planned C G d_M_run_174 177 rfl fl_M_72 ?_
          refine g_if_ne C d_M_run_177 180 rfl (show r32 1 from ⟨by decide, by decide⟩) 185 rfl (fun (w7 : ¬ (1 : Int) = 0) => ?_) (fun (w7 : (1 : Int) = 0) => absurd w7 (by decide))
          refine g_aload_n C d_M_run_185 186 rfl rfl 6 rfl ?_
          refine g_iload_n C d_M_run_186 187 rfl rfl 4 rfl ?_
          refine fcV1 C (rest := []) d_M_run_187 190 rfl (t_M_sets G (S := (u2 T 33 14 (1))) b hIT.1 ⟨by omega, by omega⟩ (fun k h1 h2 => (hIT.2.2.2.2.2.2.1 k h1 h2).2.2)) rfl (G.1 33 (by decide)) (at_M G) ⟨ml_M_98, im_M_sets, se_M_sets, ci_M⟩ w_M_sets rfl 1 gy_M_sets rfl 0 rfl 0 rfl rfl rfl (Nat.le_of_ble_eq_true rfl) ?_
          have hsb : bi (setsOK (u2 T 33 14 1) b) = 1 := bi_pos (by have q9 := hbs (by omega); rw [hT]; exact (setsOK_t V n b).mpr q9)
          rw [hsb]
          refine g_istore C d_M_run_190 192 rfl [(7, iv (1)), (6, iv (r)), (5, iv (bu)), (4, iv (bc)), (3, iv (b)), (2, iv (28561)), (0, .ref (ad 33)), (1, iv (x))] (by decide) rfl ?_
          refine g_iconst C d_M_run_192 193 rfl ?_
          refine g_istore C d_M_run_193 195 rfl [(8, iv (0)), (7, iv (1)), (6, iv (r)), (5, iv (bu)), (4, iv (bc)), (3, iv (b)), (2, iv (28561)), (0, .ref (ad 33)), (1, iv (x))] (by decide) rfl ?_
          refine g_iload C d_M_run_195 197 rfl 0 rfl ?_
          refine g_iconst C d_M_run_197 198 rfl ?_
          refine g_icmp_ge C d_M_run_198 201 rfl (show r32 0 from ⟨by decide, by decide⟩) (show r32 4 from ⟨by decide, by decide⟩) 226 rfl (fun (w8 : 4 ≤ (0 : Int)) => absurd w8 (by decide)) (fun (w8 : ¬ 4 ≤ (0 : Int)) => ?_)
          refine g_iload C d_M_run_201 203 rfl 1 rfl ?_
          refine g_if_eq C d_M_run_203 206 rfl (show r32 1 from ⟨by decide, by decide⟩) 226 rfl (fun (w9 : (1 : Int) = 0) => absurd w9 (by decide)) (fun (w9 : ¬ (1 : Int) = 0) => ?_)
          refine g_aload_n C d_M_run_206 207 rfl rfl 7 rfl ?_
          refine gt_M_plan C G d_M_run_207 210 rfl fl_M_47 ?_
          refine g_iload C d_M_run_210 212 rfl 0 rfl ?_
          refine g_aload_n C d_M_run_212 213 rfl rfl 7 rfl ?_
          refine gt_M_tried C G d_M_run_213 216 rfl fl_M_50 ?_
          refine g_iload C d_M_run_216 218 rfl 0 rfl ?_
          refine ld_46 C G d_M_run_218 219 rfl 0 (by decide) rfl ?_
          refine st_45 C G (x := (setD (u2 T 33 14 (1)) b) 46 0) d_M_run_219 220 rfl 0 (by decide) rfl ?_
          refine g_iinc C d_M_run_220 223 rfl [(8, iv (1)), (7, iv (1)), (6, iv (r)), (5, iv (bu)), (4, iv (bc)), (3, iv (b)), (2, iv (28561)), (0, .ref (ad 33)), (1, iv (x))] 0 rfl (by decide) rfl ?_
          refine g_goto C d_M_run_223 195 rfl ?_
          refine g_iload C d_M_run_195 197 rfl 0 rfl ?_
          refine g_iconst C d_M_run_197 198 rfl ?_
          refine g_icmp_ge C d_M_run_198 201 rfl (show r32 1 from ⟨by decide, by decide⟩) (show r32 4 from ⟨by decide, by decide⟩) 226 rfl (fun (w10 : 4 ≤ (1 : Int)) => absurd w10 (by decide)) (fun (w10 : ¬ 4 ≤ (1 : Int)) => ?_)
          refine g_iload C d_M_run_201 203 rfl 1 rfl ?_
          refine g_if_eq C d_M_run_203 206 rfl (show r32 1 from ⟨by decide, by decide⟩) 226 rfl (fun (w11 : (1 : Int) = 0) => absurd w11 (by decide)) (fun (w11 : ¬ (1 : Int) = 0) => ?_)
          refine g_aload_n C d_M_run_206 207 rfl rfl 7 rfl ?_
          refine gt_M_plan C G d_M_run_207 210 rfl fl_M_47 ?_
          refine g_iload C d_M_run_210 212 rfl 0 rfl ?_
          refine g_aload_n C d_M_run_212 213 rfl rfl 7 rfl ?_
          refine gt_M_tried C G d_M_run_213 216 rfl fl_M_50 ?_
          refine g_iload C d_M_run_216 218 rfl 0 rfl ?_
          refine ld_46 C G d_M_run_218 219 rfl 1 (by decide) rfl ?_
          refine st_45 C G (x := (setD (u2 T 33 14 (1)) b) 46 1) d_M_run_219 220 rfl 1 (by decide) rfl ?_
          refine g_iinc C d_M_run_220 223 rfl [(8, iv (2)), (7, iv (1)), (6, iv (r)), (5, iv (bu)), (4, iv (bc)), (3, iv (b)), (2, iv (28561)), (0, .ref (ad 33)), (1, iv (x))] 0 rfl (by decide) rfl ?_
          refine g_goto C d_M_run_223 195 rfl ?_
          refine g_iload C d_M_run_195 197 rfl 0 rfl ?_
          refine g_iconst C d_M_run_197 198 rfl ?_
          refine g_icmp_ge C d_M_run_198 201 rfl (show r32 2 from ⟨by decide, by decide⟩) (show r32 4 from ⟨by decide, by decide⟩) 226 rfl (fun (w12 : 4 ≤ (2 : Int)) => absurd w12 (by decide)) (fun (w12 : ¬ 4 ≤ (2 : Int)) => ?_)
          refine g_iload C d_M_run_201 203 rfl 1 rfl ?_
          refine g_if_eq C d_M_run_203 206 rfl (show r32 1 from ⟨by decide, by decide⟩) 226 rfl (fun (w13 : (1 : Int) = 0) => absurd w13 (by decide)) (fun (w13 : ¬ (1 : Int) = 0) => ?_)
          refine g_aload_n C d_M_run_206 207 rfl rfl 7 rfl ?_
          refine gt_M_plan C G d_M_run_207 210 rfl fl_M_47 ?_
          refine g_iload C d_M_run_210 212 rfl 0 rfl ?_
          refine g_aload_n C d_M_run_212 213 rfl rfl 7 rfl ?_
          refine gt_M_tried C G d_M_run_213 216 rfl fl_M_50 ?_
          refine g_iload C d_M_run_216 218 rfl 0 rfl ?_
          refine ld_46 C G d_M_run_218 219 rfl 2 (by decide) rfl ?_
          refine st_45 C G (x := (setD (u2 T 33 14 (1)) b) 46 2) d_M_run_219 220 rfl 2 (by decide) rfl ?_
          refine g_iinc C d_M_run_220 223 rfl [(8, iv (3)), (7, iv (1)), (6, iv (r)), (5, iv (bu)), (4, iv (bc)), (3, iv (b)), (2, iv (28561)), (0, .ref (ad 33)), (1, iv (x))] 0 rfl (by decide) rfl ?_
          refine g_goto C d_M_run_223 195 rfl ?_
          refine g_iload C d_M_run_195 197 rfl 0 rfl ?_
          refine g_iconst C d_M_run_197 198 rfl ?_
          refine g_icmp_ge C d_M_run_198 201 rfl (show r32 3 from ⟨by decide, by decide⟩) (show r32 4 from ⟨by decide, by decide⟩) 226 rfl (fun (w14 : 4 ≤ (3 : Int)) => absurd w14 (by decide)) (fun (w14 : ¬ 4 ≤ (3 : Int)) => ?_)
          refine g_iload C d_M_run_201 203 rfl 1 rfl ?_
          refine g_if_eq C d_M_run_203 206 rfl (show r32 1 from ⟨by decide, by decide⟩) 226 rfl (fun (w15 : (1 : Int) = 0) => absurd w15 (by decide)) (fun (w15 : ¬ (1 : Int) = 0) => ?_)
          refine g_aload_n C d_M_run_206 207 rfl rfl 7 rfl ?_
          refine gt_M_plan C G d_M_run_207 210 rfl fl_M_47 ?_
          refine g_iload C d_M_run_210 212 rfl 0 rfl ?_
          refine g_aload_n C d_M_run_212 213 rfl rfl 7 rfl ?_
          refine gt_M_tried C G d_M_run_213 216 rfl fl_M_50 ?_
          refine g_iload C d_M_run_216 218 rfl 0 rfl ?_
          refine ld_46 C G d_M_run_218 219 rfl 3 (by decide) rfl ?_
          refine st_45 C G (x := (setD (u2 T 33 14 (1)) b) 46 3) d_M_run_219 220 rfl 3 (by decide) rfl ?_
          refine g_iinc C d_M_run_220 223 rfl [(8, iv (4)), (7, iv (1)), (6, iv (r)), (5, iv (bu)), (4, iv (bc)), (3, iv (b)), (2, iv (28561)), (0, .ref (ad 33)), (1, iv (x))] 0 rfl (by decide) rfl ?_
          refine g_goto C d_M_run_223 195 rfl ?_
          refine g_iload C d_M_run_195 197 rfl 0 rfl ?_
          refine g_iconst C d_M_run_197 198 rfl ?_
          refine g_icmp_ge C d_M_run_198 201 rfl (show r32 4 from ⟨by decide, by decide⟩) (show r32 4 from ⟨by decide, by decide⟩) 226 rfl (fun (w16 : (4 : Int) ≤ 4) => ?_) (fun (w16 : ¬ (4 : Int) ≤ 4) => absurd w16 (by decide))
          refine g_iconst C d_M_run_226 227 rfl ?_
          exact g_iret C hA hsz hr hl d_M_run_227 (by decide) (by decide) ⟨vi_e (show 0 = _ by rw [if_pos hgo, ← hV, ← hR1, if_neg (by omega)]), rfl, by rw [if_pos hgo, ← hV]; unfold runM plM; rw [← hR1, if_neg (by omega), hT, hn9, ← uA_s, ← uA_s, ← uA_s, ← uA_s, uA_0] <;> rfl⟩
      | succ d ih =>
        intro n b bc bu r T hn hT hR hb0 hbs hc0 hu0 hr0
        have hIT : IM T := by rw [hT]; exact tN_IM hIV n
        refine g_iload C d_M_run_35 37 rfl 0 rfl ?_
        refine g_iload_n C d_M_run_37 38 rfl rfl 5 rfl ?_
        refine g_icmp_ge C d_M_run_38 41 rfl (show r32 ((n : Int)) from ⟨by omega, by omega⟩) (show r32 28561 from ⟨by decide, by decide⟩) 160 rfl (fun (w17 : 28561 ≤ (n : Int)) => absurd w17 (by omega)) (fun (w17 : ¬ 28561 ≤ (n : Int)) => ?_)
        refine g_aload_n C d_M_run_41 42 rfl rfl 6 rfl ?_
        refine g_iload C d_M_run_42 44 rfl 0 rfl ?_
        refine fcV1 C (rest := []) d_M_run_44 47 rfl (t_M_sets G (S := T) ((n : Int)) hIT.1 ⟨by omega, by omega⟩ (fun k h1 h2 => (hIT.2.2.2.2.2.2.1 k h1 h2).2.2)) rfl (G.1 33 (by decide)) (at_M G) ⟨ml_M_98, im_M_sets, se_M_sets, ci_M⟩ w_M_sets rfl 1 gy_M_sets rfl 0 rfl 0 rfl rfl rfl (Nat.le_of_ble_eq_true rfl) ?_
        obtain ⟨U, hU⟩ : ∃ U, U = setD V (n : Int) := ⟨_, rfl⟩
        have hT2 : setD T (n : Int) = tN V (n + 1) := by rw [hT]; exact tN_s V n
        have hIU : IM U := by rw [hU]; exact IM_set hIV (by omega)
        have hTU : setD T (n : Int) = U := by rw [hT2, hU]; rfl
        have hsk : setsOK T (n : Int) ↔ setsOK V (n : Int) := by rw [hT]; exact setsOK_t V n _
        have hse : bi (setsOK T (n : Int)) = bi (setsOK V (n : Int)) := by unfold bi; simp only [hsk]
        refine (congrArg (fun z => gW p l e rm_M_run s m args below meth c D CL A 9 (MQ below (gQ D CL L sz (fun r L' g => r = (some (iv (if gv (bi (0 ≤ x ∧ x ≤ 100000000)) 1 = 0 then (if (resM (u2 S 33 0 (gv (bi (0 ≤ x ∧ x ≤ 100000000)) 1)) x).1 < 0 then 1 + (resM (u2 S 33 0 (gv (bi (0 ≤ x ∧ x ≤ 100000000)) 1)) x).2.2.2 else 0) else 0))) ∧ L' = L ∧ g = (wd cd ad (if gv (bi (0 ≤ x ∧ x ≤ 100000000)) 1 = 0 then runM (u2 S 33 0 (gv (bi (0 ≤ x ∧ x ≤ 100000000)) 1)) x else (u2 S 33 0 (gv (bi (0 ≤ x ∧ x ≤ 100000000)) 1))) f0))) args s rm_M_run.cells rm_M_run.slots (gA L sz)) 0 0 L (wd cd ad z f0) 47 [(7, iv ((n : Int))), (6, iv (r)), (5, iv (bu)), (4, iv (bc)), (3, iv (b)), (2, iv (28561)), (0, .ref (ad 33)), (1, iv (x))] [iv (bi (setsOK T ((n : Int))))]) hTU).mpr ?_
        rw [hse]
        rw [hTU] at hT2
        have hem := emM_r U
        have hcr := cM_r hIU
        have hur := uM_r hIU
        have hqr := qM_r hIU
        refine g_if_eq C d_M_run_47 50 rfl (bi_r _) 154 rfl (fun (w18 : bi (setsOK V (n : Int)) = 0) => ?_) (fun (w19 : ¬ bi (setsOK V (n : Int)) = 0) => ?_)
        · skip
          have w18 : ¬ (setsOK V (n : Int)) := bi_f w18
          have hnok : ¬ (setsOK V (n : Int) ∧ qM (setD V n) ≤ x) := fun q9 => by have q8 := q9.1; have q7 := q9.2; rw [← hU] at q7; first | exact absurd q8 (by assumption) | omega
          refine g_iinc C d_M_run_154 157 rfl [(7, iv ((n : Int) + 1)), (6, iv (r)), (5, iv (bu)), (4, iv (bc)), (3, iv (b)), (2, iv (28561)), (0, .ref (ad 33)), (1, iv (x))] 0 rfl (by decide) rfl ?_
          refine g_goto C d_M_run_157 35 rfl ?_
          have hnx : nxM V x n (b, bc, bu, r) = (b, bc, bu, r) := by unfold nxM; dsimp only; rw [if_neg hnok]
          refine ih (n + 1) _ _ _ _ _ (by omega) hT2 (by rw [← hR]; show _ = rlM V x d (n + 1) (nxM V x n (b, bc, bu, r)); rw [hnx]) (by omega) ?_ (by omega) (by omega) (by omega)
          exact fun q9 => hbs q9
        · skip
          have w19 : (setsOK V (n : Int)) := bi_t w19
          refine g_aload_n C d_M_run_50 51 rfl rfl 6 rfl ?_
          refine fcV1 C (rest := []) d_M_run_51 54 rfl (t_M_cooling G (S := U) hIU.1) rfl (G.1 33 (by decide)) (at_M G) ⟨ml_M_101, im_M_cooling, se_M_cooling, ci_M⟩ w_M_cooling rfl 0 gy_M_cooling rfl 0 rfl 0 rfl rfl rfl (Nat.le_of_ble_eq_true rfl) ?_
          have hsm20 := qM_r hIU
          refine g_iload_n C d_M_run_54 55 rfl rfl 7 rfl ?_
          refine g_icmp_le C d_M_run_55 58 rfl (show r32 (qM U) from ⟨by omega, by omega⟩) (show r32 x from ⟨by omega, by omega⟩) 61 rfl (fun (w21 : qM U ≤ x) => ?_) (fun (w22 : ¬ qM U ≤ x) => ?_)
          · skip
            have hok : setsOK V (n : Int) ∧ qM (setD V n) ≤ x := ⟨by assumption, by rw [← hU]; omega⟩
            have hzr : ∀ z, z = emM U → 0 ≤ z ∧ z ≤ 4 := fun z q9 => by rw [q9]; exact hem
            have J85 : ∀ z : Int, z = (emM U) → gW p l e rm_M_run s m args below meth c D CL A 9 (MQ below (gQ D CL L sz (fun r L' g => r = (some (iv (if gv (bi (0 ≤ x ∧ x ≤ 100000000)) 1 = 0 then (if (resM (u2 S 33 0 (gv (bi (0 ≤ x ∧ x ≤ 100000000)) 1)) x).1 < 0 then 1 + (resM (u2 S 33 0 (gv (bi (0 ≤ x ∧ x ≤ 100000000)) 1)) x).2.2.2 else 0) else 0))) ∧ L' = L ∧ g = (wd cd ad (if gv (bi (0 ≤ x ∧ x ≤ 100000000)) 1 = 0 then runM (u2 S 33 0 (gv (bi (0 ≤ x ∧ x ≤ 100000000)) 1)) x else (u2 S 33 0 (gv (bi (0 ≤ x ∧ x ≤ 100000000)) 1))) f0))) args s rm_M_run.cells rm_M_run.slots (gA L sz)) 0 0 L (wd cd ad U f0) 85 [(8, iv (z)), (7, iv ((n : Int))), (6, iv (r)), (5, iv (bu)), (4, iv (bc)), (3, iv (b)), (2, iv (28561)), (0, .ref (ad 33)), (1, iv (x))] [] := by
              intro z hz
              have hz9 := hzr z hz
              have J96 : ∀ y : Int, y = (if r < z then z else r) → gW p l e rm_M_run s m args below meth c D CL A 9 (MQ below (gQ D CL L sz (fun r L' g => r = (some (iv (if gv (bi (0 ≤ x ∧ x ≤ 100000000)) 1 = 0 then (if (resM (u2 S 33 0 (gv (bi (0 ≤ x ∧ x ≤ 100000000)) 1)) x).1 < 0 then 1 + (resM (u2 S 33 0 (gv (bi (0 ≤ x ∧ x ≤ 100000000)) 1)) x).2.2.2 else 0) else 0))) ∧ L' = L ∧ g = (wd cd ad (if gv (bi (0 ≤ x ∧ x ≤ 100000000)) 1 = 0 then runM (u2 S 33 0 (gv (bi (0 ≤ x ∧ x ≤ 100000000)) 1)) x else (u2 S 33 0 (gv (bi (0 ≤ x ∧ x ≤ 100000000)) 1))) f0))) args s rm_M_run.cells rm_M_run.slots (gA L sz)) 0 0 L (wd cd ad U f0) 96 [(8, iv (z)), (7, iv ((n : Int))), (6, iv (y)), (5, iv (bu)), (4, iv (bc)), (3, iv (b)), (2, iv (28561)), (0, .ref (ad 33)), (1, iv (x))] [] := by
                intro y hy
                rw [hU] at hz hem hcr hur
                subst hz
                subst hy
                have hy9 : 0 ≤ (if r < emM (setD V (n : Int)) then emM (setD V (n : Int)) else r) ∧ (if r < emM (setD V (n : Int)) then emM (setD V (n : Int)) else r) ≤ 4 := by split <;> omega
                rw [hU]
                rw [hU] at hIU hT2
                refine g_iload C d_M_run_96 98 rfl 0 rfl ?_
                refine g_iconst C d_M_run_98 99 rfl ?_
                refine g_icmp_ge C d_M_run_99 102 rfl (show r32 (emM (setD V (n : Int))) from ⟨by omega, by omega⟩) (show r32 4 from ⟨by decide, by decide⟩) 105 rfl (fun (w23 : 4 ≤ emM (setD V (n : Int))) => ?_) (fun (w24 : ¬ 4 ≤ emM (setD V (n : Int))) => ?_)
                · skip
                  refine g_iload_n C d_M_run_105 106 rfl rfl 5 rfl ?_
                  refine g_if_lt C d_M_run_106 109 rfl (show r32 b from ⟨by omega, by omega⟩) 139 rfl (fun (w25 : b < 0) => ?_) (fun (w26 : ¬ b < 0) => ?_)
                  · skip
                    refine g_iload C d_M_run_139 141 rfl 1 rfl ?_
                    refine g_istore_n C d_M_run_141 142 rfl [(3, iv ((n : Int))), (8, iv (emM (setD V (n : Int)))), (7, iv ((n : Int))), (6, iv (if r < emM (setD V (n : Int)) then emM (setD V (n : Int)) else r)), (5, iv (bu)), (4, iv (bc)), (2, iv (28561)), (0, .ref (ad 33)), (1, iv (x))] rfl (by decide) rfl ?_
                    refine g_aload_n C d_M_run_142 143 rfl rfl 7 rfl ?_
                    refine fcV1 C (rest := []) d_M_run_143 146 rfl (t_M_cost G (S := (setD V (n : Int))) hIU.1) rfl (G.1 33 (by decide)) (at_M G) ⟨ml_M_107, im_M_cost, se_M_cost, ci_M⟩ w_M_cost rfl 0 gy_M_cost rfl 0 rfl 0 rfl rfl rfl (Nat.le_of_ble_eq_true rfl) ?_
                    have hsm27 := cM_r hIU
                    refine g_istore C d_M_run_146 148 rfl [(4, iv (cM (setD V (n : Int)))), (3, iv ((n : Int))), (8, iv (emM (setD V (n : Int)))), (7, iv ((n : Int))), (6, iv (if r < emM (setD V (n : Int)) then emM (setD V (n : Int)) else r)), (5, iv (bu)), (2, iv (28561)), (0, .ref (ad 33)), (1, iv (x))] (by decide) rfl ?_
                    refine g_aload_n C d_M_run_148 149 rfl rfl 7 rfl ?_
                    refine fcV1 C (rest := []) d_M_run_149 152 rfl (t_M_used G (S := (setD V (n : Int))) hIU.1 hIU.2.2.2.2.2.2.2.2.2.2) rfl (G.1 33 (by decide)) (at_M G) ⟨ml_M_110, im_M_used, se_M_used, ci_M⟩ w_M_used rfl 0 gy_M_used rfl 0 rfl 0 rfl rfl rfl (Nat.le_of_ble_eq_true rfl) ?_
                    have hsm28 := uM_r hIU
                    refine g_istore C d_M_run_152 154 rfl [(5, iv (uM (setD V (n : Int)))), (4, iv (cM (setD V (n : Int)))), (3, iv ((n : Int))), (8, iv (emM (setD V (n : Int)))), (7, iv ((n : Int))), (6, iv (if r < emM (setD V (n : Int)) then emM (setD V (n : Int)) else r)), (2, iv (28561)), (0, .ref (ad 33)), (1, iv (x))] (by decide) rfl ?_
                    refine g_iinc C d_M_run_154 157 rfl [(7, iv ((n : Int) + 1)), (5, iv (uM (setD V (n : Int)))), (4, iv (cM (setD V (n : Int)))), (3, iv ((n : Int))), (8, iv (emM (setD V (n : Int)))), (6, iv (if r < emM (setD V (n : Int)) then emM (setD V (n : Int)) else r)), (2, iv (28561)), (0, .ref (ad 33)), (1, iv (x))] 4 rfl (by decide) rfl ?_
                    refine g_goto C d_M_run_157 35 rfl ?_
                    refine g_sub [0, 5, 1, 2, 3, 6, 7, 8] _ rfl ?_
                    have hnx : nxM V x n (b, bc, bu, r) = ((n : Int), cM (setD V n), uM (setD V n), if r < emM (setD V n) then emM (setD V n) else r) := by unfold nxM; dsimp only; rw [if_pos hok, if_neg (by omega), if_neg (by omega)]
                    refine ih (n + 1) _ _ _ _ _ (by omega) hT2 (by rw [← hR]; show _ = rlM V x d (n + 1) (nxM V x n (b, bc, bu, r)); rw [hnx]) (by omega) ?_ (by omega) (by omega) (by omega)
                    exact fun _ => hok.1
                  · skip
                    refine g_aload_n C d_M_run_109 110 rfl rfl 7 rfl ?_
                    refine fcV1 C (rest := []) d_M_run_110 113 rfl (t_M_cost G (S := (setD V (n : Int))) hIU.1) rfl (G.1 33 (by decide)) (at_M G) ⟨ml_M_107, im_M_cost, se_M_cost, ci_M⟩ w_M_cost rfl 0 gy_M_cost rfl 0 rfl 0 rfl rfl rfl (Nat.le_of_ble_eq_true rfl) ?_
                    have hsm29 := cM_r hIU
                    refine g_iload C d_M_run_113 115 rfl 4 rfl ?_
                    refine g_icmp_gt C d_M_run_115 118 rfl (show r32 (cM (setD V (n : Int))) from ⟨by omega, by omega⟩) (show r32 bc from ⟨by omega, by omega⟩) 154 rfl (fun (w30 : bc < cM (setD V (n : Int))) => ?_) (fun (w31 : ¬ bc < cM (setD V (n : Int))) => ?_)
                    · skip
                      refine g_iinc C d_M_run_154 157 rfl [(7, iv ((n : Int) + 1)), (8, iv (emM (setD V (n : Int)))), (6, iv (if r < emM (setD V (n : Int)) then emM (setD V (n : Int)) else r)), (5, iv (bu)), (4, iv (bc)), (3, iv (b)), (2, iv (28561)), (0, .ref (ad 33)), (1, iv (x))] 1 rfl (by decide) rfl ?_
                      refine g_goto C d_M_run_157 35 rfl ?_
                      refine g_sub [0, 2, 3, 4, 5, 6, 7, 8] _ rfl ?_
                      have hnx : nxM V x n (b, bc, bu, r) = (b, bc, bu, if r < emM (setD V n) then emM (setD V n) else r) := by unfold nxM; dsimp only; rw [if_pos hok, if_neg (by omega), if_pos (by omega)]
                      refine ih (n + 1) _ _ _ _ _ (by omega) hT2 (by rw [← hR]; show _ = rlM V x d (n + 1) (nxM V x n (b, bc, bu, r)); rw [hnx]) (by omega) ?_ (by omega) (by omega) (by omega)
                      exact fun q9 => hbs q9
                    · skip
                      refine g_aload_n C d_M_run_118 119 rfl rfl 7 rfl ?_
                      refine fcV1 C (rest := []) d_M_run_119 122 rfl (t_M_cost G (S := (setD V (n : Int))) hIU.1) rfl (G.1 33 (by decide)) (at_M G) ⟨ml_M_107, im_M_cost, se_M_cost, ci_M⟩ w_M_cost rfl 0 gy_M_cost rfl 0 rfl 0 rfl rfl rfl (Nat.le_of_ble_eq_true rfl) ?_
                      have hsm32 := cM_r hIU
                      refine g_iload C d_M_run_122 124 rfl 4 rfl ?_
                      refine g_icmp_ne C d_M_run_124 127 rfl (show r32 (cM (setD V (n : Int))) from ⟨by omega, by omega⟩) (show r32 bc from ⟨by omega, by omega⟩) 139 rfl (fun (w33 : ¬ cM (setD V (n : Int)) = bc) => ?_) (fun (w34 : cM (setD V (n : Int)) = bc) => ?_)
                      · skip
                        refine g_iload C d_M_run_139 141 rfl 1 rfl ?_
                        refine g_istore_n C d_M_run_141 142 rfl [(3, iv ((n : Int))), (8, iv (emM (setD V (n : Int)))), (7, iv ((n : Int))), (6, iv (if r < emM (setD V (n : Int)) then emM (setD V (n : Int)) else r)), (5, iv (bu)), (4, iv (bc)), (2, iv (28561)), (0, .ref (ad 33)), (1, iv (x))] rfl (by decide) rfl ?_
                        refine g_aload_n C d_M_run_142 143 rfl rfl 7 rfl ?_
                        refine fcV1 C (rest := []) d_M_run_143 146 rfl (t_M_cost G (S := (setD V (n : Int))) hIU.1) rfl (G.1 33 (by decide)) (at_M G) ⟨ml_M_107, im_M_cost, se_M_cost, ci_M⟩ w_M_cost rfl 0 gy_M_cost rfl 0 rfl 0 rfl rfl rfl (Nat.le_of_ble_eq_true rfl) ?_
                        have hsm35 := cM_r hIU
                        refine g_istore C d_M_run_146 148 rfl [(4, iv (cM (setD V (n : Int)))), (3, iv ((n : Int))), (8, iv (emM (setD V (n : Int)))), (7, iv ((n : Int))), (6, iv (if r < emM (setD V (n : Int)) then emM (setD V (n : Int)) else r)), (5, iv (bu)), (2, iv (28561)), (0, .ref (ad 33)), (1, iv (x))] (by decide) rfl ?_
                        refine g_aload_n C d_M_run_148 149 rfl rfl 7 rfl ?_
                        refine fcV1 C (rest := []) d_M_run_149 152 rfl (t_M_used G (S := (setD V (n : Int))) hIU.1 hIU.2.2.2.2.2.2.2.2.2.2) rfl (G.1 33 (by decide)) (at_M G) ⟨ml_M_110, im_M_used, se_M_used, ci_M⟩ w_M_used rfl 0 gy_M_used rfl 0 rfl 0 rfl rfl rfl (Nat.le_of_ble_eq_true rfl) ?_
                        have hsm36 := uM_r hIU
                        refine g_istore C d_M_run_152 154 rfl [(5, iv (uM (setD V (n : Int)))), (4, iv (cM (setD V (n : Int)))), (3, iv ((n : Int))), (8, iv (emM (setD V (n : Int)))), (7, iv ((n : Int))), (6, iv (if r < emM (setD V (n : Int)) then emM (setD V (n : Int)) else r)), (2, iv (28561)), (0, .ref (ad 33)), (1, iv (x))] (by decide) rfl ?_
                        refine g_iinc C d_M_run_154 157 rfl [(7, iv ((n : Int) + 1)), (5, iv (uM (setD V (n : Int)))), (4, iv (cM (setD V (n : Int)))), (3, iv ((n : Int))), (8, iv (emM (setD V (n : Int)))), (6, iv (if r < emM (setD V (n : Int)) then emM (setD V (n : Int)) else r)), (2, iv (28561)), (0, .ref (ad 33)), (1, iv (x))] 4 rfl (by decide) rfl ?_
                        refine g_goto C d_M_run_157 35 rfl ?_
                        refine g_sub [0, 5, 1, 2, 3, 6, 7, 8] _ rfl ?_
                        have hnx : nxM V x n (b, bc, bu, r) = ((n : Int), cM (setD V n), uM (setD V n), if r < emM (setD V n) then emM (setD V n) else r) := by unfold nxM; dsimp only; rw [if_pos hok, if_neg (by omega), if_neg (by omega)]
                        refine ih (n + 1) _ _ _ _ _ (by omega) hT2 (by rw [← hR]; show _ = rlM V x d (n + 1) (nxM V x n (b, bc, bu, r)); rw [hnx]) (by omega) ?_ (by omega) (by omega) (by omega)
                        exact fun _ => hok.1
                      · skip
                        refine g_aload_n C d_M_run_127 128 rfl rfl 7 rfl ?_
                        refine fcV1 C (rest := []) d_M_run_128 131 rfl (t_M_used G (S := (setD V (n : Int))) hIU.1 hIU.2.2.2.2.2.2.2.2.2.2) rfl (G.1 33 (by decide)) (at_M G) ⟨ml_M_110, im_M_used, se_M_used, ci_M⟩ w_M_used rfl 0 gy_M_used rfl 0 rfl 0 rfl rfl rfl (Nat.le_of_ble_eq_true rfl) ?_
                        have hsm37 := uM_r hIU
                        refine g_iload C d_M_run_131 133 rfl 3 rfl ?_
                        refine g_icmp_lt C d_M_run_133 136 rfl (show r32 (uM (setD V (n : Int))) from ⟨by omega, by omega⟩) (show r32 bu from ⟨by omega, by omega⟩) 139 rfl (fun (w38 : uM (setD V (n : Int)) < bu) => ?_) (fun (w39 : ¬ uM (setD V (n : Int)) < bu) => ?_)
                        · skip
                          refine g_iload C d_M_run_139 141 rfl 1 rfl ?_
                          refine g_istore_n C d_M_run_141 142 rfl [(3, iv ((n : Int))), (8, iv (emM (setD V (n : Int)))), (7, iv ((n : Int))), (6, iv (if r < emM (setD V (n : Int)) then emM (setD V (n : Int)) else r)), (5, iv (bu)), (4, iv (bc)), (2, iv (28561)), (0, .ref (ad 33)), (1, iv (x))] rfl (by decide) rfl ?_
                          refine g_aload_n C d_M_run_142 143 rfl rfl 7 rfl ?_
                          refine fcV1 C (rest := []) d_M_run_143 146 rfl (t_M_cost G (S := (setD V (n : Int))) hIU.1) rfl (G.1 33 (by decide)) (at_M G) ⟨ml_M_107, im_M_cost, se_M_cost, ci_M⟩ w_M_cost rfl 0 gy_M_cost rfl 0 rfl 0 rfl rfl rfl (Nat.le_of_ble_eq_true rfl) ?_
                          have hsm40 := cM_r hIU
                          refine g_istore C d_M_run_146 148 rfl [(4, iv (cM (setD V (n : Int)))), (3, iv ((n : Int))), (8, iv (emM (setD V (n : Int)))), (7, iv ((n : Int))), (6, iv (if r < emM (setD V (n : Int)) then emM (setD V (n : Int)) else r)), (5, iv (bu)), (2, iv (28561)), (0, .ref (ad 33)), (1, iv (x))] (by decide) rfl ?_
                          refine g_aload_n C d_M_run_148 149 rfl rfl 7 rfl ?_
                          refine fcV1 C (rest := []) d_M_run_149 152 rfl (t_M_used G (S := (setD V (n : Int))) hIU.1 hIU.2.2.2.2.2.2.2.2.2.2) rfl (G.1 33 (by decide)) (at_M G) ⟨ml_M_110, im_M_used, se_M_used, ci_M⟩ w_M_used rfl 0 gy_M_used rfl 0 rfl 0 rfl rfl rfl (Nat.le_of_ble_eq_true rfl) ?_
                          have hsm41 := uM_r hIU
                          refine g_istore C d_M_run_152 154 rfl [(5, iv (uM (setD V (n : Int)))), (4, iv (cM (setD V (n : Int)))), (3, iv ((n : Int))), (8, iv (emM (setD V (n : Int)))), (7, iv ((n : Int))), (6, iv (if r < emM (setD V (n : Int)) then emM (setD V (n : Int)) else r)), (2, iv (28561)), (0, .ref (ad 33)), (1, iv (x))] (by decide) rfl ?_
                          refine g_iinc C d_M_run_154 157 rfl [(7, iv ((n : Int) + 1)), (5, iv (uM (setD V (n : Int)))), (4, iv (cM (setD V (n : Int)))), (3, iv ((n : Int))), (8, iv (emM (setD V (n : Int)))), (6, iv (if r < emM (setD V (n : Int)) then emM (setD V (n : Int)) else r)), (2, iv (28561)), (0, .ref (ad 33)), (1, iv (x))] 4 rfl (by decide) rfl ?_
                          refine g_goto C d_M_run_157 35 rfl ?_
                          refine g_sub [0, 5, 1, 2, 3, 6, 7, 8] _ rfl ?_
                          have hnx : nxM V x n (b, bc, bu, r) = ((n : Int), cM (setD V n), uM (setD V n), if r < emM (setD V n) then emM (setD V n) else r) := by unfold nxM; dsimp only; rw [if_pos hok, if_neg (by omega), if_neg (by omega)]
                          refine ih (n + 1) _ _ _ _ _ (by omega) hT2 (by rw [← hR]; show _ = rlM V x d (n + 1) (nxM V x n (b, bc, bu, r)); rw [hnx]) (by omega) ?_ (by omega) (by omega) (by omega)
                          exact fun _ => hok.1
                        · skip
                          refine g_goto C d_M_run_136 154 rfl ?_
                          refine g_iinc C d_M_run_154 157 rfl [(7, iv ((n : Int) + 1)), (8, iv (emM (setD V (n : Int)))), (6, iv (if r < emM (setD V (n : Int)) then emM (setD V (n : Int)) else r)), (5, iv (bu)), (4, iv (bc)), (3, iv (b)), (2, iv (28561)), (0, .ref (ad 33)), (1, iv (x))] 1 rfl (by decide) rfl ?_
                          refine g_goto C d_M_run_157 35 rfl ?_
                          refine g_sub [0, 2, 3, 4, 5, 6, 7, 8] _ rfl ?_
                          have hnx : nxM V x n (b, bc, bu, r) = (b, bc, bu, if r < emM (setD V n) then emM (setD V n) else r) := by unfold nxM; dsimp only; rw [if_pos hok, if_neg (by omega), if_pos (by omega)]
                          refine ih (n + 1) _ _ _ _ _ (by omega) hT2 (by rw [← hR]; show _ = rlM V x d (n + 1) (nxM V x n (b, bc, bu, r)); rw [hnx]) (by omega) ?_ (by omega) (by omega) (by omega)
                          exact fun q9 => hbs q9
                · skip
                  refine g_goto C d_M_run_102 154 rfl ?_
                  refine g_iinc C d_M_run_154 157 rfl [(7, iv ((n : Int) + 1)), (8, iv (emM (setD V (n : Int)))), (6, iv (if r < emM (setD V (n : Int)) then emM (setD V (n : Int)) else r)), (5, iv (bu)), (4, iv (bc)), (3, iv (b)), (2, iv (28561)), (0, .ref (ad 33)), (1, iv (x))] 1 rfl (by decide) rfl ?_
                  refine g_goto C d_M_run_157 35 rfl ?_
                  refine g_sub [0, 2, 3, 4, 5, 6, 7, 8] _ rfl ?_
                  have hnx : nxM V x n (b, bc, bu, r) = (b, bc, bu, if r < emM (setD V n) then emM (setD V n) else r) := by unfold nxM; dsimp only; rw [if_pos hok, if_pos (by omega)]
                  refine ih (n + 1) _ _ _ _ _ (by omega) hT2 (by rw [← hR]; show _ = rlM V x d (n + 1) (nxM V x n (b, bc, bu, r)); rw [hnx]) (by omega) ?_ (by omega) (by omega) (by omega)
                  exact fun q9 => hbs q9
              refine g_iload C d_M_run_85 87 rfl 0 rfl ?_
              refine g_iload C d_M_run_87 89 rfl 2 rfl ?_
              refine g_icmp_le C d_M_run_89 92 rfl (show r32 z from ⟨by omega, by omega⟩) (show r32 r from ⟨by omega, by omega⟩) 96 rfl (fun (w42 : z ≤ r) => ?_) (fun (w43 : ¬ z ≤ r) => ?_)
              · skip
                exact J96 r (by first | rw [if_pos (by omega)] | rw [if_neg (by omega)])
              · skip
                refine g_iload C d_M_run_92 94 rfl 0 rfl ?_
                refine g_istore C d_M_run_94 96 rfl [(6, iv (z)), (8, iv (z)), (7, iv ((n : Int))), (5, iv (bu)), (4, iv (bc)), (3, iv (b)), (2, iv (28561)), (0, .ref (ad 33)), (1, iv (x))] (by decide) rfl ?_
                refine g_sub [1, 2, 0, 3, 4, 5, 6, 7, 8] _ rfl ?_
                exact J96 z (by first | rw [if_pos (by omega)] | rw [if_neg (by omega)])
            refine g_iconst C d_M_run_61 62 rfl ?_
            refine g_istore C d_M_run_62 64 rfl [(8, iv (0)), (7, iv ((n : Int))), (6, iv (r)), (5, iv (bu)), (4, iv (bc)), (3, iv (b)), (2, iv (28561)), (0, .ref (ad 33)), (1, iv (x))] (by decide) rfl ?_
            refine g_iload C d_M_run_64 66 rfl 0 rfl ?_
            refine g_iconst C d_M_run_66 67 rfl ?_
            refine g_icmp_ge C d_M_run_67 70 rfl (show r32 0 from ⟨by decide, by decide⟩) (show r32 4 from ⟨by decide, by decide⟩) 85 rfl (fun (w44 : 4 ≤ (0 : Int)) => absurd w44 (by decide)) (fun (w44 : ¬ 4 ≤ (0 : Int)) => ?_)
            refine g_aload_n C d_M_run_70 71 rfl rfl 7 rfl ?_
            refine g_iload C d_M_run_71 73 rfl 0 rfl ?_
            refine fcV1 C (rest := []) d_M_run_73 76 rfl (t_M_isMet G (S := U) 0 hIU (by decide)) rfl (G.1 33 (by decide)) (at_M G) ⟨ml_M_104, im_M_isMet, se_M_isMet, ci_M⟩ w_M_isMet rfl 1 gy_M_isMet rfl 0 rfl 0 rfl rfl rfl (Nat.le_of_ble_eq_true rfl) ?_
            refine g_if_eq C d_M_run_76 79 rfl (bi_r _) 85 rfl (fun (w45 : bi (metM U 0) = 0) => ?_) (fun (w46 : ¬ bi (metM U 0) = 0) => ?_)
            · skip
              have w45 : ¬ (metM U 0) := bi_f w45
              exact J85 0 (by unfold emM; rw [if_neg (by assumption)])
            · skip
              have w46 : (metM U 0) := bi_t w46
              refine g_iinc C d_M_run_79 82 rfl [(8, iv (1)), (7, iv ((n : Int))), (6, iv (r)), (5, iv (bu)), (4, iv (bc)), (3, iv (b)), (2, iv (28561)), (0, .ref (ad 33)), (1, iv (x))] 0 rfl (by decide) rfl ?_
              refine g_goto C d_M_run_82 64 rfl ?_
              refine g_iload C d_M_run_64 66 rfl 0 rfl ?_
              refine g_iconst C d_M_run_66 67 rfl ?_
              refine g_icmp_ge C d_M_run_67 70 rfl (show r32 1 from ⟨by decide, by decide⟩) (show r32 4 from ⟨by decide, by decide⟩) 85 rfl (fun (w47 : 4 ≤ (1 : Int)) => absurd w47 (by decide)) (fun (w47 : ¬ 4 ≤ (1 : Int)) => ?_)
              refine g_aload_n C d_M_run_70 71 rfl rfl 7 rfl ?_
              refine g_iload C d_M_run_71 73 rfl 0 rfl ?_
              refine fcV1 C (rest := []) d_M_run_73 76 rfl (t_M_isMet G (S := U) 1 hIU (by decide)) rfl (G.1 33 (by decide)) (at_M G) ⟨ml_M_104, im_M_isMet, se_M_isMet, ci_M⟩ w_M_isMet rfl 1 gy_M_isMet rfl 0 rfl 0 rfl rfl rfl (Nat.le_of_ble_eq_true rfl) ?_
              refine g_if_eq C d_M_run_76 79 rfl (bi_r _) 85 rfl (fun (w48 : bi (metM U 1) = 0) => ?_) (fun (w49 : ¬ bi (metM U 1) = 0) => ?_)
              · skip
                have w48 : ¬ (metM U 1) := bi_f w48
                exact J85 1 (by unfold emM; rw [if_pos (by assumption), if_neg (by assumption)])
              · skip
                have w49 : (metM U 1) := bi_t w49
                refine g_iinc C d_M_run_79 82 rfl [(8, iv (2)), (7, iv ((n : Int))), (6, iv (r)), (5, iv (bu)), (4, iv (bc)), (3, iv (b)), (2, iv (28561)), (0, .ref (ad 33)), (1, iv (x))] 0 rfl (by decide) rfl ?_
                refine g_goto C d_M_run_82 64 rfl ?_
                refine g_iload C d_M_run_64 66 rfl 0 rfl ?_
                refine g_iconst C d_M_run_66 67 rfl ?_
                refine g_icmp_ge C d_M_run_67 70 rfl (show r32 2 from ⟨by decide, by decide⟩) (show r32 4 from ⟨by decide, by decide⟩) 85 rfl (fun (w50 : 4 ≤ (2 : Int)) => absurd w50 (by decide)) (fun (w50 : ¬ 4 ≤ (2 : Int)) => ?_)
                refine g_aload_n C d_M_run_70 71 rfl rfl 7 rfl ?_
                refine g_iload C d_M_run_71 73 rfl 0 rfl ?_
                refine fcV1 C (rest := []) d_M_run_73 76 rfl (t_M_isMet G (S := U) 2 hIU (by decide)) rfl (G.1 33 (by decide)) (at_M G) ⟨ml_M_104, im_M_isMet, se_M_isMet, ci_M⟩ w_M_isMet rfl 1 gy_M_isMet rfl 0 rfl 0 rfl rfl rfl (Nat.le_of_ble_eq_true rfl) ?_
                refine g_if_eq C d_M_run_76 79 rfl (bi_r _) 85 rfl (fun (w51 : bi (metM U 2) = 0) => ?_) (fun (w52 : ¬ bi (metM U 2) = 0) => ?_)
                · skip
                  have w51 : ¬ (metM U 2) := bi_f w51
                  exact J85 2 (by unfold emM; rw [if_pos (by assumption), if_pos (by assumption), if_neg (by assumption)])
                · skip
                  have w52 : (metM U 2) := bi_t w52
                  refine g_iinc C d_M_run_79 82 rfl [(8, iv (3)), (7, iv ((n : Int))), (6, iv (r)), (5, iv (bu)), (4, iv (bc)), (3, iv (b)), (2, iv (28561)), (0, .ref (ad 33)), (1, iv (x))] 0 rfl (by decide) rfl ?_
                  refine g_goto C d_M_run_82 64 rfl ?_
                  refine g_iload C d_M_run_64 66 rfl 0 rfl ?_
                  refine g_iconst C d_M_run_66 67 rfl ?_
                  refine g_icmp_ge C d_M_run_67 70 rfl (show r32 3 from ⟨by decide, by decide⟩) (show r32 4 from ⟨by decide, by decide⟩) 85 rfl (fun (w53 : 4 ≤ (3 : Int)) => absurd w53 (by decide)) (fun (w53 : ¬ 4 ≤ (3 : Int)) => ?_)
                  refine g_aload_n C d_M_run_70 71 rfl rfl 7 rfl ?_
                  refine g_iload C d_M_run_71 73 rfl 0 rfl ?_
                  refine fcV1 C (rest := []) d_M_run_73 76 rfl (t_M_isMet G (S := U) 3 hIU (by decide)) rfl (G.1 33 (by decide)) (at_M G) ⟨ml_M_104, im_M_isMet, se_M_isMet, ci_M⟩ w_M_isMet rfl 1 gy_M_isMet rfl 0 rfl 0 rfl rfl rfl (Nat.le_of_ble_eq_true rfl) ?_
                  refine g_if_eq C d_M_run_76 79 rfl (bi_r _) 85 rfl (fun (w54 : bi (metM U 3) = 0) => ?_) (fun (w55 : ¬ bi (metM U 3) = 0) => ?_)
                  · skip
                    have w54 : ¬ (metM U 3) := bi_f w54
                    exact J85 3 (by unfold emM; rw [if_pos (by assumption), if_pos (by assumption), if_pos (by assumption), if_neg (by assumption)])
                  · skip
                    have w55 : (metM U 3) := bi_t w55
                    refine g_iinc C d_M_run_79 82 rfl [(8, iv (4)), (7, iv ((n : Int))), (6, iv (r)), (5, iv (bu)), (4, iv (bc)), (3, iv (b)), (2, iv (28561)), (0, .ref (ad 33)), (1, iv (x))] 0 rfl (by decide) rfl ?_
                    refine g_goto C d_M_run_82 64 rfl ?_
                    refine g_iload C d_M_run_64 66 rfl 0 rfl ?_
                    refine g_iconst C d_M_run_66 67 rfl ?_
                    refine g_icmp_ge C d_M_run_67 70 rfl (show r32 4 from ⟨by decide, by decide⟩) (show r32 4 from ⟨by decide, by decide⟩) 85 rfl (fun (w56 : (4 : Int) ≤ 4) => ?_) (fun (w56 : ¬ (4 : Int) ≤ 4) => absurd w56 (by decide))
                    exact J85 4 (by unfold emM; rw [if_pos (by assumption), if_pos (by assumption), if_pos (by assumption), if_pos (by assumption)])
          · skip
            refine g_goto C d_M_run_58 154 rfl ?_
            have hnok : ¬ (setsOK V (n : Int) ∧ qM (setD V n) ≤ x) := fun q9 => by have q8 := q9.1; have q7 := q9.2; rw [← hU] at q7; first | exact absurd q8 (by assumption) | omega
            refine g_iinc C d_M_run_154 157 rfl [(7, iv ((n : Int) + 1)), (6, iv (r)), (5, iv (bu)), (4, iv (bc)), (3, iv (b)), (2, iv (28561)), (0, .ref (ad 33)), (1, iv (x))] 0 rfl (by decide) rfl ?_
            refine g_goto C d_M_run_157 35 rfl ?_
            have hnx : nxM V x n (b, bc, bu, r) = (b, bc, bu, r) := by unfold nxM; dsimp only; rw [if_neg hnok]
            refine ih (n + 1) _ _ _ _ _ (by omega) hT2 (by rw [← hR]; show _ = rlM V x d (n + 1) (nxM V x n (b, bc, bu, r)); rw [hnx]) (by omega) ?_ (by omega) (by omega) (by omega)
            exact fun q9 => hbs q9
    exact LP 28561 0 (-1) 0 0 0 V rfl rfl rfl (by omega) (by omega) (by omega) (by omega) (by omega)
  · skip
    have w2 : ¬ (gv (bi (0 ≤ x ∧ x ≤ 100000000)) 1 = 0) := bi_f w2
    refine g_iconst C d_M_run_15 16 rfl ?_
    exact g_iret C hA hsz hr hl d_M_run_16 (by decide) (by decide) ⟨vi_e (by rw [if_neg (by assumption)]), rfl, by rw [if_neg (by assumption)]⟩
end M11
