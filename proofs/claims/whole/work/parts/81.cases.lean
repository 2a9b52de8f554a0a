section M18c
variable {p : Program} {l : Launch} {e : Env} {s : State} {m : MethodId} {below : List Frame} {meth : Method} {c : Code} {D : va_G} {A : Nat → Prop} {Q : State → Prop} {cells slots : Nat} {L : List Nat} {f0 f : Nat → va_E} {pc : Nat} {lv : List (Nat × Value)} {st : List Value} {cd : Nat → ClassId} {ad : Nat → Nat} {S : Nat → Nat → Int} {b Ln : Nat} {xs : Nat → Int32} {R : Room} {args : Array Value} {cc : ByteArray} {own : String} {nL : Nat}
theorem r_sld (C : gC p s m args c D CL (TY cd) A cc own nL) (hX : va_X b Ln xs s s.heap) (hbl : b < s.heap.size) (hbA : ¬ A b) {i : Int} (hd : decode cc pc = .ok (.iaload, 1)) (pc' : Nat) (hp : pc + 1 = pc') (j : Nat) (hi : i = (j : Int)) (hj : j < Ln) (hL : Ln ≤ 2560) (k : gW p l e R s m args below meth c D CL A nL Q cells slots L f pc' lv (iv (xs j).toInt :: st)) : gW p l e R s m args below meth c D CL A nL Q cells slots L f pc lv (iv i :: .ref b :: st) := by
  subst hp
  subst hi
  intro H locs ls h1 h2 h3 h4
  have hr : r32 (j : Int) := ⟨by omega, by omega⟩
  refine va_sld C.1.1 C.1.2.1 hX hbl hbA h3 (iv_in hr (by omega) (by omega)) hd ?_
  rw [iv_cl hr, Int.toNat_natCast]
  have k := k H locs ls h1 h2 h3 h4
  rw [show iv (xs j).toInt = Value.int (xs j) from by show Value.int (Int32.ofInt _) = _; rw [(iv_of (xs j)).2]] at k
  exact k
theorem r_slen (C : gC p s m args c D CL (TY cd) A cc own nL) (hX : va_X b Ln xs s s.heap) (hbl : b < s.heap.size) (hbA : ¬ A b) (hd : decode cc pc = .ok (.arraylength, 1)) (pc' : Nat) (hp : pc + 1 = pc') (k : gW p l e R s m args below meth c D CL A nL Q cells slots L f pc' lv (iv (Ln : Int) :: st)) : gW p l e R s m args below meth c D CL A nL Q cells slots L f pc lv (.ref b :: st) := by
  subst hp
  intro H locs ls h1 h2 h3 h4
  refine va_slen C.1.1 C.1.2.1 hX hbl hbA h3 hd ?_
  have k := k H locs ls h1 h2 h3 h4
  rw [show iv (Ln : Int) = .int (Int32.ofNat Ln) from by rw [← Int32.ofInt_eq_ofNat]] at k
  exact k
theorem r_iand (C : gC p s m args c D CL (TY cd) A cc own nL) {x y : Int} (hd : decode cc pc = .ok (.iand, 1)) (pc' : Nat) (hp : pc + 1 = pc') (k : ∀ z : Int, r32 z → gW p l e R s m args below meth c D CL A nL Q cells slots L f pc' lv (iv z :: st)) : gW p l e R s m args below meth c D CL A nL Q cells slots L f pc lv (iv y :: iv x :: st) := by
  subst hp
  intro H locs ls h1 h2 h3 h4
  refine lv_iand C.1.1 C.1.2.1 hd ?_
  have k := k _ (iv_of (Int32.ofInt x &&& Int32.ofInt y)).1 H locs ls h1 h2 h3 h4
  rw [show iv (Int32.ofInt x &&& Int32.ofInt y).toInt = Value.int (Int32.ofInt x &&& Int32.ofInt y) from by show Value.int (Int32.ofInt _) = _; rw [(iv_of (Int32.ofInt x &&& Int32.ofInt y)).2]] at k
  exact k
theorem g_widen {cells' slots' : Nat} (h1 : cells ≤ cells') (h2 : slots ≤ slots') (k : gW p l e R s m args below meth c D CL A nL Q cells' slots' L f pc lv st) : gW p l e R s m args below meth c D CL A nL Q cells slots L f pc lv st := fun H locs ls g1 g2 g3 g4 => W.widen h1 h2 (k H locs ls g1 g2 g3 g4)
set_option maxHeartbeats 4000000 in
set_option maxRecDepth 100000 in
theorem z_heat (C : gC p s m args c D CL (TY cd) A c_L_law "AlloyPlansLaw" 8) (G : LO ad L) (hst9 : l.stackTraces = false) (hX : va_X b Ln xs s s.heap) (hbl : b < s.heap.size) (hbA : ¬ A b) (hL : Ln ≤ 2560) (N q : Nat) (hN : N ≤ 1000) (hV : INV N S) (hq : q + 4 < Ln) (hcs : cells ≤ 600000) (hss : slots ≤ 7000000) (K : ∀ T, INV (N + 1) T → gW p l e room_1 s m args below meth c D CL A 8 Q (cells + 2) (slots + 12) L (wd cd ad T f0) 874 [(4, iv (q : Int)), (3, .ref (ad 47)), (2, .ref (ad 33)), (1, .ref (ad 0)), (0, .ref b)] []) : gW p l e room_1 s m args below meth c D CL A 8 Q cells slots L (wd cd ad S f0) 104 [(4, iv (q : Int)), (3, .ref (ad 47)), (2, .ref (ad 33)), (1, .ref (ad 0)), (0, .ref b)] [] := by
  obtain ⟨hT0, hINV⟩ := lm_heat hV (xs (q + 1)).toInt
  have hkr : r32 (k_heat S (xs (q + 1)).toInt) := by have := k_r_heat S (xs (q + 1)).toInt; exact ⟨by omega, by omega⟩
  have hIM := im_heat hV (xs (q + 1)).toInt
  refine g_aload_n C d_L_law_104 105 rfl rfl 3 rfl ?_
  refine g_aload_n C d_L_law_105 106 rfl rfl 4 rfl ?_
  refine g_iload C d_L_law_106 108 rfl 0 rfl ?_
  refine g_iconst C d_L_law_108 109 rfl ?_
  refine g_iadd C d_L_law_109 110 rfl ?_
  refine r_sld C hX hbl hbA d_L_law_110 111 rfl (q + 1) (by omega) (by omega) hL ?_
  refine fcW1 C (rest := []) d_L_law_111 114 rfl (t_L_heat hst9 G N (xs (q + 1)).toInt hV.1 hN (iv_of _).1) ⟨ml_L_68, sm_L_heat, ci_L⟩ w_L_heat 2 gy_L_heat rfl (cells + 1) rfl (slots + 6) rfl (gR_i (by decide) (by decide) (by show cells + 1 ≤ 665884; omega) (by show slots + 6 ≤ 7098452; omega)) rfl (Nat.le_of_ble_eq_true rfl) ?_
  refine g_istore C d_L_law_114 116 rfl [(5, iv (k_heat S (xs (q + 1)).toInt)), (4, iv ((q : Int))), (3, .ref (ad 47)), (2, .ref (ad 33)), (1, .ref (ad 0)), (0, .ref b)] (by decide) rfl ?_
  refine g_aload_n C d_L_law_116 117 rfl rfl 3 rfl ?_
  refine g_aload_n C d_L_law_117 118 rfl rfl 5 rfl ?_
  refine g_iload C d_L_law_118 120 rfl 1 rfl ?_
  refine g_iconst C d_L_law_120 121 rfl ?_
  refine g_iadd C d_L_law_121 122 rfl ?_
  refine r_sld C hX hbl hbA d_L_law_122 123 rfl (q + 1) (by omega) (by omega) hL ?_
  refine fcV0 C (rest := []) d_L_law_123 126 rfl (q_heat G (xs (q + 1)).toInt (iv_of _).1 hIM) rfl (G.1 33 (by decide)) (at_M G) ⟨ml_L_73, im_M_heat, se_M_heat, ci_M⟩ w_M_heat rfl 1 gy_M_heat rfl (cells + 1) rfl (slots + 6) rfl (gR_i (by decide) (by decide) (by show cells + 1 + 0 ≤ 665884; omega) (by show slots + 6 + 0 ≤ 7098452; omega)) rfl (Nat.le_of_ble_eq_true rfl) ?_
  refine g_aload_n C d_L_law_126 127 rfl rfl 3 rfl ?_
  refine fcV1 C (rest := []) d_L_law_127 130 rfl (t_M_thrown G) rfl (G.1 33 (by decide)) (at_M G) ⟨ml_L_74, im_M_thrown, se_M_thrown, ci_M⟩ w_M_thrown rfl 0 gy_M_thrown rfl (cells + 1) rfl (slots + 6) rfl (gR_i (by decide) (by decide) (by show cells + 1 + 0 ≤ 665884; omega) (by show slots + 6 + 0 ≤ 7098452; omega)) rfl (Nat.le_of_ble_eq_true rfl) ?_
  refine g_iload C d_L_law_130 132 rfl 0 rfl ?_
  refine g_icmp_eq C d_L_law_132 135 rfl (by rw [hT0]; exact hkr) hkr 137 rfl (fun _ => ?_) (fun h9 => absurd hT0 h9)
  refine g_goto C d_L_law_137 874 rfl ?_
  refine g_sub [1, 2, 3, 4, 5] [(4, iv (q : Int)), (3, .ref (ad 47)), (2, .ref (ad 33)), (1, .ref (ad 0)), (0, .ref b)] rfl ?_
  exact g_widen (by omega) (by omega) (K (m_heat (w_heat S (xs (q + 1)).toInt) (xs (q + 1)).toInt) hINV)
set_option maxHeartbeats 4000000 in
set_option maxRecDepth 100000 in
theorem z_present (C : gC p s m args c D CL (TY cd) A c_L_law "AlloyPlansLaw" 8) (G : LO ad L) (hst9 : l.stackTraces = false) (hX : va_X b Ln xs s s.heap) (hbl : b < s.heap.size) (hbA : ¬ A b) (hL : Ln ≤ 2560) (N q : Nat) (hN : N ≤ 1000) (hV : INV N S) (hq : q + 4 < Ln) (hcs : cells ≤ 600000) (hss : slots ≤ 7000000) (K : ∀ T, INV (N + 1) T → gW p l e room_1 s m args below meth c D CL A 8 Q (cells + 2) (slots + 12) L (wd cd ad T f0) 874 [(4, iv (q : Int)), (3, .ref (ad 47)), (2, .ref (ad 33)), (1, .ref (ad 0)), (0, .ref b)] []) : gW p l e room_1 s m args below meth c D CL A 8 Q cells slots L (wd cd ad S f0) 140 [(4, iv (q : Int)), (3, .ref (ad 47)), (2, .ref (ad 33)), (1, .ref (ad 0)), (0, .ref b)] [] := by
  obtain ⟨hT0, hINV⟩ := lm_present hV (xs (q + 1)).toInt (xs (q + 2)).toInt (xs (q + 3)).toInt
  have hkr : r32 (k_present S (xs (q + 1)).toInt (xs (q + 2)).toInt (xs (q + 3)).toInt) := by have := k_r_present S (xs (q + 1)).toInt (xs (q + 2)).toInt (xs (q + 3)).toInt; exact ⟨by omega, by omega⟩
  have hIM := im_present hV (xs (q + 1)).toInt (xs (q + 2)).toInt (xs (q + 3)).toInt
  refine g_aload_n C d_L_law_140 141 rfl rfl 3 rfl ?_
  refine g_aload_n C d_L_law_141 142 rfl rfl 4 rfl ?_
  refine g_iload C d_L_law_142 144 rfl 0 rfl ?_
  refine g_iconst C d_L_law_144 145 rfl ?_
  refine g_iadd C d_L_law_145 146 rfl ?_
  refine r_sld C hX hbl hbA d_L_law_146 147 rfl (q + 1) (by omega) (by omega) hL ?_
  refine g_aload_n C d_L_law_147 148 rfl rfl 4 rfl ?_
  refine g_iload C d_L_law_148 150 rfl 0 rfl ?_
  refine g_iconst C d_L_law_150 151 rfl ?_
  refine g_iadd C d_L_law_151 152 rfl ?_
  refine r_sld C hX hbl hbA d_L_law_152 153 rfl (q + 2) (by omega) (by omega) hL ?_
  refine g_aload_n C d_L_law_153 154 rfl rfl 4 rfl ?_
  refine g_iload C d_L_law_154 156 rfl 0 rfl ?_
  refine g_iconst C d_L_law_156 157 rfl ?_
  refine g_iadd C d_L_law_157 158 rfl ?_
  refine r_sld C hX hbl hbA d_L_law_158 159 rfl (q + 3) (by omega) (by omega) hL ?_
  refine fcW1 C (rest := []) d_L_law_159 162 rfl (t_L_present hst9 G N (xs (q + 1)).toInt (xs (q + 2)).toInt (xs (q + 3)).toInt hV.1 hN (iv_of _).1 (iv_of _).1 (iv_of _).1) ⟨ml_L_77, sm_L_present, ci_L⟩ w_L_present 4 gy_L_present rfl (cells + 2) rfl (slots + 12) rfl (gR_i (by decide) (by decide) (by show cells + 2 ≤ 665884; omega) (by show slots + 12 ≤ 7098452; omega)) rfl (Nat.le_of_ble_eq_true rfl) ?_
  refine g_istore C d_L_law_162 164 rfl [(5, iv (k_present S (xs (q + 1)).toInt (xs (q + 2)).toInt (xs (q + 3)).toInt)), (4, iv ((q : Int))), (3, .ref (ad 47)), (2, .ref (ad 33)), (1, .ref (ad 0)), (0, .ref b)] (by decide) rfl ?_
  refine g_aload_n C d_L_law_164 165 rfl rfl 3 rfl ?_
  refine g_aload_n C d_L_law_165 166 rfl rfl 5 rfl ?_
  refine g_iload C d_L_law_166 168 rfl 1 rfl ?_
  refine g_iconst C d_L_law_168 169 rfl ?_
  refine g_iadd C d_L_law_169 170 rfl ?_
  refine r_sld C hX hbl hbA d_L_law_170 171 rfl (q + 1) (by omega) (by omega) hL ?_
  refine g_aload_n C d_L_law_171 172 rfl rfl 5 rfl ?_
  refine g_iload C d_L_law_172 174 rfl 1 rfl ?_
  refine g_iconst C d_L_law_174 175 rfl ?_
  refine g_iadd C d_L_law_175 176 rfl ?_
  refine r_sld C hX hbl hbA d_L_law_176 177 rfl (q + 2) (by omega) (by omega) hL ?_
  refine g_aload_n C d_L_law_177 178 rfl rfl 5 rfl ?_
  refine g_iload C d_L_law_178 180 rfl 1 rfl ?_
  refine g_iconst C d_L_law_180 181 rfl ?_
  refine g_iadd C d_L_law_181 182 rfl ?_
  refine r_sld C hX hbl hbA d_L_law_182 183 rfl (q + 3) (by omega) (by omega) hL ?_
  refine fcV0 C (rest := []) d_L_law_183 186 rfl (q_present G (xs (q + 1)).toInt (xs (q + 2)).toInt (xs (q + 3)).toInt (iv_of _).1 (iv_of _).1 (iv_of _).1 hIM) rfl (G.1 33 (by decide)) (at_M G) ⟨ml_L_80, im_M_present, se_M_present, ci_M⟩ w_M_present rfl 3 gy_M_present rfl (cells + 2) rfl (slots + 12) rfl (gR_i (by decide) (by decide) (by show cells + 2 + 0 ≤ 665884; omega) (by show slots + 12 + 0 ≤ 7098452; omega)) rfl (Nat.le_of_ble_eq_true rfl) ?_
  refine g_aload_n C d_L_law_186 187 rfl rfl 3 rfl ?_
  refine fcV1 C (rest := []) d_L_law_187 190 rfl (t_M_thrown G) rfl (G.1 33 (by decide)) (at_M G) ⟨ml_L_74, im_M_thrown, se_M_thrown, ci_M⟩ w_M_thrown rfl 0 gy_M_thrown rfl (cells + 2) rfl (slots + 12) rfl (gR_i (by decide) (by decide) (by show cells + 2 + 0 ≤ 665884; omega) (by show slots + 12 + 0 ≤ 7098452; omega)) rfl (Nat.le_of_ble_eq_true rfl) ?_
  refine g_iload C d_L_law_190 192 rfl 0 rfl ?_
  refine g_icmp_eq C d_L_law_192 195 rfl (by rw [hT0]; exact hkr) hkr 197 rfl (fun _ => ?_) (fun h9 => absurd hT0 h9)
  refine g_goto C d_L_law_197 874 rfl ?_
  refine g_sub [1, 2, 3, 4, 5] [(4, iv (q : Int)), (3, .ref (ad 47)), (2, .ref (ad 33)), (1, .ref (ad 0)), (0, .ref b)] rfl ?_
  exact g_widen (by omega) (by omega) (K (m_present (w_present S (xs (q + 1)).toInt (xs (q + 2)).toInt (xs (q + 3)).toInt) (xs (q + 1)).toInt (xs (q + 2)).toInt (xs (q + 3)).toInt) hINV)
set_option maxHeartbeats 4000000 in
set_option maxRecDepth 100000 in
theorem z_aim (C : gC p s m args c D CL (TY cd) A c_L_law "AlloyPlansLaw" 8) (G : LO ad L) (hst9 : l.stackTraces = false) (hX : va_X b Ln xs s s.heap) (hbl : b < s.heap.size) (hbA : ¬ A b) (hL : Ln ≤ 2560) (N q : Nat) (hN : N ≤ 1000) (hV : INV N S) (hq : q + 4 < Ln) (hcs : cells ≤ 600000) (hss : slots ≤ 7000000) (K : ∀ T, INV (N + 1) T → gW p l e room_1 s m args below meth c D CL A 8 Q (cells + 2) (slots + 12) L (wd cd ad T f0) 874 [(4, iv (q : Int)), (3, .ref (ad 47)), (2, .ref (ad 33)), (1, .ref (ad 0)), (0, .ref b)] []) : gW p l e room_1 s m args below meth c D CL A 8 Q cells slots L (wd cd ad S f0) 200 [(4, iv (q : Int)), (3, .ref (ad 47)), (2, .ref (ad 33)), (1, .ref (ad 0)), (0, .ref b)] [] := by
  obtain ⟨hT0, hINV⟩ := lm_aim hV (xs (q + 1)).toInt (xs (q + 2)).toInt (xs (q + 3)).toInt
  have hkr : r32 (k_aim S (xs (q + 1)).toInt (xs (q + 2)).toInt (xs (q + 3)).toInt) := by have := k_r_aim S (xs (q + 1)).toInt (xs (q + 2)).toInt (xs (q + 3)).toInt; exact ⟨by omega, by omega⟩
  have hIM := im_aim hV (xs (q + 1)).toInt (xs (q + 2)).toInt (xs (q + 3)).toInt
  refine g_aload_n C d_L_law_200 201 rfl rfl 3 rfl ?_
  refine g_aload_n C d_L_law_201 202 rfl rfl 4 rfl ?_
  refine g_iload C d_L_law_202 204 rfl 0 rfl ?_
  refine g_iconst C d_L_law_204 205 rfl ?_
  refine g_iadd C d_L_law_205 206 rfl ?_
  refine r_sld C hX hbl hbA d_L_law_206 207 rfl (q + 1) (by omega) (by omega) hL ?_
  refine g_aload_n C d_L_law_207 208 rfl rfl 4 rfl ?_
  refine g_iload C d_L_law_208 210 rfl 0 rfl ?_
  refine g_iconst C d_L_law_210 211 rfl ?_
  refine g_iadd C d_L_law_211 212 rfl ?_
  refine r_sld C hX hbl hbA d_L_law_212 213 rfl (q + 2) (by omega) (by omega) hL ?_
  refine g_aload_n C d_L_law_213 214 rfl rfl 4 rfl ?_
  refine g_iload C d_L_law_214 216 rfl 0 rfl ?_
  refine g_iconst C d_L_law_216 217 rfl ?_
  refine g_iadd C d_L_law_217 218 rfl ?_
  refine r_sld C hX hbl hbA d_L_law_218 219 rfl (q + 3) (by omega) (by omega) hL ?_
  refine fcW1 C (rest := []) d_L_law_219 222 rfl (t_L_aim hst9 G N (xs (q + 1)).toInt (xs (q + 2)).toInt (xs (q + 3)).toInt hV.1 hN (iv_of _).1 (iv_of _).1 (iv_of _).1) ⟨ml_L_81, sm_L_aim, ci_L⟩ w_L_aim 4 gy_L_aim rfl (cells + 2) rfl (slots + 12) rfl (gR_i (by decide) (by decide) (by show cells + 2 ≤ 665884; omega) (by show slots + 12 ≤ 7098452; omega)) rfl (Nat.le_of_ble_eq_true rfl) ?_
  refine g_istore C d_L_law_222 224 rfl [(5, iv (k_aim S (xs (q + 1)).toInt (xs (q + 2)).toInt (xs (q + 3)).toInt)), (4, iv ((q : Int))), (3, .ref (ad 47)), (2, .ref (ad 33)), (1, .ref (ad 0)), (0, .ref b)] (by decide) rfl ?_
  refine g_aload_n C d_L_law_224 225 rfl rfl 3 rfl ?_
  refine g_aload_n C d_L_law_225 226 rfl rfl 5 rfl ?_
  refine g_iload C d_L_law_226 228 rfl 1 rfl ?_
  refine g_iconst C d_L_law_228 229 rfl ?_
  refine g_iadd C d_L_law_229 230 rfl ?_
  refine r_sld C hX hbl hbA d_L_law_230 231 rfl (q + 1) (by omega) (by omega) hL ?_
  refine g_aload_n C d_L_law_231 232 rfl rfl 5 rfl ?_
  refine g_iload C d_L_law_232 234 rfl 1 rfl ?_
  refine g_iconst C d_L_law_234 235 rfl ?_
  refine g_iadd C d_L_law_235 236 rfl ?_
  refine r_sld C hX hbl hbA d_L_law_236 237 rfl (q + 2) (by omega) (by omega) hL ?_
  refine g_aload_n C d_L_law_237 238 rfl rfl 5 rfl ?_
  refine g_iload C d_L_law_238 240 rfl 1 rfl ?_
  refine g_iconst C d_L_law_240 241 rfl ?_
  refine g_iadd C d_L_law_241 242 rfl ?_
  refine r_sld C hX hbl hbA d_L_law_242 243 rfl (q + 3) (by omega) (by omega) hL ?_
  refine fcV0 C (rest := []) d_L_law_243 246 rfl (q_aim G (xs (q + 1)).toInt (xs (q + 2)).toInt (xs (q + 3)).toInt (iv_of _).1 (iv_of _).1 (iv_of _).1 hIM) rfl (G.1 33 (by decide)) (at_M G) ⟨ml_L_83, im_M_aim, se_M_aim, ci_M⟩ w_M_aim rfl 3 gy_M_aim rfl (cells + 2) rfl (slots + 12) rfl (gR_i (by decide) (by decide) (by show cells + 2 + 0 ≤ 665884; omega) (by show slots + 12 + 0 ≤ 7098452; omega)) rfl (Nat.le_of_ble_eq_true rfl) ?_
  refine g_aload_n C d_L_law_246 247 rfl rfl 3 rfl ?_
  refine fcV1 C (rest := []) d_L_law_247 250 rfl (t_M_thrown G) rfl (G.1 33 (by decide)) (at_M G) ⟨ml_L_74, im_M_thrown, se_M_thrown, ci_M⟩ w_M_thrown rfl 0 gy_M_thrown rfl (cells + 2) rfl (slots + 12) rfl (gR_i (by decide) (by decide) (by show cells + 2 + 0 ≤ 665884; omega) (by show slots + 12 + 0 ≤ 7098452; omega)) rfl (Nat.le_of_ble_eq_true rfl) ?_
  refine g_iload C d_L_law_250 252 rfl 0 rfl ?_
  refine g_icmp_eq C d_L_law_252 255 rfl (by rw [hT0]; exact hkr) hkr 257 rfl (fun _ => ?_) (fun h9 => absurd hT0 h9)
  refine g_goto C d_L_law_257 874 rfl ?_
  refine g_sub [1, 2, 3, 4, 5] [(4, iv (q : Int)), (3, .ref (ad 47)), (2, .ref (ad 33)), (1, .ref (ad 0)), (0, .ref b)] rfl ?_
  exact g_widen (by omega) (by omega) (K (m_aim (w_aim S (xs (q + 1)).toInt (xs (q + 2)).toInt (xs (q + 3)).toInt) (xs (q + 1)).toInt (xs (q + 2)).toInt (xs (q + 3)).toInt) hINV)
set_option maxHeartbeats 4000000 in
set_option maxRecDepth 100000 in
theorem z_kind (C : gC p s m args c D CL (TY cd) A c_L_law "AlloyPlansLaw" 8) (G : LO ad L) (hst9 : l.stackTraces = false) (hX : va_X b Ln xs s s.heap) (hbl : b < s.heap.size) (hbA : ¬ A b) (hL : Ln ≤ 2560) (N q : Nat) (hN : N ≤ 1000) (hV : INV N S) (hq : q + 4 < Ln) (hcs : cells ≤ 600000) (hss : slots ≤ 7000000) (K : ∀ T, INV (N + 1) T → gW p l e room_1 s m args below meth c D CL A 8 Q (cells + 2) (slots + 12) L (wd cd ad T f0) 874 [(4, iv (q : Int)), (3, .ref (ad 47)), (2, .ref (ad 33)), (1, .ref (ad 0)), (0, .ref b)] []) : gW p l e room_1 s m args below meth c D CL A 8 Q cells slots L (wd cd ad S f0) 260 [(4, iv (q : Int)), (3, .ref (ad 47)), (2, .ref (ad 33)), (1, .ref (ad 0)), (0, .ref b)] [] := by
  obtain ⟨hT0, hINV, hval⟩ := lm_kind hV (xs (q + 1)).toInt (xs (q + 2)).toInt (xs (q + 3)).toInt
  have hkr : r32 (k_kind S (xs (q + 1)).toInt (xs (q + 2)).toInt (xs (q + 3)).toInt) := by have := k_r_kind S (xs (q + 1)).toInt (xs (q + 2)).toInt (xs (q + 3)).toInt; exact ⟨by omega, by omega⟩
  have hIM := im_kind hV (xs (q + 1)).toInt (xs (q + 2)).toInt (xs (q + 3)).toInt
  refine g_aload_n C d_L_law_260 261 rfl rfl 3 rfl ?_
  refine g_aload_n C d_L_law_261 262 rfl rfl 4 rfl ?_
  refine g_iload C d_L_law_262 264 rfl 0 rfl ?_
  refine g_iconst C d_L_law_264 265 rfl ?_
  refine g_iadd C d_L_law_265 266 rfl ?_
  refine r_sld C hX hbl hbA d_L_law_266 267 rfl (q + 1) (by omega) (by omega) hL ?_
  refine g_aload_n C d_L_law_267 268 rfl rfl 4 rfl ?_
  refine g_iload C d_L_law_268 270 rfl 0 rfl ?_
  refine g_iconst C d_L_law_270 271 rfl ?_
  refine g_iadd C d_L_law_271 272 rfl ?_
  refine r_sld C hX hbl hbA d_L_law_272 273 rfl (q + 2) (by omega) (by omega) hL ?_
  refine g_aload_n C d_L_law_273 274 rfl rfl 4 rfl ?_
  refine g_iload C d_L_law_274 276 rfl 0 rfl ?_
  refine g_iconst C d_L_law_276 277 rfl ?_
  refine g_iadd C d_L_law_277 278 rfl ?_
  refine r_sld C hX hbl hbA d_L_law_278 279 rfl (q + 3) (by omega) (by omega) hL ?_
  refine g_aload_n C d_L_law_279 280 rfl rfl 1 rfl ?_
  refine fcW1 C (rest := []) d_L_law_280 283 rfl (t_L_kind hst9 G N (xs (q + 1)).toInt (xs (q + 2)).toInt (xs (q + 3)).toInt hV.1 hN (iv_of _).1 (iv_of _).1 (iv_of _).1) ⟨ml_L_84, sm_L_kind, ci_L⟩ w_L_kind 5 gy_L_kind rfl (cells + 2) rfl (slots + 12) rfl (gR_i (by decide) (by decide) (by show cells + 2 ≤ 665884; omega) (by show slots + 12 ≤ 7098452; omega)) rfl (Nat.le_of_ble_eq_true rfl) ?_
  refine g_istore C d_L_law_283 285 rfl [(5, iv (k_kind S (xs (q + 1)).toInt (xs (q + 2)).toInt (xs (q + 3)).toInt)), (4, iv ((q : Int))), (3, .ref (ad 47)), (2, .ref (ad 33)), (1, .ref (ad 0)), (0, .ref b)] (by decide) rfl ?_
  refine g_aload_n C d_L_law_285 286 rfl rfl 3 rfl ?_
  refine g_aload_n C d_L_law_286 287 rfl rfl 5 rfl ?_
  refine g_iload C d_L_law_287 289 rfl 1 rfl ?_
  refine g_iconst C d_L_law_289 290 rfl ?_
  refine g_iadd C d_L_law_290 291 rfl ?_
  refine r_sld C hX hbl hbA d_L_law_291 292 rfl (q + 1) (by omega) (by omega) hL ?_
  refine g_aload_n C d_L_law_292 293 rfl rfl 5 rfl ?_
  refine g_iload C d_L_law_293 295 rfl 1 rfl ?_
  refine g_iconst C d_L_law_295 296 rfl ?_
  refine g_iadd C d_L_law_296 297 rfl ?_
  refine r_sld C hX hbl hbA d_L_law_297 298 rfl (q + 2) (by omega) (by omega) hL ?_
  refine g_aload_n C d_L_law_298 299 rfl rfl 5 rfl ?_
  refine g_iload C d_L_law_299 301 rfl 1 rfl ?_
  refine g_iconst C d_L_law_301 302 rfl ?_
  refine g_iadd C d_L_law_302 303 rfl ?_
  refine r_sld C hX hbl hbA d_L_law_303 304 rfl (q + 3) (by omega) (by omega) hL ?_
  refine fcV1 C (rest := []) d_L_law_304 307 rfl (q_kind G (xs (q + 1)).toInt (xs (q + 2)).toInt (xs (q + 3)).toInt (iv_of _).1 (iv_of _).1 (iv_of _).1 hIM) rfl (G.1 33 (by decide)) (at_M G) ⟨ml_L_87, im_M_kind, se_M_kind, ci_M⟩ w_M_kind rfl 3 gy_M_kind rfl (cells + 2) rfl (slots + 12) rfl (gR_i (by decide) (by decide) (by show cells + 2 + 0 ≤ 665884; omega) (by show slots + 12 + 0 ≤ 7098452; omega)) rfl (Nat.le_of_ble_eq_true rfl) ?_
  refine g_istore C d_L_law_307 309 rfl [(6, iv (b_kind (w_kind S (xs (q + 1)).toInt (xs (q + 2)).toInt (xs (q + 3)).toInt) (xs (q + 1)).toInt (xs (q + 2)).toInt (xs (q + 3)).toInt)), (5, iv (k_kind S (xs (q + 1)).toInt (xs (q + 2)).toInt (xs (q + 3)).toInt)), (4, iv ((q : Int))), (3, .ref (ad 47)), (2, .ref (ad 33)), (1, .ref (ad 0)), (0, .ref b)] (by decide) rfl ?_
  refine g_aload_n C d_L_law_309 310 rfl rfl 4 rfl ?_
  refine fcV1 C (rest := []) d_L_law_310 313 rfl (t_M_thrown G) rfl (G.1 33 (by decide)) (at_M G) ⟨ml_L_74, im_M_thrown, se_M_thrown, ci_M⟩ w_M_thrown rfl 0 gy_M_thrown rfl (cells + 2) rfl (slots + 12) rfl (gR_i (by decide) (by decide) (by show cells + 2 + 0 ≤ 665884; omega) (by show slots + 12 + 0 ≤ 7098452; omega)) rfl (Nat.le_of_ble_eq_true rfl) ?_
  refine g_iload C d_L_law_313 315 rfl 1 rfl ?_
  refine g_icmp_eq C d_L_law_315 318 rfl (by rw [hT0]; exact hkr) hkr 320 rfl (fun _ => ?_) (fun h9 => absurd hT0 h9)
  refine g_iload C d_L_law_320 322 rfl 1 rfl ?_
  refine g_if_ne C d_L_law_322 325 rfl hkr 337 rfl (fun h9 => ?_) (fun h9 => ?_)
  · skip
    refine g_goto C d_L_law_337 874 rfl ?_
    refine g_sub [2, 3, 4, 5, 6] [(4, iv (q : Int)), (3, .ref (ad 47)), (2, .ref (ad 33)), (1, .ref (ad 0)), (0, .ref b)] rfl ?_
    exact g_widen (by omega) (by omega) (K (m_kind (w_kind S (xs (q + 1)).toInt (xs (q + 2)).toInt (xs (q + 3)).toInt) (xs (q + 1)).toInt (xs (q + 2)).toInt (xs (q + 3)).toInt) hINV)
  · skip
    have h9 : k_kind S (xs (q + 1)).toInt (xs (q + 2)).toInt (xs (q + 3)).toInt = 0 := h9
    obtain ⟨hv1, hv2, hv3⟩ := hval h9
    refine g_aload_n C d_L_law_325 326 rfl rfl 3 rfl ?_
    refine g_iconst C d_L_law_326 327 rfl ?_
    refine ld_47 C G d_L_law_327 328 rfl 0 (by decide) rfl ?_
    refine g_iload C d_L_law_328 330 rfl 0 rfl ?_
    refine g_i2l C d_L_law_330 331 rfl hv2 ?_
    refine g_lcmp_eq C d_L_law_331 332 rfl 335 rfl hv1 ⟨by have := hv2.1; omega, by have := hv2.2; omega⟩ 337 rfl d_L_law_332 (fun _ => ?_) (fun h8 => absurd hv3 h8)
    refine g_goto C d_L_law_337 874 rfl ?_
    refine g_sub [2, 3, 4, 5, 6] [(4, iv (q : Int)), (3, .ref (ad 47)), (2, .ref (ad 33)), (1, .ref (ad 0)), (0, .ref b)] rfl ?_
    exact g_widen (by omega) (by omega) (K (m_kind (w_kind S (xs (q + 1)).toInt (xs (q + 2)).toInt (xs (q + 3)).toInt) (xs (q + 1)).toInt (xs (q + 2)).toInt (xs (q + 3)).toInt) hINV)
set_option maxHeartbeats 4000000 in
set_option maxRecDepth 100000 in
theorem z_holds (C : gC p s m args c D CL (TY cd) A c_L_law "AlloyPlansLaw" 8) (G : LO ad L) (hst9 : l.stackTraces = false) (hX : va_X b Ln xs s s.heap) (hbl : b < s.heap.size) (hbA : ¬ A b) (hL : Ln ≤ 2560) (N q : Nat) (hN : N ≤ 1000) (hV : INV N S) (hq : q + 4 < Ln) (hcs : cells ≤ 600000) (hss : slots ≤ 7000000) (K : ∀ T, INV (N + 1) T → gW p l e room_1 s m args below meth c D CL A 8 Q (cells + 2) (slots + 12) L (wd cd ad T f0) 874 [(4, iv (q : Int)), (3, .ref (ad 47)), (2, .ref (ad 33)), (1, .ref (ad 0)), (0, .ref b)] []) : gW p l e room_1 s m args below meth c D CL A 8 Q cells slots L (wd cd ad S f0) 340 [(4, iv (q : Int)), (3, .ref (ad 47)), (2, .ref (ad 33)), (1, .ref (ad 0)), (0, .ref b)] [] := by
  obtain ⟨hT0, hINV⟩ := lm_holds hV (xs (q + 1)).toInt (xs (q + 2)).toInt (xs (q + 3)).toInt (xs (q + 4)).toInt
  have hkr : r32 (k_holds S (xs (q + 1)).toInt (xs (q + 2)).toInt (xs (q + 3)).toInt (xs (q + 4)).toInt) := by have := k_r_holds S (xs (q + 1)).toInt (xs (q + 2)).toInt (xs (q + 3)).toInt (xs (q + 4)).toInt; exact ⟨by omega, by omega⟩
  have hIM := im_holds hV (xs (q + 1)).toInt (xs (q + 2)).toInt (xs (q + 3)).toInt (xs (q + 4)).toInt
  refine g_aload_n C d_L_law_340 341 rfl rfl 3 rfl ?_
  refine g_aload_n C d_L_law_341 342 rfl rfl 4 rfl ?_
  refine g_iload C d_L_law_342 344 rfl 0 rfl ?_
  refine g_iconst C d_L_law_344 345 rfl ?_
  refine g_iadd C d_L_law_345 346 rfl ?_
  refine r_sld C hX hbl hbA d_L_law_346 347 rfl (q + 1) (by omega) (by omega) hL ?_
  refine g_aload_n C d_L_law_347 348 rfl rfl 4 rfl ?_
  refine g_iload C d_L_law_348 350 rfl 0 rfl ?_
  refine g_iconst C d_L_law_350 351 rfl ?_
  refine g_iadd C d_L_law_351 352 rfl ?_
  refine r_sld C hX hbl hbA d_L_law_352 353 rfl (q + 2) (by omega) (by omega) hL ?_
  refine g_aload_n C d_L_law_353 354 rfl rfl 4 rfl ?_
  refine g_iload C d_L_law_354 356 rfl 0 rfl ?_
  refine g_iconst C d_L_law_356 357 rfl ?_
  refine g_iadd C d_L_law_357 358 rfl ?_
  refine r_sld C hX hbl hbA d_L_law_358 359 rfl (q + 3) (by omega) (by omega) hL ?_
  refine g_aload_n C d_L_law_359 360 rfl rfl 4 rfl ?_
  refine g_iload C d_L_law_360 362 rfl 0 rfl ?_
  refine g_iconst C d_L_law_362 363 rfl ?_
  refine g_iadd C d_L_law_363 364 rfl ?_
  refine r_sld C hX hbl hbA d_L_law_364 365 rfl (q + 4) (by omega) (by omega) hL ?_
  refine fcW1 C (rest := []) d_L_law_365 368 rfl (t_L_holds hst9 G N (xs (q + 1)).toInt (xs (q + 2)).toInt (xs (q + 3)).toInt (xs (q + 4)).toInt hV.1 hN (iv_of _).1 (iv_of _).1 (iv_of _).1 (iv_of _).1) ⟨ml_L_88, sm_L_holds, ci_L⟩ w_L_holds 5 gy_L_holds rfl (cells + 2) rfl (slots + 12) rfl (gR_i (by decide) (by decide) (by show cells + 2 ≤ 665884; omega) (by show slots + 12 ≤ 7098452; omega)) rfl (Nat.le_of_ble_eq_true rfl) ?_
  refine g_istore C d_L_law_368 370 rfl [(5, iv (k_holds S (xs (q + 1)).toInt (xs (q + 2)).toInt (xs (q + 3)).toInt (xs (q + 4)).toInt)), (4, iv ((q : Int))), (3, .ref (ad 47)), (2, .ref (ad 33)), (1, .ref (ad 0)), (0, .ref b)] (by decide) rfl ?_
  refine g_aload_n C d_L_law_370 371 rfl rfl 3 rfl ?_
  refine g_aload_n C d_L_law_371 372 rfl rfl 5 rfl ?_
  refine g_iload C d_L_law_372 374 rfl 1 rfl ?_
  refine g_iconst C d_L_law_374 375 rfl ?_
  refine g_iadd C d_L_law_375 376 rfl ?_
  refine r_sld C hX hbl hbA d_L_law_376 377 rfl (q + 1) (by omega) (by omega) hL ?_
  refine g_aload_n C d_L_law_377 378 rfl rfl 5 rfl ?_
  refine g_iload C d_L_law_378 380 rfl 1 rfl ?_
  refine g_iconst C d_L_law_380 381 rfl ?_
  refine g_iadd C d_L_law_381 382 rfl ?_
  refine r_sld C hX hbl hbA d_L_law_382 383 rfl (q + 2) (by omega) (by omega) hL ?_
  refine g_aload_n C d_L_law_383 384 rfl rfl 5 rfl ?_
  refine g_iload C d_L_law_384 386 rfl 1 rfl ?_
  refine g_iconst C d_L_law_386 387 rfl ?_
  refine g_iadd C d_L_law_387 388 rfl ?_
  refine r_sld C hX hbl hbA d_L_law_388 389 rfl (q + 3) (by omega) (by omega) hL ?_
  refine g_aload_n C d_L_law_389 390 rfl rfl 5 rfl ?_
  refine g_iload C d_L_law_390 392 rfl 1 rfl ?_
  refine g_iconst C d_L_law_392 393 rfl ?_
  refine g_iadd C d_L_law_393 394 rfl ?_
  refine r_sld C hX hbl hbA d_L_law_394 395 rfl (q + 4) (by omega) (by omega) hL ?_
  refine fcV0 C (rest := []) d_L_law_395 398 rfl (q_holds G (xs (q + 1)).toInt (xs (q + 2)).toInt (xs (q + 3)).toInt (xs (q + 4)).toInt (iv_of _).1 (iv_of _).1 (iv_of _).1 (iv_of _).1 hIM) rfl (G.1 33 (by decide)) (at_M G) ⟨ml_L_91, im_M_holds, se_M_holds, ci_M⟩ w_M_holds rfl 4 gy_M_holds rfl (cells + 2) rfl (slots + 12) rfl (gR_i (by decide) (by decide) (by show cells + 2 + 0 ≤ 665884; omega) (by show slots + 12 + 0 ≤ 7098452; omega)) rfl (Nat.le_of_ble_eq_true rfl) ?_
  refine g_aload_n C d_L_law_398 399 rfl rfl 3 rfl ?_
  refine fcV1 C (rest := []) d_L_law_399 402 rfl (t_M_thrown G) rfl (G.1 33 (by decide)) (at_M G) ⟨ml_L_74, im_M_thrown, se_M_thrown, ci_M⟩ w_M_thrown rfl 0 gy_M_thrown rfl (cells + 2) rfl (slots + 12) rfl (gR_i (by decide) (by decide) (by show cells + 2 + 0 ≤ 665884; omega) (by show slots + 12 + 0 ≤ 7098452; omega)) rfl (Nat.le_of_ble_eq_true rfl) ?_
  refine g_iload C d_L_law_402 404 rfl 0 rfl ?_
  refine g_icmp_eq C d_L_law_404 407 rfl (by rw [hT0]; exact hkr) hkr 409 rfl (fun _ => ?_) (fun h9 => absurd hT0 h9)
  refine g_goto C d_L_law_409 874 rfl ?_
  refine g_sub [1, 2, 3, 4, 5] [(4, iv (q : Int)), (3, .ref (ad 47)), (2, .ref (ad 33)), (1, .ref (ad 0)), (0, .ref b)] rfl ?_
  exact g_widen (by omega) (by omega) (K (m_holds (w_holds S (xs (q + 1)).toInt (xs (q + 2)).toInt (xs (q + 3)).toInt (xs (q + 4)).toInt) (xs (q + 1)).toInt (xs (q + 2)).toInt (xs (q + 3)).toInt (xs (q + 4)).toInt) hINV)
set_option maxHeartbeats 4000000 in
set_option maxRecDepth 100000 in
theorem z_yields (C : gC p s m args c D CL (TY cd) A c_L_law "AlloyPlansLaw" 8) (G : LO ad L) (hst9 : l.stackTraces = false) (hX : va_X b Ln xs s s.heap) (hbl : b < s.heap.size) (hbA : ¬ A b) (hL : Ln ≤ 2560) (N q : Nat) (hN : N ≤ 1000) (hV : INV N S) (hq : q + 4 < Ln) (hcs : cells ≤ 600000) (hss : slots ≤ 7000000) (K : ∀ T, INV (N + 1) T → gW p l e room_1 s m args below meth c D CL A 8 Q (cells + 2) (slots + 12) L (wd cd ad T f0) 874 [(4, iv (q : Int)), (3, .ref (ad 47)), (2, .ref (ad 33)), (1, .ref (ad 0)), (0, .ref b)] []) : gW p l e room_1 s m args below meth c D CL A 8 Q cells slots L (wd cd ad S f0) 412 [(4, iv (q : Int)), (3, .ref (ad 47)), (2, .ref (ad 33)), (1, .ref (ad 0)), (0, .ref b)] [] := by
  obtain ⟨hT0, hINV⟩ := lm_yields hV (xs (q + 1)).toInt (xs (q + 2)).toInt (xs (q + 3)).toInt
  have hkr : r32 (k_yields S (xs (q + 1)).toInt (xs (q + 2)).toInt (xs (q + 3)).toInt) := by have := k_r_yields S (xs (q + 1)).toInt (xs (q + 2)).toInt (xs (q + 3)).toInt; exact ⟨by omega, by omega⟩
  have hIM := im_yields hV (xs (q + 1)).toInt (xs (q + 2)).toInt (xs (q + 3)).toInt
  refine g_aload_n C d_L_law_412 413 rfl rfl 3 rfl ?_
  refine g_aload_n C d_L_law_413 414 rfl rfl 4 rfl ?_
  refine g_iload C d_L_law_414 416 rfl 0 rfl ?_
  refine g_iconst C d_L_law_416 417 rfl ?_
  refine g_iadd C d_L_law_417 418 rfl ?_
  refine r_sld C hX hbl hbA d_L_law_418 419 rfl (q + 1) (by omega) (by omega) hL ?_
  refine g_aload_n C d_L_law_419 420 rfl rfl 4 rfl ?_
  refine g_iload C d_L_law_420 422 rfl 0 rfl ?_
  refine g_iconst C d_L_law_422 423 rfl ?_
  refine g_iadd C d_L_law_423 424 rfl ?_
  refine r_sld C hX hbl hbA d_L_law_424 425 rfl (q + 2) (by omega) (by omega) hL ?_
  refine g_aload_n C d_L_law_425 426 rfl rfl 4 rfl ?_
  refine g_iload C d_L_law_426 428 rfl 0 rfl ?_
  refine g_iconst C d_L_law_428 429 rfl ?_
  refine g_iadd C d_L_law_429 430 rfl ?_
  refine r_sld C hX hbl hbA d_L_law_430 431 rfl (q + 3) (by omega) (by omega) hL ?_
  refine fcW1 C (rest := []) d_L_law_431 434 rfl (t_L_yields hst9 G N (xs (q + 1)).toInt (xs (q + 2)).toInt (xs (q + 3)).toInt hV.1 hN (iv_of _).1 (iv_of _).1 (iv_of _).1) ⟨ml_L_92, sm_L_yields, ci_L⟩ w_L_yields 4 gy_L_yields rfl (cells + 2) rfl (slots + 12) rfl (gR_i (by decide) (by decide) (by show cells + 2 ≤ 665884; omega) (by show slots + 12 ≤ 7098452; omega)) rfl (Nat.le_of_ble_eq_true rfl) ?_
  refine g_istore C d_L_law_434 436 rfl [(5, iv (k_yields S (xs (q + 1)).toInt (xs (q + 2)).toInt (xs (q + 3)).toInt)), (4, iv ((q : Int))), (3, .ref (ad 47)), (2, .ref (ad 33)), (1, .ref (ad 0)), (0, .ref b)] (by decide) rfl ?_
  refine g_aload_n C d_L_law_436 437 rfl rfl 3 rfl ?_
  refine g_aload_n C d_L_law_437 438 rfl rfl 5 rfl ?_
  refine g_iload C d_L_law_438 440 rfl 1 rfl ?_
  refine g_iconst C d_L_law_440 441 rfl ?_
  refine g_iadd C d_L_law_441 442 rfl ?_
  refine r_sld C hX hbl hbA d_L_law_442 443 rfl (q + 1) (by omega) (by omega) hL ?_
  refine g_aload_n C d_L_law_443 444 rfl rfl 5 rfl ?_
  refine g_iload C d_L_law_444 446 rfl 1 rfl ?_
  refine g_iconst C d_L_law_446 447 rfl ?_
  refine g_iadd C d_L_law_447 448 rfl ?_
  refine r_sld C hX hbl hbA d_L_law_448 449 rfl (q + 2) (by omega) (by omega) hL ?_
  refine g_aload_n C d_L_law_449 450 rfl rfl 5 rfl ?_
  refine g_iload C d_L_law_450 452 rfl 1 rfl ?_
  refine g_iconst C d_L_law_452 453 rfl ?_
  refine g_iadd C d_L_law_453 454 rfl ?_
  refine r_sld C hX hbl hbA d_L_law_454 455 rfl (q + 3) (by omega) (by omega) hL ?_
  refine fcV0 C (rest := []) d_L_law_455 458 rfl (q_yields G (xs (q + 1)).toInt (xs (q + 2)).toInt (xs (q + 3)).toInt (iv_of _).1 (iv_of _).1 (iv_of _).1 hIM) rfl (G.1 33 (by decide)) (at_M G) ⟨ml_L_94, im_M_yields, se_M_yields, ci_M⟩ w_M_yields rfl 3 gy_M_yields rfl (cells + 2) rfl (slots + 12) rfl (gR_i (by decide) (by decide) (by show cells + 2 + 0 ≤ 665884; omega) (by show slots + 12 + 0 ≤ 7098452; omega)) rfl (Nat.le_of_ble_eq_true rfl) ?_
  refine g_aload_n C d_L_law_458 459 rfl rfl 3 rfl ?_
  refine fcV1 C (rest := []) d_L_law_459 462 rfl (t_M_thrown G) rfl (G.1 33 (by decide)) (at_M G) ⟨ml_L_74, im_M_thrown, se_M_thrown, ci_M⟩ w_M_thrown rfl 0 gy_M_thrown rfl (cells + 2) rfl (slots + 12) rfl (gR_i (by decide) (by decide) (by show cells + 2 + 0 ≤ 665884; omega) (by show slots + 12 + 0 ≤ 7098452; omega)) rfl (Nat.le_of_ble_eq_true rfl) ?_
  refine g_iload C d_L_law_462 464 rfl 0 rfl ?_
  refine g_icmp_eq C d_L_law_464 467 rfl (by rw [hT0]; exact hkr) hkr 469 rfl (fun _ => ?_) (fun h9 => absurd hT0 h9)
  refine g_goto C d_L_law_469 874 rfl ?_
  refine g_sub [1, 2, 3, 4, 5] [(4, iv (q : Int)), (3, .ref (ad 47)), (2, .ref (ad 33)), (1, .ref (ad 0)), (0, .ref b)] rfl ?_
  exact g_widen (by omega) (by omega) (K (m_yields (w_yields S (xs (q + 1)).toInt (xs (q + 2)).toInt (xs (q + 3)).toInt) (xs (q + 1)).toInt (xs (q + 2)).toInt (xs (q + 3)).toInt) hINV)
set_option maxHeartbeats 4000000 in
set_option maxRecDepth 100000 in
theorem z_run (C : gC p s m args c D CL (TY cd) A c_L_law "AlloyPlansLaw" 8) (G : LO ad L) (hst9 : l.stackTraces = false) (hX : va_X b Ln xs s s.heap) (hbl : b < s.heap.size) (hbA : ¬ A b) (hL : Ln ≤ 2560) (N q : Nat) (hN : N ≤ 1000) (hV : INV N S) (hq : q + 4 < Ln) (hcs : cells ≤ 600000) (hss : slots ≤ 7000000) (K : ∀ T, INV (N + 1) T → gW p l e room_1 s m args below meth c D CL A 8 Q (cells + 2) (slots + 12) L (wd cd ad T f0) 874 [(4, iv (q : Int)), (3, .ref (ad 47)), (2, .ref (ad 33)), (1, .ref (ad 0)), (0, .ref b)] []) : gW p l e room_1 s m args below meth c D CL A 8 Q cells slots L (wd cd ad S f0) 472 [(4, iv (q : Int)), (3, .ref (ad 47)), (2, .ref (ad 33)), (1, .ref (ad 0)), (0, .ref b)] [] := by
  obtain ⟨hT0, hINV, hval⟩ := lm_run hN hV (xs (q + 1)).toInt
  have hkr : r32 (k_run S (xs (q + 1)).toInt) := by have := k_r_run S (xs (q + 1)).toInt; exact ⟨by omega, by omega⟩
  have hIM := im_run hV (xs (q + 1)).toInt
  refine g_aload_n C d_L_law_472 473 rfl rfl 3 rfl ?_
  refine g_aload_n C d_L_law_473 474 rfl rfl 4 rfl ?_
  refine g_iload C d_L_law_474 476 rfl 0 rfl ?_
  refine g_iconst C d_L_law_476 477 rfl ?_
  refine g_iadd C d_L_law_477 478 rfl ?_
  refine r_sld C hX hbl hbA d_L_law_478 479 rfl (q + 1) (by omega) (by omega) hL ?_
  refine g_aload_n C d_L_law_479 480 rfl rfl 1 rfl ?_
  refine fcW1 C (rest := []) d_L_law_480 483 rfl (t_L_run hst9 G N (xs (q + 1)).toInt hV.1 hN (iv_of _).1) ⟨ml_L_95, sm_L_run, ci_L⟩ w_L_run 3 gy_L_run rfl (cells + 1) rfl (slots + 6) rfl (gR_i (by decide) (by decide) (by show cells + 1 ≤ 665884; omega) (by show slots + 6 ≤ 7098452; omega)) rfl (Nat.le_of_ble_eq_true rfl) ?_
  refine g_istore C d_L_law_483 485 rfl [(5, iv (k_run S (xs (q + 1)).toInt)), (4, iv ((q : Int))), (3, .ref (ad 47)), (2, .ref (ad 33)), (1, .ref (ad 0)), (0, .ref b)] (by decide) rfl ?_
  refine g_aload_n C d_L_law_485 486 rfl rfl 3 rfl ?_
  refine g_aload_n C d_L_law_486 487 rfl rfl 5 rfl ?_
  refine g_iload C d_L_law_487 489 rfl 1 rfl ?_
  refine g_iconst C d_L_law_489 490 rfl ?_
  refine g_iadd C d_L_law_490 491 rfl ?_
  refine r_sld C hX hbl hbA d_L_law_491 492 rfl (q + 1) (by omega) (by omega) hL ?_
  refine fcV1 C (rest := []) d_L_law_492 495 rfl (q_run G (xs (q + 1)).toInt (iv_of _).1 hIM) rfl (G.1 33 (by decide)) (at_M G) ⟨ml_L_98, im_M_run, se_M_run, ci_M⟩ w_M_run rfl 1 gy_M_run rfl (cells + 1) rfl (slots + 6) rfl (gR_i (by decide) (by decide) (by show cells + 1 + 0 ≤ 665884; omega) (by show slots + 6 + 0 ≤ 7098452; omega)) rfl (Nat.le_of_ble_eq_true rfl) ?_
  refine g_istore C d_L_law_495 497 rfl [(6, iv (b_run (w_run S (xs (q + 1)).toInt) (xs (q + 1)).toInt)), (5, iv (k_run S (xs (q + 1)).toInt)), (4, iv ((q : Int))), (3, .ref (ad 47)), (2, .ref (ad 33)), (1, .ref (ad 0)), (0, .ref b)] (by decide) rfl ?_
  refine g_aload_n C d_L_law_497 498 rfl rfl 4 rfl ?_
  refine fcV1 C (rest := []) d_L_law_498 501 rfl (t_M_thrown G) rfl (G.1 33 (by decide)) (at_M G) ⟨ml_L_74, im_M_thrown, se_M_thrown, ci_M⟩ w_M_thrown rfl 0 gy_M_thrown rfl (cells + 1) rfl (slots + 6) rfl (gR_i (by decide) (by decide) (by show cells + 1 + 0 ≤ 665884; omega) (by show slots + 6 + 0 ≤ 7098452; omega)) rfl (Nat.le_of_ble_eq_true rfl) ?_
  refine g_iload C d_L_law_501 503 rfl 1 rfl ?_
  refine g_icmp_eq C d_L_law_503 506 rfl (by rw [hT0]; exact hkr) hkr 508 rfl (fun _ => ?_) (fun h9 => absurd hT0 h9)
  refine g_iload C d_L_law_508 510 rfl 1 rfl ?_
  refine g_if_ne C d_L_law_510 513 rfl hkr 525 rfl (fun h9 => ?_) (fun h9 => ?_)
  · skip
    refine g_goto C d_L_law_525 874 rfl ?_
    refine g_sub [2, 3, 4, 5, 6] [(4, iv (q : Int)), (3, .ref (ad 47)), (2, .ref (ad 33)), (1, .ref (ad 0)), (0, .ref b)] rfl ?_
    exact g_widen (by omega) (by omega) (K (m_run (w_run S (xs (q + 1)).toInt) (xs (q + 1)).toInt) hINV)
  · skip
    have h9 : k_run S (xs (q + 1)).toInt = 0 := h9
    obtain ⟨hv1, hv2, hv3⟩ := hval h9
    refine g_aload_n C d_L_law_513 514 rfl rfl 3 rfl ?_
    refine g_iconst C d_L_law_514 515 rfl ?_
    refine ld_47 C G d_L_law_515 516 rfl 0 (by decide) rfl ?_
    refine g_iload C d_L_law_516 518 rfl 0 rfl ?_
    refine g_i2l C d_L_law_518 519 rfl hv2 ?_
    refine g_lcmp_eq C d_L_law_519 520 rfl 523 rfl hv1 ⟨by have := hv2.1; omega, by have := hv2.2; omega⟩ 525 rfl d_L_law_520 (fun _ => ?_) (fun h8 => absurd hv3 h8)
    refine g_goto C d_L_law_525 874 rfl ?_
    refine g_sub [2, 3, 4, 5, 6] [(4, iv (q : Int)), (3, .ref (ad 47)), (2, .ref (ad 33)), (1, .ref (ad 0)), (0, .ref b)] rfl ?_
    exact g_widen (by omega) (by omega) (K (m_run (w_run S (xs (q + 1)).toInt) (xs (q + 1)).toInt) hINV)
set_option maxHeartbeats 4000000 in
set_option maxRecDepth 100000 in
theorem z_steps (C : gC p s m args c D CL (TY cd) A c_L_law "AlloyPlansLaw" 8) (G : LO ad L) (hst9 : l.stackTraces = false) (hX : va_X b Ln xs s s.heap) (hbl : b < s.heap.size) (hbA : ¬ A b) (hL : Ln ≤ 2560) (N q : Nat) (hN : N ≤ 1000) (hV : INV N S) (hq : q + 4 < Ln) (hcs : cells ≤ 600000) (hss : slots ≤ 7000000) (K : ∀ T, INV (N + 1) T → gW p l e room_1 s m args below meth c D CL A 8 Q (cells + 2) (slots + 12) L (wd cd ad T f0) 874 [(4, iv (q : Int)), (3, .ref (ad 47)), (2, .ref (ad 33)), (1, .ref (ad 0)), (0, .ref b)] []) : gW p l e room_1 s m args below meth c D CL A 8 Q cells slots L (wd cd ad S f0) 528 [(4, iv (q : Int)), (3, .ref (ad 47)), (2, .ref (ad 33)), (1, .ref (ad 0)), (0, .ref b)] [] := by
  obtain ⟨hT0, hINV, hval⟩ := lm_steps hV (xs (q + 1)).toInt
  have hkr : r32 (k_steps S (xs (q + 1)).toInt) := by have := k_r_steps S (xs (q + 1)).toInt; exact ⟨by omega, by omega⟩
  have hIM := im_steps hV (xs (q + 1)).toInt
  refine g_aload_n C d_L_law_528 529 rfl rfl 3 rfl ?_
  refine g_aload_n C d_L_law_529 530 rfl rfl 4 rfl ?_
  refine g_iload C d_L_law_530 532 rfl 0 rfl ?_
  refine g_iconst C d_L_law_532 533 rfl ?_
  refine g_iadd C d_L_law_533 534 rfl ?_
  refine r_sld C hX hbl hbA d_L_law_534 535 rfl (q + 1) (by omega) (by omega) hL ?_
  refine g_aload_n C d_L_law_535 536 rfl rfl 1 rfl ?_
  refine fcW1 C (rest := []) d_L_law_536 539 rfl (t_L_steps hst9 G N (xs (q + 1)).toInt hV.1 hN (iv_of _).1) ⟨ml_L_99, sm_L_steps, ci_L⟩ w_L_steps 3 gy_L_steps rfl (cells + 2) rfl (slots + 12) rfl (gR_i (by decide) (by decide) (by show cells + 2 ≤ 665884; omega) (by show slots + 12 ≤ 7098452; omega)) rfl (Nat.le_of_ble_eq_true rfl) ?_
  refine g_istore C d_L_law_539 541 rfl [(5, iv (k_steps S (xs (q + 1)).toInt)), (4, iv ((q : Int))), (3, .ref (ad 47)), (2, .ref (ad 33)), (1, .ref (ad 0)), (0, .ref b)] (by decide) rfl ?_
  refine g_aload_n C d_L_law_541 542 rfl rfl 3 rfl ?_
  refine g_aload_n C d_L_law_542 543 rfl rfl 5 rfl ?_
  refine g_iload C d_L_law_543 545 rfl 1 rfl ?_
  refine g_iconst C d_L_law_545 546 rfl ?_
  refine g_iadd C d_L_law_546 547 rfl ?_
  refine r_sld C hX hbl hbA d_L_law_547 548 rfl (q + 1) (by omega) (by omega) hL ?_
  refine fcV1 C (rest := []) d_L_law_548 551 rfl (q_steps G (xs (q + 1)).toInt (iv_of _).1 hIM) rfl (G.1 33 (by decide)) (at_M G) ⟨ml_L_101, im_M_steps, se_M_steps, ci_M⟩ w_M_steps rfl 1 gy_M_steps rfl (cells + 2) rfl (slots + 12) rfl (gR_i (by decide) (by decide) (by show cells + 2 + 0 ≤ 665884; omega) (by show slots + 12 + 0 ≤ 7098452; omega)) rfl (Nat.le_of_ble_eq_true rfl) ?_
  refine g_istore C d_L_law_551 553 rfl [(6, iv (b_steps (w_steps S (xs (q + 1)).toInt) (xs (q + 1)).toInt)), (5, iv (k_steps S (xs (q + 1)).toInt)), (4, iv ((q : Int))), (3, .ref (ad 47)), (2, .ref (ad 33)), (1, .ref (ad 0)), (0, .ref b)] (by decide) rfl ?_
  refine g_aload_n C d_L_law_553 554 rfl rfl 4 rfl ?_
  refine fcV1 C (rest := []) d_L_law_554 557 rfl (t_M_thrown G) rfl (G.1 33 (by decide)) (at_M G) ⟨ml_L_74, im_M_thrown, se_M_thrown, ci_M⟩ w_M_thrown rfl 0 gy_M_thrown rfl (cells + 2) rfl (slots + 12) rfl (gR_i (by decide) (by decide) (by show cells + 2 + 0 ≤ 665884; omega) (by show slots + 12 + 0 ≤ 7098452; omega)) rfl (Nat.le_of_ble_eq_true rfl) ?_
  refine g_iload C d_L_law_557 559 rfl 1 rfl ?_
  refine g_icmp_eq C d_L_law_559 562 rfl (by rw [hT0]; exact hkr) hkr 564 rfl (fun _ => ?_) (fun h9 => absurd hT0 h9)
  refine g_iload C d_L_law_564 566 rfl 1 rfl ?_
  refine g_if_ne C d_L_law_566 569 rfl hkr 581 rfl (fun h9 => ?_) (fun h9 => ?_)
  · skip
    refine g_goto C d_L_law_581 874 rfl ?_
    refine g_sub [2, 3, 4, 5, 6] [(4, iv (q : Int)), (3, .ref (ad 47)), (2, .ref (ad 33)), (1, .ref (ad 0)), (0, .ref b)] rfl ?_
    exact g_widen (by omega) (by omega) (K (m_steps (w_steps S (xs (q + 1)).toInt) (xs (q + 1)).toInt) hINV)
  · skip
    have h9 : k_steps S (xs (q + 1)).toInt = 0 := h9
    obtain ⟨hv1, hv2, hv3⟩ := hval h9
    refine g_aload_n C d_L_law_569 570 rfl rfl 3 rfl ?_
    refine g_iconst C d_L_law_570 571 rfl ?_
    refine ld_47 C G d_L_law_571 572 rfl 0 (by decide) rfl ?_
    refine g_iload C d_L_law_572 574 rfl 0 rfl ?_
    refine g_i2l C d_L_law_574 575 rfl hv2 ?_
    refine g_lcmp_eq C d_L_law_575 576 rfl 579 rfl hv1 ⟨by have := hv2.1; omega, by have := hv2.2; omega⟩ 581 rfl d_L_law_576 (fun _ => ?_) (fun h8 => absurd hv3 h8)
    refine g_goto C d_L_law_581 874 rfl ?_
    refine g_sub [2, 3, 4, 5, 6] [(4, iv (q : Int)), (3, .ref (ad 47)), (2, .ref (ad 33)), (1, .ref (ad 0)), (0, .ref b)] rfl ?_
    exact g_widen (by omega) (by omega) (K (m_steps (w_steps S (xs (q + 1)).toInt) (xs (q + 1)).toInt) hINV)
set_option maxHeartbeats 4000000 in
set_option maxRecDepth 100000 in
theorem z_planned (C : gC p s m args c D CL (TY cd) A c_L_law "AlloyPlansLaw" 8) (G : LO ad L) (hst9 : l.stackTraces = false) (hX : va_X b Ln xs s s.heap) (hbl : b < s.heap.size) (hbA : ¬ A b) (hL : Ln ≤ 2560) (N q : Nat) (hN : N ≤ 1000) (hV : INV N S) (hq : q + 4 < Ln) (hcs : cells ≤ 600000) (hss : slots ≤ 7000000) (K : ∀ T, INV (N + 1) T → gW p l e room_1 s m args below meth c D CL A 8 Q (cells + 2) (slots + 12) L (wd cd ad T f0) 874 [(4, iv (q : Int)), (3, .ref (ad 47)), (2, .ref (ad 33)), (1, .ref (ad 0)), (0, .ref b)] []) : gW p l e room_1 s m args below meth c D CL A 8 Q cells slots L (wd cd ad S f0) 584 [(4, iv (q : Int)), (3, .ref (ad 47)), (2, .ref (ad 33)), (1, .ref (ad 0)), (0, .ref b)] [] := by
  obtain ⟨hT0, hINV, hval⟩ := lm_planned hV (xs (q + 1)).toInt
  have hkr : r32 (k_planned S (xs (q + 1)).toInt) := by have := k_r_planned S (xs (q + 1)).toInt; exact ⟨by omega, by omega⟩
  have hIM := im_planned hV (xs (q + 1)).toInt
  refine g_aload_n C d_L_law_584 585 rfl rfl 3 rfl ?_
  refine g_aload_n C d_L_law_585 586 rfl rfl 4 rfl ?_
  refine g_iload C d_L_law_586 588 rfl 0 rfl ?_
  refine g_iconst C d_L_law_588 589 rfl ?_
  refine g_iadd C d_L_law_589 590 rfl ?_
  refine r_sld C hX hbl hbA d_L_law_590 591 rfl (q + 1) (by omega) (by omega) hL ?_
  refine g_aload_n C d_L_law_591 592 rfl rfl 1 rfl ?_
  refine fcW1 C (rest := []) d_L_law_592 595 rfl (t_L_planned hst9 G N (xs (q + 1)).toInt hV.1 hN (iv_of _).1) ⟨ml_L_102, sm_L_planned, ci_L⟩ w_L_planned 3 gy_L_planned rfl (cells + 2) rfl (slots + 12) rfl (gR_i (by decide) (by decide) (by show cells + 2 ≤ 665884; omega) (by show slots + 12 ≤ 7098452; omega)) rfl (Nat.le_of_ble_eq_true rfl) ?_
  refine g_istore C d_L_law_595 597 rfl [(5, iv (k_planned S (xs (q + 1)).toInt)), (4, iv ((q : Int))), (3, .ref (ad 47)), (2, .ref (ad 33)), (1, .ref (ad 0)), (0, .ref b)] (by decide) rfl ?_
  refine g_aload_n C d_L_law_597 598 rfl rfl 3 rfl ?_
  refine g_aload_n C d_L_law_598 599 rfl rfl 5 rfl ?_
  refine g_iload C d_L_law_599 601 rfl 1 rfl ?_
  refine g_iconst C d_L_law_601 602 rfl ?_
  refine g_iadd C d_L_law_602 603 rfl ?_
  refine r_sld C hX hbl hbA d_L_law_603 604 rfl (q + 1) (by omega) (by omega) hL ?_
  refine fcV1 C (rest := []) d_L_law_604 607 rfl (q_planned G (xs (q + 1)).toInt (iv_of _).1 hIM) rfl (G.1 33 (by decide)) (at_M G) ⟨ml_L_104, im_M_planned, se_M_planned, ci_M⟩ w_M_planned rfl 1 gy_M_planned rfl (cells + 2) rfl (slots + 12) rfl (gR_i (by decide) (by decide) (by show cells + 2 + 0 ≤ 665884; omega) (by show slots + 12 + 0 ≤ 7098452; omega)) rfl (Nat.le_of_ble_eq_true rfl) ?_
  refine g_istore C d_L_law_607 609 rfl [(6, iv (b_planned (w_planned S (xs (q + 1)).toInt) (xs (q + 1)).toInt)), (5, iv (k_planned S (xs (q + 1)).toInt)), (4, iv ((q : Int))), (3, .ref (ad 47)), (2, .ref (ad 33)), (1, .ref (ad 0)), (0, .ref b)] (by decide) rfl ?_
  refine g_aload_n C d_L_law_609 610 rfl rfl 4 rfl ?_
  refine fcV1 C (rest := []) d_L_law_610 613 rfl (t_M_thrown G) rfl (G.1 33 (by decide)) (at_M G) ⟨ml_L_74, im_M_thrown, se_M_thrown, ci_M⟩ w_M_thrown rfl 0 gy_M_thrown rfl (cells + 2) rfl (slots + 12) rfl (gR_i (by decide) (by decide) (by show cells + 2 + 0 ≤ 665884; omega) (by show slots + 12 + 0 ≤ 7098452; omega)) rfl (Nat.le_of_ble_eq_true rfl) ?_
  refine g_iload C d_L_law_613 615 rfl 1 rfl ?_
  refine g_icmp_eq C d_L_law_615 618 rfl (by rw [hT0]; exact hkr) hkr 620 rfl (fun _ => ?_) (fun h9 => absurd hT0 h9)
  refine g_iload C d_L_law_620 622 rfl 1 rfl ?_
  refine g_if_ne C d_L_law_622 625 rfl hkr 637 rfl (fun h9 => ?_) (fun h9 => ?_)
  · skip
    refine g_goto C d_L_law_637 874 rfl ?_
    refine g_sub [2, 3, 4, 5, 6] [(4, iv (q : Int)), (3, .ref (ad 47)), (2, .ref (ad 33)), (1, .ref (ad 0)), (0, .ref b)] rfl ?_
    exact g_widen (by omega) (by omega) (K (m_planned (w_planned S (xs (q + 1)).toInt) (xs (q + 1)).toInt) hINV)
  · skip
    have h9 : k_planned S (xs (q + 1)).toInt = 0 := h9
    obtain ⟨hv1, hv2, hv3⟩ := hval h9
    refine g_aload_n C d_L_law_625 626 rfl rfl 3 rfl ?_
    refine g_iconst C d_L_law_626 627 rfl ?_
    refine ld_47 C G d_L_law_627 628 rfl 0 (by decide) rfl ?_
    refine g_iload C d_L_law_628 630 rfl 0 rfl ?_
    refine g_i2l C d_L_law_630 631 rfl hv2 ?_
    refine g_lcmp_eq C d_L_law_631 632 rfl 635 rfl hv1 ⟨by have := hv2.1; omega, by have := hv2.2; omega⟩ 637 rfl d_L_law_632 (fun _ => ?_) (fun h8 => absurd hv3 h8)
    refine g_goto C d_L_law_637 874 rfl ?_
    refine g_sub [2, 3, 4, 5, 6] [(4, iv (q : Int)), (3, .ref (ad 47)), (2, .ref (ad 33)), (1, .ref (ad 0)), (0, .ref b)] rfl ?_
    exact g_widen (by omega) (by omega) (K (m_planned (w_planned S (xs (q + 1)).toInt) (xs (q + 1)).toInt) hINV)
set_option maxHeartbeats 4000000 in
set_option maxRecDepth 100000 in
theorem z_order (C : gC p s m args c D CL (TY cd) A c_L_law "AlloyPlansLaw" 8) (G : LO ad L) (hst9 : l.stackTraces = false) (hX : va_X b Ln xs s s.heap) (hbl : b < s.heap.size) (hbA : ¬ A b) (hL : Ln ≤ 2560) (N q : Nat) (hN : N ≤ 1000) (hV : INV N S) (hq : q + 4 < Ln) (hcs : cells ≤ 600000) (hss : slots ≤ 7000000) (K : ∀ T, INV (N + 1) T → gW p l e room_1 s m args below meth c D CL A 8 Q (cells + 2) (slots + 12) L (wd cd ad T f0) 874 [(4, iv (q : Int)), (3, .ref (ad 47)), (2, .ref (ad 33)), (1, .ref (ad 0)), (0, .ref b)] []) : gW p l e room_1 s m args below meth c D CL A 8 Q cells slots L (wd cd ad S f0) 640 [(4, iv (q : Int)), (3, .ref (ad 47)), (2, .ref (ad 33)), (1, .ref (ad 0)), (0, .ref b)] [] := by
  obtain ⟨hT0, hINV, hval⟩ := lm_order hV (xs (q + 1)).toInt
  have hkr : r32 (k_order S (xs (q + 1)).toInt) := by have := k_r_order S (xs (q + 1)).toInt; exact ⟨by omega, by omega⟩
  have hIM := im_order hV (xs (q + 1)).toInt
  refine g_aload_n C d_L_law_640 641 rfl rfl 3 rfl ?_
  refine g_aload_n C d_L_law_641 642 rfl rfl 4 rfl ?_
  refine g_iload C d_L_law_642 644 rfl 0 rfl ?_
  refine g_iconst C d_L_law_644 645 rfl ?_
  refine g_iadd C d_L_law_645 646 rfl ?_
  refine r_sld C hX hbl hbA d_L_law_646 647 rfl (q + 1) (by omega) (by omega) hL ?_
  refine g_aload_n C d_L_law_647 648 rfl rfl 1 rfl ?_
  refine fcW1 C (rest := []) d_L_law_648 651 rfl (t_L_order hst9 G N (xs (q + 1)).toInt hV.1 hN (iv_of _).1) ⟨ml_L_105, sm_L_order, ci_L⟩ w_L_order 3 gy_L_order rfl (cells + 2) rfl (slots + 12) rfl (gR_i (by decide) (by decide) (by show cells + 2 ≤ 665884; omega) (by show slots + 12 ≤ 7098452; omega)) rfl (Nat.le_of_ble_eq_true rfl) ?_
  refine g_istore C d_L_law_651 653 rfl [(5, iv (k_order S (xs (q + 1)).toInt)), (4, iv ((q : Int))), (3, .ref (ad 47)), (2, .ref (ad 33)), (1, .ref (ad 0)), (0, .ref b)] (by decide) rfl ?_
  refine g_aload_n C d_L_law_653 654 rfl rfl 3 rfl ?_
  refine g_aload_n C d_L_law_654 655 rfl rfl 5 rfl ?_
  refine g_iload C d_L_law_655 657 rfl 1 rfl ?_
  refine g_iconst C d_L_law_657 658 rfl ?_
  refine g_iadd C d_L_law_658 659 rfl ?_
  refine r_sld C hX hbl hbA d_L_law_659 660 rfl (q + 1) (by omega) (by omega) hL ?_
  refine fcV1 C (rest := []) d_L_law_660 663 rfl (q_order G (xs (q + 1)).toInt (iv_of _).1 hIM) rfl (G.1 33 (by decide)) (at_M G) ⟨ml_L_107, im_M_order, se_M_order, ci_M⟩ w_M_order rfl 1 gy_M_order rfl (cells + 2) rfl (slots + 12) rfl (gR_i (by decide) (by decide) (by show cells + 2 + 0 ≤ 665884; omega) (by show slots + 12 + 0 ≤ 7098452; omega)) rfl (Nat.le_of_ble_eq_true rfl) ?_
  refine g_istore C d_L_law_663 665 rfl [(6, iv (b_order (w_order S (xs (q + 1)).toInt) (xs (q + 1)).toInt)), (5, iv (k_order S (xs (q + 1)).toInt)), (4, iv ((q : Int))), (3, .ref (ad 47)), (2, .ref (ad 33)), (1, .ref (ad 0)), (0, .ref b)] (by decide) rfl ?_
  refine g_aload_n C d_L_law_665 666 rfl rfl 4 rfl ?_
  refine fcV1 C (rest := []) d_L_law_666 669 rfl (t_M_thrown G) rfl (G.1 33 (by decide)) (at_M G) ⟨ml_L_74, im_M_thrown, se_M_thrown, ci_M⟩ w_M_thrown rfl 0 gy_M_thrown rfl (cells + 2) rfl (slots + 12) rfl (gR_i (by decide) (by decide) (by show cells + 2 + 0 ≤ 665884; omega) (by show slots + 12 + 0 ≤ 7098452; omega)) rfl (Nat.le_of_ble_eq_true rfl) ?_
  refine g_iload C d_L_law_669 671 rfl 1 rfl ?_
  refine g_icmp_eq C d_L_law_671 674 rfl (by rw [hT0]; exact hkr) hkr 676 rfl (fun _ => ?_) (fun h9 => absurd hT0 h9)
  refine g_iload C d_L_law_676 678 rfl 1 rfl ?_
  refine g_if_ne C d_L_law_678 681 rfl hkr 693 rfl (fun h9 => ?_) (fun h9 => ?_)
  · skip
    refine g_goto C d_L_law_693 874 rfl ?_
    refine g_sub [2, 3, 4, 5, 6] [(4, iv (q : Int)), (3, .ref (ad 47)), (2, .ref (ad 33)), (1, .ref (ad 0)), (0, .ref b)] rfl ?_
    exact g_widen (by omega) (by omega) (K (m_order (w_order S (xs (q + 1)).toInt) (xs (q + 1)).toInt) hINV)
  · skip
    have h9 : k_order S (xs (q + 1)).toInt = 0 := h9
    obtain ⟨hv1, hv2, hv3⟩ := hval h9
    refine g_aload_n C d_L_law_681 682 rfl rfl 3 rfl ?_
    refine g_iconst C d_L_law_682 683 rfl ?_
    refine ld_47 C G d_L_law_683 684 rfl 0 (by decide) rfl ?_
    refine g_iload C d_L_law_684 686 rfl 0 rfl ?_
    refine g_i2l C d_L_law_686 687 rfl hv2 ?_
    refine g_lcmp_eq C d_L_law_687 688 rfl 691 rfl hv1 ⟨by have := hv2.1; omega, by have := hv2.2; omega⟩ 693 rfl d_L_law_688 (fun _ => ?_) (fun h8 => absurd hv3 h8)
    refine g_goto C d_L_law_693 874 rfl ?_
    refine g_sub [2, 3, 4, 5, 6] [(4, iv (q : Int)), (3, .ref (ad 47)), (2, .ref (ad 33)), (1, .ref (ad 0)), (0, .ref b)] rfl ?_
    exact g_widen (by omega) (by omega) (K (m_order (w_order S (xs (q + 1)).toInt) (xs (q + 1)).toInt) hINV)
set_option maxHeartbeats 4000000 in
set_option maxRecDepth 100000 in
theorem z_after (C : gC p s m args c D CL (TY cd) A c_L_law "AlloyPlansLaw" 8) (G : LO ad L) (hst9 : l.stackTraces = false) (hX : va_X b Ln xs s s.heap) (hbl : b < s.heap.size) (hbA : ¬ A b) (hL : Ln ≤ 2560) (N q : Nat) (hN : N ≤ 1000) (hV : INV N S) (hq : q + 4 < Ln) (hcs : cells ≤ 600000) (hss : slots ≤ 7000000) (K : ∀ T, INV (N + 1) T → gW p l e room_1 s m args below meth c D CL A 8 Q (cells + 2) (slots + 12) L (wd cd ad T f0) 874 [(4, iv (q : Int)), (3, .ref (ad 47)), (2, .ref (ad 33)), (1, .ref (ad 0)), (0, .ref b)] []) : gW p l e room_1 s m args below meth c D CL A 8 Q cells slots L (wd cd ad S f0) 696 [(4, iv (q : Int)), (3, .ref (ad 47)), (2, .ref (ad 33)), (1, .ref (ad 0)), (0, .ref b)] [] := by
  obtain ⟨hT0, hINV, hval⟩ := lm_after hV (xs (q + 1)).toInt (xs (q + 2)).toInt (xs (q + 3)).toInt
  have hkr : r32 (k_after S (xs (q + 1)).toInt (xs (q + 2)).toInt (xs (q + 3)).toInt) := by have := k_r_after S (xs (q + 1)).toInt (xs (q + 2)).toInt (xs (q + 3)).toInt; exact ⟨by omega, by omega⟩
  have hIM := im_after hV (xs (q + 1)).toInt (xs (q + 2)).toInt (xs (q + 3)).toInt
  refine g_aload_n C d_L_law_696 697 rfl rfl 3 rfl ?_
  refine g_aload_n C d_L_law_697 698 rfl rfl 4 rfl ?_
  refine g_iload C d_L_law_698 700 rfl 0 rfl ?_
  refine g_iconst C d_L_law_700 701 rfl ?_
  refine g_iadd C d_L_law_701 702 rfl ?_
  refine r_sld C hX hbl hbA d_L_law_702 703 rfl (q + 1) (by omega) (by omega) hL ?_
  refine g_aload_n C d_L_law_703 704 rfl rfl 4 rfl ?_
  refine g_iload C d_L_law_704 706 rfl 0 rfl ?_
  refine g_iconst C d_L_law_706 707 rfl ?_
  refine g_iadd C d_L_law_707 708 rfl ?_
  refine r_sld C hX hbl hbA d_L_law_708 709 rfl (q + 2) (by omega) (by omega) hL ?_
  refine g_aload_n C d_L_law_709 710 rfl rfl 4 rfl ?_
  refine g_iload C d_L_law_710 712 rfl 0 rfl ?_
  refine g_iconst C d_L_law_712 713 rfl ?_
  refine g_iadd C d_L_law_713 714 rfl ?_
  refine r_sld C hX hbl hbA d_L_law_714 715 rfl (q + 3) (by omega) (by omega) hL ?_
  refine g_aload_n C d_L_law_715 716 rfl rfl 1 rfl ?_
  refine fcW1 C (rest := []) d_L_law_716 719 rfl (t_L_after hst9 G N (xs (q + 1)).toInt (xs (q + 2)).toInt (xs (q + 3)).toInt hV.1 hN (iv_of _).1 (iv_of _).1 (iv_of _).1) ⟨ml_L_108, sm_L_after, ci_L⟩ w_L_after 5 gy_L_after rfl (cells + 2) rfl (slots + 12) rfl (gR_i (by decide) (by decide) (by show cells + 2 ≤ 665884; omega) (by show slots + 12 ≤ 7098452; omega)) rfl (Nat.le_of_ble_eq_true rfl) ?_
  refine g_istore C d_L_law_719 721 rfl [(5, iv (k_after S (xs (q + 1)).toInt (xs (q + 2)).toInt (xs (q + 3)).toInt)), (4, iv ((q : Int))), (3, .ref (ad 47)), (2, .ref (ad 33)), (1, .ref (ad 0)), (0, .ref b)] (by decide) rfl ?_
  refine g_aload_n C d_L_law_721 722 rfl rfl 3 rfl ?_
  refine g_aload_n C d_L_law_722 723 rfl rfl 5 rfl ?_
  refine g_iload C d_L_law_723 725 rfl 1 rfl ?_
  refine g_iconst C d_L_law_725 726 rfl ?_
  refine g_iadd C d_L_law_726 727 rfl ?_
  refine r_sld C hX hbl hbA d_L_law_727 728 rfl (q + 1) (by omega) (by omega) hL ?_
  refine g_aload_n C d_L_law_728 729 rfl rfl 5 rfl ?_
  refine g_iload C d_L_law_729 731 rfl 1 rfl ?_
  refine g_iconst C d_L_law_731 732 rfl ?_
  refine g_iadd C d_L_law_732 733 rfl ?_
  refine r_sld C hX hbl hbA d_L_law_733 734 rfl (q + 2) (by omega) (by omega) hL ?_
  refine g_aload_n C d_L_law_734 735 rfl rfl 5 rfl ?_
  refine g_iload C d_L_law_735 737 rfl 1 rfl ?_
  refine g_iconst C d_L_law_737 738 rfl ?_
  refine g_iadd C d_L_law_738 739 rfl ?_
  refine r_sld C hX hbl hbA d_L_law_739 740 rfl (q + 3) (by omega) (by omega) hL ?_
  refine fcV1 C (rest := []) d_L_law_740 743 rfl (q_after G (xs (q + 1)).toInt (xs (q + 2)).toInt (xs (q + 3)).toInt (iv_of _).1 (iv_of _).1 (iv_of _).1 hIM) rfl (G.1 33 (by decide)) (at_M G) ⟨ml_L_110, im_M_after, se_M_after, ci_M⟩ w_M_after rfl 3 gy_M_after rfl (cells + 2) rfl (slots + 12) rfl (gR_i (by decide) (by decide) (by show cells + 2 + 0 ≤ 665884; omega) (by show slots + 12 + 0 ≤ 7098452; omega)) rfl (Nat.le_of_ble_eq_true rfl) ?_
  refine g_lstore C d_L_law_743 745 rfl [(6, jv (b_after (w_after S (xs (q + 1)).toInt (xs (q + 2)).toInt (xs (q + 3)).toInt) (xs (q + 1)).toInt (xs (q + 2)).toInt (xs (q + 3)).toInt)), (5, iv (k_after S (xs (q + 1)).toInt (xs (q + 2)).toInt (xs (q + 3)).toInt)), (4, iv ((q : Int))), (3, .ref (ad 47)), (2, .ref (ad 33)), (1, .ref (ad 0)), (0, .ref b)] (by decide) rfl ?_
  refine g_aload_n C d_L_law_745 746 rfl rfl 4 rfl ?_
  refine fcV1 C (rest := []) d_L_law_746 749 rfl (t_M_thrown G) rfl (G.1 33 (by decide)) (at_M G) ⟨ml_L_74, im_M_thrown, se_M_thrown, ci_M⟩ w_M_thrown rfl 0 gy_M_thrown rfl (cells + 2) rfl (slots + 12) rfl (gR_i (by decide) (by decide) (by show cells + 2 + 0 ≤ 665884; omega) (by show slots + 12 + 0 ≤ 7098452; omega)) rfl (Nat.le_of_ble_eq_true rfl) ?_
  refine g_iload C d_L_law_749 751 rfl 1 rfl ?_
  refine g_icmp_eq C d_L_law_751 754 rfl (by rw [hT0]; exact hkr) hkr 756 rfl (fun _ => ?_) (fun h9 => absurd hT0 h9)
  refine g_iload C d_L_law_756 758 rfl 1 rfl ?_
  refine g_if_ne C d_L_law_758 761 rfl hkr 772 rfl (fun h9 => ?_) (fun h9 => ?_)
  · skip
    refine g_goto C d_L_law_772 874 rfl ?_
    refine g_sub [2, 3, 4, 5, 6] [(4, iv (q : Int)), (3, .ref (ad 47)), (2, .ref (ad 33)), (1, .ref (ad 0)), (0, .ref b)] rfl ?_
    exact g_widen (by omega) (by omega) (K (m_after (w_after S (xs (q + 1)).toInt (xs (q + 2)).toInt (xs (q + 3)).toInt) (xs (q + 1)).toInt (xs (q + 2)).toInt (xs (q + 3)).toInt) hINV)
  · skip
    have h9 : k_after S (xs (q + 1)).toInt (xs (q + 2)).toInt (xs (q + 3)).toInt = 0 := h9
    obtain ⟨hv1, hv2, hv3⟩ := hval h9
    refine g_aload_n C d_L_law_761 762 rfl rfl 3 rfl ?_
    refine g_iconst C d_L_law_762 763 rfl ?_
    refine ld_47 C G d_L_law_763 764 rfl 0 (by decide) rfl ?_
    refine g_lload C d_L_law_764 766 rfl 0 rfl ?_
    refine g_lcmp_eq C d_L_law_766 767 rfl 770 rfl hv1 hv2 772 rfl d_L_law_767 (fun _ => ?_) (fun h8 => absurd hv3 h8)
    refine g_goto C d_L_law_772 874 rfl ?_
    refine g_sub [2, 3, 4, 5, 6] [(4, iv (q : Int)), (3, .ref (ad 47)), (2, .ref (ad 33)), (1, .ref (ad 0)), (0, .ref b)] rfl ?_
    exact g_widen (by omega) (by omega) (K (m_after (w_after S (xs (q + 1)).toInt (xs (q + 2)).toInt (xs (q + 3)).toInt) (xs (q + 1)).toInt (xs (q + 2)).toInt (xs (q + 3)).toInt) hINV)
set_option maxHeartbeats 4000000 in
set_option maxRecDepth 100000 in
theorem z_add (C : gC p s m args c D CL (TY cd) A c_L_law "AlloyPlansLaw" 8) (G : LO ad L) (hst9 : l.stackTraces = false) (hX : va_X b Ln xs s s.heap) (hbl : b < s.heap.size) (hbA : ¬ A b) (hL : Ln ≤ 2560) (N q : Nat) (hN : N ≤ 1000) (hV : INV N S) (hq : q + 4 < Ln) (hcs : cells ≤ 600000) (hss : slots ≤ 7000000) (K : ∀ T, INV (N + 1) T → gW p l e room_1 s m args below meth c D CL A 8 Q (cells + 2) (slots + 12) L (wd cd ad T f0) 874 [(4, iv (q : Int)), (3, .ref (ad 47)), (2, .ref (ad 33)), (1, .ref (ad 0)), (0, .ref b)] []) : gW p l e room_1 s m args below meth c D CL A 8 Q cells slots L (wd cd ad S f0) 775 [(4, iv (q : Int)), (3, .ref (ad 47)), (2, .ref (ad 33)), (1, .ref (ad 0)), (0, .ref b)] [] := by
  obtain ⟨hT0, hINV, hval⟩ := lm_add hN hV
  have hkr : r32 (k_add S) := by have := k_r_add S; exact ⟨by omega, by omega⟩
  have hIM := im_add hV
  refine g_aload_n C d_L_law_775 776 rfl rfl 3 rfl ?_
  refine g_aload_n C d_L_law_776 777 rfl rfl 1 rfl ?_
  refine fcW1 C (rest := []) d_L_law_777 780 rfl (t_L_add hst9 G N hV.1 hN) ⟨ml_L_111, sm_L_add, ci_L⟩ w_L_add 2 gy_L_add rfl (cells + 2) rfl (slots + 12) rfl (gR_i (by decide) (by decide) (by show cells + 2 ≤ 665884; omega) (by show slots + 12 ≤ 7098452; omega)) rfl (Nat.le_of_ble_eq_true rfl) ?_
  refine g_istore C d_L_law_780 782 rfl [(5, iv (k_add S)), (4, iv ((q : Int))), (3, .ref (ad 47)), (2, .ref (ad 33)), (1, .ref (ad 0)), (0, .ref b)] (by decide) rfl ?_
  refine g_aload_n C d_L_law_782 783 rfl rfl 3 rfl ?_
  refine fcV1 C (rest := []) d_L_law_783 786 rfl (q_add G hIM) rfl (G.1 33 (by decide)) (at_M G) ⟨ml_L_114, im_M_add, se_M_add, ci_M⟩ w_M_add rfl 0 gy_M_add rfl (cells + 2) rfl (slots + 12) rfl (gR_i (by decide) (by decide) (by show cells + 2 + 0 ≤ 665884; omega) (by show slots + 12 + 0 ≤ 7098452; omega)) rfl (Nat.le_of_ble_eq_true rfl) ?_
  refine g_istore C d_L_law_786 788 rfl [(6, iv (b_add (w_add S))), (5, iv (k_add S)), (4, iv ((q : Int))), (3, .ref (ad 47)), (2, .ref (ad 33)), (1, .ref (ad 0)), (0, .ref b)] (by decide) rfl ?_
  refine g_aload_n C d_L_law_788 789 rfl rfl 4 rfl ?_
  refine fcV1 C (rest := []) d_L_law_789 792 rfl (t_M_thrown G) rfl (G.1 33 (by decide)) (at_M G) ⟨ml_L_74, im_M_thrown, se_M_thrown, ci_M⟩ w_M_thrown rfl 0 gy_M_thrown rfl (cells + 2) rfl (slots + 12) rfl (gR_i (by decide) (by decide) (by show cells + 2 + 0 ≤ 665884; omega) (by show slots + 12 + 0 ≤ 7098452; omega)) rfl (Nat.le_of_ble_eq_true rfl) ?_
  refine g_iload C d_L_law_792 794 rfl 1 rfl ?_
  refine g_icmp_eq C d_L_law_794 797 rfl (by rw [hT0]; exact hkr) hkr 799 rfl (fun _ => ?_) (fun h9 => absurd hT0 h9)
  refine g_iload C d_L_law_799 801 rfl 1 rfl ?_
  refine g_if_ne C d_L_law_801 804 rfl hkr 816 rfl (fun h9 => ?_) (fun h9 => ?_)
  · skip
    refine g_goto C d_L_law_816 874 rfl ?_
    refine g_sub [2, 3, 4, 5, 6] [(4, iv (q : Int)), (3, .ref (ad 47)), (2, .ref (ad 33)), (1, .ref (ad 0)), (0, .ref b)] rfl ?_
    exact g_widen (by omega) (by omega) (K (m_add (w_add S)) hINV)
  · skip
    have h9 : k_add S = 0 := h9
    obtain ⟨hv1, hv2, hv3⟩ := hval h9
    refine g_aload_n C d_L_law_804 805 rfl rfl 3 rfl ?_
    refine g_iconst C d_L_law_805 806 rfl ?_
    refine ld_47 C G d_L_law_806 807 rfl 0 (by decide) rfl ?_
    refine g_iload C d_L_law_807 809 rfl 0 rfl ?_
    refine g_i2l C d_L_law_809 810 rfl hv2 ?_
    refine g_lcmp_eq C d_L_law_810 811 rfl 814 rfl hv1 ⟨by have := hv2.1; omega, by have := hv2.2; omega⟩ 816 rfl d_L_law_811 (fun _ => ?_) (fun h8 => absurd hv3 h8)
    refine g_goto C d_L_law_816 874 rfl ?_
    refine g_sub [2, 3, 4, 5, 6] [(4, iv (q : Int)), (3, .ref (ad 47)), (2, .ref (ad 33)), (1, .ref (ad 0)), (0, .ref b)] rfl ?_
    exact g_widen (by omega) (by omega) (K (m_add (w_add S)) hINV)
set_option maxHeartbeats 4000000 in
set_option maxRecDepth 100000 in
theorem z_heatAt (C : gC p s m args c D CL (TY cd) A c_L_law "AlloyPlansLaw" 8) (G : LO ad L) (hst9 : l.stackTraces = false) (hX : va_X b Ln xs s s.heap) (hbl : b < s.heap.size) (hbA : ¬ A b) (hL : Ln ≤ 2560) (N q : Nat) (hN : N ≤ 1000) (hV : INV N S) (hq : q + 4 < Ln) (hcs : cells ≤ 600000) (hss : slots ≤ 7000000) (K : ∀ T, INV (N + 1) T → gW p l e room_1 s m args below meth c D CL A 8 Q (cells + 2) (slots + 12) L (wd cd ad T f0) 874 [(4, iv (q : Int)), (3, .ref (ad 47)), (2, .ref (ad 33)), (1, .ref (ad 0)), (0, .ref b)] []) : gW p l e room_1 s m args below meth c D CL A 8 Q cells slots L (wd cd ad S f0) 819 [(4, iv (q : Int)), (3, .ref (ad 47)), (2, .ref (ad 33)), (1, .ref (ad 0)), (0, .ref b)] [] := by
  obtain ⟨hT0, hINV, hval⟩ := lm_heatAt hN hV (xs (q + 1)).toInt
  have hkr : r32 (k_heatAt S (xs (q + 1)).toInt) := by have := k_r_heatAt S (xs (q + 1)).toInt; exact ⟨by omega, by omega⟩
  have hIM := im_heatAt hV (xs (q + 1)).toInt
  refine g_aload_n C d_L_law_819 820 rfl rfl 3 rfl ?_
  refine g_aload_n C d_L_law_820 821 rfl rfl 4 rfl ?_
  refine g_iload C d_L_law_821 823 rfl 0 rfl ?_
  refine g_iconst C d_L_law_823 824 rfl ?_
  refine g_iadd C d_L_law_824 825 rfl ?_
  refine r_sld C hX hbl hbA d_L_law_825 826 rfl (q + 1) (by omega) (by omega) hL ?_
  refine g_aload_n C d_L_law_826 827 rfl rfl 1 rfl ?_
  refine fcW1 C (rest := []) d_L_law_827 830 rfl (t_L_heatAt hst9 G N (xs (q + 1)).toInt hV.1 hN (iv_of _).1) ⟨ml_L_115, sm_L_heatAt, ci_L⟩ w_L_heatAt 3 gy_L_heatAt rfl (cells + 1) rfl (slots + 6) rfl (gR_i (by decide) (by decide) (by show cells + 1 ≤ 665884; omega) (by show slots + 6 ≤ 7098452; omega)) rfl (Nat.le_of_ble_eq_true rfl) ?_
  refine g_istore C d_L_law_830 832 rfl [(5, iv (k_heatAt S (xs (q + 1)).toInt)), (4, iv ((q : Int))), (3, .ref (ad 47)), (2, .ref (ad 33)), (1, .ref (ad 0)), (0, .ref b)] (by decide) rfl ?_
  refine g_aload_n C d_L_law_832 833 rfl rfl 3 rfl ?_
  refine g_aload_n C d_L_law_833 834 rfl rfl 5 rfl ?_
  refine g_iload C d_L_law_834 836 rfl 1 rfl ?_
  refine g_iconst C d_L_law_836 837 rfl ?_
  refine g_iadd C d_L_law_837 838 rfl ?_
  refine r_sld C hX hbl hbA d_L_law_838 839 rfl (q + 1) (by omega) (by omega) hL ?_
  refine fcV1 C (rest := []) d_L_law_839 842 rfl (q_heatAt G (xs (q + 1)).toInt (iv_of _).1 hIM) rfl (G.1 33 (by decide)) (at_M G) ⟨ml_L_117, im_M_heatAt, se_M_heatAt, ci_M⟩ w_M_heatAt rfl 1 gy_M_heatAt rfl (cells + 1) rfl (slots + 6) rfl (gR_i (by decide) (by decide) (by show cells + 1 + 0 ≤ 665884; omega) (by show slots + 6 + 0 ≤ 7098452; omega)) rfl (Nat.le_of_ble_eq_true rfl) ?_
  refine g_lstore C d_L_law_842 844 rfl [(6, jv (b_heatAt (w_heatAt S (xs (q + 1)).toInt) (xs (q + 1)).toInt)), (5, iv (k_heatAt S (xs (q + 1)).toInt)), (4, iv ((q : Int))), (3, .ref (ad 47)), (2, .ref (ad 33)), (1, .ref (ad 0)), (0, .ref b)] (by decide) rfl ?_
  refine g_aload_n C d_L_law_844 845 rfl rfl 4 rfl ?_
  refine fcV1 C (rest := []) d_L_law_845 848 rfl (t_M_thrown G) rfl (G.1 33 (by decide)) (at_M G) ⟨ml_L_74, im_M_thrown, se_M_thrown, ci_M⟩ w_M_thrown rfl 0 gy_M_thrown rfl (cells + 1) rfl (slots + 6) rfl (gR_i (by decide) (by decide) (by show cells + 1 + 0 ≤ 665884; omega) (by show slots + 6 + 0 ≤ 7098452; omega)) rfl (Nat.le_of_ble_eq_true rfl) ?_
  refine g_iload C d_L_law_848 850 rfl 1 rfl ?_
  refine g_icmp_eq C d_L_law_850 853 rfl (by rw [hT0]; exact hkr) hkr 855 rfl (fun _ => ?_) (fun h9 => absurd hT0 h9)
  refine g_iload C d_L_law_855 857 rfl 1 rfl ?_
  refine g_if_ne C d_L_law_857 860 rfl hkr 871 rfl (fun h9 => ?_) (fun h9 => ?_)
  · skip
    refine g_goto C d_L_law_871 874 rfl ?_
    refine g_sub [2, 3, 4, 5, 6] [(4, iv (q : Int)), (3, .ref (ad 47)), (2, .ref (ad 33)), (1, .ref (ad 0)), (0, .ref b)] rfl ?_
    exact g_widen (by omega) (by omega) (K (m_heatAt (w_heatAt S (xs (q + 1)).toInt) (xs (q + 1)).toInt) hINV)
  · skip
    have h9 : k_heatAt S (xs (q + 1)).toInt = 0 := h9
    obtain ⟨hv1, hv2, hv3⟩ := hval h9
    refine g_aload_n C d_L_law_860 861 rfl rfl 3 rfl ?_
    refine g_iconst C d_L_law_861 862 rfl ?_
    refine ld_47 C G d_L_law_862 863 rfl 0 (by decide) rfl ?_
    refine g_lload C d_L_law_863 865 rfl 0 rfl ?_
    refine g_lcmp_eq C d_L_law_865 866 rfl 869 rfl hv1 hv2 871 rfl d_L_law_866 (fun _ => ?_) (fun h8 => absurd hv3 h8)
    refine g_goto C d_L_law_871 874 rfl ?_
    refine g_sub [2, 3, 4, 5, 6] [(4, iv (q : Int)), (3, .ref (ad 47)), (2, .ref (ad 33)), (1, .ref (ad 0)), (0, .ref b)] rfl ?_
    exact g_widen (by omega) (by omega) (K (m_heatAt (w_heatAt S (xs (q + 1)).toInt) (xs (q + 1)).toInt) hINV)
end M18c
