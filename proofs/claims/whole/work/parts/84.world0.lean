section W0
set_option maxHeartbeats 8000000 in
set_option maxRecDepth 100000 in
theorem world0 {cd : Nat → ClassId} {f : Nat → va_E} {a q0 q1 q2 q3 q4 q5 q6 q7 q8 q9 q10 q11 q12 q13 q14 q15 q16 q17 q18 q19 q20 q21 q22 q23 q24 q25 q26 q27 q28 q29 q30 q31 mm r0 r1 r2 r3 r4 r5 r6 r7 r8 r9 r10 r11 r12 oo : Nat} (h : [a, q0, q1, q2, q3, q4, q5, q6, q7, q8, q9, q10, q11, q12, q13, q14, q15, q16, q17, q18, q19, q20, q21, q22, q23, q24, q25, q26, q27, q28, q29, q30, q31, mm, r0, r1, r2, r3, r4, r5, r6, r7, r8, r9, r10, r11, r12, oo].map f = [.inr (5, [.ref q0, .ref q3, .ref q16, .ref q18, iv 0]), .inr (1, [iv 1, iv 0, jv 0, .ref q1, .ref q2]), ia (cd 0) 8 (fun _ => 0), ia (cd 0) 8 (updI (updI (updI (updI (updI (updI (updI (updI (fun _ => 0) 0 0) 1 100000) 2 0) 3 100000) 4 0) 5 100000) 6 0) 7 100000), qa (cd 2) 4 (va_up (va_up (va_up (va_up (fun _ => none) 0 (some q4)) 1 (some q7)) 2 (some q10)) 3 (some q13)), .inr (0, [iv 0, iv 1, iv 0, iv 1000, iv 0, .ref q5, .ref q6]), ia (cd 0) 8 (fun _ => 0), ja (cd 1) 8 (fun _ => 0), .inr (0, [iv 0, iv 1, iv 0, iv 1000, iv 0, .ref q8, .ref q9]), ia (cd 0) 8 (fun _ => 0), ja (cd 1) 8 (fun _ => 0), .inr (0, [iv 0, iv 1, iv 0, iv 1000, iv 0, .ref q11, .ref q12]), ia (cd 0) 8 (fun _ => 0), ja (cd 1) 8 (fun _ => 0), .inr (0, [iv 0, iv 1, iv 0, iv 1000, iv 0, .ref q14, .ref q15]), ia (cd 0) 8 (fun _ => 0), ja (cd 1) 8 (fun _ => 0), .inr (3, [iv 0, iv 0, iv 0, iv 0, iv 0, .ref q17]), ia (cd 0) 4 (fun _ => 0), .inr (4, [iv 0, iv 0, .ref q19, iv 0, iv 0, .ref q20, .ref q21]), ia (cd 0) 4 (fun _ => 0), ia (cd 0) 4 (fun _ => 0), qa (cd 3) 5 (va_up (va_up (va_up (va_up (va_up (fun _ => none) 0 (some q22)) 1 (some q24)) 2 (some q26)) 3 (some q28)) 4 (some q30)), .inr (2, [iv 0, iv 0, iv 0, .ref q23]), ja (cd 1) 8 (fun _ => 0), .inr (2, [iv 0, iv 0, iv 0, .ref q25]), ja (cd 1) 8 (fun _ => 0), .inr (2, [iv 0, iv 0, iv 0, .ref q27]), ja (cd 1) 8 (fun _ => 0), .inr (2, [iv 0, iv 0, iv 0, .ref q29]), ja (cd 1) 8 (fun _ => 0), .inr (2, [iv 0, iv 0, iv 0, .ref q31]), ja (cd 1) 8 (fun _ => 0), .inr (6, [iv 0, iv 1, .ref r0, .ref r1, .ref r2, .ref r3, iv 0, .ref r4, .ref r5, .ref r6, .ref r7, .ref r8, .ref r9, .ref r10, iv 0, .ref r11, .ref r12, iv 0, jv 0]), ia (cd 0) 4 (fun _ => 0), ia (cd 0) 4 (fun _ => 0), ia (cd 0) 4 (fun _ => 0), ia (cd 0) 4 (updI (updI (updI (updI (fun _ => 0) 0 100000) 1 100000) 2 100000) 3 100000), ia (cd 0) 4 (fun _ => 0), ia (cd 0) 4 (fun _ => 0), ia (cd 0) 4 (fun _ => 0), ia (cd 0) 16 (fun _ => 0), ia (cd 0) 16 (fun _ => 0), ia (cd 0) 4 (fun _ => 0), ia (cd 0) 4 (fun _ => 0), ia (cd 0) 4 (fun _ => 0), ia (cd 0) 4 (fun _ => 0), ja (cd 1) 1 (fun _ => 0)]) : ∀ k, k < 48 → EQc (f (adL [a, q0, q1, q2, q3, q4, q5, q6, q7, q8, q9, q10, q11, q12, q13, q14, q15, q16, q17, q18, q19, q20, q21, q22, q23, q24, q25, q26, q27, q28, q29, q30, q31, mm, r0, r1, r2, r3, r4, r5, r6, r7, r8, r9, r10, r11, r12, oo] k)) (mkr cd (adL [a, q0, q1, q2, q3, q4, q5, q6, q7, q8, q9, q10, q11, q12, q13, q14, q15, q16, q17, q18, q19, q20, q21, q22, q23, q24, q25, q26, q27, q28, q29, q30, q31, mm, r0, r1, r2, r3, r4, r5, r6, r7, r8, r9, r10, r11, r12, oo]) k (S0 k)) := by
  simp only [List.map_cons, List.map_nil, List.cons.injEq, and_true] at h
  obtain ⟨e0, e1, e2, e3, e4, e5, e6, e7, e8, e9, e10, e11, e12, e13, e14, e15, e16, e17, e18, e19, e20, e21, e22, e23, e24, e25, e26, e27, e28, e29, e30, e31, e32, e33, e34, e35, e36, e37, e38, e39, e40, e41, e42, e43, e44, e45, e46, e47⟩ := h
  intro k hk
  rcases (show k = 0 ∨ k = 1 ∨ k = 2 ∨ k = 3 ∨ k = 4 ∨ k = 5 ∨ k = 6 ∨ k = 7 ∨ k = 8 ∨ k = 9 ∨ k = 10 ∨ k = 11 ∨ k = 12 ∨ k = 13 ∨ k = 14 ∨ k = 15 ∨ k = 16 ∨ k = 17 ∨ k = 18 ∨ k = 19 ∨ k = 20 ∨ k = 21 ∨ k = 22 ∨ k = 23 ∨ k = 24 ∨ k = 25 ∨ k = 26 ∨ k = 27 ∨ k = 28 ∨ k = 29 ∨ k = 30 ∨ k = 31 ∨ k = 32 ∨ k = 33 ∨ k = 34 ∨ k = 35 ∨ k = 36 ∨ k = 37 ∨ k = 38 ∨ k = 39 ∨ k = 40 ∨ k = 41 ∨ k = 42 ∨ k = 43 ∨ k = 44 ∨ k = 45 ∨ k = 46 ∨ k = 47 by omega) with rfl | rfl | rfl | rfl | rfl | rfl | rfl | rfl | rfl | rfl | rfl | rfl | rfl | rfl | rfl | rfl | rfl | rfl | rfl | rfl | rfl | rfl | rfl | rfl | rfl | rfl | rfl | rfl | rfl | rfl | rfl | rfl | rfl | rfl | rfl | rfl | rfl | rfl | rfl | rfl | rfl | rfl | rfl | rfl | rfl | rfl | rfl | rfl
  · exact Or.inl e0
  · exact Or.inl e1
  · exact Or.inl e2
  · exact Or.inl e3
  · refine Or.inr ⟨cd 2, 4, _, fun i => some (adL [a, q0, q1, q2, q3, q4, q5, q6, q7, q8, q9, q10, q11, q12, q13, q14, q15, q16, q17, q18, q19, q20, q21, q22, q23, q24, q25, q26, q27, q28, q29, q30, q31, mm, r0, r1, r2, r3, r4, r5, r6, r7, r8, r9, r10, r11, r12, oo] (11 + i)), e4, rfl, fun j hj => ?_⟩
    rcases (show j = 0 ∨ j = 1 ∨ j = 2 ∨ j = 3 by omega) with rfl | rfl | rfl | rfl <;> rfl
  · exact Or.inl e17
  · exact Or.inl e18
  · exact Or.inl e19
  · exact Or.inl e20
  · exact Or.inl e21
  · refine Or.inr ⟨cd 3, 5, _, fun i => some (adL [a, q0, q1, q2, q3, q4, q5, q6, q7, q8, q9, q10, q11, q12, q13, q14, q15, q16, q17, q18, q19, q20, q21, q22, q23, q24, q25, q26, q27, q28, q29, q30, q31, mm, r0, r1, r2, r3, r4, r5, r6, r7, r8, r9, r10, r11, r12, oo] (23 + i)), e22, rfl, fun j hj => ?_⟩
    rcases (show j = 0 ∨ j = 1 ∨ j = 2 ∨ j = 3 ∨ j = 4 by omega) with rfl | rfl | rfl | rfl | rfl <;> rfl
  · exact Or.inl e5
  · exact Or.inl e8
  · exact Or.inl e11
  · exact Or.inl e14
  · exact Or.inl e6
  · exact Or.inl e9
  · exact Or.inl e12
  · exact Or.inl e15
  · exact Or.inl e7
  · exact Or.inl e10
  · exact Or.inl e13
  · exact Or.inl e16
  · exact Or.inl e23
  · exact Or.inl e25
  · exact Or.inl e27
  · exact Or.inl e29
  · exact Or.inl e31
  · exact Or.inl e24
  · exact Or.inl e26
  · exact Or.inl e28
  · exact Or.inl e30
  · exact Or.inl e32
  · exact Or.inl e33
  · exact Or.inl e34
  · exact Or.inl e35
  · exact Or.inl e36
  · exact Or.inl e37
  · exact Or.inl e38
  · exact Or.inl e39
  · exact Or.inl e40
  · exact Or.inl e41
  · exact Or.inl e42
  · exact Or.inl e43
  · exact Or.inl e44
  · exact Or.inl e45
  · exact Or.inl e46
  · exact Or.inl e47
end W0
