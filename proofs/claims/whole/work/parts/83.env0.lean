section M20
set_option maxHeartbeats 4000000 in
set_option maxRecDepth 100000 in
theorem law_env {s : State} {b : Nat} (hts : ∀ w ∈ lw_tbl, w.before #[Value.ref b] s = true) (hgv : (Jvm.Cond.and given_1 narrow_1).before #[Value.ref b] s = true) : ∃ (D : va_G) (cd : Nat → ClassId), gE D CL (TY cd) (fun q : Nat => s.heap.size ≤ q) s := by
  have ht : ∀ (w : Cond) (i : Nat), tables_1[i]? = some w → w.before #[Value.ref b] s = true := fun w i h => hts _ (List.mem_append_right _ (List.mem_of_getElem? h))
  have hs := flat_of_before _ hgv
  obtain ⟨c0, i0, k0⟩ := u_known (C := RX0) (T := TX0) (N := 7) (n := 7) (ws := TB) (tb_at hts) in_A (tb_at hts _ cm_A)
  obtain ⟨c1, i1, k1⟩ := u_known (C := RX1) (T := TX1) (N := 5) (n := 5) (ws := TB) (tb_at hts) in_E (tb_at hts _ cm_E)
  obtain ⟨c2, i2, k2⟩ := u_known (C := RX2) (T := TX2) (N := 4) (n := 4) (ws := TB) (tb_at hts) in_X (tb_at hts _ cm_X)
  obtain ⟨c3, i3, k3⟩ := u_known (C := RX3) (T := TX3) (N := 6) (n := 6) (ws := TB) (tb_at hts) in_N (tb_at hts _ cm_N)
  obtain ⟨c4, i4, k4⟩ := u_known (C := RX4) (T := TX4) (N := 7) (n := 7) (ws := TB) (tb_at hts) in_S (tb_at hts _ cm_S)
  obtain ⟨c5, i5, k5⟩ := u_known (C := RX5) (T := TX5) (N := 5) (n := 5) (ws := TB) (tb_at hts) in_P (tb_at hts _ cm_P)
  obtain ⟨c6, i6, k6⟩ := u_known (C := RX6) (T := TX6) (N := 19) (n := 19) (ws := TB) (tb_at hts) in_M (tb_at hts _ cm_M)
  obtain ⟨cI, kI, pI, fI, gI, hI⟩ := Cond.arrayClass_spec (tb_at hts _ ac_int)
  obtain ⟨cJ, kJ, pJ, fJ, gJ, hJ⟩ := Cond.arrayClass_spec (tb_at hts _ ac_long)
  have oA := ht (.arrayOver (.object "AlloyPlans$Alloy")) 57 (by decide +kernel)
  have oX := ht (.arrayOver (.object "AlloyPlans$Mix")) 133 (by decide +kernel)
  obtain ⟨pA, cA, kA, fA, -, gA9, hA, nA⟩ := Cond.arrayOver_spec oA
  obtain ⟨pX, cX, kX, fX, -, gX, hX, nX⟩ := Cond.arrayOver_spec oX
  refine ⟨(fun k => if k = 0 then c0 else if k = 1 then c1 else if k = 2 then c2 else if k = 3 then c3 else if k = 4 then c4 else if k = 5 then c5 else c6, fun k => if k = 0 then i0 else if k = 1 then i1 else if k = 2 then i2 else if k = 3 then i3 else if k = 4 then i4 else if k = 5 then i5 else i6), fun k => if k = 0 then cI else if k = 1 then cJ else if k = 2 then cA else cX, ⟨?_, ?_⟩, ?_, ?_, ?_⟩
  · intro k q hq
    match k, hq with
    | 0, hq => cases hq; exact k0
    | 1, hq => cases hq; exact k1
    | 2, hq => cases hq; exact k2
    | 3, hq => cases hq; exact k3
    | 4, hq => cases hq; exact k4
    | 5, hq => cases hq; exact k5
    | 6, hq => cases hq; exact k6
    | k + 7, hq => simp at hq
  · intro k q hq
    match k, hq with
    | 0, hq => cases hq; exact ⟨fun N z => ⟨(fun k h => by cases h), kI, gI, pI, hI⟩, fI⟩
    | 1, hq => cases hq; exact ⟨fun N z => ⟨(fun k h => by cases h), kJ, gJ, pJ, hJ⟩, fJ⟩
    | 2, hq => cases hq; exact ⟨fun N z => ⟨(fun k h => by cases h), kA, gA9, pA, hA⟩, kA, pA, gA9, hA, fA, nA⟩
    | 3, hq => cases hq; exact ⟨fun N z => ⟨(fun k h => by cases h), kX, gX, pX, hX⟩, kX, pX, gX, hX, fX, nX⟩
    | k + 4, hq => simp at hq
  · exact ⟨va_Nw.of rfl (ht _ 31 (by decide +kernel)), va_Nw.of rfl (ht _ 406 (by decide +kernel)), va_Nw.of rfl (ht _ 423 (by decide +kernel)), va_Nw.of rfl (ht _ 207 (by decide +kernel)), va_Nw.of rfl (ht _ 283 (by decide +kernel)), va_Nw.of rfl (ht _ 314 (by decide +kernel)), va_Nw.of rfl (ht _ 353 (by decide +kernel)), va_Nw.of rfl (ht _ 209 (by decide +kernel)), va_Nw.of rfl (ht _ 211 (by decide +kernel)), va_Nw.of rfl (ht _ 213 (by decide +kernel)), va_AO.of oA, va_AO.of oX, (by obtain ⟨a, -, -, -, ha, -⟩ := Cond.exactly_spec (hs (Cond.exactly (Term.string "AlloyPlans" 46) "java/lang/String") (by decide +kernel)); exact ⟨a, vk_R.of (ht _ 247 (by decide +kernel)) ha⟩), (by obtain ⟨a, -, -, -, ha, -⟩ := Cond.exactly_spec (hs (Cond.exactly (Term.string "AlloyPlans" 178) "java/lang/String") (by decide +kernel)); exact ⟨a, vk_R.of (ht _ 290 (by decide +kernel)) ha⟩), (by obtain ⟨a, -, -, -, ha, -⟩ := Cond.exactly_spec (hs (Cond.exactly (Term.string "AlloyPlans" 173) "java/lang/String") (by decide +kernel)); exact ⟨a, vk_R.of (ht _ 321 (by decide +kernel)) ha⟩), (by obtain ⟨a, -, -, -, ha, -⟩ := Cond.exactly_spec (hs (Cond.exactly (Term.string "AlloyPlans" 87) "java/lang/String") (by decide +kernel)); exact ⟨a, vk_R.of (ht _ 360 (by decide +kernel)) ha⟩), (by obtain ⟨a, -, -, -, ha, -⟩ := Cond.exactly_spec (hs (Cond.exactly (Term.string "AlloyPlans" 184) "java/lang/String") (by decide +kernel)); exact ⟨a, vk_R.of (ht _ 475 (by decide +kernel)) ha⟩), (by obtain ⟨a, -, -, -, ha, -⟩ := Cond.exactly_spec (hs (Cond.exactly (Term.string "AlloyPlans" 163) "java/lang/String") (by decide +kernel)); exact ⟨a, vk_R.of (ht _ 533 (by decide +kernel)) ha⟩), va_Nc.of (hs (Cond.not (.castable xISE xIAE)) (by decide +kernel)), va_Nc.of (hs (Cond.not (.castable xISE xIOB)) (by decide +kernel)), va_Nc.of (hs (Cond.not (.castable xISE xUOE)) (by decide +kernel)), va_Nc.of (hs (Cond.not (.castable xIAE xISE)) (by decide +kernel)), va_Nc.of (hs (Cond.not (.castable xIAE xIOB)) (by decide +kernel)), va_Nc.of (hs (Cond.not (.castable xIAE xUOE)) (by decide +kernel)), va_Nc.of (hs (Cond.not (.castable xIOB xISE)) (by decide +kernel)), va_Nc.of (hs (Cond.not (.castable xIOB xIAE)) (by decide +kernel)), va_Nc.of (hs (Cond.not (.castable xIOB xUOE)) (by decide +kernel)), va_Nc.of (hs (Cond.not (.castable xUOE xISE)) (by decide +kernel)), va_Nc.of (hs (Cond.not (.castable xUOE xIAE)) (by decide +kernel)), va_Nc.of (hs (Cond.not (.castable xUOE xIOB)) (by decide +kernel))⟩
  · exact vx_Zqof (ht _ 232 (by decide +kernel)) (ht _ 8 (by decide +kernel)) (hs _ (by decide +kernel)) (fun a h => Nat.not_le.mpr h)
  · exact vx_Zqof (ht _ 234 (by decide +kernel)) (ht _ 8 (by decide +kernel)) (hs _ (by decide +kernel)) (fun a h => Nat.not_le.mpr h)
end M20
