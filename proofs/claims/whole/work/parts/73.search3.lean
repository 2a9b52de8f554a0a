section SG
variable {B M T U : Nat → Nat → Int} {x kc : Int} {s : Int × Int × Int × Int} {k n : Nat}
theorem pow_pos13 (e : Nat) : 0 < 13 ^ e := Nat.pos_of_ne_zero (by intro h9; have := Nat.pow_eq_zero.mp h9; omega)
theorem ks_fr (h : FR k T U) (hK : KS B T) : KS B U := fun y h1 h2 => (h.1 y (by omega) (by omega) (by omega) (by omega) (by omega)).trans (hK y h1 h2)
theorem mx_fr {i : Int} (h1 : U (23 + (k + 1)) = T (23 + (k + 1))) (h2 : U (28 + (k + 1)) = T (28 + (k + 1))) (h : MX x B T k n i) : MX x B U k n i := by
  unfold MX at h ⊢
  rw [h1, h2]
  exact h
theorem loop_re {rec : (Nat → Nat → Int) → (Nat → Nat → Int)} (e a : Nat) (hk : k + (e + 1) = 4) (hkc : (k : Int) < kc) (h : CR B M kc)
    (hok : ∀ S, RD S → RS S → RM S (k + 1) → FR (k + 1) S (rec S) ∧ RS (rec S))
    (hrec : ∀ (i : Nat) (T : Nat → Nat → Int) (s : Int × Int × Int × Int), (i : Int) ≤ B (11 + k) 2 → KS B T → RD T → RS T → RM T (k + 1) → AT x B T (k + 1) (a * 13 ^ (e + 1) + i * 13 ^ e) → worth T (k + 1) → RE kc T s → RE kc (rec T) (rlM M x (13 ^ e) (a * 13 ^ (e + 1) + i * 13 ^ e) s)) :
    ∀ (d n : Nat) (T : Nat → Nat → Int) (s : Int × Int × Int × Int), n + d = (B (11 + k) 2).toNat + 1 → KS B T → RD T → IV k n T → MX x B T k (a * 13 ^ (e + 1)) ((n - 1 : Nat) : Int) → (∀ j, j < k → T 9 j = (DG (a * 13 ^ (e + 1)) j : Int)) → RE kc T s → RE kc (tryL rec k d n T) (rlM M x ((13 - n) * 13 ^ e) (a * 13 ^ (e + 1) + n * 13 ^ e) s) := by
  have hb := (h.2.2.1 k (by omega) hkc).2.1
  have hP := pow_pos13 e
  -- a code of the block from the digit n on
  have hcode : ∀ n, n ≤ 13 → ∀ i, i < (13 - n) * 13 ^ e → ∃ c r, n ≤ c ∧ c ≤ 12 ∧ r < 13 ^ e ∧ a * 13 ^ (e + 1) + n * 13 ^ e + i = a * 13 ^ (e + 1) + c * 13 ^ e + r := by
    intro n hn i hi
    refine ⟨n + i / 13 ^ e, i % 13 ^ e, Nat.le_add_right _ _, ?_, Nat.mod_lt _ hP, ?_⟩
    · have : i / 13 ^ e < 13 - n := (Nat.div_lt_iff_lt_mul hP).mpr hi
      omega
    · rw [Nat.add_mul]
      have h1 := Nat.div_add_mod i (13 ^ e)
      rw [Nat.mul_comm] at h1
      omega
  intro d
  induction d with
  | zero =>
    intro n T s hn hK hD hI hM h9 hR
    rw [rl_id]
    · exact hR
    · intro i hi
      obtain ⟨c, r, h1, h2, h3, h4⟩ := hcode n (by omega) i hi
      rw [h4]
      refine nx_no (fun hs => ?_)
      have hd := DG_new e k a c r hk h2 h3
      have := (setsOK_iff M _).mp hs k (by omega)
      rw [hd, lim_k h k (by omega), if_pos hkc] at this
      omega
  | succ d ih =>
    intro n T s hn hK hD hI hM h9 hR
    obtain ⟨hW, hx⟩ := iv_step (by omega) hI hD
    show RE kc (if worth (stepS T k n) (k + 1) then tryL rec k d (n + 1) (rec (u2 (stepS T k n) 9 k n)) else stepS T k n) _
    have hM' := mx_step hK (by omega) n hM
    have h9' : ∀ j, j < k → stepS T k n 9 j = (DG (a * 13 ^ (e + 1)) j : Int) := fun j hj => by rw [hx 9 (by omega) (by omega)]; exact h9 j hj
    have hR' : RE kc (stepS T k n) s := re_of (hx 7 (by omega) (by omega)) (hx 8 (by omega) (by omega)) hR
    by_cases hw : worth (stepS T k n) (k + 1)
    · rw [if_pos hw]
      obtain ⟨q1, q2⟩ := iw_rec (by omega) (by omega) hW hw.1
      have q3 : FR k T (u2 (stepS T k n) 9 k (n : Int)) := iv_fr (by omega) hx
      obtain ⟨q4, q5⟩ := hok _ (FR_RD q3 hD) q1 q2
      have q6 := iv_next (by omega) hW hw.1 q4 q5
      have q7 := FR_trans q3 (FR_up q4)
      have hA := mx_at e a n hk (by omega) hM' h9'
      have hw2 : worth (u2 (stepS T k n) 9 k (n : Int)) (k + 1) := by
        unfold worth at hw ⊢
        rw [u2_ne (by omega), u2_ne (by omega)]
        exact hw
      have q8 := hrec n (u2 (stepS T k n) 9 k (n : Int)) s (by omega) (ks_fr q3 hK) (FR_RD q3 hD) q1 q2 hA hw2 (re_of (u2_ne (by omega)) (u2_ne (by omega)) hR')
      have q9 := ih (n + 1) _ _ (by omega) (ks_fr q7 hK) (FR_RD q7 hD) q6 (mx_fr (T := stepS T k n) (by rw [q4.1 _ (by omega) (by omega) (by omega) (by omega) (by omega), u2_ne (by omega)]) (by rw [q4.1 _ (by omega) (by omega) (by omega) (by omega) (by omega), u2_ne (by omega)]) hM') (fun j hj => by rw [q4.2 j (by omega), u2_j (by omega)]; exact h9' j hj) q8
      rw [show (13 - n) * 13 ^ e = 13 ^ e + (13 - (n + 1)) * 13 ^ e by rw [show 13 - n = 1 + (13 - (n + 1)) by omega, Nat.add_mul, Nat.one_mul], rl_add]
      rw [show a * 13 ^ (e + 1) + n * 13 ^ e + 13 ^ e = a * 13 ^ (e + 1) + (n + 1) * 13 ^ e by rw [Nat.add_mul, Nat.one_mul]; omega]
      exact q9
    · rw [if_neg hw, rl_id]
      · exact hR'
      · intro i hi
        obtain ⟨c, r, h1, h2, h3, h4⟩ := hcode n (by omega) i hi
        rw [h4]
        refine nx_skip h hkc n hM' hw hR' _ (fun j hj => ?_) (by rw [DG_new e k a c r hk h2 h3]; exact h1)
        have e1 := DG_pre (e + 1) k a (c * 13 ^ e + r) j hk (by
          rw [Nat.pow_succ]
          have : c * 13 ^ e ≤ 12 * 13 ^ e := Nat.mul_le_mul_right _ h2
          omega) hj
        rw [Nat.add_assoc]
        exact e1
theorem try_re (h : CR B M kc) : ∀ (e k a : Nat) (T : Nat → Nat → Int) (s : Int × Int × Int × Int), k + e = 4 → (k : Int) ≤ kc → (∀ j, j < k → (DG (a * 13 ^ e) j : Int) ≤ B (11 + j) 2) → KS B T → RD T → RS T → RM T k → AT x B T k (a * 13 ^ e) → worth T k → RE kc T s → RE kc (tryS kc e k T) (rlM M x (13 ^ e) (a * 13 ^ e) s) := by
  intro e
  induction e with
  | zero =>
    intro k a T s hk hkc hl hK hD h1 h2 hA hw hR
    exact judge_re 0 a h (by have := h.1; omega) hk hA hl hw hR
  | succ e ih =>
    intro k a T s hk hkc hl hK hD h1 h2 hA hw hR
    show RE kc (if kc ≤ k then judgeS T k else tryL (tryS kc e (k + 1)) k ((T (11 + k) 2).toNat + 1) 0 (likeS T (k + 1) k)) _
    by_cases hc : kc ≤ k
    · rw [if_pos hc]
      exact judge_re (e + 1) a h (by omega) hk hA hl hw hR
    · rw [if_neg hc]
      obtain ⟨q1, q2⟩ := iv_like (by omega) h1 h2
      obtain ⟨m1, m2⟩ := mx_like hA
      have hb := (h.2.2.1 k (by omega) (by omega)).2.1
      have key := loop_re (rec := tryS kc e (k + 1)) e a hk (by omega) h (fun S a b c => tryS_ok kc e (k + 1) S (by omega) a b c) (fun i T' s' hi k1 k2 k3 k4 k5 k6 k7 => by
        have e1 : a * 13 ^ (e + 1) + i * 13 ^ e = (a * 13 + i) * 13 ^ e := by rw [Nat.pow_succ, Nat.add_mul, Nat.mul_comm (13 ^ e) 13, Nat.mul_assoc]
        rw [e1] at k5 ⊢
        refine ih (k + 1) (a * 13 + i) T' s' (by omega) (by omega) (fun j hj => ?_) k1 k2 k3 k4 k5 k6 k7
        rw [← e1]
        by_cases hjk : j = k
        · subst hjk
          have := DG_new e j a i 0 hk (by omega) (pow_pos13 e)
          rw [Nat.add_zero] at this
          rw [this]
          exact hi
        · rw [DG_sub e k a i j hk (by omega) (by omega)]
          exact hl j (by omega)) ((B (11 + k) 2).toNat + 1) 0 (likeS T (k + 1) k) s (by omega) (ks_fr q2 hK) (FR_RD q2 hD) q1 m1 m2 (re_of (likeS_ne (by omega) (by omega)) (likeS_ne (by omega) (by omega)) hR)
      rw [hK (11 + k) (by omega) (by omega)]
      rw [show (13 - 0) * 13 ^ e = 13 ^ (e + 1) by rw [Nat.pow_succ, Nat.mul_comm], Nat.zero_mul, Nat.add_zero] at key
      exact key
end SG
