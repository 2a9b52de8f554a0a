/-! what the search keeps: pure rows -/
section PRES
variable {S T : Nat → Nat → Int} {i j k n x : Nat} {b : Int}
theorem takeS_ne (h1 : x ≠ 23 + i) (h2 : x ≠ 28 + i) : takeS T i j b x = T x := by unfold takeS; rw [uA_ne h2, u2_ne h1, u2_ne h1, u2_ne h1]
theorem likeS_ne (h1 : x ≠ 23 + i) (h2 : x ≠ 28 + i) : likeS T i j x = T x := by unfold likeS; rw [uA_ne h2, u2_ne h1, u2_ne h1, u2_ne h1]
theorem takeS_0 : takeS T i j b (23 + i) 0 = T (23 + i) 0 + T (11 + j) 0 := by unfold takeS; rw [uA_ne (by omega), u2_j (by decide), u2_j (by decide), u2_eq]
theorem takeS_1 : takeS T i j b (23 + i) 1 = T (23 + i) 1 + (if b = 0 then 0 else 1) := by unfold takeS; rw [uA_ne (by omega), u2_j (by decide), u2_eq]
theorem takeS_2 : takeS T i j b (23 + i) 2 = T (23 + i) 2 - T (11 + j) 1 * T (11 + j) 4 := by unfold takeS; rw [uA_ne (by omega), u2_eq]
theorem takeS_s (hn : n < 8) : takeS T i j b (28 + i) n = T (28 + i) n + T (19 + j) n := by unfold takeS; rw [uA_lt hn]
theorem likeS_0 : likeS T i j (23 + i) 0 = T (23 + j) 0 := by unfold likeS; rw [uA_ne (by omega), u2_j (by decide), u2_j (by decide), u2_eq]
theorem likeS_1 : likeS T i j (23 + i) 1 = T (23 + j) 1 := by unfold likeS; rw [uA_ne (by omega), u2_j (by decide), u2_eq]
theorem likeS_2 : likeS T i j (23 + i) 2 = T (23 + j) 2 := by unfold likeS; rw [uA_ne (by omega), u2_eq]
theorem likeS_s (hn : n < 8) : likeS T i j (28 + i) n = T (28 + j) n := by unfold likeS; rw [uA_lt hn]
def RD (S : Nat → Nat → Int) : Prop := ∀ j, j < 4 → (0 ≤ S (11 + j) 0 ∧ S (11 + j) 0 ≤ 100000) ∧ (1 ≤ S (11 + j) 1 ∧ S (11 + j) 1 ≤ 1000) ∧ (0 ≤ S (11 + j) 2 ∧ S (11 + j) 2 ≤ 12) ∧ (0 ≤ S (11 + j) 4 ∧ S (11 + j) 4 ≤ 1000) ∧ ∀ n, n < 8 → -100000000000 ≤ S (19 + j) n ∧ S (19 + j) n ≤ 100000000000
def RS (S : Nat → Nat → Int) : Prop := (S 7 0 = 0 ∨ S 7 0 = 1) ∧ (0 ≤ S 7 1 ∧ S 7 1 ≤ 4) ∧ (0 ≤ S 7 3 ∧ S 7 3 ≤ 10000000) ∧ (0 ≤ S 7 4 ∧ S 7 4 ≤ 10) ∧ (∀ j, j < 4 → 0 ≤ S 9 j ∧ S 9 j ≤ 12) ∧ ∀ j, j < 4 → 0 ≤ S 8 j ∧ S 8 j ≤ 12
def RM (S : Nat → Nat → Int) (i : Nat) : Prop := (0 ≤ S (23 + i) 0 ∧ S (23 + i) 0 ≤ (i : Int) * 1300000) ∧ (0 ≤ S (23 + i) 1 ∧ S (23 + i) 1 ≤ (i : Int)) ∧ (0 ≤ S (23 + i) 2 ∧ S (23 + i) 2 ≤ 100000000) ∧ ∀ n, n < 8 → -7000000000000 - (i : Int) * 1300000000000 ≤ S (28 + i) n ∧ S (28 + i) n ≤ 7000000000000 + (i : Int) * 1300000000000
/-- T is as S but for the search's own cells and the mixes above k -/
def FR (k : Nat) (S T : Nat → Nat → Int) : Prop := (∀ x, x ≠ 7 → x ≠ 8 → x ≠ 9 → ¬ (24 + k ≤ x ∧ x ≤ 27) → ¬ (29 + k ≤ x ∧ x ≤ 32) → T x = S x) ∧ ∀ j, j < k → T 9 j = S 9 j
def IV (k n : Nat) (T : Nat → Nat → Int) : Prop := RS T ∧ (0 ≤ T (23 + (k + 1)) 0 ∧ T (23 + (k + 1)) 0 ≤ (k : Int) * 1300000 + (n : Int) * 100000) ∧ (0 ≤ T (23 + (k + 1)) 1 ∧ T (23 + (k + 1)) 1 ≤ (k : Int) + 1 ∧ (n ≤ 1 → T (23 + (k + 1)) 1 ≤ (k : Int))) ∧ (0 ≤ T (23 + (k + 1)) 2 ∧ T (23 + (k + 1)) 2 ≤ 100000000) ∧ ∀ m, m < 8 → -7000000000000 - (k : Int) * 1300000000000 - (n : Int) * 100000000000 ≤ T (28 + (k + 1)) m ∧ T (28 + (k + 1)) m ≤ 7000000000000 + (k : Int) * 1300000000000 + (n : Int) * 100000000000
def IW (k n : Nat) (T : Nat → Nat → Int) : Prop := RS T ∧ (0 ≤ T (23 + (k + 1)) 0 ∧ T (23 + (k + 1)) 0 ≤ (k : Int) * 1300000 + (n : Int) * 100000 + 100000) ∧ (0 ≤ T (23 + (k + 1)) 1 ∧ T (23 + (k + 1)) 1 ≤ (k : Int) + 1 ∧ (n = 0 → T (23 + (k + 1)) 1 ≤ (k : Int))) ∧ (-1000000 ≤ T (23 + (k + 1)) 2 ∧ T (23 + (k + 1)) 2 ≤ 100000000) ∧ ∀ m, m < 8 → -7000000000000 - (k : Int) * 1300000000000 - (n : Int) * 100000000000 - 100000000000 ≤ T (28 + (k + 1)) m ∧ T (28 + (k + 1)) m ≤ 7000000000000 + (k : Int) * 1300000000000 + (n : Int) * 100000000000 + 100000000000
def stepS (T : Nat → Nat → Int) (k n : Nat) : Nat → Nat → Int := if n = 0 then T else takeS T (k + 1) k (bi (n = 1))
theorem RS_of (h7 : T 7 = S 7) (h8 : T 8 = S 8) (h9 : T 9 = S 9) (h : RS S) : RS T := by
  unfold RS at h ⊢
  rw [h7, h8, h9]
  exact h
theorem RD_of (h : RD S) (hx : ∀ x, 11 ≤ x → x ≤ 22 → T x = S x) : RD T := fun j hj => by
  have e1 := hx (11 + j) (by omega) (by omega)
  have e2 := hx (19 + j) (by omega) (by omega)
  rw [e1, e2]
  exact h j hj
theorem FR_refl : FR k S S := ⟨fun _ _ _ _ _ _ => rfl, fun _ _ => rfl⟩
theorem FR_trans {U : Nat → Nat → Int} (h1 : FR k S T) (h2 : FR k T U) : FR k S U := ⟨fun x a b c d e => (h2.1 x a b c d e).trans (h1.1 x a b c d e), fun j hj => (h2.2 j hj).trans (h1.2 j hj)⟩
theorem FR_up (h : FR (k + 1) S T) : FR k S T := ⟨fun x a b c d e => h.1 x a b c (by omega) (by omega), fun j hj => h.2 j (by omega)⟩
theorem FR_RD (h : FR k S T) (hS : RD S) : RD T := RD_of hS (fun x h1 h2 => h.1 x (by omega) (by omega) (by omega) (by omega) (by omega))
theorem iv_like (hk : k < 4) (h1 : RS S) (h2 : RM S k) : IV k 0 (likeS S (k + 1) k) ∧ FR k S (likeS S (k + 1) k) := by
  obtain ⟨⟨a0, b0⟩, ⟨a1, b1⟩, ⟨a2, b2⟩, hs⟩ := h2
  refine ⟨⟨RS_of (likeS_ne (by omega) (by omega)) (likeS_ne (by omega) (by omega)) (likeS_ne (by omega) (by omega)) h1, ?_, ?_, ?_, ?_⟩, ?_, ?_⟩
  · rw [likeS_0]; omega
  · rw [likeS_1]; omega
  · rw [likeS_2]; omega
  · intro m hm
    rw [likeS_s hm]
    have := hs m hm
    omega
  · intro x c7 c8 c9 ha hb
    exact likeS_ne (by omega) (by omega)
  · intro j hj
    rw [likeS_ne (by omega) (by omega)]
theorem cool_r {a b : Int} (h1 : 1 ≤ a ∧ a ≤ 1000) (h2 : 0 ≤ b ∧ b ≤ 1000) : 0 ≤ a * b ∧ a * b ≤ 1000000 := by
  refine ⟨Int.mul_nonneg (by omega) (by omega), ?_⟩
  calc a * b ≤ 1000 * b := Int.mul_le_mul_of_nonneg_right h1.2 h2.1
    _ ≤ 1000 * 1000 := Int.mul_le_mul_of_nonneg_left h2.2 (by decide)
    _ = 1000000 := by decide
theorem iv_step (hk : k < 4) (h : IV k n T) (hD : RD T) : IW k n (stepS T k n) ∧ (∀ x, x ≠ 23 + (k + 1) → x ≠ 28 + (k + 1) → stepS T k n x = T x) := by
  obtain ⟨h1, ⟨a0, b0⟩, ⟨a1, b1, c1⟩, ⟨a2, b2⟩, hs⟩ := h
  obtain ⟨⟨d0, e0⟩, d1, -, d4, hg⟩ := hD k hk
  unfold stepS
  by_cases hn : n = 0
  · rw [if_pos hn]
    refine ⟨⟨h1, ⟨a0, by omega⟩, ⟨a1, b1, fun _ => c1 (by omega)⟩, ⟨by omega, b2⟩, fun m hm => ?_⟩, fun _ _ _ => rfl⟩
    have := hs m hm
    omega
  · rw [if_neg hn]
    refine ⟨⟨RS_of (takeS_ne (by omega) (by omega)) (takeS_ne (by omega) (by omega)) (takeS_ne (by omega) (by omega)) h1, ?_, ?_, ?_, ?_⟩, fun x hx hy => takeS_ne hx hy⟩
    · rw [takeS_0]; omega
    · rw [takeS_1]
      by_cases hb : n = 1
      · have := c1 (by omega)
        rw [bi_pos hb, if_neg (by decide)]
        omega
      · rw [bi_neg hb, if_pos rfl]
        omega
    · have := cool_r d1 d4
      rw [takeS_2]; omega
    · intro m hm
      have q1 := hs m hm
      have q2 := hg m hm
      rw [takeS_s hm]
      omega
theorem iw_rec (hk : k < 4) (hn : n ≤ 12) (h : IW k n T) (hw : 0 ≤ T (23 + (k + 1)) 2) : RS (u2 T 9 k (n : Int)) ∧ RM (u2 T 9 k (n : Int)) (k + 1) := by
  obtain ⟨⟨r0, r1, r3, r4, r9, r8⟩, ⟨a0, b0⟩, ⟨a1, b1, c1⟩, ⟨a2, b2⟩, hs⟩ := h
  refine ⟨⟨r0, r1, r3, r4, fun j hj => ?_, r8⟩, ?_⟩
  · by_cases hjk : j = k
    · subst hjk
      rw [u2_eq]
      omega
    · rw [u2_j hjk]
      exact r9 j hj
  · unfold RM
    rw [u2_ne (show 23 + (k + 1) ≠ 9 by omega), u2_ne (show 28 + (k + 1) ≠ 9 by omega)]
    refine ⟨⟨a0, by omega⟩, ⟨a1, by omega⟩, ⟨hw, b2⟩, fun m hm => ?_⟩
    have := hs m hm
    omega
theorem iv_next {U : Nat → Nat → Int} (hk : k < 4) (h : IW k n T) (hw : 0 ≤ T (23 + (k + 1)) 2) (hF : FR (k + 1) (u2 T 9 k (n : Int)) U) (hU : RS U) : IV k (n + 1) U := by
  obtain ⟨-, ⟨a0, b0⟩, ⟨a1, b1, c1⟩, ⟨a2, b2⟩, hs⟩ := h
  have e3 : U (23 + (k + 1)) = T (23 + (k + 1)) := (hF.1 _ (by omega) (by omega) (by omega) (by omega) (by omega)).trans (u2_ne (by omega))
  have e8 : U (28 + (k + 1)) = T (28 + (k + 1)) := (hF.1 _ (by omega) (by omega) (by omega) (by omega) (by omega)).trans (u2_ne (by omega))
  refine ⟨hU, ?_, ?_, ?_, ?_⟩
  · rw [e3]; omega
  · rw [e3]; exact ⟨a1, b1, fun hh => c1 (by omega)⟩
  · rw [e3]; omega
  · intro m hm
    have := hs m hm
    rw [e8]; omega
theorem iv_fr {U : Nat → Nat → Int} (hk : k < 4) (h : ∀ x, x ≠ 23 + (k + 1) → x ≠ 28 + (k + 1) → U x = T x) : FR k T (u2 U 9 k (n : Int)) := by
  refine ⟨fun x a b c d e => ?_, fun j hj => ?_⟩
  · rw [u2_ne c]
    exact h x (by omega) (by omega)
  · rw [u2_j (by omega), h 9 (by omega) (by omega)]
theorem judge_ok (hk : k ≤ 4) (h1 : RS S) (h2 : RM S k) : FR k S (judgeS S k) ∧ RS (judgeS S k) := by
  obtain ⟨r0, r1, r3, r4, r9, r8⟩ := h1
  obtain ⟨⟨a0, b0⟩, ⟨a1, b1⟩, -, -⟩ := h2
  have hc := cmet_r (S (28 + k))
  have hm : 0 ≤ mxM S k ∧ mxM S k ≤ 4 := by unfold mxM; split <;> omega
  unfold judgeS
  split
  · refine ⟨⟨fun x c7 c8 c9 _ _ => u2_ne c7, fun j hj => rfl⟩, r0, hm, r3, r4, r9, r8⟩
  · refine ⟨⟨fun x c7 c8 c9 _ _ => by rw [uA_ne c8, u2_ne c7, u2_ne c7, u2_ne c7, u2_ne c7], fun j hj => rfl⟩, Or.inr rfl, hm, ⟨a0, ?_⟩, ⟨a1, ?_⟩, r9, fun j hj => ?_⟩
    · show S (23 + k) 0 ≤ 10000000
      omega
    · show S (23 + k) 1 ≤ 10
      omega
    · rw [uA_lt hj]
      exact r9 j hj
theorem tryL_ok {rec : (Nat → Nat → Int) → (Nat → Nat → Int)} (hk : k < 4) (hrec : ∀ S, RD S → RS S → RM S (k + 1) → FR (k + 1) S (rec S) ∧ RS (rec S)) :
    ∀ (d n : Nat) (T : Nat → Nat → Int), n + d ≤ 13 → RD T → IV k n T → FR k T (tryL rec k d n T) ∧ RS (tryL rec k d n T) := by
  intro d
  induction d with
  | zero => intro n T hn hD hI; exact ⟨FR_refl, hI.1⟩
  | succ d ih =>
    intro n T hn hD hI
    obtain ⟨hW, hx⟩ := iv_step hk hI hD
    show FR k T (if worth (stepS T k n) (k + 1) then tryL rec k d (n + 1) (rec (u2 (stepS T k n) 9 k n)) else stepS T k n) ∧ RS (if worth (stepS T k n) (k + 1) then tryL rec k d (n + 1) (rec (u2 (stepS T k n) 9 k n)) else stepS T k n)
    by_cases hw : worth (stepS T k n) (k + 1)
    · rw [if_pos hw]
      obtain ⟨q1, q2⟩ := iw_rec hk (by omega) hW hw.1
      have q3 : FR k T (u2 (stepS T k n) 9 k (n : Int)) := iv_fr hk hx
      obtain ⟨q4, q5⟩ := hrec _ (FR_RD q3 hD) q1 q2
      have q6 := iv_next hk hW hw.1 q4 q5
      have q7 := FR_trans q3 (FR_up q4)
      obtain ⟨q8, q9⟩ := ih (n + 1) _ (by omega) (FR_RD q7 hD) q6
      exact ⟨FR_trans q7 q8, q9⟩
    · rw [if_neg hw]
      exact ⟨⟨fun x _ _ _ d e => hx x (by omega) (by omega), fun j hj => by rw [hx 9 (by omega) (by omega)]⟩, hW.1⟩
theorem tryS_ok (kc : Int) : ∀ (e k : Nat) (S : Nat → Nat → Int), k + e = 4 → RD S → RS S → RM S k → FR k S (tryS kc e k S) ∧ RS (tryS kc e k S) := by
  intro e
  induction e with
  | zero => intro k S hk hD h1 h2; exact judge_ok (by omega) h1 h2
  | succ e ih =>
    intro k S hk hD h1 h2
    show FR k S (if kc ≤ k then judgeS S k else tryL (tryS kc e (k + 1)) k ((S (11 + k) 2).toNat + 1) 0 (likeS S (k + 1) k)) ∧ RS (if kc ≤ k then judgeS S k else tryL (tryS kc e (k + 1)) k ((S (11 + k) 2).toNat + 1) 0 (likeS S (k + 1) k))
    by_cases hc : kc ≤ k
    · rw [if_pos hc]
      exact judge_ok (by omega) h1 h2
    · rw [if_neg hc]
      obtain ⟨q1, q2⟩ := iv_like (by omega) h1 h2
      have hm := (hD k (by omega)).2.2.1
      obtain ⟨q3, q4⟩ := tryL_ok (by omega) (fun S a b c => ih (k + 1) S (by omega) a b c) ((S (11 + k) 2).toNat + 1) 0 _ (by omega) (FR_RD q2 hD) q1
      exact ⟨FR_trans q2 q3, q4⟩
end PRES
