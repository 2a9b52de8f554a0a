section M17
variable {l : Launch} {D : va_G} {cd : Nat → ClassId} {ad : Nat → Nat} {L : List Nat} {f f0 : Nat → va_E} {S : Nat → Nat → Int}
theorem gv_d {p : Prop} [Decidable p] {b : Int} (h : p) (h2 : b = 0) : gv (bi p) b = 2 := by rw [bi_pos h, h2]; rfl
theorem gv_e {p : Prop} [Decidable p] {b : Int} (h : p) (h2 : ¬ b = 0) : gv (bi p) b = 0 := by rw [bi_pos h]; unfold gv; rw [if_neg (by decide), if_neg h2]
/-- U is the reference with the plan's steps loaded -/
def LD (S U : Nat → Nat → Int) : Prop := (∀ j, j < 4 → U 46 j = S 45 j) ∧ U 33 6 = S 33 6 ∧ U 33 1 = S 33 1 ∧ ∀ y, 34 ≤ y → y ≤ 44 → U y = S y
theorem ld_of {V : Nat → Nat → Int} {z : Int} (h : ∀ y, 33 ≤ y → y ≤ 45 → V y = S y) : LD S (uA (u2 V 33 0 z) 46 4 (V 45)) := by
  refine ⟨fun j hj => by rw [uA_lt hj, h 45 (by decide) (by decide)], ?_, ?_, fun y h1 h2 => by rw [uA_ne (by omega), u2_ne (by omega), h y (by omega) (by omega)]⟩
  · rw [uA_ne (by decide), u2_j (by decide), h 33 (by decide) (by decide)]
  · rw [uA_ne (by decide), u2_j (by decide), h 33 (by decide) (by decide)]
theorem ld_k {N : Nat} {U : Nat → Nat → Int} (hV : INV N S) (hL : LD S U) : kN U = (S 0 4).toNat ∧ (S 0 4).toNat ≤ 4 ∧ ∀ j, j < (S 0 4).toNat → (j : Int) < S 33 6 := by
  obtain ⟨hI, hM, hR⟩ := hV
  have i0 := hI.1
  have r2 := hR.2.1
  refine ⟨by unfold kN; rw [hL.2.1, r2], by omega, fun j hj => by omega⟩
theorem ld_sums {N : Nat} {U : Nat → Nat → Int} (hV : INV N S) (hp : S 5 0 = 1) (hL : LD S U) : cM U = S 5 1 ∧ wM U = S 5 2 ∧ uM U = S 5 3 ∧ qM U = S 5 4 := by
  obtain ⟨k1, k2, k3⟩ := ld_k hV hL
  obtain ⟨hI, hM, hR⟩ := hV
  obtain ⟨r1, r2, r3, r4, r5, r6, r7, r8, r9, r10⟩ := hR
  obtain ⟨b1, b2, b3, b4, b5⟩ := r10 hp
  obtain ⟨l1, l2, l3, l4⟩ := hL
  have e46 : ∀ j, j < (S 0 4).toNat → U 46 j = S 6 j := fun j hj => by rw [l1 j (by omega), b1 j (by omega) (k3 j hj)]
  refine ⟨?_, ?_, ?_, ?_⟩
  · rw [b2]; unfold cM; rw [k1]
    exact sumN_congr _ (fun j hj => by show U 46 j * U 38 j = _; rw [e46 j hj, l4 38 (by decide) (by decide), (r7 j (by omega) (k3 j hj)).1])
  · rw [b3]; unfold wM; rw [k1]
    exact sumN_congr _ (fun j hj => by show U 46 j * U 39 j = _; rw [e46 j hj, l4 39 (by decide) (by decide), (r7 j (by omega) (k3 j hj)).2.1])
  · rw [b4]; unfold uM; rw [k1]
    exact sumN_congr _ (fun j hj => by show bi (0 < U 46 j) = _; rw [e46 j hj])
  · rw [b5]; unfold qM; rw [k1]
    exact sumN_congr _ (fun j hj => by show U 46 j * U 39 j * U 44 j = _; rw [e46 j hj, l4 39 (by decide) (by decide), l4 44 (by decide) (by decide), (r7 j (by omega) (k3 j hj)).2.1, (r9 j (by omega)).1, Int.mul_assoc])
theorem ld_held {N : Nat} {U : Nat → Nat → Int} (hV : INV N S) (hp : S 5 0 = 1) (hL : LD S U) (q : Nat) (hq : q < 4) : aM U q 0 = heldP S (2 * q) (S 0 4).toNat ∧ aM U q 1 = heldP S (2 * q + 1) (S 0 4).toNat := by
  obtain ⟨k1, k2, k3⟩ := ld_k hV hL
  obtain ⟨hI, hM, hR⟩ := hV
  obtain ⟨r1, r2, r3, r4, r5, r6, r7, r8, r9, r10⟩ := hR
  obtain ⟨b1, -⟩ := r10 hp
  obtain ⟨l1, l2, l3, l4⟩ := hL
  have e46 : ∀ j, j < (S 0 4).toNat → U 46 j = S 6 j := fun j hj => by rw [l1 j (by omega), b1 j (by omega) (k3 j hj)]
  have h34 := r6 q hq
  constructor
  · unfold aM heldP heldH
    rw [if_pos rfl, k1, l3, r1, l4 34 (by decide) (by decide), h34.1]
    congr 1
    exact sumN_congr _ (fun j hj => by
      have a := r7 j (by omega) (k3 j hj)
      have b := (r9 j (by omega)).2 q hq
      show aF U q 0 j = S 6 j * heldA S j (2 * q)
      unfold aF heldA
      rw [if_pos rfl, e46 j hj, l4 39 (by decide) (by decide), l4 43 (by decide) (by decide), l4 41 (by decide) (by decide), a.2.1, a.2.2.2, b.1]
      grind)
  · unfold aM heldP heldH
    rw [if_neg (by decide), k1, l3, r1, l4 35 (by decide) (by decide), h34.2.1]
    congr 1
    exact sumN_congr _ (fun j hj => by
      have a := r7 j (by omega) (k3 j hj)
      have b := (r9 j (by omega)).2 q hq
      show aF U q 1 j = S 6 j * heldA S j (2 * q + 1)
      unfold aF heldA
      rw [if_neg (by decide), e46 j hj, l4 39 (by decide) (by decide), l4 43 (by decide) (by decide), l4 42 (by decide) (by decide), a.2.1, a.2.2.2, b.2]
      grind)
theorem ld_inv {N : Nat} {v z : Int} (h : INV N S) : INV (N + 1) (uA (u2 (u2 S 47 0 v) 33 0 z) 46 4 (u2 S 47 0 v 45)) :=
  INV_fr (by omega) (fun y h1 h2 h3 => by rw [uA_ne h1, u2_ne h3, u2_ne h2]) (fun j hj => by rw [uA_ne (by decide), u2_j hj, u2_ne (by decide)]) (fun j hj => by rw [uA_lt hj, u2_ne (by decide)]; exact h.2.1.2.2.2.2.2.2.2.2.2.1 j hj) h
theorem th_inv {N : Nat} {v z : Int} (h : INV N S) : INV (N + 1) (u2 (u2 S 47 0 v) 33 0 z) :=
  INV_fr (by omega) (fun y h1 h2 h3 => by rw [u2_ne h3, u2_ne h2]) (fun j hj => by rw [u2_j hj, u2_ne (by decide)]) (by rw [u2_ne (by decide), u2_ne (by decide)]; exact h.2.1.2.2.2.2.2.2.2.2.2.2) h
theorem tdiv_r {a b : Int} (ha : 0 ≤ a) (h : a ≤ 4000000000000000000) (hb : 0 ≤ b) : r64 (Int.tdiv a b) := by
  have h0 := Int.tdiv_nonneg ha hb
  have h1 : Int.tdiv a b ≤ a := Int.tdiv_le_self b ha
  exact ⟨by omega, by omega⟩
set_option maxHeartbeats 4000000 in
theorem lm_steps {N : Nat} (hV : INV N S) (x : Int) : m_steps (w_steps S x) x 33 0 = k_steps S x ∧ INV (N + 1) (m_steps (w_steps S x) x) ∧ (k_steps S x = 0 → r64 (m_steps (w_steps S x) x 47 0) ∧ r32 (b_steps (w_steps S x) x) ∧ m_steps (w_steps S x) x 47 0 = b_steps (w_steps S x) x) := by
  obtain ⟨hI, hM, hR⟩ := id hV
  obtain ⟨r1, r2, r3, r4, r5, r6, r7, r8, r9, r10⟩ := id hR
  obtain ⟨⟨i0, j0⟩, ⟨i1, j1⟩, ⟨i2, j2⟩, ⟨i3, j3⟩, hpr, ham, i5, ⟨i6, j6⟩, ⟨i7, j7⟩, ⟨i8, j8⟩, ⟨i9, j9⟩, h6, hRS, hRD, hal⟩ := id hI
  by_cases c1 : ¬ (0 ≤ x ∧ x < S 0 4)
  · have hk : k_steps S x = 1 := by unfold k_steps; rw [if_pos c1]
    have hw : w_steps S x = S := by unfold w_steps; rw [if_pos c1]
    have hg : gv (bi (0 ≤ x ∧ x ≤ S 33 6 - 1)) (S 33 14) = 1 := gv_a (by omega)
    have hm : m_steps S x = u2 S 33 0 1 := by unfold m_steps; rw [hg, if_neg (by decide)]
    rw [hk, hw, hm]
    exact ⟨rfl, INV_th hV, fun h => absurd h (by decide)⟩
  by_cases c2 : (0 ≤ x ∧ x < S 0 4) ∧ S 5 0 = 0
  · have hk : k_steps S x = 2 := by unfold k_steps; rw [if_neg c1, if_pos c2]
    have hw : w_steps S x = S := by unfold w_steps; rw [if_neg c1, if_pos c2]
    have hg : gv (bi (0 ≤ x ∧ x ≤ S 33 6 - 1)) (S 33 14) = 2 := gv_d (by omega) (by omega)
    have hm : m_steps S x = u2 S 33 0 2 := by unfold m_steps; rw [hg, if_neg (by decide)]
    rw [hk, hw, hm]
    exact ⟨rfl, INV_th hV, fun h => absurd h (by decide)⟩
  have hk : k_steps S x = 0 := by unfold k_steps; rw [if_neg c1, if_neg c2]
  obtain ⟨v, hv⟩ : ∃ v, v = (S 6 x.toNat) := ⟨_, rfl⟩
  have hw : w_steps S x = u2 S 47 0 v := by unfold w_steps; rw [if_neg c1, if_neg c2, hv]
  have hg : gv (bi (0 ≤ x ∧ x ≤ S 33 6 - 1)) (S 33 14) = 0 := gv_e (by omega) (by omega)
  obtain ⟨V, hVV⟩ : ∃ V, V = u2 S 47 0 v := ⟨_, rfl⟩
  have hne : ∀ y, y ≠ 47 → V y = S y := fun y hy => by rw [hVV, u2_ne hy]
  obtain ⟨U, hU⟩ : ∃ U, U = u2 V 33 0 0 := ⟨_, rfl⟩
  have hm : m_steps V x = U := by unfold m_steps; rw [hne 33 (by decide), hg, if_pos rfl, hU]
  have hm47 : U 47 0 = v := by rw [hU, u2_ne (by decide), hVV, u2_eq]
  rw [hk, hw, ← hVV, hm, hm47]
  refine ⟨by rw [hU, u2_eq], by rw [hU, hVV]; exact th_inv hV, fun _ => ?_⟩
  have hb : b_steps V x = S 6 x.toNat := by
    unfold b_steps
    rw [hne 33 (by decide), hg, if_pos rfl, hne 45 (by decide)]
    exact (r10 (by omega)).1 x.toNat (by omega) (by omega)
  have q := h6 x.toNat (by omega)
  rw [hb, hv]
  exact ⟨⟨by omega, by omega⟩, ⟨by omega, by omega⟩, rfl⟩
set_option maxHeartbeats 4000000 in
theorem lm_planned {N : Nat} (hV : INV N S) (x : Int) : m_planned (w_planned S x) x 33 0 = k_planned S x ∧ INV (N + 1) (m_planned (w_planned S x) x) ∧ (k_planned S x = 0 → r64 (m_planned (w_planned S x) x 47 0) ∧ r32 (b_planned (w_planned S x) x) ∧ m_planned (w_planned S x) x 47 0 = b_planned (w_planned S x) x) := by
  obtain ⟨hI, hM, hR⟩ := id hV
  obtain ⟨r1, r2, r3, r4, r5, r6, r7, r8, r9, r10⟩ := id hR
  obtain ⟨⟨i0, j0⟩, ⟨i1, j1⟩, ⟨i2, j2⟩, ⟨i3, j3⟩, hpr, ham, i5, ⟨i6, j6⟩, ⟨i7, j7⟩, ⟨i8, j8⟩, ⟨i9, j9⟩, h6, hRS, hRD, hal⟩ := id hI
  by_cases c1 : ¬ (0 ≤ x ∧ x ≤ 3)
  · have hk : k_planned S x = 1 := by unfold k_planned; rw [if_pos c1]
    have hw : w_planned S x = S := by unfold w_planned; rw [if_pos c1]
    have hg : gv (bi (0 ≤ x ∧ x ≤ 3)) (S 33 14) = 1 := gv_a (by omega)
    have hm : m_planned S x = u2 S 33 0 1 := by unfold m_planned; rw [hg, if_neg (by decide)]
    rw [hk, hw, hm]
    exact ⟨rfl, INV_th hV, fun h => absurd h (by decide)⟩
  by_cases c2 : (0 ≤ x ∧ x ≤ 3) ∧ S 5 0 = 0
  · have hk : k_planned S x = 2 := by unfold k_planned; rw [if_neg c1, if_pos c2]
    have hw : w_planned S x = S := by unfold w_planned; rw [if_neg c1, if_pos c2]
    have hg : gv (bi (0 ≤ x ∧ x ≤ 3)) (S 33 14) = 2 := gv_d (by omega) (by omega)
    have hm : m_planned S x = u2 S 33 0 2 := by unfold m_planned; rw [hg, if_neg (by decide)]
    rw [hk, hw, hm]
    exact ⟨rfl, INV_th hV, fun h => absurd h (by decide)⟩
  have hk : k_planned S x = 0 := by unfold k_planned; rw [if_neg c1, if_neg c2]
  obtain ⟨v, hv⟩ : ∃ v, v = (if x = 0 then S 5 1 else if x = 1 then S 5 2 else if x = 2 then S 5 3 else S 5 4) := ⟨_, rfl⟩
  have hw : w_planned S x = u2 S 47 0 v := by unfold w_planned; rw [if_neg c1, if_neg c2, hv]
  have hg : gv (bi (0 ≤ x ∧ x ≤ 3)) (S 33 14) = 0 := gv_e (by omega) (by omega)
  obtain ⟨V, hVV⟩ : ∃ V, V = u2 S 47 0 v := ⟨_, rfl⟩
  have hne : ∀ y, y ≠ 47 → V y = S y := fun y hy => by rw [hVV, u2_ne hy]
  obtain ⟨U, hU⟩ : ∃ U, U = uA (u2 V 33 0 0) 46 4 (V 45) := ⟨_, rfl⟩
  have hL : LD S U := by rw [hU]; exact ld_of (fun y h1 h2 => hne y (by omega))
  have hm : m_planned V x = U := by unfold m_planned; rw [hne 33 (by decide), hg, if_pos rfl, hU]
  have hm47 : U 47 0 = v := by rw [hU, uA_ne (by decide), u2_ne (by decide), hVV, u2_eq]
  have h33 : U 33 0 = 0 := by rw [hU, uA_ne (by decide), u2_eq]
  rw [hk, hw, ← hVV, hm, hm47]
  refine ⟨h33, by rw [hU, hVV]; exact ld_inv hV, fun _ => ?_⟩
  obtain ⟨s1, s2, s3, s4⟩ := ld_sums hV (by omega) hL
  have hb : b_planned V x = v := by
    unfold b_planned
    rw [hne 33 (by decide), hg, if_pos rfl, ← hU, s1, s2, s3, s4, hv]
  rw [hb]
  have hr : r32 v := by rw [hv]; exact planned_r hI
  exact ⟨⟨by have := hr.1; omega, by have := hr.2; omega⟩, hr, rfl⟩
set_option maxHeartbeats 4000000 in
theorem lm_order {N : Nat} (hV : INV N S) (x : Int) : m_order (w_order S x) x 33 0 = k_order S x ∧ INV (N + 1) (m_order (w_order S x) x) ∧ (k_order S x = 0 → r64 (m_order (w_order S x) x 47 0) ∧ r32 (b_order (w_order S x) x) ∧ m_order (w_order S x) x 47 0 = b_order (w_order S x) x) := by
  obtain ⟨hI, hM, hR⟩ := id hV
  obtain ⟨r1, r2, r3, r4, r5, r6, r7, r8, r9, r10⟩ := id hR
  obtain ⟨⟨i0, j0⟩, ⟨i1, j1⟩, ⟨i2, j2⟩, ⟨i3, j3⟩, hpr, ham, i5, ⟨i6, j6⟩, ⟨i7, j7⟩, ⟨i8, j8⟩, ⟨i9, j9⟩, h6, hRS, hRD, hal⟩ := id hI
  by_cases c1 : ¬ 0 ≤ x
  · have hk : k_order S x = 1 := by unfold k_order; rw [if_pos c1]
    have hw : w_order S x = S := by unfold w_order; rw [if_pos c1]
    have hg : gv (bi (0 ≤ x)) (S 33 14) = 1 := gv_a (by omega)
    have hm : m_order S x = u2 S 33 0 1 := by unfold m_order; rw [hg, if_neg (by decide)]
    rw [hk, hw, hm]
    exact ⟨rfl, INV_th hV, fun h => absurd h (by decide)⟩
  by_cases c2 : 0 ≤ x ∧ S 5 0 = 0
  · have hk : k_order S x = 2 := by unfold k_order; rw [if_neg c1, if_pos c2]
    have hw : w_order S x = S := by unfold w_order; rw [if_neg c1, if_pos c2]
    have hg : gv (bi (0 ≤ x)) (S 33 14) = 2 := gv_d (by omega) (by omega)
    have hm : m_order S x = u2 S 33 0 2 := by unfold m_order; rw [hg, if_neg (by decide)]
    rw [hk, hw, hm]
    exact ⟨rfl, INV_th hV, fun h => absurd h (by decide)⟩
  have hk : k_order S x = 0 := by unfold k_order; rw [if_neg c1, if_neg c2]
  obtain ⟨v, hv⟩ : ∃ v, v = (ordL S x (S 0 4).toNat 0) := ⟨_, rfl⟩
  have hw : w_order S x = u2 S 47 0 v := by unfold w_order; rw [if_neg c1, if_neg c2, hv]
  have hg : gv (bi (0 ≤ x)) (S 33 14) = 0 := gv_e (by omega) (by omega)
  obtain ⟨V, hVV⟩ : ∃ V, V = u2 S 47 0 v := ⟨_, rfl⟩
  have hne : ∀ y, y ≠ 47 → V y = S y := fun y hy => by rw [hVV, u2_ne hy]
  obtain ⟨U, hU⟩ : ∃ U, U = u2 V 33 0 0 := ⟨_, rfl⟩
  have hm : m_order V x = U := by unfold m_order; rw [hne 33 (by decide), hg, if_pos rfl, hU]
  have hm47 : U 47 0 = v := by rw [hU, u2_ne (by decide), hVV, u2_eq]
  rw [hk, hw, ← hVV, hm, hm47]
  refine ⟨by rw [hU, u2_eq], by rw [hU, hVV]; exact th_inv hV, fun _ => ?_⟩
  have hb : b_order V x = v := by
    unfold b_order
    rw [hne 33 (by decide), hg, if_pos rfl, ← hU, hv]
    have e33 : U 33 6 = S 33 6 := by rw [hU, u2_j (by decide), hne 33 (by decide)]
    have e44 : U 44 = S 44 := by rw [hU, u2_ne (by decide), hne 44 (by decide)]
    have e45 : U 45 = S 45 := by rw [hU, u2_ne (by decide), hne 45 (by decide)]
    have hK : (S 0 4).toNat = kN U := by unfold kN; rw [e33, r2]
    have hc := hM.2.2.2.2.2.2.2.1
    refine (ord_eq (by omega) hK (fun j hj => ?_) (fun j hj => ?_)).symm
    · rw [e44, e45]
      exact ⟨(r10 (by omega)).1 j (by omega) (by omega), (r9 j (by omega)).1, (h6 j (by omega)).1⟩
    · rw [e44]; exact (hc j (by omega)).2
  rw [hb]
  have hr : r32 v := by rw [hv]; exact ordL_r hI
  exact ⟨⟨by have := hr.1; omega, by have := hr.2; omega⟩, hr, rfl⟩
set_option maxHeartbeats 4000000 in
theorem lm_after {N : Nat} (hV : INV N S) (x y z : Int) : m_after (w_after S x y z) x y z 33 0 = k_after S x y z ∧ INV (N + 1) (m_after (w_after S x y z) x y z) ∧ (k_after S x y z = 0 → r64 (m_after (w_after S x y z) x y z 47 0) ∧ r64 (b_after (w_after S x y z) x y z) ∧ m_after (w_after S x y z) x y z 47 0 = b_after (w_after S x y z) x y z) := by
  obtain ⟨hI, hM, hR⟩ := id hV
  obtain ⟨r1, r2, r3, r4, r5, r6, r7, r8, r9, r10⟩ := id hR
  obtain ⟨⟨i0, j0⟩, ⟨i1, j1⟩, ⟨i2, j2⟩, ⟨i3, j3⟩, hpr, ham, i5, ⟨i6, j6⟩, ⟨i7, j7⟩, ⟨i8, j8⟩, ⟨i9, j9⟩, h6, hRS, hRD, hal⟩ := id hI
  by_cases c1 : ¬ ((0 ≤ x ∧ x ≤ 3) ∧ (0 ≤ y ∧ y ≤ 1) ∧ (0 ≤ z ∧ z ≤ 1))
  · have hk : k_after S x y z = 1 := by unfold k_after; rw [if_pos c1]
    have hw : w_after S x y z = S := by unfold w_after; rw [if_pos c1]
    have hg : gv (bi ((0 ≤ x ∧ x ≤ 3) ∧ (0 ≤ y ∧ y ≤ 1) ∧ (0 ≤ z ∧ z ≤ 1))) (S 33 14) = 1 := gv_a (by omega)
    have hm : m_after S x y z = u2 S 33 0 1 := by unfold m_after; rw [hg, if_neg (by decide)]
    rw [hk, hw, hm]
    exact ⟨rfl, INV_th hV, fun h => absurd h (by decide)⟩
  by_cases c2 : ((0 ≤ x ∧ x ≤ 3) ∧ (0 ≤ y ∧ y ≤ 1) ∧ (0 ≤ z ∧ z ≤ 1)) ∧ S 5 0 = 0
  · have hk : k_after S x y z = 2 := by unfold k_after; rw [if_neg c1, if_pos c2]
    have hw : w_after S x y z = S := by unfold w_after; rw [if_neg c1, if_pos c2]
    have hg : gv (bi ((0 ≤ x ∧ x ≤ 3) ∧ (0 ≤ y ∧ y ≤ 1) ∧ (0 ≤ z ∧ z ≤ 1))) (S 33 14) = 2 := gv_d (by omega) (by omega)
    have hm : m_after S x y z = u2 S 33 0 2 := by unfold m_after; rw [hg, if_neg (by decide)]
    rw [hk, hw, hm]
    exact ⟨rfl, INV_th hV, fun h => absurd h (by decide)⟩
  have hk : k_after S x y z = 0 := by unfold k_after; rw [if_neg c1, if_neg c2]
  obtain ⟨v, hv⟩ : ∃ v, v = (if 0 < eu 200 (heldP S (2 * x.toNat + y.toNat) (S 0 4).toNat) (1000 * (S 1 0 + S 5 2)) then Int.tdiv (if z = 0 then heldP S (2 * x.toNat + y.toNat) (S 0 4).toNat else 1000 * (S 1 0 + S 5 2)) (eu 200 (heldP S (2 * x.toNat + y.toNat) (S 0 4).toNat) (1000 * (S 1 0 + S 5 2))) else 0) := ⟨_, rfl⟩
  have hw : w_after S x y z = u2 S 47 0 v := by unfold w_after; rw [if_neg c1, if_neg c2, hv]
  have hg : gv (bi ((0 ≤ x ∧ x ≤ 3) ∧ (0 ≤ y ∧ y ≤ 1) ∧ (0 ≤ z ∧ z ≤ 1))) (S 33 14) = 0 := gv_e (by omega) (by omega)
  obtain ⟨V, hVV⟩ : ∃ V, V = u2 S 47 0 v := ⟨_, rfl⟩
  have hne : ∀ y, y ≠ 47 → V y = S y := fun y hy => by rw [hVV, u2_ne hy]
  obtain ⟨U, hU⟩ : ∃ U, U = uA (u2 V 33 0 0) 46 4 (V 45) := ⟨_, rfl⟩
  have hL : LD S U := by rw [hU]; exact ld_of (fun y h1 h2 => hne y (by omega))
  have hm : m_after V x y z = U := by unfold m_after; rw [hne 33 (by decide), hg, if_pos rfl, hU]; rfl
  have hm47 : U 47 0 = v := by rw [hU, uA_ne (by decide), u2_ne (by decide), hVV, u2_eq]
  have h33 : U 33 0 = 0 := by rw [hU, uA_ne (by decide), u2_eq]
  rw [hk, hw, ← hVV, hm, hm47]
  refine ⟨h33, by rw [hU, hVV]; exact ld_inv hV, fun _ => ?_⟩
  obtain ⟨s1, s2, s3, s4⟩ := ld_sums hV (by omega) hL
  have hh := ld_held hV (by omega) hL x.toNat (by omega)
  have hH : aM U x.toNat y = heldP S (2 * x.toNat + y.toNat) (S 0 4).toNat := by
    rcases (show y = 0 ∨ y = 1 by omega) with rfl | rfl
    · exact hh.1
    · exact hh.2
  obtain ⟨H, hHH⟩ : ∃ H, H = heldP S (2 * x.toNat + y.toNat) (S 0 4).toNat := ⟨_, rfl⟩
  obtain ⟨W, hW⟩ : ∃ W, W = 1000 * (S 1 0 + S 5 2) := ⟨_, rfl⟩
  have hHr := heldP_r (q := 2 * x.toNat + y.toNat) (n := (S 0 4).toNat) (by omega) (by omega) hI
  rw [← hHH] at hHr hH
  have hD : 1000 * (U 33 1 + wM U) = W := by rw [s2, hL.2.2.1, r1, hW]
  have h27 : (2 : Int) ^ 27 = 134217728 := by decide +kernel
  have he : eu 200 H W = (Int.gcd H W : Int) := eu_gcd 27 200 H W hHr.1 (by omega) (by omega) (by omega)
  have hgp : 0 < (Int.gcd H W : Int) := by have := Int.gcd_pos_of_ne_zero_right H (show W ≠ 0 by omega); omega
  have hv2 : v = Int.tdiv (if z = 0 then H else W) (Int.gcd H W : Int) := by
    rw [hv, ← hHH, ← hW, he, if_pos hgp]
  have hb : b_after V x y z = v := by
    unfold b_after
    rw [hne 33 (by decide), hg, if_pos rfl]
    show Int.tdiv (if z = 0 then aM (uA (u2 V 33 0 0) 46 4 (V 45)) x.toNat y else 1000 * ((uA (u2 V 33 0 0) 46 4 (V 45)) 33 1 + wM (uA (u2 V 33 0 0) 46 4 (V 45)))) (Int.gcd (1000 * ((uA (u2 V 33 0 0) 46 4 (V 45)) 33 1 + wM (uA (u2 V 33 0 0) 46 4 (V 45)))) (aM (uA (u2 V 33 0 0) 46 4 (V 45)) x.toNat y) : Int) = v
    rw [← hU, hD, hH, hv2, Int.gcd_comm W H]
  rw [hb]
  have hr : r64 v := by rw [hv2]; exact tdiv_r (by split <;> omega) (by split <;> omega) (by omega)
  exact ⟨hr, hr, rfl⟩
set_option maxHeartbeats 4000000 in
theorem lm_heatAt {N : Nat} (hN : N ≤ 1000) (hV : INV N S) (x : Int) : m_heatAt (w_heatAt S x) x 33 0 = k_heatAt S x ∧ INV (N + 1) (m_heatAt (w_heatAt S x) x) ∧ (k_heatAt S x = 0 → r64 (m_heatAt (w_heatAt S x) x 47 0) ∧ r64 (b_heatAt (w_heatAt S x) x) ∧ m_heatAt (w_heatAt S x) x 47 0 = b_heatAt (w_heatAt S x) x) := by
  obtain ⟨hI, hM, hR⟩ := id hV
  obtain ⟨r1, r2, r3, r4, r5, r6, r7, r8, r9, r10⟩ := id hR
  obtain ⟨⟨i0, j0⟩, ⟨i1, j1⟩, ⟨i2, j2⟩, ⟨i3, j3⟩, hpr, ham, i5, ⟨i6, j6⟩, ⟨i7, j7⟩, ⟨i8, j8⟩, ⟨i9, j9⟩, h6, hRS, hRD, hal⟩ := id hI
  by_cases c1 : ¬ (0 ≤ x ∧ x ≤ 9)
  · have hk : k_heatAt S x = 1 := by unfold k_heatAt; rw [if_pos c1]
    have hw : w_heatAt S x = S := by unfold w_heatAt; rw [if_pos c1]
    have hg : gv (bi (0 ≤ x ∧ x ≤ 9)) 1 = 1 := gv_a (by omega)
    have hm : m_heatAt S x = u2 S 33 0 1 := by unfold m_heatAt; rw [hg, if_neg (by decide)]
    rw [hk, hw, hm]
    exact ⟨rfl, INV_th hV, fun h => absurd h (by decide)⟩
  have hk : k_heatAt S x = 0 := by unfold k_heatAt; rw [if_neg c1]
  obtain ⟨v, hv⟩ : ∃ v, v = (if x = 0 then S 1 0 else if x = 9 then S 1 2 else S 2 (x - 1).toNat) := ⟨_, rfl⟩
  have hw : w_heatAt S x = u2 S 47 0 v := by unfold w_heatAt; rw [if_neg c1, hv]
  have hg : gv (bi (0 ≤ x ∧ x ≤ 9)) 1 = 0 := gv_e (by omega) (by omega)
  obtain ⟨V, hVV⟩ : ∃ V, V = u2 S 47 0 v := ⟨_, rfl⟩
  have hne : ∀ y, y ≠ 47 → V y = S y := fun y hy => by rw [hVV, u2_ne hy]
  obtain ⟨U, hU⟩ : ∃ U, U = u2 V 33 0 0 := ⟨_, rfl⟩
  have hm : m_heatAt V x = U := by unfold m_heatAt; rw [hg, if_pos rfl, hU]
  have hm47 : U 47 0 = v := by rw [hU, u2_ne (by decide), hVV, u2_eq]
  rw [hk, hw, ← hVV, hm, hm47]
  refine ⟨by rw [hU, u2_eq], by rw [hU, hVV]; exact th_inv hV, fun _ => ?_⟩
  have hb : b_heatAt V x = v := by
    unfold b_heatAt
    rw [hg, if_pos rfl, hne 33 (by decide), hne 34 (by decide), hne 35 (by decide), hv, r1, r5]
    by_cases h0 : x = 0
    · rw [if_pos h0, if_pos h0]
    · rw [if_neg h0, if_neg h0]
      by_cases h9 : x = 9
      · rw [if_pos h9, if_pos h9]
      · rw [if_neg h9, if_neg h9]
        have q0 := r6 0 (by decide)
        have q1 := r6 1 (by decide)
        have q2 := r6 2 (by decide)
        have q3 := r6 3 (by decide)
        rcases (show x = 1 ∨ x = 2 ∨ x = 3 ∨ x = 4 ∨ x = 5 ∨ x = 6 ∨ x = 7 ∨ x = 8 by omega) with h | h | h | h | h | h | h | h <;> subst h
        · exact q0.1
        · exact q0.2.1
        · exact q1.1
        · exact q1.2.1
        · exact q2.1
        · exact q2.2.1
        · exact q3.1
        · exact q3.2.1
  rw [hb]
  have hr : r64 v := by
    rw [hv]
    by_cases h0 : x = 0
    · rw [if_pos h0]; exact ⟨by omega, by omega⟩
    · rw [if_neg h0]
      by_cases h9 : x = 9
      · rw [if_pos h9]; exact ⟨by omega, by omega⟩
      · rw [if_neg h9]
        have q := hpr (x - 1).toNat (by omega)
        exact ⟨by omega, by omega⟩
  exact ⟨hr, hr, rfl⟩
end M17
