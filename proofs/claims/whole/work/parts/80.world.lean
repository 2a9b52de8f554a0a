section M18
variable {l : Launch} {D : va_G} {cd : Nat → ClassId} {ad : Nat → Nat} {L : List Nat} {f f0 : Nat → va_E} {S : Nat → Nat → Int}
theorem k_r_heat (S : Nat → Nat → Int) (x : Int) : 0 ≤ k_heat S x ∧ k_heat S x ≤ 2 := by unfold k_heat; repeat' split; all_goals omega
theorem wy_heat {N : Nat} (hV : INV N S) (x : Int) {y9 : Nat} (h1 : 33 ≤ y9) (h2 : y9 ≤ 46) : w_heat S x y9 = S y9 := by
  have i0 := hV.1.1
  unfold w_heat
  split
  · rfl
  · split
    · rfl
    · rw [u2_ne (by omega), u2_ne (by omega)]
theorem im_heat {N : Nat} (hV : INV N S) (x : Int) : IM (w_heat S x) := IM_fr (fun y9 h1 h2 => wy_heat hV x (by omega) h2) (fun j _ => by rw [wy_heat hV x (by decide) (by decide)]) hV.2.1
theorem k_r_present (S : Nat → Nat → Int) (x y z : Int) : 0 ≤ k_present S x y z ∧ k_present S x y z ≤ 2 := by unfold k_present; repeat' split; all_goals omega
theorem wy_present {N : Nat} (hV : INV N S) (x y z : Int) {y9 : Nat} (h1 : 33 ≤ y9) (h2 : y9 ≤ 46) : w_present S x y z y9 = S y9 := by
  have i0 := hV.1.1
  unfold w_present
  split
  · rfl
  · split
    · rfl
    · rw [u2_ne (by omega), u2_ne (by omega), u2_ne (by omega)]
theorem im_present {N : Nat} (hV : INV N S) (x y z : Int) : IM (w_present S x y z) := IM_fr (fun y9 h1 h2 => wy_present hV x y z (by omega) h2) (fun j _ => by rw [wy_present hV x y z (by decide) (by decide)]) hV.2.1
theorem k_r_aim (S : Nat → Nat → Int) (x y z : Int) : 0 ≤ k_aim S x y z ∧ k_aim S x y z ≤ 2 := by unfold k_aim; repeat' split; all_goals omega
theorem wy_aim {N : Nat} (hV : INV N S) (x y z : Int) {y9 : Nat} (h1 : 33 ≤ y9) (h2 : y9 ≤ 46) : w_aim S x y z y9 = S y9 := by
  have i0 := hV.1.1
  unfold w_aim
  split
  · rfl
  · split
    · rfl
    · rw [u2_ne (by omega), u2_ne (by omega), u2_ne (by omega)]
theorem im_aim {N : Nat} (hV : INV N S) (x y z : Int) : IM (w_aim S x y z) := IM_fr (fun y9 h1 h2 => wy_aim hV x y z (by omega) h2) (fun j _ => by rw [wy_aim hV x y z (by decide) (by decide)]) hV.2.1
theorem k_r_kind (S : Nat → Nat → Int) (x y z : Int) : 0 ≤ k_kind S x y z ∧ k_kind S x y z ≤ 2 := by unfold k_kind; repeat' split; all_goals omega
theorem wy_kind {N : Nat} (hV : INV N S) (x y z : Int) {y9 : Nat} (h1 : 33 ≤ y9) (h2 : y9 ≤ 46) : w_kind S x y z y9 = S y9 := by
  have i0 := hV.1.1
  unfold w_kind
  split
  · rfl
  · split
    · rfl
    · rw [u2_ne (by omega), u2_ne (by omega), u2_ne (by omega), u2_ne (by omega), u2_ne (by omega), u2_ne (by omega)]
theorem im_kind {N : Nat} (hV : INV N S) (x y z : Int) : IM (w_kind S x y z) := IM_fr (fun y9 h1 h2 => wy_kind hV x y z (by omega) h2) (fun j _ => by rw [wy_kind hV x y z (by decide) (by decide)]) hV.2.1
theorem k_r_holds (S : Nat → Nat → Int) (x y z u : Int) : 0 ≤ k_holds S x y z u ∧ k_holds S x y z u ≤ 2 := by unfold k_holds; repeat' split; all_goals omega
theorem wy_holds {N : Nat} (hV : INV N S) (x y z u : Int) {y9 : Nat} (h1 : 33 ≤ y9) (h2 : y9 ≤ 46) : w_holds S x y z u y9 = S y9 := by
  have i0 := hV.1.1
  unfold w_holds
  split
  · rfl
  · split
    · rfl
    · rw [u2_ne (by omega), u2_ne (by omega), u2_ne (by omega)]
theorem im_holds {N : Nat} (hV : INV N S) (x y z u : Int) : IM (w_holds S x y z u) := IM_fr (fun y9 h1 h2 => wy_holds hV x y z u (by omega) h2) (fun j _ => by rw [wy_holds hV x y z u (by decide) (by decide)]) hV.2.1
theorem k_r_yields (S : Nat → Nat → Int) (x y z : Int) : 0 ≤ k_yields S x y z ∧ k_yields S x y z ≤ 2 := by unfold k_yields; repeat' split; all_goals omega
theorem wy_yields {N : Nat} (hV : INV N S) (x y z : Int) {y9 : Nat} (h1 : 33 ≤ y9) (h2 : y9 ≤ 46) : w_yields S x y z y9 = S y9 := by
  have i0 := hV.1.1
  unfold w_yields
  split
  · rfl
  · split
    · rfl
    · rw [u2_ne (by omega), u2_ne (by omega), u2_ne (by omega)]
theorem im_yields {N : Nat} (hV : INV N S) (x y z : Int) : IM (w_yields S x y z) := IM_fr (fun y9 h1 h2 => wy_yields hV x y z (by omega) h2) (fun j _ => by rw [wy_yields hV x y z (by decide) (by decide)]) hV.2.1
theorem k_r_run (S : Nat → Nat → Int) (x : Int) : 0 ≤ k_run S x ∧ k_run S x ≤ 2 := by unfold k_run; repeat' split; all_goals omega
theorem wy_run {N : Nat} (hV : INV N S) (x : Int) {y9 : Nat} (h1 : 33 ≤ y9) (h2 : y9 ≤ 46) : w_run S x y9 = S y9 := by
  have i0 := hV.1.1
  unfold w_run
  split
  · rfl
  · next h9 =>
    rw [u2_ne (by omega)]
    unfold runS
    split
    · exact tr_ne hV (by omega) (by omega) (by omega) (by omega)
    · unfold setP
      rw [u2_ne (by omega)]
      unfold setS
      rw [if_neg (by omega), if_neg (by omega)]
      exact tr_ne hV (by omega) (by omega) (by omega) (by omega)
theorem im_run {N : Nat} (hV : INV N S) (x : Int) : IM (w_run S x) := IM_fr (fun y9 h1 h2 => wy_run hV x (by omega) h2) (fun j _ => by rw [wy_run hV x (by decide) (by decide)]) hV.2.1
theorem k_r_steps (S : Nat → Nat → Int) (x : Int) : 0 ≤ k_steps S x ∧ k_steps S x ≤ 2 := by unfold k_steps; repeat' split; all_goals omega
theorem wy_steps {N : Nat} (hV : INV N S) (x : Int) {y9 : Nat} (h1 : 33 ≤ y9) (h2 : y9 ≤ 46) : w_steps S x y9 = S y9 := by
  have i0 := hV.1.1
  unfold w_steps
  split
  · rfl
  · split
    · rfl
    · rw [u2_ne (by omega)]
theorem im_steps {N : Nat} (hV : INV N S) (x : Int) : IM (w_steps S x) := IM_fr (fun y9 h1 h2 => wy_steps hV x (by omega) h2) (fun j _ => by rw [wy_steps hV x (by decide) (by decide)]) hV.2.1
theorem k_r_planned (S : Nat → Nat → Int) (x : Int) : 0 ≤ k_planned S x ∧ k_planned S x ≤ 2 := by unfold k_planned; repeat' split; all_goals omega
theorem wy_planned {N : Nat} (hV : INV N S) (x : Int) {y9 : Nat} (h1 : 33 ≤ y9) (h2 : y9 ≤ 46) : w_planned S x y9 = S y9 := by
  have i0 := hV.1.1
  unfold w_planned
  split
  · rfl
  · split
    · rfl
    · rw [u2_ne (by omega)]
theorem im_planned {N : Nat} (hV : INV N S) (x : Int) : IM (w_planned S x) := IM_fr (fun y9 h1 h2 => wy_planned hV x (by omega) h2) (fun j _ => by rw [wy_planned hV x (by decide) (by decide)]) hV.2.1
theorem k_r_order (S : Nat → Nat → Int) (x : Int) : 0 ≤ k_order S x ∧ k_order S x ≤ 2 := by unfold k_order; repeat' split; all_goals omega
theorem wy_order {N : Nat} (hV : INV N S) (x : Int) {y9 : Nat} (h1 : 33 ≤ y9) (h2 : y9 ≤ 46) : w_order S x y9 = S y9 := by
  have i0 := hV.1.1
  unfold w_order
  split
  · rfl
  · split
    · rfl
    · rw [u2_ne (by omega)]
theorem im_order {N : Nat} (hV : INV N S) (x : Int) : IM (w_order S x) := IM_fr (fun y9 h1 h2 => wy_order hV x (by omega) h2) (fun j _ => by rw [wy_order hV x (by decide) (by decide)]) hV.2.1
theorem k_r_after (S : Nat → Nat → Int) (x y z : Int) : 0 ≤ k_after S x y z ∧ k_after S x y z ≤ 2 := by unfold k_after; repeat' split; all_goals omega
theorem wy_after {N : Nat} (hV : INV N S) (x y z : Int) {y9 : Nat} (h1 : 33 ≤ y9) (h2 : y9 ≤ 46) : w_after S x y z y9 = S y9 := by
  have i0 := hV.1.1
  unfold w_after
  split
  · rfl
  · split
    · rfl
    · rw [u2_ne (by omega)]
theorem im_after {N : Nat} (hV : INV N S) (x y z : Int) : IM (w_after S x y z) := IM_fr (fun y9 h1 h2 => wy_after hV x y z (by omega) h2) (fun j _ => by rw [wy_after hV x y z (by decide) (by decide)]) hV.2.1
theorem k_r_add (S : Nat → Nat → Int) : 0 ≤ k_add S ∧ k_add S ≤ 2 := by unfold k_add; repeat' split; all_goals omega
theorem wy_add {N : Nat} (hV : INV N S) {y9 : Nat} (h1 : 33 ≤ y9) (h2 : y9 ≤ 46) : w_add S y9 = S y9 := by
  have i0 := hV.1.1
  unfold w_add
  split
  · rfl
  · split
    · rfl
    · rw [u2_ne (by omega), u2_ne (by omega), u2_ne (by omega), u2_ne (by omega), u2_ne (by omega), uA_ne (by omega)]
theorem im_add {N : Nat} (hV : INV N S) : IM (w_add S) := IM_fr (fun y9 h1 h2 => wy_add hV (by omega) h2) (fun j _ => by rw [wy_add hV (by decide) (by decide)]) hV.2.1
theorem k_r_heatAt (S : Nat → Nat → Int) (x : Int) : 0 ≤ k_heatAt S x ∧ k_heatAt S x ≤ 2 := by unfold k_heatAt; repeat' split; all_goals omega
theorem wy_heatAt {N : Nat} (hV : INV N S) (x : Int) {y9 : Nat} (h1 : 33 ≤ y9) (h2 : y9 ≤ 46) : w_heatAt S x y9 = S y9 := by
  have i0 := hV.1.1
  unfold w_heatAt
  split
  · rfl
  · rw [u2_ne (by omega)]
theorem im_heatAt {N : Nat} (hV : INV N S) (x : Int) : IM (w_heatAt S x) := IM_fr (fun y9 h1 h2 => wy_heatAt hV x (by omega) h2) (fun j _ => by rw [wy_heatAt hV x (by decide) (by decide)]) hV.2.1
end M18
