def u2 (S : Nat → Nat → Int) (k j : Nat) (z : Int) : Nat → Nat → Int := fun k' => if k' = k then updI (S k) j z else S k'
def uR (S : Nat → Nat → Int) (k : Nat) (r : Nat → Int) : Nat → Nat → Int := fun k' => if k' = k then r else S k'
abbrev TY (cd : Nat → ClassId) : List (ClassId × FieldType) := [(cd 0, .int), (cd 1, .long), (cd 2, .object "AlloyPlans$Alloy"), (cd 3, .object "AlloyPlans$Mix")]
/-- a cell's contents out of its numbers r -/
def mkr (cd : Nat → ClassId) (ad : Nat → Nat) (k : Nat) (r : Nat → Int) : va_E := match k with
  | 0 => .inr (5, [.ref (ad 1), .ref (ad 4), .ref (ad 5), .ref (ad 7), iv (r 4)])
  | 1 => .inr (1, [iv (r 0), iv (r 1), jv (r 2), .ref (ad 2), .ref (ad 3)])
  | 2 => ia (cd 0) 8 r
  | 3 => ia (cd 0) 8 r
  | 4 => qa (cd 2) 4 (fun i => some (ad (11 + i)))
  | 5 => .inr (3, [iv (r 0), iv (r 1), iv (r 2), iv (r 3), iv (r 4), .ref (ad 6)])
  | 6 => ia (cd 0) 4 r
  | 7 => .inr (4, [iv (r 0), iv (r 1), .ref (ad 8), iv (r 3), iv (r 4), .ref (ad 9), .ref (ad 10)])
  | 8 => ia (cd 0) 4 r
  | 9 => ia (cd 0) 4 r
  | 10 => qa (cd 3) 5 (fun i => some (ad (23 + i)))
  | 11 => .inr (0, [iv (r 0), iv (r 1), iv (r 2), iv (r 3), iv (r 4), .ref (ad 15), .ref (ad 19)])
  | 12 => .inr (0, [iv (r 0), iv (r 1), iv (r 2), iv (r 3), iv (r 4), .ref (ad 16), .ref (ad 20)])
  | 13 => .inr (0, [iv (r 0), iv (r 1), iv (r 2), iv (r 3), iv (r 4), .ref (ad 17), .ref (ad 21)])
  | 14 => .inr (0, [iv (r 0), iv (r 1), iv (r 2), iv (r 3), iv (r 4), .ref (ad 18), .ref (ad 22)])
  | 15 => ia (cd 0) 8 r
  | 16 => ia (cd 0) 8 r
  | 17 => ia (cd 0) 8 r
  | 18 => ia (cd 0) 8 r
  | 19 => ja (cd 1) 8 r
  | 20 => ja (cd 1) 8 r
  | 21 => ja (cd 1) 8 r
  | 22 => ja (cd 1) 8 r
  | 23 => .inr (2, [iv (r 0), iv (r 1), iv (r 2), .ref (ad 28)])
  | 24 => .inr (2, [iv (r 0), iv (r 1), iv (r 2), .ref (ad 29)])
  | 25 => .inr (2, [iv (r 0), iv (r 1), iv (r 2), .ref (ad 30)])
  | 26 => .inr (2, [iv (r 0), iv (r 1), iv (r 2), .ref (ad 31)])
  | 27 => .inr (2, [iv (r 0), iv (r 1), iv (r 2), .ref (ad 32)])
  | 28 => ja (cd 1) 8 r
  | 29 => ja (cd 1) 8 r
  | 30 => ja (cd 1) 8 r
  | 31 => ja (cd 1) 8 r
  | 32 => ja (cd 1) 8 r
  | 33 => .inr (6, [iv (r 0), iv (r 1), .ref (ad 34), .ref (ad 35), .ref (ad 36), .ref (ad 37), iv (r 6), .ref (ad 38), .ref (ad 39), .ref (ad 40), .ref (ad 41), .ref (ad 42), .ref (ad 43), .ref (ad 44), iv (r 14), .ref (ad 45), .ref (ad 46), iv (r 17), jv (r 18)])
  | 34 => ia (cd 0) 4 r
  | 35 => ia (cd 0) 4 r
  | 36 => ia (cd 0) 4 r
  | 37 => ia (cd 0) 4 r
  | 38 => ia (cd 0) 4 r
  | 39 => ia (cd 0) 4 r
  | 40 => ia (cd 0) 4 r
  | 41 => ia (cd 0) 16 r
  | 42 => ia (cd 0) 16 r
  | 43 => ia (cd 0) 4 r
  | 44 => ia (cd 0) 4 r
  | 45 => ia (cd 0) 4 r
  | 46 => ia (cd 0) 4 r
  | _ => ja (cd 1) 1 r
def LO (ad : Nat → Nat) (L : List Nat) : Prop := (∀ k, k < 48 → ad k ∈ L) ∧ ∀ i j, i < 48 → j < 48 → ad i = ad j → i = j
/-- the world: cell k at ad k with the numbers S k -/
noncomputable def wd (cd : Nat → ClassId) (ad : Nat → Nat) (S : Nat → Nat → Int) (f0 : Nat → va_E) : Nat → va_E := fun a => @dite _ (∃ k, k < 48 ∧ ad k = a) (Classical.propDecidable _) (fun h => mkr cd ad (Classical.choose h) (S (Classical.choose h))) (fun _ => f0 a)
section LAY
variable {cd : Nat → ClassId} {ad : Nat → Nat} {L : List Nat} {f0 : Nat → va_E} {S : Nat → Nat → Int}
theorem wd_at (G : LO ad L) (k : Nat) (hk : k < 48) : wd cd ad S f0 (ad k) = mkr cd ad k (S k) := by
  have h : ∃ j, j < 48 ∧ ad j = ad k := ⟨k, hk, rfl⟩
  have e : Classical.choose h = k := G.2 _ _ (Classical.choose_spec h).1 hk (Classical.choose_spec h).2
  unfold wd
  rw [dif_pos h, e]
theorem wd_off {a : Nat} (h : ¬ ∃ k, k < 48 ∧ ad k = a) : wd cd ad S f0 a = f0 a := by
  unfold wd
  rw [dif_neg h]
theorem wd_up (G : LO ad L) (k : Nat) (hk : k < 48) (r : Nat → Int) : va_up (wd cd ad S f0) (ad k) (mkr cd ad k r) = wd cd ad (uR S k r) f0 := by
  funext a
  by_cases h : ∃ j, j < 48 ∧ ad j = a
  · obtain ⟨j, hj, rfl⟩ := h
    rw [wd_at G j hj]
    by_cases hjk : j = k
    · subst hjk
      rw [va_up_self]
      simp [uR]
    · rw [va_up_ne _ _ (fun e => hjk (G.2 j k hj hk e)), wd_at G j hj]
      simp [uR, hjk]
  · have hne : a ≠ ad k := fun e => h ⟨k, hk, e.symm⟩
    rw [va_up_ne _ _ hne, wd_off h, wd_off h]
theorem at_P (G : LO ad L) : wd cd ad S f0 (ad 0) = .inr (5, [.ref (ad 1), .ref (ad 4), .ref (ad 5), .ref (ad 7), iv (S 0 4)]) := wd_at G 0 (by decide)
theorem at_E (G : LO ad L) : wd cd ad S f0 (ad 1) = .inr (1, [iv (S 1 0), iv (S 1 1), jv (S 1 2), .ref (ad 2), .ref (ad 3)]) := wd_at G 1 (by decide)
theorem at_N (G : LO ad L) : wd cd ad S f0 (ad 5) = .inr (3, [iv (S 5 0), iv (S 5 1), iv (S 5 2), iv (S 5 3), iv (S 5 4), .ref (ad 6)]) := wd_at G 5 (by decide)
theorem at_S (G : LO ad L) : wd cd ad S f0 (ad 7) = .inr (4, [iv (S 7 0), iv (S 7 1), .ref (ad 8), iv (S 7 3), iv (S 7 4), .ref (ad 9), .ref (ad 10)]) := wd_at G 7 (by decide)
theorem mk_A (i : Nat) (hi : i < 4) (r : Nat → Int) : mkr cd ad (11 + i) r = .inr (0, [iv (r 0), iv (r 1), iv (r 2), iv (r 3), iv (r 4), .ref (ad (15 + i)), .ref (ad (19 + i))]) := by
  match i, hi with
  | 0, _ => rfl
  | 1, _ => rfl
  | 2, _ => rfl
  | 3, _ => rfl
theorem at_A (G : LO ad L) (i : Nat) (hi : i < 4) : wd cd ad S f0 (ad (11 + i)) = .inr (0, [iv (S (11 + i) 0), iv (S (11 + i) 1), iv (S (11 + i) 2), iv (S (11 + i) 3), iv (S (11 + i) 4), .ref (ad (15 + i)), .ref (ad (19 + i))]) := (wd_at G (11 + i) (by omega)).trans (mk_A i hi _)
theorem mk_X (i : Nat) (hi : i < 5) (r : Nat → Int) : mkr cd ad (23 + i) r = .inr (2, [iv (r 0), iv (r 1), iv (r 2), .ref (ad (28 + i))]) := by
  match i, hi with
  | 0, _ => rfl
  | 1, _ => rfl
  | 2, _ => rfl
  | 3, _ => rfl
  | 4, _ => rfl
theorem at_X (G : LO ad L) (i : Nat) (hi : i < 5) : wd cd ad S f0 (ad (23 + i)) = .inr (2, [iv (S (23 + i) 0), iv (S (23 + i) 1), iv (S (23 + i) 2), .ref (ad (28 + i))]) := (wd_at G (23 + i) (by omega)).trans (mk_X i hi _)
theorem at_M (G : LO ad L) : wd cd ad S f0 (ad 33) = .inr (6, [iv (S 33 0), iv (S 33 1), .ref (ad 34), .ref (ad 35), .ref (ad 36), .ref (ad 37), iv (S 33 6), .ref (ad 38), .ref (ad 39), .ref (ad 40), .ref (ad 41), .ref (ad 42), .ref (ad 43), .ref (ad 44), iv (S 33 14), .ref (ad 45), .ref (ad 46), iv (S 33 17), jv (S 33 18)]) := wd_at G 33 (by decide)
theorem at_2 (G : LO ad L) : wd cd ad S f0 (ad 2) = ia (cd 0) 8 (S 2) := wd_at G 2 (by decide)
theorem at_3 (G : LO ad L) : wd cd ad S f0 (ad 3) = ia (cd 0) 8 (S 3) := wd_at G 3 (by decide)
theorem at_6 (G : LO ad L) : wd cd ad S f0 (ad 6) = ia (cd 0) 4 (S 6) := wd_at G 6 (by decide)
theorem at_8 (G : LO ad L) : wd cd ad S f0 (ad 8) = ia (cd 0) 4 (S 8) := wd_at G 8 (by decide)
theorem at_9 (G : LO ad L) : wd cd ad S f0 (ad 9) = ia (cd 0) 4 (S 9) := wd_at G 9 (by decide)
theorem at_34 (G : LO ad L) : wd cd ad S f0 (ad 34) = ia (cd 0) 4 (S 34) := wd_at G 34 (by decide)
theorem at_35 (G : LO ad L) : wd cd ad S f0 (ad 35) = ia (cd 0) 4 (S 35) := wd_at G 35 (by decide)
theorem at_36 (G : LO ad L) : wd cd ad S f0 (ad 36) = ia (cd 0) 4 (S 36) := wd_at G 36 (by decide)
theorem at_37 (G : LO ad L) : wd cd ad S f0 (ad 37) = ia (cd 0) 4 (S 37) := wd_at G 37 (by decide)
theorem at_38 (G : LO ad L) : wd cd ad S f0 (ad 38) = ia (cd 0) 4 (S 38) := wd_at G 38 (by decide)
theorem at_39 (G : LO ad L) : wd cd ad S f0 (ad 39) = ia (cd 0) 4 (S 39) := wd_at G 39 (by decide)
theorem at_40 (G : LO ad L) : wd cd ad S f0 (ad 40) = ia (cd 0) 4 (S 40) := wd_at G 40 (by decide)
theorem at_41 (G : LO ad L) : wd cd ad S f0 (ad 41) = ia (cd 0) 16 (S 41) := wd_at G 41 (by decide)
theorem at_42 (G : LO ad L) : wd cd ad S f0 (ad 42) = ia (cd 0) 16 (S 42) := wd_at G 42 (by decide)
theorem at_43 (G : LO ad L) : wd cd ad S f0 (ad 43) = ia (cd 0) 4 (S 43) := wd_at G 43 (by decide)
theorem at_44 (G : LO ad L) : wd cd ad S f0 (ad 44) = ia (cd 0) 4 (S 44) := wd_at G 44 (by decide)
theorem at_45 (G : LO ad L) : wd cd ad S f0 (ad 45) = ia (cd 0) 4 (S 45) := wd_at G 45 (by decide)
theorem at_46 (G : LO ad L) : wd cd ad S f0 (ad 46) = ia (cd 0) 4 (S 46) := wd_at G 46 (by decide)
theorem at_47 (G : LO ad L) : wd cd ad S f0 (ad 47) = ja (cd 1) 1 (S 47) := wd_at G 47 (by decide)
theorem mk_15 (i : Nat) (hi : i < 4) (r : Nat → Int) : mkr cd ad (15 + i) r = ia (cd 0) 8 r := by
  match i, hi with
  | 0, _ => rfl
  | 1, _ => rfl
  | 2, _ => rfl
  | 3, _ => rfl
theorem at_15 (G : LO ad L) (i : Nat) (hi : i < 4) : wd cd ad S f0 (ad (15 + i)) = ia (cd 0) 8 (S (15 + i)) := (wd_at G (15 + i) (by omega)).trans (mk_15 i hi _)
theorem mk_19 (i : Nat) (hi : i < 4) (r : Nat → Int) : mkr cd ad (19 + i) r = ja (cd 1) 8 r := by
  match i, hi with
  | 0, _ => rfl
  | 1, _ => rfl
  | 2, _ => rfl
  | 3, _ => rfl
theorem at_19 (G : LO ad L) (i : Nat) (hi : i < 4) : wd cd ad S f0 (ad (19 + i)) = ja (cd 1) 8 (S (19 + i)) := (wd_at G (19 + i) (by omega)).trans (mk_19 i hi _)
theorem mk_28 (i : Nat) (hi : i < 5) (r : Nat → Int) : mkr cd ad (28 + i) r = ja (cd 1) 8 r := by
  match i, hi with
  | 0, _ => rfl
  | 1, _ => rfl
  | 2, _ => rfl
  | 3, _ => rfl
  | 4, _ => rfl
theorem at_28 (G : LO ad L) (i : Nat) (hi : i < 5) : wd cd ad S f0 (ad (28 + i)) = ja (cd 1) 8 (S (28 + i)) := (wd_at G (28 + i) (by omega)).trans (mk_28 i hi _)
theorem at_4 (G : LO ad L) : wd cd ad S f0 (ad 4) = qa (cd 2) 4 (fun i => some (ad (11 + i))) := wd_at G 4 (by decide)
theorem at_10 (G : LO ad L) : wd cd ad S f0 (ad 10) = qa (cd 3) 5 (fun i => some (ad (23 + i))) := wd_at G 10 (by decide)
end LAY
