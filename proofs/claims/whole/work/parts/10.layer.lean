/-! LAYER: ints and longs as Lean's Int; the world as one pool 'va_pl L f' (L: the addresses, f: what each holds); gW: the machine at pc with the listed locals, the stack, and the world f, comes to Q -/
abbrev iv (z : Int) : Value := .int (Int32.ofInt z)
abbrev jv (z : Int) : Value := .long (Int64.ofInt z)
def r32 (z : Int) : Prop := -2147483648 ≤ z ∧ z ≤ 2147483647
def r64 (z : Int) : Prop := -9223372036854775808 ≤ z ∧ z ≤ 9223372036854775807
theorem iv_T {a : Int} (h : r32 a) : (Int32.ofInt a).toInt = a := by
  obtain ⟨h1, h2⟩ := h
  exact Int32.toInt_ofInt_of_le (by omega) (by omega)
theorem jv_T {a : Int} (h : r64 a) : (Int64.ofInt a).toInt = a := by
  obtain ⟨h1, h2⟩ := h
  exact Int64.toInt_ofInt_of_le (by omega) (by omega)
theorem iv_of (x : Int32) : r32 x.toInt ∧ Int32.ofInt x.toInt = x := by
  refine ⟨⟨?_, ?_⟩, Int32.ofInt_toInt x⟩
  · have := Int32.le_toInt x; omega
  · have := Int32.toInt_lt x; omega
theorem iv_lt {a b : Int} (ha : r32 a) (hb : r32 b) : Int32.ofInt a < Int32.ofInt b ↔ a < b := by rw [Int32.lt_iff_toInt_lt, iv_T ha, iv_T hb]
theorem iv_le {a b : Int} (ha : r32 a) (hb : r32 b) : Int32.ofInt a ≤ Int32.ofInt b ↔ a ≤ b := by rw [Int32.le_iff_toInt_le, iv_T ha, iv_T hb]
theorem iv_eq {a b : Int} (ha : r32 a) (hb : r32 b) : Int32.ofInt a = Int32.ofInt b ↔ a = b := by rw [← Int32.toInt_inj, iv_T ha, iv_T hb]
theorem jv_lt {a b : Int} (ha : r64 a) (hb : r64 b) : Int64.ofInt a < Int64.ofInt b ↔ a < b := by rw [Int64.lt_iff_toInt_lt, jv_T ha, jv_T hb]
theorem jv_eq {a b : Int} (ha : r64 a) (hb : r64 b) : Int64.ofInt a = Int64.ofInt b ↔ a = b := by rw [← Int64.toInt_inj, jv_T ha, jv_T hb]
theorem iv_z : Int32.ofInt 0 = 0 := rfl
theorem iv_lt0 {a : Int} (ha : r32 a) : Int32.ofInt a < 0 ↔ a < 0 := iv_lt (b := 0) ha ⟨by omega, by omega⟩
theorem iv_le0 {a : Int} (ha : r32 a) : Int32.ofInt a ≤ 0 ↔ a ≤ 0 := iv_le (b := 0) ha ⟨by omega, by omega⟩
theorem iv_0le {a : Int} (ha : r32 a) : 0 ≤ Int32.ofInt a ↔ 0 ≤ a := iv_le (a := 0) ⟨by omega, by omega⟩ ha
theorem iv_0lt {a : Int} (ha : r32 a) : 0 < Int32.ofInt a ↔ 0 < a := iv_lt (a := 0) ⟨by omega, by omega⟩ ha
theorem iv_eq0 {a : Int} (ha : r32 a) : Int32.ofInt a = 0 ↔ a = 0 := iv_eq (b := 0) ha ⟨by omega, by omega⟩
theorem jv_eq0 {a : Int} (ha : r64 a) : Int64.ofInt a = 0 ↔ a = 0 := jv_eq (b := 0) ha ⟨by omega, by omega⟩
theorem iv_in {z : Int} {n : Nat} (h : r32 z) (h0 : 0 ≤ z) (hn : z < n) : vp_in (Int32.ofInt z) n := by
  rw [vp_in_iff, iv_T h]
  exact ⟨h0, hn⟩
theorem iv_cl {z : Int} (h : r32 z) : (Int32.ofInt z).toNatClampNeg = z.toNat := by
  show (Int32.ofInt z).toInt.toNat = z.toNat
  rw [iv_T h]
/-- arrays of ints and longs, held as functions to Int -/
def updI (g : Nat → Int) (k : Nat) (z : Int) : Nat → Int := fun j => if j = k then z else g j
abbrev ia (cA : ClassId) (n : Nat) (g : Nat → Int) : va_E := .inl (cA, n, .inl (fun j => Int32.ofInt (g j)))
abbrev ja (cA : ClassId) (n : Nat) (g : Nat → Int) : va_E := .inl (cA, n, .inr (.inl (fun j => Int64.ofInt (g j))))
abbrev qa (cA : ClassId) (n : Nat) (g : Nat → Option Nat) : va_E := .inl (cA, n, .inr (.inr (.inr (.inr g))))
theorem updI_i (g : Nat → Int) (k : Nat) (z : Int) : upd (fun j => Int32.ofInt (g j)) k (Int32.ofInt z) = fun j => Int32.ofInt (updI g k z j) := by
  funext j
  simp only [upd, updI]
  split <;> rfl
theorem updI_l (g : Nat → Int) (k : Nat) (z : Int) : vp_updL (fun j => Int64.ofInt (g j)) k (Int64.ofInt z) = fun j => Int64.ofInt (updI g k z j) := by
  funext j
  simp only [vp_updL, updI]
  split <;> rfl
def gA (L : List Nat) (sz : Nat) : Nat → Prop := fun q => q ∈ L ∨ sz ≤ q
theorem pl_get {L : List Nat} {f : Nat → va_E} {a : Nat} (h : a ∈ L) : ∃ k : Nat, (va_pl L f)[k]? = some (a, f a) := va_pl_get (X := []) h
theorem pl_set {A : Nat → Prop} {L : List Nat} {f : Nat → va_E} {a k : Nat} {e : va_E} (hD : va_D A (va_pl L f)) (h : a ∈ L) (hk : (va_pl L f)[k]? = some (a, f a)) : (va_pl L f).set k (a, e) = va_pl L (va_up f a e) := va_pl_set (X := []) hD h hk
theorem pl_one {D : va_G} {cl : List vw_C} {L : List Nat} {f : Nat → va_E} {H : Heap} (hP : va_P D cl (va_pl L f) H) {a : Nat} (h : a ∈ L) {e : va_E} (he : f a = e) : va_P D cl [(a, e)] H := by
  obtain ⟨k, hk⟩ := pl_get (f := f) h
  intro j q hj
  have hj0 : j = 0 := by
    have := (List.getElem?_eq_some_iff.mp hj).1
    simpa using this
  subst hj0
  cases hj
  rw [← he]
  exact hP k _ hk
theorem pl_D {A B : Nat → Prop} {L : List Nat} {f g : Nat → va_E} (h : va_D A (va_pl L f)) (hB : ∀ q, q ∈ L → B q) : va_D B (va_pl L g) := by
  refine ⟨fun i j x y hx hy hxy => ?_, fun k q hk => ?_⟩
  · simp only [va_pl, List.getElem?_map] at hx hy
    cases h1 : L[i]? with
    | none => rw [h1] at hx; cases hx
    | some a =>
      cases h2 : L[j]? with
      | none => rw [h2] at hy; cases hy
      | some b =>
        rw [h1] at hx; rw [h2] at hy
        cases hx; cases hy
        exact h.1 i j (a, f a) (b, f b) (by simp [va_pl, h1]) (by simp [va_pl, h2]) hxy
  · simp only [va_pl, List.getElem?_map] at hk
    cases h1 : L[k]? with
    | none => rw [h1] at hk; cases hk
    | some a =>
      rw [h1] at hk
      cases hk
      exact hB a (List.mem_of_getElem? h1)
theorem pl_DA {A : Nat → Prop} {L : List Nat} {f : Nat → va_E} (h : va_D A (va_pl L f)) {q : Nat} (hq : q ∈ L) : A q := by
  obtain ⟨k, hk⟩ := pl_get (f := f) hq
  exact h.2 k _ hk
