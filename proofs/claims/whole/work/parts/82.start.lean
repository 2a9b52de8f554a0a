section M19
variable {p : Program} {l : Launch} {e : Env} {s : State} {m : MethodId} {below : List Frame} {meth : Method} {c : Code} {D : va_G} {A : Nat → Prop} {Q : State → Prop} {cells slots : Nat} {L : List Nat} {f0 f : Nat → va_E} {pc : Nat} {lv : List (Nat × Value)} {st : List Value} {cd : Nat → ClassId} {ad : Nat → Nat} {S : Nat → Nat → Int} {b Ln : Nat} {xs : Nat → Int32} {R : Room} {args : Array Value} {cc : ByteArray} {own : String} {nL : Nat}
/-- the numbers at the start -/
def al0 : Nat → Int := fun j => match j with
  | 1 => 1
  | 3 => 1000
  | _ => 0
def on1 (n : Nat) : Nat → Int := fun j => if j = n then 1 else 0
def S0 : Nat → Nat → Int := fun k => match k with
  | 1 => on1 0
  | 3 => updI (updI (updI (updI (updI (updI (updI (updI (fun _ => 0) 0 0) 1 100000) 2 0) 3 100000) 4 0) 5 100000) 6 0) 7 100000
  | 11 => al0
  | 12 => al0
  | 13 => al0
  | 14 => al0
  | 33 => on1 1
  | 37 => updI (updI (updI (updI (fun _ => 0) 0 100000) 1 100000) 2 100000) 3 100000
  | _ => fun _ => 0
def pm : List Nat := [0, 1, 2, 3, 4, 17, 18, 19, 20, 21, 22, 5, 8, 11, 14, 6, 9, 12, 15, 7, 10, 13, 16, 23, 25, 27, 29, 31, 24, 26, 28, 30, 32, 33, 34, 35, 36, 37, 38, 39, 40, 41, 42, 43, 44, 45, 46, 47]
def adL (L : List Nat) : Nat → Nat := fun k => L.getD (pm.getD k 0) 0
theorem pm_lt : ∀ k, k < 48 → pm.getD k 0 < 48 := by decide +kernel
theorem pm_inj : ∀ i, i < 48 → ∀ j, j < 48 → pm.getD i 0 = pm.getD j 0 → i = j := by decide +kernel
theorem LO_of (hL : L.length = 48) (hn : L.Nodup) : LO (adL L) L := by
  have hg : ∀ (k : Nat) (hk : k < 48), adL L k = L[pm.getD k 0]'(by rw [hL]; exact pm_lt k hk) := fun k hk => by
    unfold adL
    rw [List.getD_eq_getElem?_getD, List.getElem?_eq_getElem (by rw [hL]; exact pm_lt k hk)]
    rfl
  refine ⟨fun k hk => ?_, fun i j hi hj h => ?_⟩
  · rw [hg k hk]; exact List.getElem_mem _
  · rw [hg i hi, hg j hj] at h
    exact pm_inj i hi j hj ((List.getElem_inj hn).mp h)
def EQc (x y : va_E) : Prop := x = y ∨ ∃ (cA : ClassId) (n : Nat) (g h : Nat → Option Nat), x = qa cA n g ∧ y = qa cA n h ∧ ∀ j, j < n → g j = h j
theorem arrV_congr {cA : ClassId} {n : Nat} {g h : Nat → Value} (hj : ∀ j, j < n → g j = h j) : arrV cA n g = arrV cA n h := by
  unfold arrV
  congr 1
  congr 1
  funext j
  exact hj j.val j.isLt
theorem at_EQ {x y : va_E} (h : EQc x y) {q : Nat} {H : Heap} (hx : va_at D CL (q, x) H) : va_at D CL (q, y) H := by
  rcases h with rfl | ⟨cA, n, g, h', rfl, rfl, hj⟩
  · exact hx
  · have hx : H[q]? = some (vp_cell cA (n, .inr (.inr (.inr (.inr g))))) := hx
    show H[q]? = some (vp_cell cA (n, .inr (.inr (.inr (.inr h')))))
    rw [hx, vp_cell_q, vp_cell_q, arrV_congr (fun j hjn => by show va_rf (g j) = va_rf (h' j); rw [hj j hjn])]
theorem g_world (G : LO ad L) (h : ∀ k, k < 48 → EQc (f (ad k)) (mkr cd ad k (S k))) (k : gW p l e R s m args below meth c D CL A nL Q cells slots L (wd cd ad S f) pc lv st) : gW p l e R s m args below meth c D CL A nL Q cells slots L f pc lv st := by
  intro H locs ls h1 h2 h3 h4
  refine k H locs ls (fun i q hq => ?_) (pl_D h2 (fun q hq => pl_DA h2 hq)) h3 h4
  simp only [va_pl, List.getElem?_map] at hq
  cases hi : L[i]? with
  | none => rw [hi] at hq; cases hq
  | some a =>
    rw [hi] at hq
    have hqa : (a, wd cd ad S f a) = q := Option.some.inj hq
    rw [← hqa]
    have hx : va_at D CL (a, f a) H := h1 i (a, f a) (by simp only [va_pl, List.getElem?_map, hi]; rfl)
    by_cases hk : ∃ j, j < 48 ∧ ad j = a
    · obtain ⟨j, hj, rfl⟩ := hk
      rw [wd_at G j hj]
      exact at_EQ (h j hj) hx
    · rw [wd_off hk]
      exact hx
theorem RD0 : RD S0 := by
  intro j hj
  rcases (show j = 0 ∨ j = 1 ∨ j = 2 ∨ j = 3 by omega) with rfl | rfl | rfl | rfl <;> exact ⟨⟨by decide, by decide⟩, ⟨by decide, by decide⟩, ⟨by decide, by decide⟩, ⟨by decide, by decide⟩, fun n hn => ⟨show (-100000000000 : Int) ≤ 0 by decide, show (0 : Int) ≤ 100000000000 by decide⟩⟩
theorem RS0 : RS S0 := ⟨Or.inl rfl, ⟨by decide, by decide⟩, ⟨by decide, by decide⟩, ⟨by decide, by decide⟩, fun j hj => ⟨show (0 : Int) ≤ 0 by decide, show (0 : Int) ≤ 12 by decide⟩, fun j hj => ⟨show (0 : Int) ≤ 0 by decide, show (0 : Int) ≤ 12 by decide⟩⟩
theorem INV0 : INV 0 S0 := by
  refine INV_gen ⟨⟨by decide, by decide⟩, ⟨by decide, by decide⟩, rfl, rfl, by decide⟩ ⟨⟨by decide, by decide⟩, rfl⟩ ⟨⟨by decide, by decide⟩, rfl⟩ ⟨Or.inl rfl, rfl, ⟨by decide, by decide⟩, ⟨by decide, by decide⟩, ⟨by decide, by decide⟩, ⟨by decide, by decide⟩⟩ (fun j hj => ⟨show (0 : Int) ≤ 0 by decide, show (0 : Int) ≤ 12 by decide⟩) (fun j hj => ⟨show (0 : Int) ≤ 0 by decide, show (0 : Int) ≤ 12 by decide⟩) (fun j hj => ⟨show (0 : Int) ≤ 0 by decide, show (0 : Int) ≤ 12 by decide⟩) RS0 RD0 (fun n hn => ⟨show (0 : Int) ≤ 0 by decide, show (0 : Int) ≤ 100000 by decide⟩) (by decide +kernel) (fun j hj => ?_) (fun j hj => ⟨show (0 : Int) ≤ 0 by decide, show (0 : Int) ≤ 1000 by decide⟩) (by decide +kernel) (fun k hk h => absurd h (by show ¬ (k : Int) < 0; omega)) (fun k hk h => ?_) (fun k hk => ?_) (fun h => absurd (show (0 : Int) = 1 from h) (by decide))
  · rcases (show j = 0 ∨ j = 1 ∨ j = 2 ∨ j = 3 by omega) with rfl | rfl | rfl | rfl <;> exact ⟨⟨by decide, by decide⟩, fun n hn => ⟨show (0 : Int) ≤ 0 by decide, show (0 : Int) ≤ 100000 by decide⟩⟩
  · rcases (show k = 0 ∨ k = 1 ∨ k = 2 ∨ k = 3 by omega) with rfl | rfl | rfl | rfl <;> rfl
  · rcases (show k = 0 ∨ k = 1 ∨ k = 2 ∨ k = 3 by omega) with rfl | rfl | rfl | rfl <;> exact ⟨rfl, fun e he => ⟨rfl, rfl⟩⟩
theorem INV_up {N : Nat} (h : INV N S) : INV (N + 1) S := ⟨IC_up (by omega) h.1, h.2⟩
set_option maxHeartbeats 4000000 in
set_option maxRecDepth 100000 in
theorem law_loop (C : gC p s m args c D CL (TY cd) A c_L_law "AlloyPlansLaw" 8) (G : LO ad L) (hst9 : l.stackTraces = false) (hX : va_X b Ln xs s s.heap) (hbl : b < s.heap.size) (hbA : ¬ A b) (hL : Ln ≤ 2560) (c0 s0 : Nat) (hc0 : c0 ≤ 1000) (hs0 : s0 ≤ 1000) (hend : ∀ (cells slots : Nat) (f : Nat → va_E) (lv : List (Nat × Value)), cells ≤ 665884 → slots ≤ 7098452 → gW p l e room_1 s m args below meth c D CL A 8 Q cells slots L f 880 lv []) :
    ∀ (d n : Nat) (S : Nat → Nat → Int), n + d = 513 → INV n S → gW p l e room_1 s m args below meth c D CL A 8 Q (c0 + 2 * n) (s0 + 12 * n) L (wd cd ad S f0) 23 [(4, iv ((5 * n : Nat) : Int)), (3, .ref (ad 47)), (2, .ref (ad 33)), (1, .ref (ad 0)), (0, .ref b)] [] := by
  intro d
  induction d with
  | zero =>
    intro n S hn hV
    refine g_iload C d_L_law_23 25 rfl 0 rfl ?_
    refine g_aload_n C d_L_law_25 26 rfl rfl 4 rfl ?_
    refine r_slen C hX hbl hbA d_L_law_26 27 rfl ?_
    refine g_iconst C d_L_law_27 28 rfl ?_
    refine g_isub C d_L_law_28 29 rfl ?_
    refine g_icmp_gt C d_L_law_29 32 rfl ⟨by omega, by omega⟩ ⟨by omega, by omega⟩ 880 rfl (fun h => ?_) (fun h => absurd h (by omega))
    exact hend _ _ _ _ (by omega) (by omega)
  | succ d ih =>
    intro n S hn hV
    refine g_iload C d_L_law_23 25 rfl 0 rfl ?_
    refine g_aload_n C d_L_law_25 26 rfl rfl 4 rfl ?_
    refine r_slen C hX hbl hbA d_L_law_26 27 rfl ?_
    refine g_iconst C d_L_law_27 28 rfl ?_
    refine g_isub C d_L_law_28 29 rfl ?_
    refine g_icmp_gt C d_L_law_29 32 rfl ⟨by omega, by omega⟩ ⟨by omega, by omega⟩ 880 rfl (fun h => ?_) (fun h => ?_)
    · exact hend _ _ _ _ (by omega) (by omega)
    have K : ∀ T, INV (n + 1) T → gW p l e room_1 s m args below meth c D CL A 8 Q (c0 + 2 * n + 2) (s0 + 12 * n + 12) L (wd cd ad T f0) 874 [(4, iv ((5 * n : Nat) : Int)), (3, .ref (ad 47)), (2, .ref (ad 33)), (1, .ref (ad 0)), (0, .ref b)] [] := by
      intro T hT
      refine g_iinc C d_L_law_874 877 rfl [(4, iv (((5 * n : Nat) : Int) + 5)), (3, .ref (ad 47)), (2, .ref (ad 33)), (1, .ref (ad 0)), (0, .ref b)] 0 rfl (by decide) rfl ?_
      refine g_goto C d_L_law_877 23 rfl ?_
      rw [show (((5 * n : Nat) : Int) + 5) = ((5 * (n + 1) : Nat) : Int) by omega]
      exact g_widen (by omega) (by omega) (ih (n + 1) T (by omega) hT)
    refine g_aload_n C d_L_law_32 33 rfl rfl 4 rfl ?_
    refine g_iload C d_L_law_33 35 rfl 0 rfl ?_
    refine r_sld C hX hbl hbA d_L_law_35 36 rfl (5 * n) rfl (by omega) hL ?_
    refine g_bipush C d_L_law_36 38 rfl rfl ?_
    refine r_iand C d_L_law_38 39 rfl (fun z hz => ?_)
    obtain ⟨hz1, hz2⟩ := id hz
    rcases (show z = 0 ∨ z = 1 ∨ z = 2 ∨ z = 3 ∨ z = 4 ∨ z = 5 ∨ z = 6 ∨ z = 7 ∨ z = 8 ∨ z = 9 ∨ z = 10 ∨ z = 11 ∨ z = 12 ∨ (z < 0 ∨ 12 < z) by omega) with h0 | h1 | h2 | h3 | h4 | h5 | h6 | h7 | h8 | h9 | h10 | h11 | h12 | h13
    · refine g_tin C d_L_law_39 (z := z) hz (by omega) (by omega) (by rw [h0]; rfl) 104 rfl ?_
      exact z_heat C G hst9 hX hbl hbA hL n (5 * n) (by omega) hV (by omega) (by omega) (by omega) K
    · refine g_tin C d_L_law_39 (z := z) hz (by omega) (by omega) (by rw [h1]; rfl) 140 rfl ?_
      exact z_present C G hst9 hX hbl hbA hL n (5 * n) (by omega) hV (by omega) (by omega) (by omega) K
    · refine g_tin C d_L_law_39 (z := z) hz (by omega) (by omega) (by rw [h2]; rfl) 200 rfl ?_
      exact z_aim C G hst9 hX hbl hbA hL n (5 * n) (by omega) hV (by omega) (by omega) (by omega) K
    · refine g_tin C d_L_law_39 (z := z) hz (by omega) (by omega) (by rw [h3]; rfl) 260 rfl ?_
      exact z_kind C G hst9 hX hbl hbA hL n (5 * n) (by omega) hV (by omega) (by omega) (by omega) K
    · refine g_tin C d_L_law_39 (z := z) hz (by omega) (by omega) (by rw [h4]; rfl) 340 rfl ?_
      exact z_holds C G hst9 hX hbl hbA hL n (5 * n) (by omega) hV (by omega) (by omega) (by omega) K
    · refine g_tin C d_L_law_39 (z := z) hz (by omega) (by omega) (by rw [h5]; rfl) 412 rfl ?_
      exact z_yields C G hst9 hX hbl hbA hL n (5 * n) (by omega) hV (by omega) (by omega) (by omega) K
    · refine g_tin C d_L_law_39 (z := z) hz (by omega) (by omega) (by rw [h6]; rfl) 472 rfl ?_
      exact z_run C G hst9 hX hbl hbA hL n (5 * n) (by omega) hV (by omega) (by omega) (by omega) K
    · refine g_tin C d_L_law_39 (z := z) hz (by omega) (by omega) (by rw [h7]; rfl) 528 rfl ?_
      exact z_steps C G hst9 hX hbl hbA hL n (5 * n) (by omega) hV (by omega) (by omega) (by omega) K
    · refine g_tin C d_L_law_39 (z := z) hz (by omega) (by omega) (by rw [h8]; rfl) 584 rfl ?_
      exact z_planned C G hst9 hX hbl hbA hL n (5 * n) (by omega) hV (by omega) (by omega) (by omega) K
    · refine g_tin C d_L_law_39 (z := z) hz (by omega) (by omega) (by rw [h9]; rfl) 640 rfl ?_
      exact z_order C G hst9 hX hbl hbA hL n (5 * n) (by omega) hV (by omega) (by omega) (by omega) K
    · refine g_tin C d_L_law_39 (z := z) hz (by omega) (by omega) (by rw [h10]; rfl) 696 rfl ?_
      exact z_after C G hst9 hX hbl hbA hL n (5 * n) (by omega) hV (by omega) (by omega) (by omega) K
    · refine g_tin C d_L_law_39 (z := z) hz (by omega) (by omega) (by rw [h11]; rfl) 775 rfl ?_
      exact z_add C G hst9 hX hbl hbA hL n (5 * n) (by omega) hV (by omega) (by omega) (by omega) K
    · refine g_tin C d_L_law_39 (z := z) hz (by omega) (by omega) (by rw [h12]; rfl) 819 rfl ?_
      exact z_heatAt C G hst9 hX hbl hbA hL n (5 * n) (by omega) hV (by omega) (by omega) (by omega) K
    · refine g_tout C d_L_law_39 (z := z) hz h13 874 rfl ?_
      exact g_widen (by omega) (by omega) (K S (INV_up hV))
end M19
