section GL
variable {p : Program} {l : Launch} {e : Env} {R : Room} {s : State} {m : MethodId} {args : Array Value} {below : List Frame} {meth : Method} {c : Code} {D : va_G} {A : Nat → Prop} {nL : Nat} {Q : State → Prop} {cells slots : Nat} {L : List Nat} {f f' : Nat → va_E} {pc : Nat} {lv : List (Nat × Value)} {cc : ByteArray} {own : String} {cd : Nat → ClassId}
variable {st0 rest As : List Value} {y : MethodName} {b : ByteArray} {maxL : Nat} {ret : Option FieldType} {rm : Room} {ok P0 P1 : Prop} {v : Option Value} {E0 E1 : String} {x0 x1 : ExceptionTableEntry} {hh : List (Nat × Nat × Nat × Nat)}
def FW (l : Launch) (y : MethodName) (b : ByteArray) (maxL : Nat) (ret : Option FieldType) (hh : List (Nat × Nat × Nat × Nat)) (rm : Room) (D : va_G) (cd : Nat → ClassId) (L : List Nat) (f : Nat → va_E) (av : List Value) (v : Option Value) (f' : Nat → va_E) : Prop :=
  ∀ sz : Nat, Met l y (Cond.codeWith y b maxL ret hh :: TB) rm (va_Pc av (gPre D CL (TY cd) L f sz)) (gQ D CL L sz (fun r L' g => r = v ∧ L' = L ∧ g = f')) rm.cells rm.slots (gA L sz)
def FB (l : Launch) (y : MethodName) (b : ByteArray) (maxL : Nat) (ret : Option FieldType) (hh : List (Nat × Nat × Nat × Nat)) (rm : Room) (D : va_G) (cd : Nat → ClassId) (L : List Nat) (f : Nat → va_E) (av : List Value) (v : Option Value) (f' : Nat → va_E) : Prop :=
  ∀ (p : Program) (e : Env) (s : State) (m : MethodId) (args : Array Value) (below : List Frame) (meth : Method) (c : Code) (A : Nat → Prop) (sz : Nat), A = gA L sz → s.heap.size = sz → gC p s m args c D CL (TY cd) A b y.cls maxL → meth.sig.returnType = ret → meth.locks = false → c.exceptionTable.toList = tableOf hh →
    gW p l e rm s m args below meth c D CL A maxL (MQ below (gQ D CL L sz (fun r L' g => r = v ∧ L' = L ∧ g = f')) args s rm.cells rm.slots (gA L sz)) 0 0 L f 0 (lv_args 0 av) []
theorem fw_of {av : List Value} (hy : plainName y.cls = true) (hn : (lg_sl av).length ≤ maxL) (body : FB l y b maxL ret hh rm D cd L f av v f') : FW l y b maxL ret hh rm D cd L f av v f' := by
  intro sz
  refine va_MetW (cc := b) (maxL := maxL) (ret := ret) (hh := hh) hy rfl ?_
  intro p e s m args below meth c s₁ B hml hv
  obtain ⟨rfl, hsz, hP, hD0, hE⟩ := hv
  have hts := atoms_spec (ws := Cond.codeWith y b maxL ret hh :: TB) B.pre
  have hown : s.vm.findClass y.cls = some m.cls := findClass_of_methodNamed B.named
  have hl := lv_entry av (n := maxL) hn
  have htab := vx_table (x := y) B (hts _ List.mem_cons_self)
  have C : gC p s m av.toArray c D CL (TY cd) (gA L sz) b y.cls maxL := ⟨⟨B.exec, B.bytes, hml, hown, fun w h => hts w (List.mem_cons_of_mem _ h)⟩, hE, fun q h => Or.inr (by rw [← hsz]; exact h)⟩
  have K := body p e s m av.toArray below meth c (gA L sz) sz rfl hsz C B.returns B.notSynchronized htab
  rw [lg_entry_eq]
  exact K s.heap [] _ hP (pl_D hD0 (fun q hq => Or.inl hq)) va_S.rf hl
/-- a call whose throws this method's table takes, each by its row -/
theorem gw_call2 (C : gC p s m args c D CL (TY cd) A cc own nL) (htab : c.exceptionTable.toList = [x0, x1]) {cn : String} {T : u_T} {N ci a : Nat} {fs : List Value} {ix : Nat} (hd : decode cc pc = .ok (.invokevirtual ix, 3)) (pc' : Nat) (hp : pc + 3 = pc') (M : FX l y b maxL ret rm D cd L f (.ref a :: As) ok v f' (fun E => (E = E0 ∧ P0) ∨ (E = E1 ∧ P1))) (hc0 : CL[ci]? = some (cn, T, N)) (ha : a ∈ L) (he : f a = .inr (ci, fs)) (hw : gwV own ix cn y) (hcode : Cond.code y b maxL ret ∈ TB) (hown : y.cls = cn) (n : Nat) (hy : gY y n = true) (hlen : As.length = n) (cs : Nat) (hcs : cells + rm.cells = cs) (ss : Nat) (hss : slots + rm.slots = ss) (hR : gR rm R maxL cells slots = true) (hst : st0 = As.reverse ++ .ref a :: rest) (hrest : (rest.map fun v => v.category).sum ≤ 8)
    (v0 : covers x0 pc = true) (v1 : covers x1 pc = true) (t0 : x0.catchType ≠ 0) (t1 : x1.catchType ≠ 0) (l0 : Cond.classLink own x0.catchType E0 ∈ TB) (l1 : Cond.classLink own x1.catchType E1 ∈ TB) (q0 : va_Nw (.castable E0 E0) s) (q1 : va_Nw (.castable E1 E1) s) (hn : va_Nc E1 E0 s)
    (k : ok → gW p l e R s m args below meth c D CL A nL Q cs ss L f' pc' lv (v.toList ++ rest)) (k0 : P0 → ∀ z : Nat, gW p l e R s m args below meth c D CL A nL Q cs ss L f x0.handlerPc lv [.ref z]) (k1 : P1 → ∀ z : Nat, gW p l e R s m args below meth c D CL A nL Q cs ss L f x1.handlerPc lv [.ref z]) : gW p l e R s m args below meth c D CL A nL Q cells slots L f pc lv st0 := by
  subst hp; subst hcs; subst hss
  intro H locs ls h1 h2 h3 h4
  have hG : GoodIn TB (wsV own ix cn y (Cond.code y b maxL ret :: TB)) := tb_in (fun w h => by
    simp only [wsV, List.mem_append, List.mem_cons, List.not_mem_nil, or_false] at h
    rcases h with (rfl | rfl | rfl | rfl) | rfl | h
    · exact hw.1
    · exact hw.2.1
    · exact hw.2.2.1
    · exact hw.2.2.2
    · exact hcode
    · exact h)
  have hr := gR_ok hR
  refine w_callx C (a9 := (Value.ref a :: As).toArray) (f := f) (vx_runV (As := As) (rest := rest) C.1 (M H.size) (cwV n C.1.2.2.2.2 hG rfl rfl rfl ⟨hown, gY_ok hy⟩ hr.1) ⟨gPre_blind, va_recv C.2.1.1 (pl_one h1 ha he) hc0 (q0 := 0) rfl, fun U hU hW => ⟨rfl, gPre_of C h1 h2 h3 hU hW⟩⟩ rfl hlen h4.1 hst (lv_room hrest) hd hr.2) h2 h3 (fun r L' g H1 locs1 hp g1 g2 g3 => ?_) (fun E ce q9 H1 locs1 hp g1 g2 g3 z1 z2 z3 => ?_)
  · obtain ⟨hok, rfl, rfl, rfl⟩ := hp
    exact k hok H1 locs1 ls g1 g2 g3 h4
  · rcases hp with ⟨rfl, hp⟩ | ⟨rfl, hp⟩
    · exact vx_catch C.1.2.2.2.1 [] x0 [x1] htab (fun _ h => nomatch h) v0 t0 (C.1.2.2.2.2 _ l0) (va_Nw.use rfl q0) z1 z2 z3 (k0 hp q9 H1 locs1 ls g1 g2 g3 h4)
    · exact vx_catch C.1.2.2.2.1 [x0] x1 [] htab (fun z h => by
        rcases List.mem_singleton.mp h with rfl
        exact Or.inr ⟨t0, E0, C.1.2.2.2.2 _ l0, hn⟩) v1 t1 (C.1.2.2.2.2 _ l1) (va_Nw.use rfl q1) z1 z2 z3 (k1 hp q9 H1 locs1 ls g1 g2 g3 h4)
theorem gw_call1 (C : gC p s m args c D CL (TY cd) A cc own nL) (htab : c.exceptionTable.toList = [x0]) {cn : String} {T : u_T} {N ci a : Nat} {fs : List Value} {ix : Nat} (hd : decode cc pc = .ok (.invokevirtual ix, 3)) (pc' : Nat) (hp : pc + 3 = pc') (M : FX l y b maxL ret rm D cd L f (.ref a :: As) ok v f' (fun E => E = E0 ∧ P0)) (hc0 : CL[ci]? = some (cn, T, N)) (ha : a ∈ L) (he : f a = .inr (ci, fs)) (hw : gwV own ix cn y) (hcode : Cond.code y b maxL ret ∈ TB) (hown : y.cls = cn) (n : Nat) (hy : gY y n = true) (hlen : As.length = n) (cs : Nat) (hcs : cells + rm.cells = cs) (ss : Nat) (hss : slots + rm.slots = ss) (hR : gR rm R maxL cells slots = true) (hst : st0 = As.reverse ++ .ref a :: rest) (hrest : (rest.map fun v => v.category).sum ≤ 8)
    (v0 : covers x0 pc = true) (t0 : x0.catchType ≠ 0) (l0 : Cond.classLink own x0.catchType E0 ∈ TB) (q0 : va_Nw (.castable E0 E0) s)
    (k : ok → gW p l e R s m args below meth c D CL A nL Q cs ss L f' pc' lv (v.toList ++ rest)) (k0 : P0 → ∀ z : Nat, gW p l e R s m args below meth c D CL A nL Q cs ss L f x0.handlerPc lv [.ref z]) : gW p l e R s m args below meth c D CL A nL Q cells slots L f pc lv st0 := by
  subst hp; subst hcs; subst hss
  intro H locs ls h1 h2 h3 h4
  have hG : GoodIn TB (wsV own ix cn y (Cond.code y b maxL ret :: TB)) := tb_in (fun w h => by
    simp only [wsV, List.mem_append, List.mem_cons, List.not_mem_nil, or_false] at h
    rcases h with (rfl | rfl | rfl | rfl) | rfl | h
    · exact hw.1
    · exact hw.2.1
    · exact hw.2.2.1
    · exact hw.2.2.2
    · exact hcode
    · exact h)
  have hr := gR_ok hR
  refine w_callx C (a9 := (Value.ref a :: As).toArray) (f := f) (vx_runV (As := As) (rest := rest) C.1 (M H.size) (cwV n C.1.2.2.2.2 hG rfl rfl rfl ⟨hown, gY_ok hy⟩ hr.1) ⟨gPre_blind, va_recv C.2.1.1 (pl_one h1 ha he) hc0 (q0 := 0) rfl, fun U hU hW => ⟨rfl, gPre_of C h1 h2 h3 hU hW⟩⟩ rfl hlen h4.1 hst (lv_room hrest) hd hr.2) h2 h3 (fun r L' g H1 locs1 hp g1 g2 g3 => ?_) (fun E ce q9 H1 locs1 hp g1 g2 g3 z1 z2 z3 => ?_)
  · obtain ⟨hok, rfl, rfl, rfl⟩ := hp
    exact k hok H1 locs1 ls g1 g2 g3 h4
  · obtain ⟨rfl, hp⟩ := hp
    exact vx_catch C.1.2.2.2.1 [] x0 [] htab (fun _ h => nomatch h) v0 t0 (C.1.2.2.2.2 _ l0) (va_Nw.use rfl q0) z1 z2 z3 (k0 hp q9 H1 locs1 ls g1 g2 g3 h4)
/-- a static call of a method with a table of its own -/
theorem fcW1 {v : Value} (C : gC p s m args c D CL (TY cd) A cc own nL) {ix : Nat} (hd : decode cc pc = .ok (.invokestatic ix, 3)) (pc' : Nat) (hp : pc + 3 = pc') (M : FW l y b maxL ret hh rm D cd L f As (some v) f') (hw : Cond.methodLink own ix y ∈ TB ∧ Cond.static y ∈ TB ∧ Cond.initialized y.cls ∈ TB) (hcode : Cond.codeWith y b maxL ret hh ∈ TB) (n : Nat) (hy : gY y n = true) (hlen : As.length = n) (cs : Nat) (hcs : cells + rm.cells = cs) (ss : Nat) (hss : slots + rm.slots = ss) (hR : gR rm R maxL cells slots = true) (hst : st0 = As.reverse ++ rest) (hrest : (rest.map fun v => v.category).sum ≤ 8) (k : gW p l e R s m args below meth c D CL A nL Q cs ss L f' pc' lv (v :: rest)) : gW p l e R s m args below meth c D CL A nL Q cells slots L f pc lv st0 := by
  subst hp; subst hcs; subst hss
  intro H locs ls h1 h2 h3 h4
  have hG : GoodIn TB (va_wsS own ix y (Cond.codeWith y b maxL ret hh :: TB)) := tb_in (fun w h => by
    simp only [va_wsS, List.mem_append, List.mem_cons, List.not_mem_nil, or_false] at h
    rcases h with (rfl | rfl | rfl) | rfl | h
    · exact hw.1
    · exact hw.2.1
    · exact hw.2.2
    · exact hcode
    · exact h)
  have hr := gR_ok hR
  refine w_call C (a9 := As.toArray) (vx_runSW (As := As) (rest := rest) C.1 (M H.size) (vx_cwSW n C.1.2.2.2.2 hG rfl rfl rfl (gY_ok hy) hr.1) ⟨gPre_blind, fun U hU hW => ⟨rfl, gPre_of C h1 h2 h3 hU hW⟩⟩ rfl hlen h4.1 hst (lv_room hrest) hd hr.2) h2 h3 (fun r L' g H1 locs1 hp g1 g2 g3 => ?_)
  obtain ⟨rfl, rfl, rfl⟩ := hp
  exact k H1 locs1 ls g1 g2 g3 h4
end GL
