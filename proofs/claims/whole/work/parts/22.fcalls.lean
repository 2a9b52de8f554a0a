section FC
variable {p : Program} {l : Launch} {e : Env} {R : Room} {s : State} {m : MethodId} {args : Array Value} {below : List Frame} {meth : Method} {c : Code} {D : va_G} {A : Nat → Prop} {nL : Nat} {Q : State → Prop} {cells slots : Nat} {L : List Nat} {f f' : Nat → va_E} {pc : Nat} {lv : List (Nat × Value)} {cc : ByteArray} {own : String} {cd : Nat → ClassId}
variable {mc ms sz : Nat} {st0 rest As : List Value} {y : MethodName} {b : ByteArray} {maxL : Nat} {ret : Option FieldType} {rm : Room} {px px0 : String → Prop} {ok : Prop} {v : Value}
def FM (l : Launch) (y : MethodName) (b : ByteArray) (maxL : Nat) (ret : Option FieldType) (rm : Room) (D : va_G) (cd : Nat → ClassId) (L : List Nat) (f : Nat → va_E) (av : List Value) (v : Option Value) (f' : Nat → va_E) : Prop :=
  gMet l y b maxL ret rm D CL (TY cd) L f av (fun r L' g => r = v ∧ L' = L ∧ g = f')
def FX (l : Launch) (y : MethodName) (b : ByteArray) (maxL : Nat) (ret : Option FieldType) (rm : Room) (D : va_G) (cd : Nat → ClassId) (L : List Nat) (f : Nat → va_E) (av : List Value) (ok : Prop) (v : Option Value) (f' : Nat → va_E) (px : String → Prop) : Prop :=
  gXM l y b maxL ret rm D CL (TY cd) L f av (fun r L' g => ok ∧ r = v ∧ L' = L ∧ g = f') px
theorem fcS0 (C : gC p s m args c D CL (TY cd) A cc own nL) {ix : Nat} (hd : decode cc pc = .ok (.invokestatic ix, 3)) (pc' : Nat) (hp : pc + 3 = pc') (M : FM l y b maxL ret rm D cd L f As none f') (hw : gwS own ix y) (hcode : Cond.code y b maxL ret ∈ TB) (hown : y.cls = own) (n : Nat) (hy : gY y n = true) (hlen : As.length = n) (cs : Nat) (hcs : cells + rm.cells = cs) (ss : Nat) (hss : slots + rm.slots = ss) (hR : gR rm R maxL cells slots = true) (hst : st0 = As.reverse ++ rest) (hrest : (rest.map fun v => v.category).sum ≤ 8) (k : gW p l e R s m args below meth c D CL A nL Q cs ss L f' pc' lv (rest)) : gW p l e R s m args below meth c D CL A nL Q cells slots L f pc lv (st0) := by
  subst hcs; subst hss
  refine g_callS C M hd pc' hp hw hcode hown n hy hlen hR hst hrest (fun r L' g q => ?_)
  obtain ⟨rfl, rfl, rfl⟩ := q
  exact k
theorem fcS1 (C : gC p s m args c D CL (TY cd) A cc own nL) {ix : Nat} (hd : decode cc pc = .ok (.invokestatic ix, 3)) (pc' : Nat) (hp : pc + 3 = pc') (M : FM l y b maxL ret rm D cd L f As (some v) f') (hw : gwS own ix y) (hcode : Cond.code y b maxL ret ∈ TB) (hown : y.cls = own) (n : Nat) (hy : gY y n = true) (hlen : As.length = n) (cs : Nat) (hcs : cells + rm.cells = cs) (ss : Nat) (hss : slots + rm.slots = ss) (hR : gR rm R maxL cells slots = true) (hst : st0 = As.reverse ++ rest) (hrest : (rest.map fun v => v.category).sum ≤ 8) (k : gW p l e R s m args below meth c D CL A nL Q cs ss L f' pc' lv (v :: rest)) : gW p l e R s m args below meth c D CL A nL Q cells slots L f pc lv (st0) := by
  subst hcs; subst hss
  refine g_callS C M hd pc' hp hw hcode hown n hy hlen hR hst hrest (fun r L' g q => ?_)
  obtain ⟨rfl, rfl, rfl⟩ := q
  exact k
theorem fcV0 (C : gC p s m args c D CL (TY cd) A cc own nL) {cn : String} {T : u_T} {N ci a : Nat} {fs : List Value} {ix : Nat} (hd : decode cc pc = .ok (.invokevirtual ix, 3)) (pc' : Nat) (hp : pc + 3 = pc') (M : FM l y b maxL ret rm D cd L f (.ref a :: As) none f') (hc0 : CL[ci]? = some (cn, T, N)) (ha : a ∈ L) (he : f a = .inr (ci, fs)) (hw : gwV own ix cn y) (hcode : Cond.code y b maxL ret ∈ TB) (hown : y.cls = cn) (n : Nat) (hy : gY y n = true) (hlen : As.length = n) (cs : Nat) (hcs : cells + rm.cells = cs) (ss : Nat) (hss : slots + rm.slots = ss) (hR : gR rm R maxL cells slots = true) (hst : st0 = As.reverse ++ .ref a :: rest) (hrest : (rest.map fun v => v.category).sum ≤ 8) (k : gW p l e R s m args below meth c D CL A nL Q cs ss L f' pc' lv (rest)) : gW p l e R s m args below meth c D CL A nL Q cells slots L f pc lv (st0) := by
  subst hcs; subst hss
  refine g_callV C M hc0 ha he hd pc' hp hw hcode hown n hy hlen hR hst hrest (fun r L' g q => ?_)
  obtain ⟨rfl, rfl, rfl⟩ := q
  exact k
theorem fcV1 (C : gC p s m args c D CL (TY cd) A cc own nL) {cn : String} {T : u_T} {N ci a : Nat} {fs : List Value} {ix : Nat} (hd : decode cc pc = .ok (.invokevirtual ix, 3)) (pc' : Nat) (hp : pc + 3 = pc') (M : FM l y b maxL ret rm D cd L f (.ref a :: As) (some v) f') (hc0 : CL[ci]? = some (cn, T, N)) (ha : a ∈ L) (he : f a = .inr (ci, fs)) (hw : gwV own ix cn y) (hcode : Cond.code y b maxL ret ∈ TB) (hown : y.cls = cn) (n : Nat) (hy : gY y n = true) (hlen : As.length = n) (cs : Nat) (hcs : cells + rm.cells = cs) (ss : Nat) (hss : slots + rm.slots = ss) (hR : gR rm R maxL cells slots = true) (hst : st0 = As.reverse ++ .ref a :: rest) (hrest : (rest.map fun v => v.category).sum ≤ 8) (k : gW p l e R s m args below meth c D CL A nL Q cs ss L f' pc' lv (v :: rest)) : gW p l e R s m args below meth c D CL A nL Q cells slots L f pc lv (st0) := by
  subst hcs; subst hss
  refine g_callV C M hc0 ha he hd pc' hp hw hcode hown n hy hlen hR hst hrest (fun r L' g q => ?_)
  obtain ⟨rfl, rfl, rfl⟩ := q
  exact k
theorem fcN0 (C : gC p s m args c D CL (TY cd) A cc own nL) {host : String} {ix : Nat} (hd : decode cc pc = .ok (.invokestatic ix, 3)) (pc' : Nat) (hp : pc + 3 = pc') (M : FM l y b maxL ret rm D cd L f As none f') (hn9 : va_Nw (.methodLinkNest own ix y host) s) (hw : Cond.initialized y.cls ∈ TB ∧ Cond.static y ∈ TB) (hcode : Cond.code y b maxL ret ∈ TB) (n : Nat) (hy : gY y n = true) (hlen : As.length = n) (cs : Nat) (hcs : cells + rm.cells = cs) (ss : Nat) (hss : slots + rm.slots = ss) (hR : gR rm R maxL cells slots = true) (hst : st0 = As.reverse ++ rest) (hrest : (rest.map fun v => v.category).sum ≤ 8) (k : gW p l e R s m args below meth c D CL A nL Q cs ss L f' pc' lv (rest)) : gW p l e R s m args below meth c D CL A nL Q cells slots L f pc lv (st0) := by
  subst hcs; subst hss
  subst hp
  intro H locs ls h1 h2 h3 h4
  have hG : GoodIn TB (Cond.code y b maxL ret :: TB) := tb_in (fun w h => by
    rcases List.mem_cons.mp h with rfl | h
    · exact hcode
    · exact h)
  have hr := gR_ok hR
  refine w_call C (a9 := As.toArray) (va_runSN (As := As) (rest := rest) C.1 (M H.size) ⟨va_cnB n C.1.2.2.2.2 hG rfl rfl rfl hn9 (C.1.2.2.2.2 _ hw.1) (gY_ok hy) hr.1, C.1.2.2.2.2 _ hw.2, trivial⟩ ⟨gPre_blind, fun U hU hW => ⟨rfl, gPre_of C h1 h2 h3 hU hW⟩⟩ rfl hlen h4.1 hst (lv_room hrest) hd hr.2) h2 h3 (fun r L' g H1 locs1 hp g1 g2 g3 => ?_)
  obtain ⟨rfl, rfl, rfl⟩ := hp
  exact k H1 locs1 ls g1 g2 g3 h4
theorem fcN1 (C : gC p s m args c D CL (TY cd) A cc own nL) {host : String} {ix : Nat} (hd : decode cc pc = .ok (.invokestatic ix, 3)) (pc' : Nat) (hp : pc + 3 = pc') (M : FM l y b maxL ret rm D cd L f As (some v) f') (hn9 : va_Nw (.methodLinkNest own ix y host) s) (hw : Cond.initialized y.cls ∈ TB ∧ Cond.static y ∈ TB) (hcode : Cond.code y b maxL ret ∈ TB) (n : Nat) (hy : gY y n = true) (hlen : As.length = n) (cs : Nat) (hcs : cells + rm.cells = cs) (ss : Nat) (hss : slots + rm.slots = ss) (hR : gR rm R maxL cells slots = true) (hst : st0 = As.reverse ++ rest) (hrest : (rest.map fun v => v.category).sum ≤ 8) (k : gW p l e R s m args below meth c D CL A nL Q cs ss L f' pc' lv (v :: rest)) : gW p l e R s m args below meth c D CL A nL Q cells slots L f pc lv (st0) := by
  subst hcs; subst hss
  subst hp
  intro H locs ls h1 h2 h3 h4
  have hG : GoodIn TB (Cond.code y b maxL ret :: TB) := tb_in (fun w h => by
    rcases List.mem_cons.mp h with rfl | h
    · exact hcode
    · exact h)
  have hr := gR_ok hR
  refine w_call C (a9 := As.toArray) (va_runSN (As := As) (rest := rest) C.1 (M H.size) ⟨va_cnB n C.1.2.2.2.2 hG rfl rfl rfl hn9 (C.1.2.2.2.2 _ hw.1) (gY_ok hy) hr.1, C.1.2.2.2.2 _ hw.2, trivial⟩ ⟨gPre_blind, fun U hU hW => ⟨rfl, gPre_of C h1 h2 h3 hU hW⟩⟩ rfl hlen h4.1 hst (lv_room hrest) hd hr.2) h2 h3 (fun r L' g H1 locs1 hp g1 g2 g3 => ?_)
  obtain ⟨rfl, rfl, rfl⟩ := hp
  exact k H1 locs1 ls g1 g2 g3 h4
theorem fxS0 (C : gC p s m args c D CL (TY cd) A cc own nL) (hA : A = gA L sz) (hsz : s.heap.size = sz) (hnt : ∀ x ∈ c.exceptionTable.toList, False) (hlk : meth.locks = false) {ix : Nat} {Qc : Array Value → State → Outcome → State → Prop} (hd : decode cc pc = .ok (.invokestatic ix, 3)) (pc' : Nat) (hp : pc + 3 = pc') (M : FX l y b maxL ret rm D cd L f As ok none f' px) (hw : gwS own ix y) (hcode : Cond.code y b maxL ret ∈ TB) (hown : y.cls = own) (n : Nat) (hy : gY y n = true) (hlen : As.length = n) (cs : Nat) (hcs : cells + rm.cells = cs) (ss : Nat) (hss : slots + rm.slots = ss) (hR : gR rm R maxL cells slots = true) (hst : st0 = As.reverse ++ rest) (hrest : (rest.map fun v => v.category).sum ≤ 8) (hpx : ∀ E, px E → px0 E) (hc : cs ≤ mc) (hs : ss ≤ ms) (k : ok → gW p l e R s m args below meth c D CL A nL (vx_MQ below Qc (gQx D CL L f sz px0) args s mc ms (gA L sz)) cs ss L f' pc' lv (rest)) : gW p l e R s m args below meth c D CL A nL (vx_MQ below Qc (gQx D CL L f sz px0) args s mc ms (gA L sz)) cells slots L f pc lv (st0) := by
  subst hcs; subst hss
  refine gx_callS C hA hsz hnt hlk M hd pc' hp hw hcode hown n hy hlen hR hst hrest hpx hc hs (fun r L' g q => ?_)
  obtain ⟨hok, rfl, rfl, rfl⟩ := q
  exact k hok
theorem fxS1 (C : gC p s m args c D CL (TY cd) A cc own nL) (hA : A = gA L sz) (hsz : s.heap.size = sz) (hnt : ∀ x ∈ c.exceptionTable.toList, False) (hlk : meth.locks = false) {ix : Nat} {Qc : Array Value → State → Outcome → State → Prop} (hd : decode cc pc = .ok (.invokestatic ix, 3)) (pc' : Nat) (hp : pc + 3 = pc') (M : FX l y b maxL ret rm D cd L f As ok (some v) f' px) (hw : gwS own ix y) (hcode : Cond.code y b maxL ret ∈ TB) (hown : y.cls = own) (n : Nat) (hy : gY y n = true) (hlen : As.length = n) (cs : Nat) (hcs : cells + rm.cells = cs) (ss : Nat) (hss : slots + rm.slots = ss) (hR : gR rm R maxL cells slots = true) (hst : st0 = As.reverse ++ rest) (hrest : (rest.map fun v => v.category).sum ≤ 8) (hpx : ∀ E, px E → px0 E) (hc : cs ≤ mc) (hs : ss ≤ ms) (k : ok → gW p l e R s m args below meth c D CL A nL (vx_MQ below Qc (gQx D CL L f sz px0) args s mc ms (gA L sz)) cs ss L f' pc' lv (v :: rest)) : gW p l e R s m args below meth c D CL A nL (vx_MQ below Qc (gQx D CL L f sz px0) args s mc ms (gA L sz)) cells slots L f pc lv (st0) := by
  subst hcs; subst hss
  refine gx_callS C hA hsz hnt hlk M hd pc' hp hw hcode hown n hy hlen hR hst hrest hpx hc hs (fun r L' g q => ?_)
  obtain ⟨hok, rfl, rfl, rfl⟩ := q
  exact k hok
theorem fxV0 (C : gC p s m args c D CL (TY cd) A cc own nL) (hA : A = gA L sz) (hsz : s.heap.size = sz) (hnt : ∀ x ∈ c.exceptionTable.toList, False) (hlk : meth.locks = false) {cn : String} {T : u_T} {N ci a : Nat} {fs : List Value} {ix : Nat} {Qc : Array Value → State → Outcome → State → Prop} (hd : decode cc pc = .ok (.invokevirtual ix, 3)) (pc' : Nat) (hp : pc + 3 = pc') (M : FX l y b maxL ret rm D cd L f (.ref a :: As) ok none f' px) (hc0 : CL[ci]? = some (cn, T, N)) (ha : a ∈ L) (he : f a = .inr (ci, fs)) (hw : gwV own ix cn y) (hcode : Cond.code y b maxL ret ∈ TB) (hown : y.cls = cn) (n : Nat) (hy : gY y n = true) (hlen : As.length = n) (cs : Nat) (hcs : cells + rm.cells = cs) (ss : Nat) (hss : slots + rm.slots = ss) (hR : gR rm R maxL cells slots = true) (hst : st0 = As.reverse ++ .ref a :: rest) (hrest : (rest.map fun v => v.category).sum ≤ 8) (hpx : ∀ E, px E → px0 E) (hc : cs ≤ mc) (hs : ss ≤ ms) (k : ok → gW p l e R s m args below meth c D CL A nL (vx_MQ below Qc (gQx D CL L f sz px0) args s mc ms (gA L sz)) cs ss L f' pc' lv (rest)) : gW p l e R s m args below meth c D CL A nL (vx_MQ below Qc (gQx D CL L f sz px0) args s mc ms (gA L sz)) cells slots L f pc lv (st0) := by
  subst hcs; subst hss
  refine gx_callV C hA hsz hnt hlk M hc0 ha he hd pc' hp hw hcode hown n hy hlen hR hst hrest hpx hc hs (fun r L' g q => ?_)
  obtain ⟨hok, rfl, rfl, rfl⟩ := q
  exact k hok
theorem fxV1 (C : gC p s m args c D CL (TY cd) A cc own nL) (hA : A = gA L sz) (hsz : s.heap.size = sz) (hnt : ∀ x ∈ c.exceptionTable.toList, False) (hlk : meth.locks = false) {cn : String} {T : u_T} {N ci a : Nat} {fs : List Value} {ix : Nat} {Qc : Array Value → State → Outcome → State → Prop} (hd : decode cc pc = .ok (.invokevirtual ix, 3)) (pc' : Nat) (hp : pc + 3 = pc') (M : FX l y b maxL ret rm D cd L f (.ref a :: As) ok (some v) f' px) (hc0 : CL[ci]? = some (cn, T, N)) (ha : a ∈ L) (he : f a = .inr (ci, fs)) (hw : gwV own ix cn y) (hcode : Cond.code y b maxL ret ∈ TB) (hown : y.cls = cn) (n : Nat) (hy : gY y n = true) (hlen : As.length = n) (cs : Nat) (hcs : cells + rm.cells = cs) (ss : Nat) (hss : slots + rm.slots = ss) (hR : gR rm R maxL cells slots = true) (hst : st0 = As.reverse ++ .ref a :: rest) (hrest : (rest.map fun v => v.category).sum ≤ 8) (hpx : ∀ E, px E → px0 E) (hc : cs ≤ mc) (hs : ss ≤ ms) (k : ok → gW p l e R s m args below meth c D CL A nL (vx_MQ below Qc (gQx D CL L f sz px0) args s mc ms (gA L sz)) cs ss L f' pc' lv (v :: rest)) : gW p l e R s m args below meth c D CL A nL (vx_MQ below Qc (gQx D CL L f sz px0) args s mc ms (gA L sz)) cells slots L f pc lv (st0) := by
  subst hcs; subst hss
  refine gx_callV C hA hsz hnt hlk M hc0 ha he hd pc' hp hw hcode hown n hy hlen hR hst hrest hpx hc hs (fun r L' g q => ?_)
  obtain ⟨hok, rfl, rfl, rfl⟩ := q
  exact k hok
end FC
