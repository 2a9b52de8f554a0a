section GM
variable {l : Launch} {y : MethodName} {b : ByteArray} {maxL : Nat} {ret : Option FieldType} {rm : Room} {D : va_G} {cl : List vw_C} {tys : List (ClassId × FieldType)} {L : List Nat} {f : Nat → va_E} {av : List Value}
/-- what a body's walk has to show -/
def gB (l : Launch) (y : MethodName) (b : ByteArray) (maxL : Nat) (ret : Option FieldType) (rm : Room) (D : va_G) (cl : List vw_C) (tys : List (ClassId × FieldType)) (L : List Nat) (f : Nat → va_E) (av : List Value) (post : Option Value → List Nat → (Nat → va_E) → Prop) : Prop :=
  ∀ (p : Program) (e : Env) (s : State) (m : MethodId) (args : Array Value) (below : List Frame) (meth : Method) (c : Code) (A : Nat → Prop) (sz : Nat), A = gA L sz → s.heap.size = sz → gC p s m args c D cl tys A b y.cls maxL → meth.sig.returnType = ret → meth.locks = false → meth.name = y.name →
    gW p l e rm s m args below meth c D cl A maxL (MQ below (gQ D cl L sz post) args s rm.cells rm.slots (gA L sz)) 0 0 L f 0 (lv_args 0 av) []
theorem g_of {post : Option Value → List Nat → (Nat → va_E) → Prop} (hy : plainName y.cls = true) (hn : (lg_sl av).length ≤ maxL) (body : gB l y b maxL ret rm D cl tys L f av post) : gMet l y b maxL ret rm D cl tys L f av post := by
  intro sz
  refine Met.ofW (cc := b) (maxL := maxL) (ret := ret) hy rfl ?_
  intro p e s m args below meth c s₁ B hml hv
  obtain ⟨rfl, hsz, hP, hD0, hE⟩ := hv
  have hts := atoms_spec (ws := Cond.code y b maxL ret :: TB) B.pre
  have hown : s.vm.findClass y.cls = some m.cls := findClass_of_methodNamed B.named
  have hl := lv_entry av (n := maxL) hn
  have C : gC p s m av.toArray c D cl tys (gA L sz) b y.cls maxL := ⟨⟨B.exec, B.bytes, hml, hown, fun w h => hts w (List.mem_cons_of_mem _ h)⟩, hE, fun q h => Or.inr (by rw [← hsz]; exact h)⟩
  have K := body p e s m av.toArray below meth c (gA L sz) sz rfl hsz C B.returns B.notSynchronized (name_of_methodNamed B.named B.method).1
  rw [lg_entry_eq]
  exact K s.heap [] _ hP (pl_D hD0 (fun q hq => Or.inl hq)) va_S.rf hl
end GM
