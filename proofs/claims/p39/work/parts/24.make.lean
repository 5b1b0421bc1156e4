/-! one class of int arrays -/
theorem K_uni {D : va_G} {cl : List vw_C} {c1 c2 : ClassId} {s : State} (h : va_K D cl [(c1, .int), (c2, .int)] s) : c1 = c2 := by
  have h1 := (h.2 0 (c1, .int) rfl).2
  have h2 := (h.2 1 (c2, .int) rfl).2
  exact Option.some.inj (Eq.trans (Eq.symm h1) h2)
/-- a new object's state -/
def mZ : MS := (0, 0, 0, 0, 20, 1, 3, 0, nI 0, nI 0, fun _ => 0, fun _ => 0, fun _ => 0, fun _ => 0, fun _ => 0, fun _ => 0)
theorem en_wi {l : Launch} {y : MethodName} {ws ws' : List Cond} {rm : Room} {cc : ByteArray} {maxL : Nat} {ret : Option FieldType} {D : va_G} {cl : List vw_C} {tys : List (ClassId × FieldType)} {sz mc ms : Nat} (W0 : va_W) (av : List Value) (Qc : (Nat → Prop) → Array Value → State → Outcome → State → Prop)
    (hy : plainName y.cls = true) (hw : ws = Cond.code y cc maxL ret :: ws') (hlen : (lg_sl av).length ≤ maxL)
    (body : ∀ (p : Program) (e : Env) (s : State) (m : MethodId) (args : Array Value) (below : List Frame) (meth : Method) (c : Code) (ls : Array Slot) (A : Nat → Prop) (H : Heap) (locs : List Loc), p.tables.exec = Jvm.exec → c.code = cc → c.maxLocals = maxL → meth.sig.returnType = ret → meth.locks = false → (∀ w ∈ ws, w.before args s = true) → s.vm.findClass y.cls = some m.cls → (y.name = "<init>" → meth.name = "<init>") → va_P D cl W0 H → va_K D cl tys s → va_D A W0 → (∀ q : Nat, s.heap.size ≤ q → A q) → va_S A s.heap H locs → lv_has ls maxL (lv_args 0 av) →
      W p l e rm s m args below meth c H locs 0 0 (MQ below (Qc A) args s mc ms A) (F0 m 0 ls [])) :
    Met l y ws rm (va_Pc av (fun U => U.heap.size = sz ∧ va_P D cl W0 U.heap ∧ va_K D cl tys U ∧ va_D (fun _ => True) W0)) (Qc (va_A W0 sz)) mc ms (va_A W0 sz) := by
  refine Met.ofW (cc := cc) (maxL := maxL) (ret := ret) hy hw ?_
  intro p e s m args below meth c s₁ B hml hv
  obtain ⟨rfl, hsz, hP, hK, hD⟩ := hv
  have hl := lv_entry av (n := maxL) hlen
  rw [lg_entry_eq]
  subst hsz
  exact body p e s m _ below meth c _ (va_A W0 s.heap.size) s.heap [] B.exec B.bytes hml B.returns B.notSynchronized (atoms_spec (ws := ws) B.pre) (findClass_of_methodNamed B.named) (fun hn => (name_of_methodNamed B.named B.method).1.trans hn) hP hK hD.self (fun q h => Or.inr h) va_S.rf hl
