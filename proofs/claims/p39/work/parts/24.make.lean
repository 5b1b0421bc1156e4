/-! one class of int arrays -/
theorem K_uni {D : va_G} {cl : List vw_C} {c1 c2 : ClassId} {s : State} (h : va_K D cl [(c1, .int), (c2, .int)] s) : c1 = c2 := by
  have h1 := (h.2 0 (c1, .int) rfl).2
  have h2 := (h.2 1 (c2, .int) rfl).2
  exact Option.some.inj (Eq.trans (Eq.symm h1) h2)
theorem l64 {x : Int64} {a b : Nat} (h : a ≤ b) (hb : b < 2147483648) : x + Int32.toInt64 (nI b) - Int32.toInt64 (nI a) = x + Int32.toInt64 (nI (b - a)) := by
  rw [nI_l hb, nI_l (Nat.lt_of_le_of_lt h hb), nI_l (by omega), ← lN_sub h, Int64.sub_eq_add_neg, Int64.add_assoc, ← Int64.sub_eq_add_neg]
/-- a new object's state -/
def mZ : MS := (0, 0, 0, 0, 20, 1, 3, 0, nI 0, nI 0, fun _ => 0, fun _ => 0, fun _ => 0, fun _ => 0, fun _ => 0, fun _ => 0)
def dgF (f : Nat → Int32) (k : Nat) (x : Int64) : Int64 := x * 31 + Int32.toInt64 (f k)
theorem en_wi {l : Launch} {y : MethodName} {ws ws' : List Cond} {rm : Room} {cc : ByteArray} {maxL : Nat} {ret : Option FieldType} {D : va_G} {cl : List vw_C} {tys : List (ClassId × FieldType)} {sz mc ms : Nat} (W0 : va_W) (av : List Value) (Qc : (Nat → Prop) → Array Value → State → Outcome → State → Prop)
    (hy : plainName y.cls = true) (hw : ws = Cond.code y cc maxL ret :: ws') (hlen : (lg_sl av).length ≤ maxL)
    (body : ∀ (p : Program) (e : Env) (s : State) (m : MethodId) (args : Array Value) (below : List Frame) (meth : Method) (c : Code) (ls : Array Slot) (A : Nat → Prop) (H : Heap) (locs : List Loc), p.tables.exec = Jvm.exec → c.code = cc → c.maxLocals = maxL → meth.sig.returnType = ret → meth.locks = false → (∀ w ∈ ws, w.before args s = true) → s.vm.findClass y.cls = some m.cls → (y.name = "<init>" → meth.name = "<init>") → va_P D cl W0 H → va_K D cl tys s → va_D A W0 → (∀ q : Nat, s.heap.size ≤ q → A q) → va_S A s.heap H locs → lv_has ls maxL (lv_args 0 av) →
      W p l e rm s m args below meth c H locs 0 0 (MQ below (Qc A) args s mc ms A) (F0 m 0 ls [])) :
    Met l y ws rm (va_Pc av (fun U => U.heap.size = sz ∧ va_P D cl W0 U.heap ∧ va_K D cl tys U ∧ va_D (fun _ => True) W0)) (Qc (va_A W0 sz)) mc ms (va_A W0 sz) := by
  refine Met.ofW (cc := cc) (maxL := maxL) (ret := ret) hy hw ?_
  intro p e s m args below meth c s₁ B hml hv
  obtain ⟨rfl, hsz, hP, hK, hD⟩ := hv
  have hl := lv_entry av (n := maxL) hlen
  rw [lg_entry_eq]
  subst hsz
  exact body p e s m _ below meth c _ (va_A W0 s.heap.size) s.heap [] B.exec B.bytes hml B.returns B.notSynchronized (atoms_spec (ws := ws) B.pre) (findClass_of_methodNamed B.named) (fun hn => (name_of_methodNamed B.named B.method).1.trans hn) hP hK hD.self (fun q h => Or.inr h) va_S.rf hl
theorem dg13 (x0 x1 x2 x3 x4 x5 x6 x7 x8 x9 x10 x11 x12 : Int32) : fz (dgF (upd (upd (upd (upd (upd (upd (upd (upd (upd (upd (upd (upd (upd (fun _ => 0) 0 x0) 1 x1) 2 x2) 3 x3) 4 x4) 5 x5) 6 x6) 7 x7) 8 x8) 9 x9) 10 x10) 11 x11) 12 x12)) 13 2083 = (s31 (s31 (s31 (s31 (s31 (s31 (s31 (s31 (s31 (s31 (s31 (s31 (s31 2083 x0) x1) x2) x3) x4) x5) x6) x7) x8) x9) x10) x11) x12) := rfl
theorem wn_eq {u : MS} {n : Nat} {x : Int64} (h : aN u n ≤ bN u n) (hb : bN u n < 2147483648) : ((x * 31 + Int32.toInt64 (nI (aN u n))) * 31 + Int32.toInt64 (nI (bN u n)) - Int32.toInt64 (nI (aN u n))) * 31 + Int32.toInt64 (fAl u n) = wnF u n x := by
  unfold wnF
  rw [l64 h hb]
theorem wb_eq {u : MS} {b : Nat} {x : Int64} : ((x * 31 + Int32.toInt64 (fTk u b)) * 31 + Int32.toInt64 (fTk u b * nI (pN u b))) * 31 + Int32.toInt64 (fNx u b) = wbF u b x := rfl
theorem dig_eq {u : MS} : fz (wbF u) (mBc u) (fz (wnF u) (mNc u) (fz (wsF u) (mSc u) (dgH u))) = fDig u := rfl
