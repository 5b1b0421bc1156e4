/-! what a throw needs of the world around it -/
def xcls : List String := ["java/lang/IllegalArgumentException", "java/lang/IllegalStateException", "java/lang/IndexOutOfBoundsException"]
def xnames : List String := ["java/lang/RuntimeException", "java/lang/Exception"]
def xtx : List (Nat × String) := [(43, "a height is 1 to 30"), (53, "there are 4 sticks"), (56, "a nap goes from a minute, 0 or later, to a greater one, 360 at most"), (61, "there are 8 naps"), (71, "a period is 2 to 30, and a beat 0 to the period less 1"), (76, "there are 6 bees"), (82, "a room is 1 to 50"), (84, "a rate is 0 to 9"), (86, "a sip is 0 to 9"), (95, "minutes that go by are 1 to 360"), (100, "the afternoon has fewer minutes left"), (190, "a minute is 0 to 359"), (194, "there is no such stick"), (197, "there is no such nap"), (199, "there is no such bee")]
def xdec : List String := ["java/lang/RuntimeException", "java/lang/Exception", Bundle.tN]
def tE (A : Nat → Prop) (U : State) : Prop := (∀ q ∈ xtx, ∃ sa, vk_R RX0 q.1 q.2 sa U) ∧ vx_Zq Bundle.tN "UNASSIGNED_STACK" Bundle.steD A U U.heap ∧ vx_Zq Bundle.tN "SUPPRESSED_SENTINEL" Bundle.listD A U U.heap ∧ (∀ E ∈ xcls, va_Nw (.castable E E) U) ∧ (∀ E ∈ xcls, ∀ F ∈ xcls, E ≠ F → va_Nc E F U) ∧ ∀ Y ∈ xdec, va_Nw (.declares (Bundle.initS Y)) U
theorem tE.go {A B : Nat → Prop} {s U : State} {H : Heap} {locs : List Loc} (h : tE A s) (hS : va_S A s.heap H locs) (hW : s.WarmedH U.vm) (hU : U.heap = H) (hAB : ∀ q, B q → A q) : tE B U := by
  obtain ⟨h1, h2, h3, h4, h5, h6⟩ := h
  refine ⟨fun q hq => ?_, ?_, ?_, fun E hE => va_Nw.warmC hW (h4 E hE), fun E hE F hF hne => va_Nc.moved hW.alike (h5 E hE F hF hne), fun Y hY => va_Nw.warmD hW (h6 Y hY)⟩
  · obtain ⟨sa, g⟩ := h1 q hq
    exact ⟨sa, g.warm hW⟩
  · rw [hU]
    exact ((h2.kept hS.2.1).moved hW.alike).narrow hAB
  · rw [hU]
    exact ((h3.kept hS.2.1).moved hW.alike).narrow hAB
theorem tE.blind {A : Nat → Prop} {U : State} {g : JFrame} {mk : MethodId} {a : Array Value} (h : tE A U) : tE A (U.calling g mk a) :=
  h.go va_S.rf (State.WarmedH.refl U) rfl (fun _ h9 => h9)
theorem en_th {l : Launch} {y : MethodName} {ws ws' : List Cond} {rm : Room} {cc : ByteArray} {maxL : Nat} {ret : Option FieldType} {D : va_G} {cl : List vw_C} {tys : List (ClassId × FieldType)} {sz : Nat} (W0 : va_W) (av : List Value) (Qc : (Nat → Prop) → Array Value → State → Outcome → State → Prop) (XC : (Nat → Prop) → String → State → State → Prop)
    (hy : plainName y.cls = true) (hw : ws = Cond.code y cc maxL ret :: ws') (hlen : (lg_sl av).length ≤ maxL)
    (body : ∀ (p : Program) (e : Env) (s : State) (m : MethodId) (args : Array Value) (below : List Frame) (meth : Method) (c : Code) (ls : Array Slot) (A : Nat → Prop), p.tables.exec = Jvm.exec → c.code = cc → c.maxLocals = maxL → meth.sig.returnType = ret → meth.locks = false → (∀ w ∈ ws, w.before args s = true) → s.vm.findClass y.cls = some m.cls → (∀ x ∈ c.exceptionTable.toList, False) → va_P D cl W0 s.heap → va_K D cl tys s → tE A s → (∀ q : Nat, s.heap.size ≤ q → A q) → (∀ q : Nat, A q → s.heap.size ≤ q) → va_S A s.heap s.heap [] → lv_has ls maxL (lv_args 0 av) →
      W p l e rm s m args below meth c s.heap [] 0 0 (vx_MQ below (Qc A) (XC A) args s 1 6 A) (F0 m 0 ls [])) :
    vx_Met l y ws rm (va_Pc av (fun U => U.heap.size = sz ∧ va_P D cl W0 U.heap ∧ va_K D cl tys U ∧ tE (fun q => sz ≤ q) U)) (Qc (fun q => sz ≤ q)) (XC (fun q => sz ≤ q)) 1 6 (fun q => sz ≤ q) := by
  refine vx_ofW (cc := cc) (maxL := maxL) (ret := ret) hy hw ?_
  intro p e s m args below meth c s₁ B hml hto hv
  obtain ⟨rfl, hsz, hP, hK, hE⟩ := hv
  have hl := lv_entry av (n := maxL) hlen
  rw [lg_entry_eq]
  subst hsz
  exact body p e s m _ below meth c _ (fun q => s.heap.size ≤ q) B.exec B.bytes hml B.returns B.notSynchronized (atoms_spec (ws := ws) B.pre) (findClass_of_methodNamed B.named) hto hP hK hE (fun q h => h) (fun q h => h) va_S.rf hl
theorem th_blind {av : List Value} {sz : Nat} {D : va_G} {cl : List vw_C} {tys : List (ClassId × FieldType)} {W0 : va_W} {A : Nat → Prop} : FrameBlind (va_Pc av (fun U => U.heap.size = sz ∧ va_P D cl W0 U.heap ∧ va_K D cl tys U ∧ tE A U)) :=
  fun a U g mk q => by
    obtain ⟨q0, q1, qP, qK, qE⟩ := q
    exact ⟨q0, q1, qP, va_K.moved (u := U) (U := U.calling g mk a) (Vm.Alike.refl U.vm) qK, qE.blind⟩
theorem ot_41 : ∀ w ∈ Cond.classLink RX0 41 "java/lang/IllegalArgumentException" :: Cond.initialized "java/lang/IllegalArgumentException" :: vx_atS RX0 45 "java/lang/IllegalArgumentException" ["java/lang/RuntimeException", "java/lang/Exception"], vx_ot w = true := by decide +kernel
theorem ot_51 : ∀ w ∈ Cond.classLink RX0 51 "java/lang/IllegalStateException" :: Cond.initialized "java/lang/IllegalStateException" :: vx_atS RX0 55 "java/lang/IllegalStateException" ["java/lang/RuntimeException", "java/lang/Exception"], vx_ot w = true := by decide +kernel
theorem ot_192 : ∀ w ∈ Cond.classLink RX0 192 "java/lang/IndexOutOfBoundsException" :: Cond.initialized "java/lang/IndexOutOfBoundsException" :: vx_atS RX0 196 "java/lang/IndexOutOfBoundsException" ["java/lang/RuntimeException", "java/lang/Exception"], vx_ot w = true := by decide +kernel
theorem nb_41 : ∀ w ∈ (vx_atS RX0 45 "java/lang/IllegalArgumentException" ["java/lang/RuntimeException", "java/lang/Exception"]).filter (fun w => !goodWord w), w ∈ [Cond.castable "java/lang/IllegalArgumentException" "java/lang/IllegalArgumentException", Cond.declares (Bundle.initS "java/lang/RuntimeException"), Cond.declares (Bundle.initS "java/lang/Exception"), Cond.declares (Bundle.initS Bundle.tN)] := by decide +kernel
theorem nb_51 : ∀ w ∈ (vx_atS RX0 55 "java/lang/IllegalStateException" ["java/lang/RuntimeException", "java/lang/Exception"]).filter (fun w => !goodWord w), w ∈ [Cond.castable "java/lang/IllegalStateException" "java/lang/IllegalStateException", Cond.declares (Bundle.initS "java/lang/RuntimeException"), Cond.declares (Bundle.initS "java/lang/Exception"), Cond.declares (Bundle.initS Bundle.tN)] := by decide +kernel
theorem nb_192 : ∀ w ∈ (vx_atS RX0 196 "java/lang/IndexOutOfBoundsException" ["java/lang/RuntimeException", "java/lang/Exception"]).filter (fun w => !goodWord w), w ∈ [Cond.castable "java/lang/IndexOutOfBoundsException" "java/lang/IndexOutOfBoundsException", Cond.declares (Bundle.initS "java/lang/RuntimeException"), Cond.declares (Bundle.initS "java/lang/Exception"), Cond.declares (Bundle.initS Bundle.tN)] := by decide +kernel
theorem fit_1 : Bundle.fit "java/lang/IllegalArgumentException" = true := by decide +kernel
theorem fit_2 : Bundle.fit "java/lang/IllegalStateException" = true := by decide +kernel
theorem fit_3 : Bundle.fit "java/lang/IndexOutOfBoundsException" = true := by decide +kernel
theorem fit_n : ∀ n ∈ ["java/lang/RuntimeException", "java/lang/Exception"], Bundle.fit n = true := by decide +kernel
theorem tE.ws {A : Nat → Prop} {s : State} {args : Array Value} {E : String} (h : tE A s) (hE : E ∈ xcls) : ∀ w ∈ [Cond.castable E E, Cond.declares (Bundle.initS "java/lang/RuntimeException"), Cond.declares (Bundle.initS "java/lang/Exception"), Cond.declares (Bundle.initS Bundle.tN)], w.before args s = true :=
  vx_c (va_Nw.use rfl (h.2.2.2.1 E hE)) (vx_c (va_Nw.use rfl (h.2.2.2.2.2 _ (by decide +kernel))) (vx_c (va_Nw.use rfl (h.2.2.2.2.2 _ (by decide +kernel))) (vx_c (va_Nw.use rfl (h.2.2.2.2.2 _ (by decide +kernel))) vx_n)))
theorem vB_mk {p q : Int32} (h1 : nI 2 ≤ p) (h2 : p ≤ nI 30) (h3 : nI 0 ≤ q) (h4 : q < p) : vB p q = true := by
  obtain ⟨x, hx1, hx2, rfl⟩ := isB_of (by omega) (by omega) (show isB p (nI 2) (nI 30) = true from decide_eq_true ⟨h1, h2⟩)
  rw [vB, show isB (nI x) (nI 2) (nI 30) = true from decide_eq_true ⟨h1, h2⟩, isB_m1 (by omega)]
  exact decide_eq_true ⟨h3, h4⟩
theorem vT_mk {p q r : Int32} (h1 : nI 1 ≤ p) (h2 : p ≤ nI 50) (h3 : nI 0 ≤ q) (h4 : q ≤ nI 9) (h5 : nI 0 ≤ r) (h6 : r ≤ nI 9) : vT p q r = true := by
  rw [vT, show isB p (nI 1) (nI 50) = true from decide_eq_true ⟨h1, h2⟩, show isB q (nI 0) (nI 9) = true from decide_eq_true ⟨h3, h4⟩, show isB r (nI 0) (nI 9) = true from decide_eq_true ⟨h5, h6⟩]
  rfl
