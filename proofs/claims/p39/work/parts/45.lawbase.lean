/-! the law's helpers; class and afternoon by hand side by side -/
set_option maxHeartbeats 4000000 in
set_option maxRecDepth 100000 in
theorem c_L_below (l : Launch) (v0 : Int32) (N : Nat) (h0 : 0 < N) (hN : N < 1000000) : Met l yL_below wsL_below ({ frames := 0, cells := 0, slots := 0, locals := 0 } : Room) (fun v _ => v = ([.int v0, .int (nI N)] : List Value).toArray) (vp_Si (fun r => ∃ j : Nat, j < N ∧ r = nI j)) 0 0 (fun _ => False) := by
  refine en_st (cc := cL_below) (maxL := 2) (ret := (some .int)) _ (by decide) rfl (Nat.le_of_ble_eq_true rfl) ?_
  intro p e s m args below meth c ls hx hb hml hr hlocks hts hown hl
  have hown : s.vm.findClass RL = some m.cls := hown
  have hl : lv_has ls 2 [(0, .int v0), (1, .int (nI N))] := hl
  refine lv_iload_n hx hb dL_below_0 rfl (lv_at hl 0 rfl) ?_
  refine lv_ldc (v := 2147483647) hx hb hown (hts (.constant RL 7 (2147483647)) (List.mem_of_getElem? (i := 1) rfl)) dL_below_1 ?_
  refine lv_iand hx hb dL_below_3 ?_
  obtain ⟨j, hj, ej⟩ := pk_andE v0 (m := 2147483647) 31 (by decide +kernel)
  rw [ej]
  refine lv_iload_n hx hb dL_below_4 rfl (lv_at hl 1 rfl) ?_
  refine q_iremN hx hb (by omega) (by omega) (by omega) dL_below_5 ?_
  exact W.iret hx hb hr (fun t ht _ => ⟨_, rfl, ⟨j % N, Nat.mod_lt j h0, rfl⟩, ht⟩) (fun _ h9 => nomatch h9) dL_below_6
/-- a static method that looks at the script -/
theorem en_sx {l : Launch} {y : MethodName} {ws ws' : List Cond} {rm : Room} {Qc : Array Value → State → Outcome → State → Prop} {cc : ByteArray} {maxL : Nat} {ret : Option FieldType} (av : List Value) (RR : State → Prop)
    (hy : plainName y.cls = true) (hw : ws = Cond.code y cc maxL ret :: ws') (hlen : (lg_sl av).length ≤ maxL)
    (body : ∀ (p : Program) (e : Env) (s : State) (m : MethodId) (args : Array Value) (below : List Frame) (meth : Method) (c : Code) (ls : Array Slot), p.tables.exec = Jvm.exec → c.code = cc → c.maxLocals = maxL → meth.sig.returnType = ret → meth.locks = false → (∀ w ∈ ws, w.before args s = true) → s.vm.findClass y.cls = some m.cls → RR s → lv_has ls maxL (lv_args 0 av) →
      W p l e rm s m args below meth c s.heap [] 0 0 (MQ below Qc args s 0 0 (fun _ => False)) (F0 m 0 ls [])) :
    Met l y ws rm (va_Pc av RR) Qc 0 0 (fun _ => False) := by
  refine Met.ofW (cc := cc) (maxL := maxL) (ret := ret) hy hw ?_
  intro p e s m args below meth c s₁ B hml hv
  obtain ⟨rfl, hR⟩ := hv
  have hl := lv_entry av (n := maxL) hlen
  rw [lg_entry_eq]
  exact body p e s m _ below meth c _ B.exec B.bytes hml B.returns B.notSynchronized (atoms_spec (ws := ws) B.pre) (findClass_of_methodNamed B.named) hR hl
theorem X_at {b L : Nat} {xs : Nat → Int32} {U : State} {H : Heap} (hU : U.heap = H) (h : va_X b L xs U H) : va_X b L xs U U.heap := by rw [hU]; exact h
theorem sx_blind {av : List Value} {b L : Nat} {xs : Nat → Int32} : FrameBlind (va_Pc av (fun U => va_X b L xs U U.heap)) :=
  fun a U g mk q => ⟨q.1, va_X.moved (u := U) (U := U.calling g mk a) (Vm.Alike.refl U.vm) q.2⟩
set_option maxHeartbeats 4000000 in
set_option maxRecDepth 100000 in
theorem c_L_cell (l : Launch) (b L : Nat) (xs : Nat → Int32) (k : Nat) (hL : L ≤ 260) (hk : k < 1000) : Met l yL_cell wsL_cell ({ frames := 0, cells := 0, slots := 0, locals := 0 } : Room) (va_Pc [.ref b, .int (nI k)] (fun U => va_X b L xs U U.heap)) (vp_Si (fun _ => True)) 0 0 (fun _ => False) := by
  refine en_sx (cc := cL_cell) (maxL := 2) (ret := (some .int)) _ _ (by decide) rfl (Nat.le_of_ble_eq_true rfl) ?_
  intro p e s m args below meth c ls hx hb hml hr hlocks hts hown hX hl
  have hown : s.vm.findClass RL = some m.cls := hown
  have hl : lv_has ls 2 [(0, .ref b), (1, .int (nI k))] := hl
  have hS : va_S (fun q : Nat => s.heap.size ≤ q) s.heap s.heap [] := va_S.rf
  have hbl : b < s.heap.size := by
    obtain ⟨scr, h1, -⟩ := hX
    exact sm_lt h1
  have hbA : ¬ (fun q : Nat => s.heap.size ≤ q) b := Nat.not_le.mpr hbl
  refine lv_iload_n hx hb dL_cell_0 rfl (lv_at hl 1 rfl) ?_
  refine lv_aload_n hx hb dL_cell_1 rfl (lv_at hl 0 rfl) ?_
  refine va_slen hx hb hX hbl hbA hS dL_cell_2 ?_
  refine lv_icmp_ge (tgt := 12) hx hb dL_cell_3 (by decide) (fun c_3 => ?_) (fun c_3 => ?_)
  · refine lv_ldc (v := 790386105) hx hb hown (hts (.constant RL 8 (790386105)) (List.mem_of_getElem? (i := 1) rfl)) dL_cell_12 ?_
    refine lv_iload_n hx hb dL_cell_14 rfl (lv_at hl 1 rfl) ?_
    refine lv_iconst (v := nI 3) hx hb dL_cell_15 (by decide +kernel) ?_
    refine lv_iadd hx hb dL_cell_16 ?_
    refine lv_imul hx hb dL_cell_17 ?_
    exact W.iret hx hb hr (fun t ht _ => ⟨_, rfl, trivial, ht⟩) (fun _ h9 => nomatch h9) dL_cell_18
  · have hlt : k < L := by
      have h9 : ¬ nI L ≤ nI k := c_3
      exact nleN h9
    refine lv_aload_n hx hb dL_cell_6 rfl (lv_at hl 0 rfl) ?_
    refine lv_iload_n hx hb dL_cell_7 rfl (lv_at hl 1 rfl) ?_
    refine va_sld hx hb hX hbl hbA hS (vp_in_nI hlt (by omega)) dL_cell_8 ?_
    refine lv_goto (tgt := 18) hx hb dL_cell_9 (by decide) ?_
    exact W.iret hx hb hr (fun t ht _ => ⟨_, rfl, trivial, ht⟩) (fun _ h9 => nomatch h9) dL_cell_18
/-- the cells that change: the class's eight, and the one of the afternoon by hand -/
abbrev picT (cI : ClassId) (h0 : Nat) (a0 : Nat → Nat) (h1 : Nat) (a1 : Nat → Nat) (u v : MS) (on : Nat → Int32) : va_W := pic0 cI h0 a0 u on ++ picS h1 a1 v
abbrev adr (h0 : Nat) (a0 : Nat → Nat) (h1 : Nat) : List Nat := [h0, a0 0, a0 1, a0 2, a0 3, a0 4, a0 5, a0 6, h1]
theorem adr_in {cI : ClassId} {h0 h1 : Nat} {a0 a1 : Nat → Nat} {u v : MS} {on : Nat → Int32} {k : Nat} {q : Nat × va_E} (h : (picT cI h0 a0 h1 a1 u v on)[k]? = some q) : q.1 ∈ adr h0 a0 h1 := by
  have e : ((picT cI h0 a0 h1 a1 u v on).map (fun q => q.1))[k]? = some q.1 := by rw [List.getElem?_map, h]; rfl
  exact List.mem_of_getElem? (l := adr h0 a0 h1) e
theorem adr_of {cI : ClassId} {h0 h1 : Nat} {a0 a1 : Nat → Nat} {u v : MS} {on : Nat → Int32} {q : Nat} (h : q ∈ adr h0 a0 h1) : ∃ (k : Nat) (e : va_E), (picT cI h0 a0 h1 a1 u v on)[k]? = some (q, e) := by
  obtain ⟨k, hk⟩ := List.getElem?_of_mem h
  have e : ((picT cI h0 a0 h1 a1 u v on).map (fun q => q.1))[k]? = some q := hk
  rw [List.getElem?_map] at e
  cases hq : (picT cI h0 a0 h1 a1 u v on)[k]? with
  | none => rw [hq] at e; cases e
  | some w =>
    rw [hq] at e
    obtain ⟨w1, w2⟩ := w
    cases e
    exact ⟨k, w2, hq⟩
theorem adr_lt {D : va_G} {cl : List vw_C} {cI : ClassId} {h0 h1 : Nat} {a0 a1 : Nat → Nat} {u v : MS} {on : Nat → Int32} {H : Heap} (hP : va_P D cl (picT cI h0 a0 h1 a1 u v on) H) {q : Nat} (h : q ∈ adr h0 a0 h1) : q < H.size := by
  obtain ⟨k, e, hk⟩ := adr_of (cI := cI) (a1 := a1) (u := u) (v := v) (on := on) h
  exact (hP k _ hk).lt
theorem A_T {cI : ClassId} {h0 h1 : Nat} {a0 a1 : Nat → Nat} {u v : MS} {on : Nat → Int32} {sz q : Nat} (h : va_A (picT cI h0 a0 h1 a1 u v on) sz q) : q ∈ adr h0 a0 h1 ∨ sz ≤ q := by
  rcases h with ⟨k, e, h⟩ | h
  · exact Or.inl (adr_in h)
  · exact Or.inr h
theorem D_T {A : Nat → Prop} {cI : ClassId} {h0 h1 : Nat} {a0 a1 a2 : Nat → Nat} {u v u2 v2 : MS} {on on2 : Nat → Int32} (h : va_D A (picT cI h0 a0 h1 a1 u v on)) : va_D A (picT cI h0 a0 h1 a2 u2 v2 on2) := by
  have key : ∀ (k : Nat) (q : Nat × va_E), (picT cI h0 a0 h1 a2 u2 v2 on2)[k]? = some q → ∃ e : va_E, (picT cI h0 a0 h1 a1 u v on)[k]? = some (q.1, e) := by
    intro k q hk
    have e1 : ((picT cI h0 a0 h1 a2 u2 v2 on2).map (fun q => q.1))[k]? = some q.1 := by rw [List.getElem?_map, hk]; rfl
    have e2 : ((picT cI h0 a0 h1 a1 u v on).map (fun q => q.1))[k]? = some q.1 := e1
    rw [List.getElem?_map] at e2
    cases hq : (picT cI h0 a0 h1 a1 u v on)[k]? with
    | none => rw [hq] at e2; cases e2
    | some w =>
      rw [hq] at e2
      obtain ⟨w1, w2⟩ := w
      cases e2
      exact ⟨w2, rfl⟩
  refine ⟨fun i j x y hi hj hxy => ?_, fun k q hk => ?_⟩
  · obtain ⟨e1, h1⟩ := key i x hi
    obtain ⟨e2, h2⟩ := key j y hj
    exact h.1 i j _ _ h1 h2 hxy
  · obtain ⟨e1, h1⟩ := key k q hk
    exact h.2 k (q.1, e1) h1
theorem P_two {D : va_G} {cl : List vw_C} {H : Heap} {a b : Nat} {e f : va_E} (h1 : va_at D cl (a, e) H) (h2 : va_at D cl (b, f) H) : va_P D cl [(a, e), (b, f)] H := va_P.app (P_one h1) (P_one h2)
theorem D_two {A : Nat → Prop} {a b : Nat} {e f : va_E} (h1 : A a) (h2 : A b) (h : ¬ a = b) : va_D A [(a, e), (b, f)] :=
  va_D.app (w1 := [(a, e)]) (w2 := [(b, f)]) (D_one h1) (D_one h2) (fun i j p q hi hj z => by
    have hz : i < 1 := (List.getElem?_eq_some_iff.mp hi).1
    have hz2 : j < 1 := (List.getElem?_eq_some_iff.mp hj).1
    rw [show i = 0 by omega] at hi
    rw [show j = 0 by omega] at hj
    cases hi
    cases hj
    exact h z)
theorem push_new {A : Nat → Prop} {D : va_G} {cl : List vw_C} {ws : va_W} {H H1 : Heap} {q2 : Nat} {e : va_E} (hP : va_P D cl ws H) (hD : va_D A ws) (hk : ∀ q : Nat, q < H.size → ¬ H.size ≤ q → H1[q]? = H[q]?) (hq : H.size ≤ q2) (hA : A q2) (h2 : va_at D cl (q2, e) H1) : va_P D cl (ws ++ [(q2, e)]) H1 ∧ va_D A (ws ++ [(q2, e)]) := by
  refine ⟨(hP.kept fun k q hk9 => hk q.1 (hP k q hk9).lt (Nat.not_le.mpr (hP k q hk9).lt)).app (P_one h2), va_D.app hD (D_one hA) (fun i j p q hi hj z => ?_)⟩
  have hz2 : j < 1 := (List.getElem?_eq_some_iff.mp hj).1
  rw [show j = 0 by omega] at hj
  cases hj
  have h3 := (hP i p hi).lt
  have h4 : p.1 = q2 := z
  omega
theorem row_pr {x y : Int32} {f : Nat → Int32} (h0 : f 0 = x) (h1 : f 1 = y) : ∀ k, k < 2 → f k = pr x y k := by
  intro k hk
  rcases (show k = 0 ∨ k = 1 by omega) with rfl | rfl
  · exact h0
  · exact h1
abbrev uNap (u : MS) (x y : Nat) : MS := (mSc u, mNc u + 1, mBc u, mNow u, mRoom u, mRate u, mSip u, mTea u, mSpl u, mAft u, mHt u, upd (mFr u) (mNc u) (nI x), upd (mTo u) (mNc u) (nI y), ccv (mCov u) x y (nI 1) 360, mPe u, mBe u)
abbrev uStick (u : MS) (x : Nat) : MS := (mSc u + 1, mNc u, mBc u, mNow u, mRoom u, mRate u, mSip u, mTea u, mSpl u, mAft u, upd (mHt u) (mSc u) (nI x), mFr u, mTo u, mCov u, mPe u, mBe u)
abbrev uBee (u : MS) (x y : Nat) : MS := (mSc u, mNc u, mBc u + 1, mNow u, mRoom u, mRate u, mSip u, mTea u, mSpl u, mAft u, mHt u, mFr u, mTo u, mCov u, upd (mPe u) (mBc u) (nI x), upd (mBe u) (mBc u) (nI y))
abbrev uGive (u : MS) (j : Nat) : MS := (mSc u, mNc u - 1, mBc u, mNow u, mRoom u, mRate u, mSip u, mTea u, mSpl u, mAft u, mHt u, shl (mFr u) j (mNc u - 1 - j), shl (mTo u) j (mNc u - 1 - j), ccv (mCov u) (aN u j) (bN u j) (-1) 360, mPe u, mBe u)
abbrev uTea (u : MS) (x y z : Nat) : MS := (mSc u, mNc u, mBc u, mNow u, x, y, z, mTea u - (mTea u - x), mSpl u + nI (mTea u - x), mAft u, mHt u, mFr u, mTo u, mCov u, mPe u, mBe u)
theorem RO_stick {cI cR : ClassId} {a1 nr br : Nat → Nat} {u : MS} {H : Heap} {q x : Nat} (hR : RO cI cR a1 nr br u H) (hq : H[q]? = some (vp_cell cI (mSc u + 1, .inl (upd (mHt u) (mSc u) (nI x))))) : RO cI cR (upN a1 0 q) nr br (uStick u x) H :=
  ⟨hq, hR.2.1, hR.2.2.1, hR.2.2.2.1, hR.2.2.2.2⟩
theorem RO_nap {cI cR : ClassId} {a1 nr br : Nat → Nat} {u : MS} {H : Heap} {q1 q2 x y : Nat} {f : Nat → Int32} (hR : RO cI cR a1 nr br u H) (hq2 : H[q2]? = some (vp_cell cR (mNc u + 1, .inr (.inr (.inr (.inr (rfs (upN nr (mNc u) q1)))))))) (hq1 : H[q1]? = some (vp_cell cI (2, .inl f))) (h0 : f 0 = nI x) (h1 : f 1 = nI y) : RO cI cR (upN a1 1 q2) (upN nr (mNc u) q1) br (uNap u x y) H := by
  refine ⟨hR.1, hq2, hR.2.2.1, fun k hk => ?_, hR.2.2.2.2⟩
  have hk9 : k < mNc u + 1 := hk
  show H[(if k = mNc u then q1 else nr k)]? = some (vp_cell cI (2, .inl (pr (upd (mFr u) (mNc u) (nI x) k) (upd (mTo u) (mNc u) (nI y) k))))
  by_cases e : k = mNc u
  · rw [if_pos e, e, pk_us, pk_us, ← cell_i (row_pr h0 h1)]
    exact hq1
  · rw [if_neg e, pk_un e, pk_un e]
    exact hR.2.2.2.1 k (by omega)
theorem RO_bee {cI cR : ClassId} {a1 nr br : Nat → Nat} {u : MS} {H : Heap} {q1 q2 x y : Nat} {f : Nat → Int32} (hR : RO cI cR a1 nr br u H) (hq2 : H[q2]? = some (vp_cell cR (mBc u + 1, .inr (.inr (.inr (.inr (rfs (upN br (mBc u) q1)))))))) (hq1 : H[q1]? = some (vp_cell cI (2, .inl f))) (h0 : f 0 = nI x) (h1 : f 1 = nI y) : RO cI cR (upN a1 2 q2) nr (upN br (mBc u) q1) (uBee u x y) H := by
  refine ⟨hR.1, hR.2.1, hq2, hR.2.2.2.1, fun k hk => ?_⟩
  have hk9 : k < mBc u + 1 := hk
  show H[(if k = mBc u then q1 else br k)]? = some (vp_cell cI (2, .inl (pr (upd (mPe u) (mBc u) (nI x) k) (upd (mBe u) (mBc u) (nI y) k))))
  by_cases e : k = mBc u
  · rw [if_pos e, e, pk_us, pk_us, ← cell_i (row_pr h0 h1)]
    exact hq1
  · rw [if_neg e, pk_un e, pk_un e]
    exact hR.2.2.2.2 k (by omega)
theorem shl_dn {f : Nat → Int32} {j m n : Nat} (hn : n < m - 1) : shl f j (m - 1 - j) n = if n < j then f n else f (n + 1) := by
  show (if j ≤ n ∧ n < j + (m - 1 - j) then f (n + 1) else f n) = _
  by_cases e : n < j
  · rw [if_neg (fun z => by omega), if_pos e]
  · rw [if_pos ⟨by omega, by omega⟩, if_neg e]
theorem RO_give {cI cR : ClassId} {a1 nr br : Nat → Nat} {u : MS} {H : Heap} {q2 j : Nat} (hR : RO cI cR a1 nr br u H) (hj : j < mNc u) (hq2 : H[q2]? = some (vp_cell cR (mNc u - 1, .inr (.inr (.inr (.inr (rfs (dnN nr j)))))))) : RO cI cR (upN a1 1 q2) (dnN nr j) br (uGive u j) H := by
  refine ⟨hR.1, hq2, hR.2.2.1, fun k hk => ?_, hR.2.2.2.2⟩
  have hk9 : k < mNc u - 1 := hk
  show H[(if k < j then nr k else nr (k + 1))]? = some (vp_cell cI (2, .inl (pr (shl (mFr u) j (mNc u - 1 - j) k) (shl (mTo u) j (mNc u - 1 - j) k))))
  rw [shl_dn hk9, shl_dn hk9]
  by_cases e : k < j
  · rw [if_pos e, if_pos e, if_pos e]
    exact hR.2.2.2.1 k (by omega)
  · rw [if_neg e, if_neg e, if_neg e]
    exact hR.2.2.2.1 (k + 1) (by omega)
theorem NM_stick {X : Nat → Prop} {a1 nr br : Nat → Nat} {u : MS} {q x : Nat} (h : NM X a1 nr br u) (hq : ¬ X q) : NM X (upN a1 0 q) nr br (uStick u x) := ⟨hq, h.2.1, h.2.2.1, h.2.2.2.1, h.2.2.2.2⟩
theorem NM_nap {X : Nat → Prop} {a1 nr br : Nat → Nat} {u : MS} {q1 q2 x y : Nat} (h : NM X a1 nr br u) (h1 : ¬ X q1) (h2 : ¬ X q2) : NM X (upN a1 1 q2) (upN nr (mNc u) q1) br (uNap u x y) := by
  refine ⟨h.1, h2, h.2.2.1, fun k hk => ?_, h.2.2.2.2⟩
  have hk9 : k < mNc u + 1 := hk
  show ¬ X (if k = mNc u then q1 else nr k)
  by_cases e : k = mNc u
  · rw [if_pos e]; exact h1
  · rw [if_neg e]; exact h.2.2.2.1 k (by omega)
theorem NM_bee {X : Nat → Prop} {a1 nr br : Nat → Nat} {u : MS} {q1 q2 x y : Nat} (h : NM X a1 nr br u) (h1 : ¬ X q1) (h2 : ¬ X q2) : NM X (upN a1 2 q2) nr (upN br (mBc u) q1) (uBee u x y) := by
  refine ⟨h.1, h.2.1, h2, h.2.2.2.1, fun k hk => ?_⟩
  have hk9 : k < mBc u + 1 := hk
  show ¬ X (if k = mBc u then q1 else br k)
  by_cases e : k = mBc u
  · rw [if_pos e]; exact h1
  · rw [if_neg e]; exact h.2.2.2.2 k (by omega)
theorem NM_give {X : Nat → Prop} {a1 nr br : Nat → Nat} {u : MS} {q2 j : Nat} (h : NM X a1 nr br u) (h2 : ¬ X q2) : NM X (upN a1 1 q2) (dnN nr j) br (uGive u j) := by
  refine ⟨h.1, h2, h.2.2.1, fun k hk => ?_, h.2.2.2.2⟩
  have hk9 : k < mNc u - 1 := hk
  show ¬ X (if k < j then nr k else nr (k + 1))
  by_cases e : k < j
  · rw [if_pos e]; exact h.2.2.2.1 k (by omega)
  · rw [if_neg e]; exact h.2.2.2.1 (k + 1) (by omega)
theorem iv_stick {u : MS} {x : Nat} (hI : Inv u) (h : 1 ≤ x ∧ x ≤ 30) (h4 : mSc u < 4) : Inv (uStick u x) := by
  have h1 := inv_stick (p := nI x) hI
  have ek : kdStick u (nI x) = nI 0 := (kd_t (isB_nI h.1 h.2 (by omega))).trans (if_neg (by omega))
  rw [nxStick, nx_0 ek] at h1
  exact h1
theorem iv_nap {u : MS} {x y : Nat} (hI : Inv u) (h : x < y ∧ y ≤ 360) (h8 : mNc u < 8) : Inv (uNap u x y) := by
  have h1 := inv_nap (p := nI x) (q := nI y) hI
  have hv : vN (nI x) (nI y) = true := decide_eq_true ⟨(nI_leI (by omega) (by omega)).mpr (Nat.zero_le _), (nI_leI (by omega) (by omega)).mpr h.2, (nI_ltI (by omega) (by omega)).mpr h.1⟩
  have ek : kdNap u (nI x) (nI y) = nI 0 := (kd_t hv).trans (if_neg (by omega))
  rw [nxNap, nx_0 ek, tn_nI, tn_nI] at h1
  exact h1
theorem iv_give {u : MS} {j : Nat} (hI : Inv u) (h : j < mNc u) : Inv (uGive u j) := by
  have h8 : mNc u ≤ 8 := hI.2.1
  have h1 := inv_give (p := nI j) hI
  have ek : kdI (nI j) (mNc u) = nI 0 := kd_t (inR_nI h (by omega))
  rw [nxGive, nx_0 ek, tn_nI] at h1
  exact h1
theorem iv_bee {u : MS} {x y : Nat} (hI : Inv u) (h : 2 ≤ x ∧ x ≤ 30 ∧ y < x) (h6 : mBc u < 6) : Inv (uBee u x y) := by
  have h1 := inv_bee (p := nI x) (q := nI y) hI
  have hv : vB (nI x) (nI y) = true := by
    rw [vB, isB_nI h.1 h.2.1 (by omega), nI_sub (show 1 ≤ x by omega), isB_nI (Nat.zero_le _) (show y ≤ x - 1 by omega) (by omega)]
    rfl
  have ek : kdBee u (nI x) (nI y) = nI 0 := (kd_t hv).trans (if_neg (by omega))
  rw [nxBee, nx_0 ek] at h1
  exact h1
theorem iv_tea {u : MS} {x y z : Nat} (hI : Inv u) (h : 1 ≤ x ∧ x ≤ 50 ∧ y ≤ 9 ∧ z ≤ 9) : Inv (uTea u x y z) := by
  obtain ⟨hIa, hIb, hIc, hId, hIe, hIf, hIg, hIh, hIi, hIj⟩ := hI
  exact ⟨hIa, hIb, hIc, hId, ⟨show mTea u - (mTea u - x) ≤ x by omega, h.2.1, h.2.2.1, h.2.2.2, h.1⟩, hIf, hIg, hIh, hIi, trivial⟩
abbrev uPass (u : MS) (k : Nat) : MS := (mSc u, mNc u, mBc u, mNow u + k, mRoom u, mRate u, mSip u, (psS u k).2, mSpl u + (psS u k).1, mAft u, mHt u, mFr u, mTo u, mCov u, mPe u, mBe u)
theorem iv_pass {u : MS} {k : Nat} (hI : Inv u) (h : mNow u + k ≤ 360) : Inv (uPass u k) := by
  obtain ⟨hIa, hIb, hIc, hId, hIe, hIf, hIg, hIh, hIi, hIj⟩ := hI
  exact ⟨hIa, hIb, hIc, h, ⟨ps_tea hIe.1 _, hIe.2⟩, hIf, hIg, hIh, hIi, trivial⟩
abbrev uBeg (u : MS) : MS := (mSc u, mNc u, mBc u, 0, mRoom u, mRate u, mSip u, 0, nI 0, mAft u + nI 1, mHt u, mFr u, mTo u, mCov u, mPe u, mBe u)
theorem iv_beg {u : MS} (hI : Inv u) : Inv (uBeg u) := inv_begin hI
/-- what ran over in this afternoon is no more than what was poured -/
def InvS (u : MS) : Prop := ∃ S : Nat, mSpl u = nI S ∧ mTea u + S ≤ 9 * mNow u
theorem is_0 : InvS mZ := ⟨0, rfl, by decide⟩
theorem is_tea {u : MS} {x y z : Nat} (h : InvS u) : InvS (uTea u x y z) := by
  obtain ⟨S, h1, h2⟩ := h
  refine ⟨S + (mTea u - x), ?_, ?_⟩
  · show mSpl u + nI (mTea u - x) = nI (S + (mTea u - x))
    rw [h1, nI_add]
  · show mTea u - (mTea u - x) + (S + (mTea u - x)) ≤ 9 * mNow u
    omega
theorem ps_sum {u : MS} (hr : mRate u ≤ 9) : ∀ k, ∃ s : Nat, (psS u k).1 = nI s ∧ (psS u k).2 + s ≤ mTea u + 9 * k := by
  intro k
  induction k with
  | zero => exact ⟨0, rfl, Nat.le_refl _⟩
  | succ k ih =>
    obtain ⟨s, h1, h2⟩ := ih
    have hc := cAf_le u (mNow u + k) (psS u k).2 (mRate u)
    refine ⟨s + (cAf u (mNow u + k) (psS u k).2 (mRate u) - mRoom u), ?_, ?_⟩
    · show (psS u k).1 + nI (cAf u (mNow u + k) (psS u k).2 (mRate u) - mRoom u) = _
      rw [h1, nI_add]
    · show cAf u (mNow u + k) (psS u k).2 (mRate u) - (cAf u (mNow u + k) (psS u k).2 (mRate u) - mRoom u) + (s + (cAf u (mNow u + k) (psS u k).2 (mRate u) - mRoom u)) ≤ mTea u + 9 * (k + 1)
      omega
theorem is_pass {u : MS} {k : Nat} (hr : mRate u ≤ 9) (h : InvS u) : InvS (uPass u k) := by
  obtain ⟨S, h1, h2⟩ := h
  obtain ⟨s, h3, h4⟩ := ps_sum hr k
  refine ⟨S + s, ?_, ?_⟩
  · show mSpl u + (psS u k).1 = nI (S + s)
    rw [h1, h3, nI_add]
  · show (psS u k).2 + (S + s) ≤ 9 * (mNow u + k)
    omega
theorem is_beg {u : MS} : InvS (uBeg u) := ⟨0, rfl, Nat.zero_le _⟩
