set_option maxHeartbeats 4000000 in
set_option maxRecDepth 100000 in
theorem c_X1_digest (l : Launch) (D : va_G) (cI : ClassId) (h : Nat) (a : Nat → Nat) (u : MS) (th : Int32) (sz : Nat) (hI : Inv u) : Met l yX1_digest wsX1_digest ({ frames := 5, cells := 1, slots := 13, locals := 112 } : Room) (va_Pc [.ref h] (fun U => U.heap.size = sz ∧ va_P D vwCl (pic1 cI h a u th) U.heap ∧ va_K D vwCl [(cI, .int)] U ∧ va_D (fun _ => True) (pic1 cI h a u th))) ((fun A : Nat → Prop => va_Ql (fun (r : Int64) (w : MS × Int32) => r = fDig u ∧ w = (u, nI 0)) (fun (w : MS × Int32) (t : State) => va_P D vwCl (pic1 cI h a w.1 w.2) t.heap ∧ va_K D vwCl [(cI, .int)] t ∧ va_D A (pic1 cI h a w.1 w.2)) A) (va_A (pic1 cI h a u th) sz)) 1 13 (va_A (pic1 cI h a u th) sz) := by
  refine en_wi (cc := cX1_digest) (maxL := 8) (ret := (some .long)) _ _ (fun A : Nat → Prop => va_Ql (fun (r : Int64) (w : MS × Int32) => r = fDig u ∧ w = (u, nI 0)) (fun (w : MS × Int32) (t : State) => va_P D vwCl (pic1 cI h a w.1 w.2) t.heap ∧ va_K D vwCl [(cI, .int)] t ∧ va_D A (pic1 cI h a w.1 w.2)) A) (by decide) rfl (Nat.le_of_ble_eq_true rfl) ?_
  intro p e s m args below meth c ls A H locs hx hb hml hr hlocks hts hown hnm hP hK hD hA hS hl
  have hown : s.vm.findClass RX1 = some m.cls := hown
  have hin : ∀ w ∈ wsX10, w ∈ wsX1_digest := fun _ h9 => List.mem_cons_of_mem _ (List.mem_append_right _ h9)
  have hl : lv_has ls 8 [(0, .ref h)] := hl
  obtain ⟨hIa, hIb, hIc, hId, hIe, hIf, hIg, hIh, hIi, hIj⟩ := id hI
  refine lv_aload_n hx hb dX1_digest_0 rfl (lv_at hl 0 rfl) ?_
  refine lv_iconst (v := nI 0) hx hb dX1_digest_1 (by decide +kernel) ?_
  refine va_put (D := D) (ci := 1) (v := .int (nI 0)) (ty := .int) (C := RX1) (T := TX1) (N := 17) hx hb hts hin tyX1 tyX1_ok nmX1 hown hK hP hD hS 0 rfl rfl 0 (by decide) (hts (.fieldLink RX1 38 "AfternoonMeterModel" "thrown" "I") (List.mem_of_getElem? (i := 1) rfl)) (fun _ h9 => h9) rfl (by decide +kernel) rfl rfl (Nat.le_of_ble_eq_true rfl) dX1_digest_2 (fun H locs hP hD hS => ?_)
  have hP : va_P D vwCl [(h, .inr (1, [.int (nI 0), .int (nI (mSc u)), .ref (a 0), .int (nI (mNc u)), .ref (a 1), .ref (a 2), .ref (a 3), .int (nI (mBc u)), .ref (a 4), .ref (a 5), .int (nI (mRoom u)), .int (nI (mRate u)), .int (nI (mSip u)), .int (mAft u), .int (nI (mNow u)), .int (nI (mTea u)), .int (mSpl u)])), (a 0, .inl (cI, 4, .inl (mHt u))), (a 1, .inl (cI, 8, .inl (mFr u))), (a 2, .inl (cI, 8, .inl (mTo u))), (a 3, .inl (cI, 360, .inl (mCov u))), (a 4, .inl (cI, 6, .inl (mPe u))), (a 5, .inl (cI, 6, .inl (mBe u)))] H := hP
  have hD : va_D A [(h, .inr (1, [.int (nI 0), .int (nI (mSc u)), .ref (a 0), .int (nI (mNc u)), .ref (a 1), .ref (a 2), .ref (a 3), .int (nI (mBc u)), .ref (a 4), .ref (a 5), .int (nI (mRoom u)), .int (nI (mRate u)), .int (nI (mSip u)), .int (mAft u), .int (nI (mNow u)), .int (nI (mTea u)), .int (mSpl u)])), (a 0, .inl (cI, 4, .inl (mHt u))), (a 1, .inl (cI, 8, .inl (mFr u))), (a 2, .inl (cI, 8, .inl (mTo u))), (a 3, .inl (cI, 360, .inl (mCov u))), (a 4, .inl (cI, 6, .inl (mPe u))), (a 5, .inl (cI, 6, .inl (mBe u)))] := hD
  refine lv_bipush (v := nI 13) hx hb dX1_digest_5 (by decide +kernel) ?_
  refine va_newa (atype := .int) (ty := .int) (n := nI 13) (N' := 13) (a0 := (13, .inl (fun _ => 0))) hx hb (hts (.arrayClass .int) (List.mem_of_getElem? (i := 2) rfl)) rfl hK hP hD hS hA (fun _ => rfl) (nI_pos (by decide)) (nI_clamp (by decide)) (by decide) (Nat.le_of_ble_eq_true rfl) (Nat.le_of_ble_eq_true rfl) dX1_digest_7 (fun q7 cX H hK hP hD hS => ?_)
  have hcX := K_uni hK
  subst hcX
  have hK : va_K D vwCl [(cI, .int)] s := hK.sub [0] rfl
  have hP : va_P D vwCl [(h, .inr (1, [.int (nI 0), .int (nI (mSc u)), .ref (a 0), .int (nI (mNc u)), .ref (a 1), .ref (a 2), .ref (a 3), .int (nI (mBc u)), .ref (a 4), .ref (a 5), .int (nI (mRoom u)), .int (nI (mRate u)), .int (nI (mSip u)), .int (mAft u), .int (nI (mNow u)), .int (nI (mTea u)), .int (mSpl u)])), (a 0, .inl (cI, 4, .inl (mHt u))), (a 1, .inl (cI, 8, .inl (mFr u))), (a 2, .inl (cI, 8, .inl (mTo u))), (a 3, .inl (cI, 360, .inl (mCov u))), (a 4, .inl (cI, 6, .inl (mPe u))), (a 5, .inl (cI, 6, .inl (mBe u))), (q7, .inl (cI, 13, .inl (fun _ => 0)))] H := hP
  have hD : va_D A [(h, .inr (1, [.int (nI 0), .int (nI (mSc u)), .ref (a 0), .int (nI (mNc u)), .ref (a 1), .ref (a 2), .ref (a 3), .int (nI (mBc u)), .ref (a 4), .ref (a 5), .int (nI (mRoom u)), .int (nI (mRate u)), .int (nI (mSip u)), .int (mAft u), .int (nI (mNow u)), .int (nI (mTea u)), .int (mSpl u)])), (a 0, .inl (cI, 4, .inl (mHt u))), (a 1, .inl (cI, 8, .inl (mFr u))), (a 2, .inl (cI, 8, .inl (mTo u))), (a 3, .inl (cI, 360, .inl (mCov u))), (a 4, .inl (cI, 6, .inl (mPe u))), (a 5, .inl (cI, 6, .inl (mBe u))), (q7, .inl (cI, 13, .inl (fun _ => 0)))] := hD
  refine lv_dup hx hb dX1_digest_9 rfl ?_
  refine lv_iconst (v := nI 0) hx hb dX1_digest_10 (by decide +kernel) ?_
  refine lv_aload_n hx hb dX1_digest_11 rfl (lv_at hl 0 rfl) ?_
  refine va_get (D := D) (ci := 1) (v := .int (mAft u)) (C := RX1) (T := TX1) (N := 17) hx hb hts hin hown hK hP 0 rfl rfl 13 (by decide) (hts (.fieldLink RX1 113 "AfternoonMeterModel" "afternoon" "I") (List.mem_of_getElem? (i := 3) rfl)) (fun _ h9 => h9) rfl dX1_digest_12 ?_
  refine q_iast hx hb hK hP hD hS 7 0 rfl rfl (by omega) (by decide) dX1_digest_15 (fun H locs hP hD hS => ?_)
  have hP : va_P D vwCl [(h, .inr (1, [.int (nI 0), .int (nI (mSc u)), .ref (a 0), .int (nI (mNc u)), .ref (a 1), .ref (a 2), .ref (a 3), .int (nI (mBc u)), .ref (a 4), .ref (a 5), .int (nI (mRoom u)), .int (nI (mRate u)), .int (nI (mSip u)), .int (mAft u), .int (nI (mNow u)), .int (nI (mTea u)), .int (mSpl u)])), (a 0, .inl (cI, 4, .inl (mHt u))), (a 1, .inl (cI, 8, .inl (mFr u))), (a 2, .inl (cI, 8, .inl (mTo u))), (a 3, .inl (cI, 360, .inl (mCov u))), (a 4, .inl (cI, 6, .inl (mPe u))), (a 5, .inl (cI, 6, .inl (mBe u))), (q7, .inl (cI, 13, .inl (upd (fun _ => 0) 0 (mAft u))))] H := hP
  have hD : va_D A [(h, .inr (1, [.int (nI 0), .int (nI (mSc u)), .ref (a 0), .int (nI (mNc u)), .ref (a 1), .ref (a 2), .ref (a 3), .int (nI (mBc u)), .ref (a 4), .ref (a 5), .int (nI (mRoom u)), .int (nI (mRate u)), .int (nI (mSip u)), .int (mAft u), .int (nI (mNow u)), .int (nI (mTea u)), .int (mSpl u)])), (a 0, .inl (cI, 4, .inl (mHt u))), (a 1, .inl (cI, 8, .inl (mFr u))), (a 2, .inl (cI, 8, .inl (mTo u))), (a 3, .inl (cI, 360, .inl (mCov u))), (a 4, .inl (cI, 6, .inl (mPe u))), (a 5, .inl (cI, 6, .inl (mBe u))), (q7, .inl (cI, 13, .inl (upd (fun _ => 0) 0 (mAft u))))] := hD
  generalize hg_15 : upd (fun _ => 0) 0 (mAft u) = f_15 at hP hD
  refine lv_dup hx hb dX1_digest_16 rfl ?_
  refine lv_iconst (v := nI 1) hx hb dX1_digest_17 (by decide +kernel) ?_
  refine lv_aload_n hx hb dX1_digest_18 rfl (lv_at hl 0 rfl) ?_
  refine va_get (D := D) (ci := 1) (v := .int (nI (mNow u))) (C := RX1) (T := TX1) (N := 17) hx hb hts hin hown hK hP 0 rfl rfl 14 (by decide) (hts (.fieldLink RX1 64 "AfternoonMeterModel" "minute" "I") (List.mem_of_getElem? (i := 4) rfl)) (fun _ h9 => h9) rfl dX1_digest_19 ?_
  refine q_iast hx hb hK hP hD hS 7 0 rfl rfl (by omega) (by decide) dX1_digest_22 (fun H locs hP hD hS => ?_)
  have hP : va_P D vwCl [(h, .inr (1, [.int (nI 0), .int (nI (mSc u)), .ref (a 0), .int (nI (mNc u)), .ref (a 1), .ref (a 2), .ref (a 3), .int (nI (mBc u)), .ref (a 4), .ref (a 5), .int (nI (mRoom u)), .int (nI (mRate u)), .int (nI (mSip u)), .int (mAft u), .int (nI (mNow u)), .int (nI (mTea u)), .int (mSpl u)])), (a 0, .inl (cI, 4, .inl (mHt u))), (a 1, .inl (cI, 8, .inl (mFr u))), (a 2, .inl (cI, 8, .inl (mTo u))), (a 3, .inl (cI, 360, .inl (mCov u))), (a 4, .inl (cI, 6, .inl (mPe u))), (a 5, .inl (cI, 6, .inl (mBe u))), (q7, .inl (cI, 13, .inl (upd f_15 1 (nI (mNow u)))))] H := hP
  have hD : va_D A [(h, .inr (1, [.int (nI 0), .int (nI (mSc u)), .ref (a 0), .int (nI (mNc u)), .ref (a 1), .ref (a 2), .ref (a 3), .int (nI (mBc u)), .ref (a 4), .ref (a 5), .int (nI (mRoom u)), .int (nI (mRate u)), .int (nI (mSip u)), .int (mAft u), .int (nI (mNow u)), .int (nI (mTea u)), .int (mSpl u)])), (a 0, .inl (cI, 4, .inl (mHt u))), (a 1, .inl (cI, 8, .inl (mFr u))), (a 2, .inl (cI, 8, .inl (mTo u))), (a 3, .inl (cI, 360, .inl (mCov u))), (a 4, .inl (cI, 6, .inl (mPe u))), (a 5, .inl (cI, 6, .inl (mBe u))), (q7, .inl (cI, 13, .inl (upd f_15 1 (nI (mNow u)))))] := hD
  generalize hg_22 : upd f_15 1 (nI (mNow u)) = f_22 at hP hD
  refine lv_dup hx hb dX1_digest_23 rfl ?_
  refine lv_iconst (v := nI 2) hx hb dX1_digest_24 (by decide +kernel) ?_
  refine lv_aload_n hx hb dX1_digest_25 rfl (lv_at hl 0 rfl) ?_
  refine lv_aload_n hx hb dX1_digest_26 rfl (lv_at hl 0 rfl) ?_
  refine va_get (D := D) (ci := 1) (v := .int (nI (mNow u))) (C := RX1) (T := TX1) (N := 17) hx hb hts hin hown hK hP 0 rfl rfl 14 (by decide) (hts (.fieldLink RX1 64 "AfternoonMeterModel" "minute" "I") (List.mem_of_getElem? (i := 4) rfl)) (fun _ h9 => h9) rfl dX1_digest_27 ?_
  refine vp_callSi (W.runV (As := [.int (nI (mNow u))]) (rest := [.int (nI 2), .ref q7, .ref q7]) ⟨hx, hb, hml, hown, hts⟩ (c_X1_awake l D cI h a u (nI 0) (mNow u) hI (by omega)) (cwV 1 hts gX1_digest_X1_awake rfl rfl rfl (by decide +kernel) ⟨Nat.le_of_ble_eq_true rfl, Nat.le_of_ble_eq_true rfl⟩) (pu_pre hK (hP.sub (ws' := [(h, .inr (1, [.int (nI 0), .int (nI (mSc u)), .ref (a 0), .int (nI (mNc u)), .ref (a 1), .ref (a 2), .ref (a 3), .int (nI (mBc u)), .ref (a 4), .ref (a 5), .int (nI (mRoom u)), .int (nI (mRate u)), .int (nI (mSip u)), .int (mAft u), .int (nI (mNow u)), .int (nI (mTea u)), .int (mSpl u)])), (a 0, .inl (cI, 4, .inl (mHt u))), (a 1, .inl (cI, 8, .inl (mFr u))), (a 2, .inl (cI, 8, .inl (mTo u))), (a 3, .inl (cI, 360, .inl (mCov u))), (a 4, .inl (cI, 6, .inl (mPe u))), (a 5, .inl (cI, 6, .inl (mBe u)))]) [0, 1, 2, 3, 4, 5, 6] rfl) rfl rfl) rfl rfl hl.1 rfl (lv_room (Nat.le_of_ble_eq_true rfl)) dX1_digest_30 ⟨Nat.le_of_ble_eq_true rfl, Nat.le_of_ble_eq_true rfl⟩) (fun r hr => ?_)
  subst hr
  refine q_iast hx hb hK hP hD hS 7 0 rfl rfl (by omega) (by decide) dX1_digest_33 (fun H locs hP hD hS => ?_)
  have hP : va_P D vwCl [(h, .inr (1, [.int (nI 0), .int (nI (mSc u)), .ref (a 0), .int (nI (mNc u)), .ref (a 1), .ref (a 2), .ref (a 3), .int (nI (mBc u)), .ref (a 4), .ref (a 5), .int (nI (mRoom u)), .int (nI (mRate u)), .int (nI (mSip u)), .int (mAft u), .int (nI (mNow u)), .int (nI (mTea u)), .int (mSpl u)])), (a 0, .inl (cI, 4, .inl (mHt u))), (a 1, .inl (cI, 8, .inl (mFr u))), (a 2, .inl (cI, 8, .inl (mTo u))), (a 3, .inl (cI, 360, .inl (mCov u))), (a 4, .inl (cI, 6, .inl (mPe u))), (a 5, .inl (cI, 6, .inl (mBe u))), (q7, .inl (cI, 13, .inl (upd f_22 2 (fz (awF u) (mNow u) (nI 0)))))] H := hP
  have hD : va_D A [(h, .inr (1, [.int (nI 0), .int (nI (mSc u)), .ref (a 0), .int (nI (mNc u)), .ref (a 1), .ref (a 2), .ref (a 3), .int (nI (mBc u)), .ref (a 4), .ref (a 5), .int (nI (mRoom u)), .int (nI (mRate u)), .int (nI (mSip u)), .int (mAft u), .int (nI (mNow u)), .int (nI (mTea u)), .int (mSpl u)])), (a 0, .inl (cI, 4, .inl (mHt u))), (a 1, .inl (cI, 8, .inl (mFr u))), (a 2, .inl (cI, 8, .inl (mTo u))), (a 3, .inl (cI, 360, .inl (mCov u))), (a 4, .inl (cI, 6, .inl (mPe u))), (a 5, .inl (cI, 6, .inl (mBe u))), (q7, .inl (cI, 13, .inl (upd f_22 2 (fz (awF u) (mNow u) (nI 0)))))] := hD
  generalize hg_33 : upd f_22 2 (fz (awF u) (mNow u) (nI 0)) = f_33 at hP hD
  refine lv_dup hx hb dX1_digest_34 rfl ?_
  refine lv_iconst (v := nI 3) hx hb dX1_digest_35 (by decide +kernel) ?_
  refine lv_aload_n hx hb dX1_digest_36 rfl (lv_at hl 0 rfl) ?_
  refine vp_callSi (W.runV (As := []) (rest := [.int (nI 3), .ref q7, .ref q7]) ⟨hx, hb, hml, hown, hts⟩ (c_X1_longest l D cI h a u (nI 0) hI) (cwV 0 hts gX1_digest_X1_longest rfl rfl rfl (by decide +kernel) ⟨Nat.le_of_ble_eq_true rfl, Nat.le_of_ble_eq_true rfl⟩) (pu_pre hK (hP.sub (ws' := [(h, .inr (1, [.int (nI 0), .int (nI (mSc u)), .ref (a 0), .int (nI (mNc u)), .ref (a 1), .ref (a 2), .ref (a 3), .int (nI (mBc u)), .ref (a 4), .ref (a 5), .int (nI (mRoom u)), .int (nI (mRate u)), .int (nI (mSip u)), .int (mAft u), .int (nI (mNow u)), .int (nI (mTea u)), .int (mSpl u)])), (a 0, .inl (cI, 4, .inl (mHt u))), (a 1, .inl (cI, 8, .inl (mFr u))), (a 2, .inl (cI, 8, .inl (mTo u))), (a 3, .inl (cI, 360, .inl (mCov u))), (a 4, .inl (cI, 6, .inl (mPe u))), (a 5, .inl (cI, 6, .inl (mBe u)))]) [0, 1, 2, 3, 4, 5, 6] rfl) rfl rfl) rfl rfl hl.1 rfl (lv_room (Nat.le_of_ble_eq_true rfl)) dX1_digest_37 ⟨Nat.le_of_ble_eq_true rfl, Nat.le_of_ble_eq_true rfl⟩) (fun r hr => ?_)
  subst hr
  refine q_iast hx hb hK hP hD hS 7 0 rfl rfl (by omega) (by decide) dX1_digest_40 (fun H locs hP hD hS => ?_)
  have hP : va_P D vwCl [(h, .inr (1, [.int (nI 0), .int (nI (mSc u)), .ref (a 0), .int (nI (mNc u)), .ref (a 1), .ref (a 2), .ref (a 3), .int (nI (mBc u)), .ref (a 4), .ref (a 5), .int (nI (mRoom u)), .int (nI (mRate u)), .int (nI (mSip u)), .int (mAft u), .int (nI (mNow u)), .int (nI (mTea u)), .int (mSpl u)])), (a 0, .inl (cI, 4, .inl (mHt u))), (a 1, .inl (cI, 8, .inl (mFr u))), (a 2, .inl (cI, 8, .inl (mTo u))), (a 3, .inl (cI, 360, .inl (mCov u))), (a 4, .inl (cI, 6, .inl (mPe u))), (a 5, .inl (cI, 6, .inl (mBe u))), (q7, .inl (cI, 13, .inl (upd f_33 3 (fLong u))))] H := hP
  have hD : va_D A [(h, .inr (1, [.int (nI 0), .int (nI (mSc u)), .ref (a 0), .int (nI (mNc u)), .ref (a 1), .ref (a 2), .ref (a 3), .int (nI (mBc u)), .ref (a 4), .ref (a 5), .int (nI (mRoom u)), .int (nI (mRate u)), .int (nI (mSip u)), .int (mAft u), .int (nI (mNow u)), .int (nI (mTea u)), .int (mSpl u)])), (a 0, .inl (cI, 4, .inl (mHt u))), (a 1, .inl (cI, 8, .inl (mFr u))), (a 2, .inl (cI, 8, .inl (mTo u))), (a 3, .inl (cI, 360, .inl (mCov u))), (a 4, .inl (cI, 6, .inl (mPe u))), (a 5, .inl (cI, 6, .inl (mBe u))), (q7, .inl (cI, 13, .inl (upd f_33 3 (fLong u))))] := hD
  generalize hg_40 : upd f_33 3 (fLong u) = f_40 at hP hD
  refine lv_dup hx hb dX1_digest_41 rfl ?_
  refine lv_iconst (v := nI 4) hx hb dX1_digest_42 (by decide +kernel) ?_
  refine lv_aload_n hx hb dX1_digest_43 rfl (lv_at hl 0 rfl) ?_
  refine va_get (D := D) (ci := 1) (v := .int (nI (mSc u))) (C := RX1) (T := TX1) (N := 17) hx hb hts hin hown hK hP 0 rfl rfl 1 (by decide) (hts (.fieldLink RX1 41 "AfternoonMeterModel" "sticks" "I") (List.mem_of_getElem? (i := 5) rfl)) (fun _ h9 => h9) rfl dX1_digest_44 ?_
  refine q_iast hx hb hK hP hD hS 7 0 rfl rfl (by omega) (by decide) dX1_digest_47 (fun H locs hP hD hS => ?_)
  have hP : va_P D vwCl [(h, .inr (1, [.int (nI 0), .int (nI (mSc u)), .ref (a 0), .int (nI (mNc u)), .ref (a 1), .ref (a 2), .ref (a 3), .int (nI (mBc u)), .ref (a 4), .ref (a 5), .int (nI (mRoom u)), .int (nI (mRate u)), .int (nI (mSip u)), .int (mAft u), .int (nI (mNow u)), .int (nI (mTea u)), .int (mSpl u)])), (a 0, .inl (cI, 4, .inl (mHt u))), (a 1, .inl (cI, 8, .inl (mFr u))), (a 2, .inl (cI, 8, .inl (mTo u))), (a 3, .inl (cI, 360, .inl (mCov u))), (a 4, .inl (cI, 6, .inl (mPe u))), (a 5, .inl (cI, 6, .inl (mBe u))), (q7, .inl (cI, 13, .inl (upd f_40 4 (nI (mSc u)))))] H := hP
  have hD : va_D A [(h, .inr (1, [.int (nI 0), .int (nI (mSc u)), .ref (a 0), .int (nI (mNc u)), .ref (a 1), .ref (a 2), .ref (a 3), .int (nI (mBc u)), .ref (a 4), .ref (a 5), .int (nI (mRoom u)), .int (nI (mRate u)), .int (nI (mSip u)), .int (mAft u), .int (nI (mNow u)), .int (nI (mTea u)), .int (mSpl u)])), (a 0, .inl (cI, 4, .inl (mHt u))), (a 1, .inl (cI, 8, .inl (mFr u))), (a 2, .inl (cI, 8, .inl (mTo u))), (a 3, .inl (cI, 360, .inl (mCov u))), (a 4, .inl (cI, 6, .inl (mPe u))), (a 5, .inl (cI, 6, .inl (mBe u))), (q7, .inl (cI, 13, .inl (upd f_40 4 (nI (mSc u)))))] := hD
  generalize hg_47 : upd f_40 4 (nI (mSc u)) = f_47 at hP hD
  refine lv_dup hx hb dX1_digest_48 rfl ?_
  refine lv_iconst (v := nI 5) hx hb dX1_digest_49 (by decide +kernel) ?_
  refine lv_aload_n hx hb dX1_digest_50 rfl (lv_at hl 0 rfl) ?_
  refine va_get (D := D) (ci := 1) (v := .int (nI (mNc u))) (C := RX1) (T := TX1) (N := 17) hx hb hts hin hown hK hP 0 rfl rfl 3 (by decide) (hts (.fieldLink RX1 48 "AfternoonMeterModel" "naps" "I") (List.mem_of_getElem? (i := 6) rfl)) (fun _ h9 => h9) rfl dX1_digest_51 ?_
  refine q_iast hx hb hK hP hD hS 7 0 rfl rfl (by omega) (by decide) dX1_digest_54 (fun H locs hP hD hS => ?_)
  have hP : va_P D vwCl [(h, .inr (1, [.int (nI 0), .int (nI (mSc u)), .ref (a 0), .int (nI (mNc u)), .ref (a 1), .ref (a 2), .ref (a 3), .int (nI (mBc u)), .ref (a 4), .ref (a 5), .int (nI (mRoom u)), .int (nI (mRate u)), .int (nI (mSip u)), .int (mAft u), .int (nI (mNow u)), .int (nI (mTea u)), .int (mSpl u)])), (a 0, .inl (cI, 4, .inl (mHt u))), (a 1, .inl (cI, 8, .inl (mFr u))), (a 2, .inl (cI, 8, .inl (mTo u))), (a 3, .inl (cI, 360, .inl (mCov u))), (a 4, .inl (cI, 6, .inl (mPe u))), (a 5, .inl (cI, 6, .inl (mBe u))), (q7, .inl (cI, 13, .inl (upd f_47 5 (nI (mNc u)))))] H := hP
  have hD : va_D A [(h, .inr (1, [.int (nI 0), .int (nI (mSc u)), .ref (a 0), .int (nI (mNc u)), .ref (a 1), .ref (a 2), .ref (a 3), .int (nI (mBc u)), .ref (a 4), .ref (a 5), .int (nI (mRoom u)), .int (nI (mRate u)), .int (nI (mSip u)), .int (mAft u), .int (nI (mNow u)), .int (nI (mTea u)), .int (mSpl u)])), (a 0, .inl (cI, 4, .inl (mHt u))), (a 1, .inl (cI, 8, .inl (mFr u))), (a 2, .inl (cI, 8, .inl (mTo u))), (a 3, .inl (cI, 360, .inl (mCov u))), (a 4, .inl (cI, 6, .inl (mPe u))), (a 5, .inl (cI, 6, .inl (mBe u))), (q7, .inl (cI, 13, .inl (upd f_47 5 (nI (mNc u)))))] := hD
  generalize hg_54 : upd f_47 5 (nI (mNc u)) = f_54 at hP hD
  refine lv_dup hx hb dX1_digest_55 rfl ?_
  refine lv_bipush (v := nI 6) hx hb dX1_digest_56 (by decide +kernel) ?_
  refine lv_aload_n hx hb dX1_digest_58 rfl (lv_at hl 0 rfl) ?_
  refine va_get (D := D) (ci := 1) (v := .int (nI (mBc u))) (C := RX1) (T := TX1) (N := 17) hx hb hts hin hown hK hP 0 rfl rfl 7 (by decide) (hts (.fieldLink RX1 51 "AfternoonMeterModel" "bees" "I") (List.mem_of_getElem? (i := 7) rfl)) (fun _ h9 => h9) rfl dX1_digest_59 ?_
  refine q_iast hx hb hK hP hD hS 7 0 rfl rfl (by omega) (by decide) dX1_digest_62 (fun H locs hP hD hS => ?_)
  have hP : va_P D vwCl [(h, .inr (1, [.int (nI 0), .int (nI (mSc u)), .ref (a 0), .int (nI (mNc u)), .ref (a 1), .ref (a 2), .ref (a 3), .int (nI (mBc u)), .ref (a 4), .ref (a 5), .int (nI (mRoom u)), .int (nI (mRate u)), .int (nI (mSip u)), .int (mAft u), .int (nI (mNow u)), .int (nI (mTea u)), .int (mSpl u)])), (a 0, .inl (cI, 4, .inl (mHt u))), (a 1, .inl (cI, 8, .inl (mFr u))), (a 2, .inl (cI, 8, .inl (mTo u))), (a 3, .inl (cI, 360, .inl (mCov u))), (a 4, .inl (cI, 6, .inl (mPe u))), (a 5, .inl (cI, 6, .inl (mBe u))), (q7, .inl (cI, 13, .inl (upd f_54 6 (nI (mBc u)))))] H := hP
  have hD : va_D A [(h, .inr (1, [.int (nI 0), .int (nI (mSc u)), .ref (a 0), .int (nI (mNc u)), .ref (a 1), .ref (a 2), .ref (a 3), .int (nI (mBc u)), .ref (a 4), .ref (a 5), .int (nI (mRoom u)), .int (nI (mRate u)), .int (nI (mSip u)), .int (mAft u), .int (nI (mNow u)), .int (nI (mTea u)), .int (mSpl u)])), (a 0, .inl (cI, 4, .inl (mHt u))), (a 1, .inl (cI, 8, .inl (mFr u))), (a 2, .inl (cI, 8, .inl (mTo u))), (a 3, .inl (cI, 360, .inl (mCov u))), (a 4, .inl (cI, 6, .inl (mPe u))), (a 5, .inl (cI, 6, .inl (mBe u))), (q7, .inl (cI, 13, .inl (upd f_54 6 (nI (mBc u)))))] := hD
  generalize hg_62 : upd f_54 6 (nI (mBc u)) = f_62 at hP hD
  refine lv_dup hx hb dX1_digest_63 rfl ?_
  refine lv_bipush (v := nI 7) hx hb dX1_digest_64 (by decide +kernel) ?_
  refine lv_aload_n hx hb dX1_digest_66 rfl (lv_at hl 0 rfl) ?_
  refine va_get (D := D) (ci := 1) (v := .int (nI (mTea u))) (C := RX1) (T := TX1) (N := 17) hx hb hts hin hown hK hP 0 rfl rfl 15 (by decide) (hts (.fieldLink RX1 87 "AfternoonMeterModel" "tea" "I") (List.mem_of_getElem? (i := 8) rfl)) (fun _ h9 => h9) rfl dX1_digest_67 ?_
  refine q_iast hx hb hK hP hD hS 7 0 rfl rfl (by omega) (by decide) dX1_digest_70 (fun H locs hP hD hS => ?_)
  have hP : va_P D vwCl [(h, .inr (1, [.int (nI 0), .int (nI (mSc u)), .ref (a 0), .int (nI (mNc u)), .ref (a 1), .ref (a 2), .ref (a 3), .int (nI (mBc u)), .ref (a 4), .ref (a 5), .int (nI (mRoom u)), .int (nI (mRate u)), .int (nI (mSip u)), .int (mAft u), .int (nI (mNow u)), .int (nI (mTea u)), .int (mSpl u)])), (a 0, .inl (cI, 4, .inl (mHt u))), (a 1, .inl (cI, 8, .inl (mFr u))), (a 2, .inl (cI, 8, .inl (mTo u))), (a 3, .inl (cI, 360, .inl (mCov u))), (a 4, .inl (cI, 6, .inl (mPe u))), (a 5, .inl (cI, 6, .inl (mBe u))), (q7, .inl (cI, 13, .inl (upd f_62 7 (nI (mTea u)))))] H := hP
  have hD : va_D A [(h, .inr (1, [.int (nI 0), .int (nI (mSc u)), .ref (a 0), .int (nI (mNc u)), .ref (a 1), .ref (a 2), .ref (a 3), .int (nI (mBc u)), .ref (a 4), .ref (a 5), .int (nI (mRoom u)), .int (nI (mRate u)), .int (nI (mSip u)), .int (mAft u), .int (nI (mNow u)), .int (nI (mTea u)), .int (mSpl u)])), (a 0, .inl (cI, 4, .inl (mHt u))), (a 1, .inl (cI, 8, .inl (mFr u))), (a 2, .inl (cI, 8, .inl (mTo u))), (a 3, .inl (cI, 360, .inl (mCov u))), (a 4, .inl (cI, 6, .inl (mPe u))), (a 5, .inl (cI, 6, .inl (mBe u))), (q7, .inl (cI, 13, .inl (upd f_62 7 (nI (mTea u)))))] := hD
  generalize hg_70 : upd f_62 7 (nI (mTea u)) = f_70 at hP hD
  refine lv_dup hx hb dX1_digest_71 rfl ?_
  refine lv_bipush (v := nI 8) hx hb dX1_digest_72 (by decide +kernel) ?_
  refine lv_aload_n hx hb dX1_digest_74 rfl (lv_at hl 0 rfl) ?_
  refine va_get (D := D) (ci := 1) (v := .int (mSpl u)) (C := RX1) (T := TX1) (N := 17) hx hb hts hin hown hK hP 0 rfl rfl 16 (by decide) (hts (.fieldLink RX1 94 "AfternoonMeterModel" "spilt" "I") (List.mem_of_getElem? (i := 9) rfl)) (fun _ h9 => h9) rfl dX1_digest_75 ?_
  refine q_iast hx hb hK hP hD hS 7 0 rfl rfl (by omega) (by decide) dX1_digest_78 (fun H locs hP hD hS => ?_)
  have hP : va_P D vwCl [(h, .inr (1, [.int (nI 0), .int (nI (mSc u)), .ref (a 0), .int (nI (mNc u)), .ref (a 1), .ref (a 2), .ref (a 3), .int (nI (mBc u)), .ref (a 4), .ref (a 5), .int (nI (mRoom u)), .int (nI (mRate u)), .int (nI (mSip u)), .int (mAft u), .int (nI (mNow u)), .int (nI (mTea u)), .int (mSpl u)])), (a 0, .inl (cI, 4, .inl (mHt u))), (a 1, .inl (cI, 8, .inl (mFr u))), (a 2, .inl (cI, 8, .inl (mTo u))), (a 3, .inl (cI, 360, .inl (mCov u))), (a 4, .inl (cI, 6, .inl (mPe u))), (a 5, .inl (cI, 6, .inl (mBe u))), (q7, .inl (cI, 13, .inl (upd f_70 8 (mSpl u))))] H := hP
  have hD : va_D A [(h, .inr (1, [.int (nI 0), .int (nI (mSc u)), .ref (a 0), .int (nI (mNc u)), .ref (a 1), .ref (a 2), .ref (a 3), .int (nI (mBc u)), .ref (a 4), .ref (a 5), .int (nI (mRoom u)), .int (nI (mRate u)), .int (nI (mSip u)), .int (mAft u), .int (nI (mNow u)), .int (nI (mTea u)), .int (mSpl u)])), (a 0, .inl (cI, 4, .inl (mHt u))), (a 1, .inl (cI, 8, .inl (mFr u))), (a 2, .inl (cI, 8, .inl (mTo u))), (a 3, .inl (cI, 360, .inl (mCov u))), (a 4, .inl (cI, 6, .inl (mPe u))), (a 5, .inl (cI, 6, .inl (mBe u))), (q7, .inl (cI, 13, .inl (upd f_70 8 (mSpl u))))] := hD
  generalize hg_78 : upd f_70 8 (mSpl u) = f_78 at hP hD
  refine lv_dup hx hb dX1_digest_79 rfl ?_
  refine lv_bipush (v := nI 9) hx hb dX1_digest_80 (by decide +kernel) ?_
  refine lv_aload_n hx hb dX1_digest_82 rfl (lv_at hl 0 rfl) ?_
  refine vp_callSi (W.runV (As := []) (rest := [.int (nI 9), .ref q7, .ref q7]) ⟨hx, hb, hml, hown, hts⟩ (c_X1_atEnd l D cI h a u (nI 0) hI) (cwV 0 hts gX1_digest_X1_atEnd rfl rfl rfl (by decide +kernel) ⟨Nat.le_of_ble_eq_true rfl, Nat.le_of_ble_eq_true rfl⟩) (pu_pre hK (hP.sub (ws' := [(h, .inr (1, [.int (nI 0), .int (nI (mSc u)), .ref (a 0), .int (nI (mNc u)), .ref (a 1), .ref (a 2), .ref (a 3), .int (nI (mBc u)), .ref (a 4), .ref (a 5), .int (nI (mRoom u)), .int (nI (mRate u)), .int (nI (mSip u)), .int (mAft u), .int (nI (mNow u)), .int (nI (mTea u)), .int (mSpl u)])), (a 0, .inl (cI, 4, .inl (mHt u))), (a 1, .inl (cI, 8, .inl (mFr u))), (a 2, .inl (cI, 8, .inl (mTo u))), (a 3, .inl (cI, 360, .inl (mCov u))), (a 4, .inl (cI, 6, .inl (mPe u))), (a 5, .inl (cI, 6, .inl (mBe u)))]) [0, 1, 2, 3, 4, 5, 6] rfl) rfl rfl) rfl rfl hl.1 rfl (lv_room (Nat.le_of_ble_eq_true rfl)) dX1_digest_83 ⟨Nat.le_of_ble_eq_true rfl, Nat.le_of_ble_eq_true rfl⟩) (fun r hr => ?_)
  subst hr
  refine q_iast hx hb hK hP hD hS 7 0 rfl rfl (by omega) (by decide) dX1_digest_86 (fun H locs hP hD hS => ?_)
  have hP : va_P D vwCl [(h, .inr (1, [.int (nI 0), .int (nI (mSc u)), .ref (a 0), .int (nI (mNc u)), .ref (a 1), .ref (a 2), .ref (a 3), .int (nI (mBc u)), .ref (a 4), .ref (a 5), .int (nI (mRoom u)), .int (nI (mRate u)), .int (nI (mSip u)), .int (mAft u), .int (nI (mNow u)), .int (nI (mTea u)), .int (mSpl u)])), (a 0, .inl (cI, 4, .inl (mHt u))), (a 1, .inl (cI, 8, .inl (mFr u))), (a 2, .inl (cI, 8, .inl (mTo u))), (a 3, .inl (cI, 360, .inl (mCov u))), (a 4, .inl (cI, 6, .inl (mPe u))), (a 5, .inl (cI, 6, .inl (mBe u))), (q7, .inl (cI, 13, .inl (upd f_78 9 (fEnd u))))] H := hP
  have hD : va_D A [(h, .inr (1, [.int (nI 0), .int (nI (mSc u)), .ref (a 0), .int (nI (mNc u)), .ref (a 1), .ref (a 2), .ref (a 3), .int (nI (mBc u)), .ref (a 4), .ref (a 5), .int (nI (mRoom u)), .int (nI (mRate u)), .int (nI (mSip u)), .int (mAft u), .int (nI (mNow u)), .int (nI (mTea u)), .int (mSpl u)])), (a 0, .inl (cI, 4, .inl (mHt u))), (a 1, .inl (cI, 8, .inl (mFr u))), (a 2, .inl (cI, 8, .inl (mTo u))), (a 3, .inl (cI, 360, .inl (mCov u))), (a 4, .inl (cI, 6, .inl (mPe u))), (a 5, .inl (cI, 6, .inl (mBe u))), (q7, .inl (cI, 13, .inl (upd f_78 9 (fEnd u))))] := hD
  generalize hg_86 : upd f_78 9 (fEnd u) = f_86 at hP hD
  refine lv_dup hx hb dX1_digest_87 rfl ?_
  refine lv_bipush (v := nI 10) hx hb dX1_digest_88 (by decide +kernel) ?_
  refine lv_aload_n hx hb dX1_digest_90 rfl (lv_at hl 0 rfl) ?_
  refine vp_callSi (W.runV (As := []) (rest := [.int (nI 10), .ref q7, .ref q7]) ⟨hx, hb, hml, hown, hts⟩ (c_X1_safest l D cI h a u (nI 0) hI) (cwV 0 hts gX1_digest_X1_safest rfl rfl rfl (by decide +kernel) ⟨Nat.le_of_ble_eq_true rfl, Nat.le_of_ble_eq_true rfl⟩) (pu_pre hK (hP.sub (ws' := [(h, .inr (1, [.int (nI 0), .int (nI (mSc u)), .ref (a 0), .int (nI (mNc u)), .ref (a 1), .ref (a 2), .ref (a 3), .int (nI (mBc u)), .ref (a 4), .ref (a 5), .int (nI (mRoom u)), .int (nI (mRate u)), .int (nI (mSip u)), .int (mAft u), .int (nI (mNow u)), .int (nI (mTea u)), .int (mSpl u)])), (a 0, .inl (cI, 4, .inl (mHt u))), (a 1, .inl (cI, 8, .inl (mFr u))), (a 2, .inl (cI, 8, .inl (mTo u))), (a 3, .inl (cI, 360, .inl (mCov u))), (a 4, .inl (cI, 6, .inl (mPe u))), (a 5, .inl (cI, 6, .inl (mBe u)))]) [0, 1, 2, 3, 4, 5, 6] rfl) rfl rfl) rfl rfl hl.1 rfl (lv_room (Nat.le_of_ble_eq_true rfl)) dX1_digest_91 ⟨Nat.le_of_ble_eq_true rfl, Nat.le_of_ble_eq_true rfl⟩) (fun r hr => ?_)
  subst hr
  refine q_iast hx hb hK hP hD hS 7 0 rfl rfl (by omega) (by decide) dX1_digest_94 (fun H locs hP hD hS => ?_)
  have hP : va_P D vwCl [(h, .inr (1, [.int (nI 0), .int (nI (mSc u)), .ref (a 0), .int (nI (mNc u)), .ref (a 1), .ref (a 2), .ref (a 3), .int (nI (mBc u)), .ref (a 4), .ref (a 5), .int (nI (mRoom u)), .int (nI (mRate u)), .int (nI (mSip u)), .int (mAft u), .int (nI (mNow u)), .int (nI (mTea u)), .int (mSpl u)])), (a 0, .inl (cI, 4, .inl (mHt u))), (a 1, .inl (cI, 8, .inl (mFr u))), (a 2, .inl (cI, 8, .inl (mTo u))), (a 3, .inl (cI, 360, .inl (mCov u))), (a 4, .inl (cI, 6, .inl (mPe u))), (a 5, .inl (cI, 6, .inl (mBe u))), (q7, .inl (cI, 13, .inl (upd f_86 10 (nI (sfF u 9)))))] H := hP
  have hD : va_D A [(h, .inr (1, [.int (nI 0), .int (nI (mSc u)), .ref (a 0), .int (nI (mNc u)), .ref (a 1), .ref (a 2), .ref (a 3), .int (nI (mBc u)), .ref (a 4), .ref (a 5), .int (nI (mRoom u)), .int (nI (mRate u)), .int (nI (mSip u)), .int (mAft u), .int (nI (mNow u)), .int (nI (mTea u)), .int (mSpl u)])), (a 0, .inl (cI, 4, .inl (mHt u))), (a 1, .inl (cI, 8, .inl (mFr u))), (a 2, .inl (cI, 8, .inl (mTo u))), (a 3, .inl (cI, 360, .inl (mCov u))), (a 4, .inl (cI, 6, .inl (mPe u))), (a 5, .inl (cI, 6, .inl (mBe u))), (q7, .inl (cI, 13, .inl (upd f_86 10 (nI (sfF u 9)))))] := hD
  generalize hg_94 : upd f_86 10 (nI (sfF u 9)) = f_94 at hP hD
  refine lv_dup hx hb dX1_digest_95 rfl ?_
  refine lv_bipush (v := nI 11) hx hb dX1_digest_96 (by decide +kernel) ?_
  refine lv_aload_n hx hb dX1_digest_98 rfl (lv_at hl 0 rfl) ?_
  refine vp_callSi (W.runV (As := []) (rest := [.int (nI 11), .ref q7, .ref q7]) ⟨hx, hb, hml, hown, hts⟩ (c_X1_worst l D cI h a u (nI 0) hI) (cwV 0 hts gX1_digest_X1_worst rfl rfl rfl (by decide +kernel) ⟨Nat.le_of_ble_eq_true rfl, Nat.le_of_ble_eq_true rfl⟩) (pu_pre hK (hP.sub (ws' := [(h, .inr (1, [.int (nI 0), .int (nI (mSc u)), .ref (a 0), .int (nI (mNc u)), .ref (a 1), .ref (a 2), .ref (a 3), .int (nI (mBc u)), .ref (a 4), .ref (a 5), .int (nI (mRoom u)), .int (nI (mRate u)), .int (nI (mSip u)), .int (mAft u), .int (nI (mNow u)), .int (nI (mTea u)), .int (mSpl u)])), (a 0, .inl (cI, 4, .inl (mHt u))), (a 1, .inl (cI, 8, .inl (mFr u))), (a 2, .inl (cI, 8, .inl (mTo u))), (a 3, .inl (cI, 360, .inl (mCov u))), (a 4, .inl (cI, 6, .inl (mPe u))), (a 5, .inl (cI, 6, .inl (mBe u)))]) [0, 1, 2, 3, 4, 5, 6] rfl) rfl rfl) rfl rfl hl.1 rfl (lv_room (Nat.le_of_ble_eq_true rfl)) dX1_digest_99 ⟨Nat.le_of_ble_eq_true rfl, Nat.le_of_ble_eq_true rfl⟩) (fun r hr => ?_)
  subst hr
  refine q_iast hx hb hK hP hD hS 7 0 rfl rfl (by omega) (by decide) dX1_digest_102 (fun H locs hP hD hS => ?_)
  have hP : va_P D vwCl [(h, .inr (1, [.int (nI 0), .int (nI (mSc u)), .ref (a 0), .int (nI (mNc u)), .ref (a 1), .ref (a 2), .ref (a 3), .int (nI (mBc u)), .ref (a 4), .ref (a 5), .int (nI (mRoom u)), .int (nI (mRate u)), .int (nI (mSip u)), .int (mAft u), .int (nI (mNow u)), .int (nI (mTea u)), .int (mSpl u)])), (a 0, .inl (cI, 4, .inl (mHt u))), (a 1, .inl (cI, 8, .inl (mFr u))), (a 2, .inl (cI, 8, .inl (mTo u))), (a 3, .inl (cI, 360, .inl (mCov u))), (a 4, .inl (cI, 6, .inl (mPe u))), (a 5, .inl (cI, 6, .inl (mBe u))), (q7, .inl (cI, 13, .inl (upd f_94 11 (fBG u))))] H := hP
  have hD : va_D A [(h, .inr (1, [.int (nI 0), .int (nI (mSc u)), .ref (a 0), .int (nI (mNc u)), .ref (a 1), .ref (a 2), .ref (a 3), .int (nI (mBc u)), .ref (a 4), .ref (a 5), .int (nI (mRoom u)), .int (nI (mRate u)), .int (nI (mSip u)), .int (mAft u), .int (nI (mNow u)), .int (nI (mTea u)), .int (mSpl u)])), (a 0, .inl (cI, 4, .inl (mHt u))), (a 1, .inl (cI, 8, .inl (mFr u))), (a 2, .inl (cI, 8, .inl (mTo u))), (a 3, .inl (cI, 360, .inl (mCov u))), (a 4, .inl (cI, 6, .inl (mPe u))), (a 5, .inl (cI, 6, .inl (mBe u))), (q7, .inl (cI, 13, .inl (upd f_94 11 (fBG u))))] := hD
  generalize hg_102 : upd f_94 11 (fBG u) = f_102 at hP hD
  refine lv_dup hx hb dX1_digest_103 rfl ?_
  refine lv_bipush (v := nI 12) hx hb dX1_digest_104 (by decide +kernel) ?_
  refine lv_aload_n hx hb dX1_digest_106 rfl (lv_at hl 0 rfl) ?_
  refine vp_callSi (W.runV (As := []) (rest := [.int (nI 12), .ref q7, .ref q7]) ⟨hx, hb, hml, hown, hts⟩ (c_X1_best l D cI h a u (nI 0) hI) (cwV 0 hts gX1_digest_X1_best rfl rfl rfl (by decide +kernel) ⟨Nat.le_of_ble_eq_true rfl, Nat.le_of_ble_eq_true rfl⟩) (pu_pre hK (hP.sub (ws' := [(h, .inr (1, [.int (nI 0), .int (nI (mSc u)), .ref (a 0), .int (nI (mNc u)), .ref (a 1), .ref (a 2), .ref (a 3), .int (nI (mBc u)), .ref (a 4), .ref (a 5), .int (nI (mRoom u)), .int (nI (mRate u)), .int (nI (mSip u)), .int (mAft u), .int (nI (mNow u)), .int (nI (mTea u)), .int (mSpl u)])), (a 0, .inl (cI, 4, .inl (mHt u))), (a 1, .inl (cI, 8, .inl (mFr u))), (a 2, .inl (cI, 8, .inl (mTo u))), (a 3, .inl (cI, 360, .inl (mCov u))), (a 4, .inl (cI, 6, .inl (mPe u))), (a 5, .inl (cI, 6, .inl (mBe u)))]) [0, 1, 2, 3, 4, 5, 6] rfl) rfl rfl) rfl rfl hl.1 rfl (lv_room (Nat.le_of_ble_eq_true rfl)) dX1_digest_107 ⟨Nat.le_of_ble_eq_true rfl, Nat.le_of_ble_eq_true rfl⟩) (fun r hr => ?_)
  subst hr
  refine q_iast hx hb hK hP hD hS 7 0 rfl rfl (by omega) (by decide) dX1_digest_110 (fun H locs hP hD hS => ?_)
  have hP : va_P D vwCl [(h, .inr (1, [.int (nI 0), .int (nI (mSc u)), .ref (a 0), .int (nI (mNc u)), .ref (a 1), .ref (a 2), .ref (a 3), .int (nI (mBc u)), .ref (a 4), .ref (a 5), .int (nI (mRoom u)), .int (nI (mRate u)), .int (nI (mSip u)), .int (mAft u), .int (nI (mNow u)), .int (nI (mTea u)), .int (mSpl u)])), (a 0, .inl (cI, 4, .inl (mHt u))), (a 1, .inl (cI, 8, .inl (mFr u))), (a 2, .inl (cI, 8, .inl (mTo u))), (a 3, .inl (cI, 360, .inl (mCov u))), (a 4, .inl (cI, 6, .inl (mPe u))), (a 5, .inl (cI, 6, .inl (mBe u))), (q7, .inl (cI, 13, .inl (upd f_102 12 (fBB u))))] H := hP
  have hD : va_D A [(h, .inr (1, [.int (nI 0), .int (nI (mSc u)), .ref (a 0), .int (nI (mNc u)), .ref (a 1), .ref (a 2), .ref (a 3), .int (nI (mBc u)), .ref (a 4), .ref (a 5), .int (nI (mRoom u)), .int (nI (mRate u)), .int (nI (mSip u)), .int (mAft u), .int (nI (mNow u)), .int (nI (mTea u)), .int (mSpl u)])), (a 0, .inl (cI, 4, .inl (mHt u))), (a 1, .inl (cI, 8, .inl (mFr u))), (a 2, .inl (cI, 8, .inl (mTo u))), (a 3, .inl (cI, 360, .inl (mCov u))), (a 4, .inl (cI, 6, .inl (mPe u))), (a 5, .inl (cI, 6, .inl (mBe u))), (q7, .inl (cI, 13, .inl (upd f_102 12 (fBB u))))] := hD
  generalize hg_110 : upd f_102 12 (fBB u) = f_110 at hP hD
  refine lv_astore_n (lv' := [(1, .ref q7), (0, .ref h)]) hx hb dX1_digest_111 rfl hl (by decide) rfl (fun ls hl => ?_)
  refine lv_ldc2 (v := (2083)) hx hb hown (hts (.constantLong RX1 153 (2083)) (List.mem_of_getElem? (i := 10) rfl)) dX1_digest_112 ?_
  refine lv_lstore_n (lv' := [(2, .long (2083)), (1, .ref q7), (0, .ref h)]) hx hb dX1_digest_115 rfl hl (by decide) rfl (fun ls hl => ?_)
  refine lv_aload_n hx hb dX1_digest_116 rfl (lv_at hl 1 rfl) ?_
  refine lv_astore (lv' := [(4, .ref q7), (2, .long (2083)), (1, .ref q7), (0, .ref h)]) hx hb dX1_digest_117 hl (by decide) rfl (fun ls hl => ?_)
  refine lv_aload hx hb dX1_digest_119 (lv_at hl 0 rfl) ?_
  refine va_alen (v := nI 13) hx hb hK hP 7 0 rfl rfl rfl dX1_digest_121 ?_
  refine lv_istore (lv' := [(5, .int (nI 13)), (4, .ref q7), (2, .long (2083)), (1, .ref q7), (0, .ref h)]) hx hb dX1_digest_122 hl (by decide) rfl (fun ls hl => ?_)
  refine lv_iconst (v := nI 0) hx hb dX1_digest_124 (by decide +kernel) ?_
  refine lv_istore (lv' := [(6, .int (nI 0)), (5, .int (nI 13)), (4, .ref q7), (2, .long (2083)), (1, .ref q7), (0, .ref h)]) hx hb dX1_digest_125 hl (by decide) rfl (fun ls hl => ?_)
  have lp127 : ∀ (n k : Nat), k + n = 13 → ∀ (X1 : Int64), X1 = fz (dgF f_110) k 2083 → ∀ (ls : Array Slot), lv_has ls 8 [(0, .ref h), (1, .ref q7), (2, .long X1), (4, .ref q7), (5, .int (nI 13)), (6, .int (nI k))] → W p l e ({ frames := 5, cells := 1, slots := 13, locals := 112 } : Room) s m args below meth c H locs 1 13 (MQ below ((fun A : Nat → Prop => va_Ql (fun (r : Int64) (w : MS × Int32) => r = fDig u ∧ w = (u, nI 0)) (fun (w : MS × Int32) (t : State) => va_P D vwCl (pic1 cI h a w.1 w.2) t.heap ∧ va_K D vwCl [(cI, .int)] t ∧ va_D A (pic1 cI h a w.1 w.2)) A) A) args s 1 13 A) (F0 m 127 ls []) := by
    intro n
    induction n with
    | zero =>
      intro k hk X1 eX1 ls hl
      have ek : k = 13 := by omega
      have exX1 : X1 = dgH u := by rw [eX1, ek]; subst hg_15 hg_22 hg_33 hg_40 hg_47 hg_54 hg_62 hg_70 hg_78 hg_86 hg_94 hg_102 hg_110; exact dg13 _ _ _ _ _ _ _ _ _ _ _ _ _
      refine lv_iload hx hb dX1_digest_127 (lv_at hl 5 rfl) ?_
      refine lv_iload hx hb dX1_digest_129 (lv_at hl 4 rfl) ?_
      refine lv_icmp_ge (tgt := 157) hx hb dX1_digest_131 (by decide) (fun c_131 => ?_) (fun c_131 => ?_)
      · skip
        replace c_131 : 13 ≤ k := leN c_131
        refine lv_iconst (v := nI 0) hx hb dX1_digest_157 (by decide +kernel) ?_
        refine lv_istore (lv' := [(4, .int (nI 0)), (0, .ref h), (1, .ref q7), (2, .long X1), (5, .int (nI 13)), (6, .int (nI k))]) hx hb dX1_digest_158 hl (by decide) rfl (fun ls hl => ?_)
        have lp160 : ∀ (n k : Nat), k + n = mSc u → ∀ (X2 : Int64), X2 = fz (wsF u) k X1 → ∀ (ls : Array Slot), lv_has ls 8 [(0, .ref h), (2, .long X2), (4, .int (nI k))] → W p l e ({ frames := 5, cells := 1, slots := 13, locals := 112 } : Room) s m args below meth c H locs 1 13 (MQ below ((fun A : Nat → Prop => va_Ql (fun (r : Int64) (w : MS × Int32) => r = fDig u ∧ w = (u, nI 0)) (fun (w : MS × Int32) (t : State) => va_P D vwCl (pic1 cI h a w.1 w.2) t.heap ∧ va_K D vwCl [(cI, .int)] t ∧ va_D A (pic1 cI h a w.1 w.2)) A) A) args s 1 13 A) (F0 m 160 ls []) := by
          intro n
          induction n with
          | zero =>
            intro k hk X2 eX2 ls hl
            have ek : k = mSc u := by omega
            have exX2 : X2 = fz (wsF u) (mSc u) X1 := by rw [eX2, ek]
            refine lv_iload hx hb dX1_digest_160 (lv_at hl 2 rfl) ?_
            refine lv_aload_n hx hb dX1_digest_162 rfl (lv_at hl 0 rfl) ?_
            refine va_get (D := D) (ci := 1) (v := .int (nI (mSc u))) (C := RX1) (T := TX1) (N := 17) hx hb hts hin hown hK hP 0 rfl rfl 1 (by decide) (hts (.fieldLink RX1 41 "AfternoonMeterModel" "sticks" "I") (List.mem_of_getElem? (i := 5) rfl)) (fun _ h9 => h9) rfl dX1_digest_163 ?_
            refine lv_icmp_ge (tgt := 191) hx hb dX1_digest_166 (by decide) (fun c_166 => ?_) (fun c_166 => ?_)
            · skip
              replace c_166 : (mSc u) ≤ k := leN c_166
              refine lv_iconst (v := nI 0) hx hb dX1_digest_191 (by decide +kernel) ?_
              refine lv_istore (lv' := [(4, .int (nI 0)), (0, .ref h), (2, .long X2)]) hx hb dX1_digest_192 hl (by decide) rfl (fun ls hl => ?_)
              have lp194 : ∀ (n k : Nat), k + n = mNc u → ∀ (X3 : Int64), X3 = fz (wnF u) k X2 → ∀ (ls : Array Slot), lv_has ls 8 [(0, .ref h), (2, .long X3), (4, .int (nI k))] → W p l e ({ frames := 5, cells := 1, slots := 13, locals := 112 } : Room) s m args below meth c H locs 1 13 (MQ below ((fun A : Nat → Prop => va_Ql (fun (r : Int64) (w : MS × Int32) => r = fDig u ∧ w = (u, nI 0)) (fun (w : MS × Int32) (t : State) => va_P D vwCl (pic1 cI h a w.1 w.2) t.heap ∧ va_K D vwCl [(cI, .int)] t ∧ va_D A (pic1 cI h a w.1 w.2)) A) A) args s 1 13 A) (F0 m 194 ls []) := by
                intro n
                induction n with
                | zero =>
                  intro k hk X3 eX3 ls hl
                  have ek : k = mNc u := by omega
                  have exX3 : X3 = fz (wnF u) (mNc u) X2 := by rw [eX3, ek]
                  refine lv_iload hx hb dX1_digest_194 (lv_at hl 2 rfl) ?_
                  refine lv_aload_n hx hb dX1_digest_196 rfl (lv_at hl 0 rfl) ?_
                  refine va_get (D := D) (ci := 1) (v := .int (nI (mNc u))) (C := RX1) (T := TX1) (N := 17) hx hb hts hin hown hK hP 0 rfl rfl 3 (by decide) (hts (.fieldLink RX1 48 "AfternoonMeterModel" "naps" "I") (List.mem_of_getElem? (i := 6) rfl)) (fun _ h9 => h9) rfl dX1_digest_197 ?_
                  refine lv_icmp_ge (tgt := 258) hx hb dX1_digest_200 (by decide) (fun c_200 => ?_) (fun c_200 => ?_)
                  · skip
                    replace c_200 : (mNc u) ≤ k := leN c_200
                    refine lv_iconst (v := nI 0) hx hb dX1_digest_258 (by decide +kernel) ?_
                    refine lv_istore (lv' := [(4, .int (nI 0)), (0, .ref h), (2, .long X3)]) hx hb dX1_digest_259 hl (by decide) rfl (fun ls hl => ?_)
                    have lp261 : ∀ (n k : Nat), k + n = mBc u → ∀ (X4 : Int64), X4 = fz (wbF u) k X3 → ∀ (ls : Array Slot), lv_has ls 8 [(0, .ref h), (2, .long X4), (4, .int (nI k))] → W p l e ({ frames := 5, cells := 1, slots := 13, locals := 112 } : Room) s m args below meth c H locs 1 13 (MQ below ((fun A : Nat → Prop => va_Ql (fun (r : Int64) (w : MS × Int32) => r = fDig u ∧ w = (u, nI 0)) (fun (w : MS × Int32) (t : State) => va_P D vwCl (pic1 cI h a w.1 w.2) t.heap ∧ va_K D vwCl [(cI, .int)] t ∧ va_D A (pic1 cI h a w.1 w.2)) A) A) args s 1 13 A) (F0 m 261 ls []) := by
                      intro n
                      induction n with
                      | zero =>
                        intro k hk X4 eX4 ls hl
                        have ek : k = mBc u := by omega
                        have exX4 : X4 = fz (wbF u) (mBc u) X3 := by rw [eX4, ek]
                        refine lv_iload hx hb dX1_digest_261 (lv_at hl 2 rfl) ?_
                        refine lv_aload_n hx hb dX1_digest_263 rfl (lv_at hl 0 rfl) ?_
                        refine va_get (D := D) (ci := 1) (v := .int (nI (mBc u))) (C := RX1) (T := TX1) (N := 17) hx hb hts hin hown hK hP 0 rfl rfl 7 (by decide) (hts (.fieldLink RX1 51 "AfternoonMeterModel" "bees" "I") (List.mem_of_getElem? (i := 7) rfl)) (fun _ h9 => h9) rfl dX1_digest_264 ?_
                        refine lv_icmp_ge (tgt := 322) hx hb dX1_digest_267 (by decide) (fun c_267 => ?_) (fun c_267 => ?_)
                        · skip
                          replace c_267 : (mBc u) ≤ k := leN c_267
                          refine lv_lload_n hx hb dX1_digest_322 rfl (lv_at hl 1 rfl) ?_
                          have hP9 := hP.sub (ws' := pic1 cI h a u (nI 0)) [0, 1, 2, 3, 4, 5, 6] rfl
                          have hD9 := hD.sub (ws' := pic1 cI h a u (nI 0)) [0, 1, 2, 3, 4, 5, 6] (by decide) rfl
                          have hq : X4 = fDig u ∧ ((u, nI 0) : MS × Int32) = (u, nI 0) := ⟨by rw [exX4, exX3, exX2, exX1]; exact dig_eq, rfl⟩
                          exact W.lret hx hb hr (fun t ht hW => ⟨⟨_, (u, nI 0), rfl, hq, by rw [ht]; exact hP9, va_K.moved hW.alike hK, hD9⟩, hS.F ht⟩) hS.2.2 dX1_digest_323
                        · skip
                          replace c_267 : k < (mBc u) := nleN c_267
                          exact (by omega : False).elim
                      | succ n ih =>
                        intro k hk X4 eX4 ls hl
                        refine lv_iload hx hb dX1_digest_261 (lv_at hl 2 rfl) ?_
                        refine lv_aload_n hx hb dX1_digest_263 rfl (lv_at hl 0 rfl) ?_
                        refine va_get (D := D) (ci := 1) (v := .int (nI (mBc u))) (C := RX1) (T := TX1) (N := 17) hx hb hts hin hown hK hP 0 rfl rfl 7 (by decide) (hts (.fieldLink RX1 51 "AfternoonMeterModel" "bees" "I") (List.mem_of_getElem? (i := 7) rfl)) (fun _ h9 => h9) rfl dX1_digest_264 ?_
                        refine lv_icmp_ge (tgt := 322) hx hb dX1_digest_267 (by decide) (fun c_267 => ?_) (fun c_267 => ?_)
                        · skip
                          replace c_267 : (mBc u) ≤ k := leN c_267
                          exact (by omega : False).elim
                        · skip
                          replace c_267 : k < (mBc u) := nleN c_267
                          refine lv_lload_n hx hb dX1_digest_270 rfl (lv_at hl 1 rfl) ?_
                          refine lv_ldc2 (v := (31)) hx hb hown (hts (.constantLong RX1 155 (31)) (List.mem_of_getElem? (i := 11) rfl)) dX1_digest_271 ?_
                          refine lv_lmul hx hb dX1_digest_274 ?_
                          refine lv_aload_n hx hb dX1_digest_275 rfl (lv_at hl 0 rfl) ?_
                          refine lv_iload hx hb dX1_digest_276 (lv_at hl 2 rfl) ?_
                          refine vp_callSi (W.runV (As := [.int (nI k)]) (rest := [.long (X4 * (31))]) ⟨hx, hb, hml, hown, hts⟩ (c_X1_ticked l D cI h a u (nI 0) k hI (by omega)) (cwV 1 hts gX1_digest_X1_ticked rfl rfl rfl (by decide +kernel) ⟨Nat.le_of_ble_eq_true rfl, Nat.le_of_ble_eq_true rfl⟩) (pu_pre hK (hP.sub (ws' := [(h, .inr (1, [.int (nI 0), .int (nI (mSc u)), .ref (a 0), .int (nI (mNc u)), .ref (a 1), .ref (a 2), .ref (a 3), .int (nI (mBc u)), .ref (a 4), .ref (a 5), .int (nI (mRoom u)), .int (nI (mRate u)), .int (nI (mSip u)), .int (mAft u), .int (nI (mNow u)), .int (nI (mTea u)), .int (mSpl u)])), (a 0, .inl (cI, 4, .inl (mHt u))), (a 1, .inl (cI, 8, .inl (mFr u))), (a 2, .inl (cI, 8, .inl (mTo u))), (a 3, .inl (cI, 360, .inl (mCov u))), (a 4, .inl (cI, 6, .inl (mPe u))), (a 5, .inl (cI, 6, .inl (mBe u)))]) [0, 1, 2, 3, 4, 5, 6] rfl) rfl rfl) rfl rfl hl.1 rfl (lv_room (Nat.le_of_ble_eq_true rfl)) dX1_digest_278 ⟨Nat.le_of_ble_eq_true rfl, Nat.le_of_ble_eq_true rfl⟩) (fun r hr => ?_)
                          subst hr
                          refine lv_i2l (v := Int32.toInt64 (fTk u k)) hx hb dX1_digest_281 rfl ?_
                          refine lv_ladd hx hb dX1_digest_282 ?_
                          refine lv_ldc2 (v := (31)) hx hb hown (hts (.constantLong RX1 155 (31)) (List.mem_of_getElem? (i := 11) rfl)) dX1_digest_283 ?_
                          refine lv_lmul hx hb dX1_digest_286 ?_
                          refine lv_aload_n hx hb dX1_digest_287 rfl (lv_at hl 0 rfl) ?_
                          refine lv_iload hx hb dX1_digest_288 (lv_at hl 2 rfl) ?_
                          refine vp_callSi (W.runV (As := [.int (nI k)]) (rest := [.long (((X4 * (31)) + (Int32.toInt64 (fTk u k))) * (31))]) ⟨hx, hb, hml, hown, hts⟩ (c_X1_ticked l D cI h a u (nI 0) k hI (by omega)) (cwV 1 hts gX1_digest_X1_ticked rfl rfl rfl (by decide +kernel) ⟨Nat.le_of_ble_eq_true rfl, Nat.le_of_ble_eq_true rfl⟩) (pu_pre hK (hP.sub (ws' := [(h, .inr (1, [.int (nI 0), .int (nI (mSc u)), .ref (a 0), .int (nI (mNc u)), .ref (a 1), .ref (a 2), .ref (a 3), .int (nI (mBc u)), .ref (a 4), .ref (a 5), .int (nI (mRoom u)), .int (nI (mRate u)), .int (nI (mSip u)), .int (mAft u), .int (nI (mNow u)), .int (nI (mTea u)), .int (mSpl u)])), (a 0, .inl (cI, 4, .inl (mHt u))), (a 1, .inl (cI, 8, .inl (mFr u))), (a 2, .inl (cI, 8, .inl (mTo u))), (a 3, .inl (cI, 360, .inl (mCov u))), (a 4, .inl (cI, 6, .inl (mPe u))), (a 5, .inl (cI, 6, .inl (mBe u)))]) [0, 1, 2, 3, 4, 5, 6] rfl) rfl rfl) rfl rfl hl.1 rfl (lv_room (Nat.le_of_ble_eq_true rfl)) dX1_digest_290 ⟨Nat.le_of_ble_eq_true rfl, Nat.le_of_ble_eq_true rfl⟩) (fun r hr => ?_)
                          subst hr
                          refine lv_aload_n hx hb dX1_digest_293 rfl (lv_at hl 0 rfl) ?_
                          refine va_get (D := D) (ci := 1) (v := .ref (a 4)) (C := RX1) (T := TX1) (N := 17) hx hb hts hin hown hK hP 0 rfl rfl 8 (by decide) (hts (.fieldLink RX1 22 "AfternoonMeterModel" "period" "[I") (List.mem_of_getElem? (i := 14) rfl)) (fun _ h9 => h9) rfl dX1_digest_294 ?_
                          refine lv_iload hx hb dX1_digest_297 (lv_at hl 2 rfl) ?_
                          refine q_iald (v := nI (pN u k)) hx hb hK hP 5 0 rfl rfl (by omega) (by decide) ((hIf k (by omega)).1) dX1_digest_299 ?_
                          obtain ⟨_, _, _, _, _⟩ := hIf k (by omega)
                          refine lv_imul hx hb dX1_digest_300 ?_
                          refine lv_i2l (v := Int32.toInt64 ((fTk u k) * (nI (pN u k)))) hx hb dX1_digest_301 rfl ?_
                          refine lv_ladd hx hb dX1_digest_302 ?_
                          refine lv_ldc2 (v := (31)) hx hb hown (hts (.constantLong RX1 155 (31)) (List.mem_of_getElem? (i := 11) rfl)) dX1_digest_303 ?_
                          refine lv_lmul hx hb dX1_digest_306 ?_
                          refine lv_aload_n hx hb dX1_digest_307 rfl (lv_at hl 0 rfl) ?_
                          refine lv_iload hx hb dX1_digest_308 (lv_at hl 2 rfl) ?_
                          refine vp_callSi (W.runV (As := [.int (nI k)]) (rest := [.long (((((X4 * (31)) + (Int32.toInt64 (fTk u k))) * (31)) + (Int32.toInt64 ((fTk u k) * (nI (pN u k))))) * (31))]) ⟨hx, hb, hml, hown, hts⟩ (c_X1_next l D cI h a u (nI 0) k hI (by omega)) (cwV 1 hts gX1_digest_X1_next rfl rfl rfl (by decide +kernel) ⟨Nat.le_of_ble_eq_true rfl, Nat.le_of_ble_eq_true rfl⟩) (pu_pre hK (hP.sub (ws' := [(h, .inr (1, [.int (nI 0), .int (nI (mSc u)), .ref (a 0), .int (nI (mNc u)), .ref (a 1), .ref (a 2), .ref (a 3), .int (nI (mBc u)), .ref (a 4), .ref (a 5), .int (nI (mRoom u)), .int (nI (mRate u)), .int (nI (mSip u)), .int (mAft u), .int (nI (mNow u)), .int (nI (mTea u)), .int (mSpl u)])), (a 0, .inl (cI, 4, .inl (mHt u))), (a 1, .inl (cI, 8, .inl (mFr u))), (a 2, .inl (cI, 8, .inl (mTo u))), (a 3, .inl (cI, 360, .inl (mCov u))), (a 4, .inl (cI, 6, .inl (mPe u))), (a 5, .inl (cI, 6, .inl (mBe u)))]) [0, 1, 2, 3, 4, 5, 6] rfl) rfl rfl) rfl rfl hl.1 rfl (lv_room (Nat.le_of_ble_eq_true rfl)) dX1_digest_310 ⟨Nat.le_of_ble_eq_true rfl, Nat.le_of_ble_eq_true rfl⟩) (fun r hr => ?_)
                          subst hr
                          refine lv_i2l (v := Int32.toInt64 (fNx u k)) hx hb dX1_digest_313 rfl ?_
                          refine lv_ladd hx hb dX1_digest_314 ?_
                          refine lv_lstore_n (lv' := [(2, .long ((((((X4 * (31)) + (Int32.toInt64 (fTk u k))) * (31)) + (Int32.toInt64 ((fTk u k) * (nI (pN u k))))) * (31)) + (Int32.toInt64 (fNx u k)))), (0, .ref h), (4, .int (nI k))]) hx hb dX1_digest_315 rfl hl (by decide) rfl (fun ls hl => ?_)
                          refine lv_iinc (v := nI (k + 1)) (lv' := [(4, .int (nI (k + 1))), (2, .long ((((((X4 * (31)) + (Int32.toInt64 (fTk u k))) * (31)) + (Int32.toInt64 ((fTk u k) * (nI (pN u k))))) * (31)) + (Int32.toInt64 (fNx u k)))), (0, .ref h)]) hx hb dX1_digest_316 hl (k := 2) rfl (nI_i1 _) (by decide) rfl (fun ls hl => ?_)
                          refine lv_goto (tgt := 261) hx hb dX1_digest_319 (by decide) ?_
                          exact ih (k + 1) (by omega) ((((((X4 * (31)) + (Int32.toInt64 (fTk u k))) * (31)) + (Int32.toInt64 ((fTk u k) * (nI (pN u k))))) * (31)) + (Int32.toInt64 (fNx u k))) (by subst eX4; exact wb_eq) _ (lv_sub hl [2, 1, 0] rfl)
                    exact lp261 _ 0 (Nat.zero_add _) X3 (by rfl) _ (lv_sub hl [1, 2, 0] rfl)
                  · skip
                    replace c_200 : k < (mNc u) := nleN c_200
                    exact (by omega : False).elim
                | succ n ih =>
                  intro k hk X3 eX3 ls hl
                  refine lv_iload hx hb dX1_digest_194 (lv_at hl 2 rfl) ?_
                  refine lv_aload_n hx hb dX1_digest_196 rfl (lv_at hl 0 rfl) ?_
                  refine va_get (D := D) (ci := 1) (v := .int (nI (mNc u))) (C := RX1) (T := TX1) (N := 17) hx hb hts hin hown hK hP 0 rfl rfl 3 (by decide) (hts (.fieldLink RX1 48 "AfternoonMeterModel" "naps" "I") (List.mem_of_getElem? (i := 6) rfl)) (fun _ h9 => h9) rfl dX1_digest_197 ?_
                  refine lv_icmp_ge (tgt := 258) hx hb dX1_digest_200 (by decide) (fun c_200 => ?_) (fun c_200 => ?_)
                  · skip
                    replace c_200 : (mNc u) ≤ k := leN c_200
                    exact (by omega : False).elim
                  · skip
                    replace c_200 : k < (mNc u) := nleN c_200
                    refine lv_lload_n hx hb dX1_digest_203 rfl (lv_at hl 1 rfl) ?_
                    refine lv_ldc2 (v := (31)) hx hb hown (hts (.constantLong RX1 155 (31)) (List.mem_of_getElem? (i := 11) rfl)) dX1_digest_204 ?_
                    refine lv_lmul hx hb dX1_digest_207 ?_
                    refine lv_aload_n hx hb dX1_digest_208 rfl (lv_at hl 0 rfl) ?_
                    refine va_get (D := D) (ci := 1) (v := .ref (a 1)) (C := RX1) (T := TX1) (N := 17) hx hb hts hin hown hK hP 0 rfl rfl 4 (by decide) (hts (.fieldLink RX1 13 "AfternoonMeterModel" "from" "[I") (List.mem_of_getElem? (i := 12) rfl)) (fun _ h9 => h9) rfl dX1_digest_209 ?_
                    refine lv_iload hx hb dX1_digest_212 (lv_at hl 2 rfl) ?_
                    refine q_iald (v := nI (aN u k)) hx hb hK hP 2 0 rfl rfl (by omega) (by decide) ((hIg k (by omega)).1) dX1_digest_214 ?_
                    obtain ⟨_, _, _, _⟩ := hIg k (by omega)
                    refine lv_i2l (v := Int32.toInt64 (nI (aN u k))) hx hb dX1_digest_215 rfl ?_
                    refine lv_ladd hx hb dX1_digest_216 ?_
                    refine lv_ldc2 (v := (31)) hx hb hown (hts (.constantLong RX1 155 (31)) (List.mem_of_getElem? (i := 11) rfl)) dX1_digest_217 ?_
                    refine lv_lmul hx hb dX1_digest_220 ?_
                    refine lv_aload_n hx hb dX1_digest_221 rfl (lv_at hl 0 rfl) ?_
                    refine va_get (D := D) (ci := 1) (v := .ref (a 2)) (C := RX1) (T := TX1) (N := 17) hx hb hts hin hown hK hP 0 rfl rfl 5 (by decide) (hts (.fieldLink RX1 16 "AfternoonMeterModel" "to" "[I") (List.mem_of_getElem? (i := 13) rfl)) (fun _ h9 => h9) rfl dX1_digest_222 ?_
                    refine lv_iload hx hb dX1_digest_225 (lv_at hl 2 rfl) ?_
                    refine q_iald (v := nI (bN u k)) hx hb hK hP 3 0 rfl rfl (by omega) (by decide) ((hIg k (by omega)).2.1) dX1_digest_227 ?_
                    obtain ⟨_, _, _, _⟩ := hIg k (by omega)
                    refine lv_i2l (v := Int32.toInt64 (nI (bN u k))) hx hb dX1_digest_228 rfl ?_
                    refine lv_ladd hx hb dX1_digest_229 ?_
                    refine lv_aload_n hx hb dX1_digest_230 rfl (lv_at hl 0 rfl) ?_
                    refine va_get (D := D) (ci := 1) (v := .ref (a 1)) (C := RX1) (T := TX1) (N := 17) hx hb hts hin hown hK hP 0 rfl rfl 4 (by decide) (hts (.fieldLink RX1 13 "AfternoonMeterModel" "from" "[I") (List.mem_of_getElem? (i := 12) rfl)) (fun _ h9 => h9) rfl dX1_digest_231 ?_
                    refine lv_iload hx hb dX1_digest_234 (lv_at hl 2 rfl) ?_
                    refine q_iald (v := nI (aN u k)) hx hb hK hP 2 0 rfl rfl (by omega) (by decide) ((hIg k (by omega)).1) dX1_digest_236 ?_
                    obtain ⟨_, _, _, _⟩ := hIg k (by omega)
                    refine lv_i2l (v := Int32.toInt64 (nI (aN u k))) hx hb dX1_digest_237 rfl ?_
                    refine lv_lsub hx hb dX1_digest_238 ?_
                    refine lv_ldc2 (v := (31)) hx hb hown (hts (.constantLong RX1 155 (31)) (List.mem_of_getElem? (i := 11) rfl)) dX1_digest_239 ?_
                    refine lv_lmul hx hb dX1_digest_242 ?_
                    refine lv_aload_n hx hb dX1_digest_243 rfl (lv_at hl 0 rfl) ?_
                    refine lv_iload hx hb dX1_digest_244 (lv_at hl 2 rfl) ?_
                    refine vp_callSi (W.runV (As := [.int (nI k)]) (rest := [.long ((((((X3 * (31)) + (Int32.toInt64 (nI (aN u k)))) * (31)) + (Int32.toInt64 (nI (bN u k)))) - (Int32.toInt64 (nI (aN u k)))) * (31))]) ⟨hx, hb, hml, hown, hts⟩ (c_X1_alone l D cI h a u (nI 0) k hI (by omega)) (cwV 1 hts gX1_digest_X1_alone rfl rfl rfl (by decide +kernel) ⟨Nat.le_of_ble_eq_true rfl, Nat.le_of_ble_eq_true rfl⟩) (pu_pre hK (hP.sub (ws' := [(h, .inr (1, [.int (nI 0), .int (nI (mSc u)), .ref (a 0), .int (nI (mNc u)), .ref (a 1), .ref (a 2), .ref (a 3), .int (nI (mBc u)), .ref (a 4), .ref (a 5), .int (nI (mRoom u)), .int (nI (mRate u)), .int (nI (mSip u)), .int (mAft u), .int (nI (mNow u)), .int (nI (mTea u)), .int (mSpl u)])), (a 0, .inl (cI, 4, .inl (mHt u))), (a 1, .inl (cI, 8, .inl (mFr u))), (a 2, .inl (cI, 8, .inl (mTo u))), (a 3, .inl (cI, 360, .inl (mCov u))), (a 4, .inl (cI, 6, .inl (mPe u))), (a 5, .inl (cI, 6, .inl (mBe u)))]) [0, 1, 2, 3, 4, 5, 6] rfl) rfl rfl) rfl rfl hl.1 rfl (lv_room (Nat.le_of_ble_eq_true rfl)) dX1_digest_246 ⟨Nat.le_of_ble_eq_true rfl, Nat.le_of_ble_eq_true rfl⟩) (fun r hr => ?_)
                    subst hr
                    refine lv_i2l (v := Int32.toInt64 (fAl u k)) hx hb dX1_digest_249 rfl ?_
                    refine lv_ladd hx hb dX1_digest_250 ?_
                    refine lv_lstore_n (lv' := [(2, .long (((((((X3 * (31)) + (Int32.toInt64 (nI (aN u k)))) * (31)) + (Int32.toInt64 (nI (bN u k)))) - (Int32.toInt64 (nI (aN u k)))) * (31)) + (Int32.toInt64 (fAl u k)))), (0, .ref h), (4, .int (nI k))]) hx hb dX1_digest_251 rfl hl (by decide) rfl (fun ls hl => ?_)
                    refine lv_iinc (v := nI (k + 1)) (lv' := [(4, .int (nI (k + 1))), (2, .long (((((((X3 * (31)) + (Int32.toInt64 (nI (aN u k)))) * (31)) + (Int32.toInt64 (nI (bN u k)))) - (Int32.toInt64 (nI (aN u k)))) * (31)) + (Int32.toInt64 (fAl u k)))), (0, .ref h)]) hx hb dX1_digest_252 hl (k := 2) rfl (nI_i1 _) (by decide) rfl (fun ls hl => ?_)
                    refine lv_goto (tgt := 194) hx hb dX1_digest_255 (by decide) ?_
                    exact ih (k + 1) (by omega) (((((((X3 * (31)) + (Int32.toInt64 (nI (aN u k)))) * (31)) + (Int32.toInt64 (nI (bN u k)))) - (Int32.toInt64 (nI (aN u k)))) * (31)) + (Int32.toInt64 (fAl u k))) (by subst eX3; exact wn_eq (by omega) (by omega)) _ (lv_sub hl [2, 1, 0] rfl)
              exact lp194 _ 0 (Nat.zero_add _) X2 (by rfl) _ (lv_sub hl [1, 2, 0] rfl)
            · skip
              replace c_166 : k < (mSc u) := nleN c_166
              exact (by omega : False).elim
          | succ n ih =>
            intro k hk X2 eX2 ls hl
            refine lv_iload hx hb dX1_digest_160 (lv_at hl 2 rfl) ?_
            refine lv_aload_n hx hb dX1_digest_162 rfl (lv_at hl 0 rfl) ?_
            refine va_get (D := D) (ci := 1) (v := .int (nI (mSc u))) (C := RX1) (T := TX1) (N := 17) hx hb hts hin hown hK hP 0 rfl rfl 1 (by decide) (hts (.fieldLink RX1 41 "AfternoonMeterModel" "sticks" "I") (List.mem_of_getElem? (i := 5) rfl)) (fun _ h9 => h9) rfl dX1_digest_163 ?_
            refine lv_icmp_ge (tgt := 191) hx hb dX1_digest_166 (by decide) (fun c_166 => ?_) (fun c_166 => ?_)
            · skip
              replace c_166 : (mSc u) ≤ k := leN c_166
              exact (by omega : False).elim
            · skip
              replace c_166 : k < (mSc u) := nleN c_166
              refine lv_lload_n hx hb dX1_digest_169 rfl (lv_at hl 1 rfl) ?_
              refine lv_ldc2 (v := (31)) hx hb hown (hts (.constantLong RX1 155 (31)) (List.mem_of_getElem? (i := 11) rfl)) dX1_digest_170 ?_
              refine lv_lmul hx hb dX1_digest_173 ?_
              refine lv_aload_n hx hb dX1_digest_174 rfl (lv_at hl 0 rfl) ?_
              refine lv_iload hx hb dX1_digest_175 (lv_at hl 2 rfl) ?_
              refine lv_bipush (v := nI 100) hx hb dX1_digest_177 (by decide +kernel) ?_
              refine vp_callSi (W.runV (As := [.int (nI k), .int (nI 100)]) (rest := [.long (X2 * (31))]) ⟨hx, hb, hml, hown, hts⟩ (c_X1_shadow l D cI h a u (nI 0) k 100 (by omega)) (cwV 2 hts gX1_digest_X1_shadow rfl rfl rfl (by decide +kernel) ⟨Nat.le_of_ble_eq_true rfl, Nat.le_of_ble_eq_true rfl⟩) (pu_pre hK (hP.sub (ws' := [(h, .inr (1, [.int (nI 0), .int (nI (mSc u)), .ref (a 0), .int (nI (mNc u)), .ref (a 1), .ref (a 2), .ref (a 3), .int (nI (mBc u)), .ref (a 4), .ref (a 5), .int (nI (mRoom u)), .int (nI (mRate u)), .int (nI (mSip u)), .int (mAft u), .int (nI (mNow u)), .int (nI (mTea u)), .int (mSpl u)])), (a 0, .inl (cI, 4, .inl (mHt u))), (a 1, .inl (cI, 8, .inl (mFr u))), (a 2, .inl (cI, 8, .inl (mTo u))), (a 3, .inl (cI, 360, .inl (mCov u))), (a 4, .inl (cI, 6, .inl (mPe u))), (a 5, .inl (cI, 6, .inl (mBe u)))]) [0, 1, 2, 3, 4, 5, 6] rfl) rfl rfl) rfl rfl hl.1 rfl (lv_room (Nat.le_of_ble_eq_true rfl)) dX1_digest_179 ⟨Nat.le_of_ble_eq_true rfl, Nat.le_of_ble_eq_true rfl⟩) (fun r hr => ?_)
              subst hr
              refine lv_i2l (v := Int32.toInt64 (fShad u k 100)) hx hb dX1_digest_182 rfl ?_
              refine lv_ladd hx hb dX1_digest_183 ?_
              refine lv_lstore_n (lv' := [(2, .long ((X2 * (31)) + (Int32.toInt64 (fShad u k 100)))), (0, .ref h), (4, .int (nI k))]) hx hb dX1_digest_184 rfl hl (by decide) rfl (fun ls hl => ?_)
              refine lv_iinc (v := nI (k + 1)) (lv' := [(4, .int (nI (k + 1))), (2, .long ((X2 * (31)) + (Int32.toInt64 (fShad u k 100)))), (0, .ref h)]) hx hb dX1_digest_185 hl (k := 2) rfl (nI_i1 _) (by decide) rfl (fun ls hl => ?_)
              refine lv_goto (tgt := 160) hx hb dX1_digest_188 (by decide) ?_
              exact ih (k + 1) (by omega) ((X2 * (31)) + (Int32.toInt64 (fShad u k 100))) (by subst eX2; rfl) _ (lv_sub hl [2, 1, 0] rfl)
        exact lp160 _ 0 (Nat.zero_add _) X1 (by rfl) _ (lv_sub hl [1, 3, 0] rfl)
      · skip
        replace c_131 : k < 13 := nleN c_131
        exact (by omega : False).elim
    | succ n ih =>
      intro k hk X1 eX1 ls hl
      refine lv_iload hx hb dX1_digest_127 (lv_at hl 5 rfl) ?_
      refine lv_iload hx hb dX1_digest_129 (lv_at hl 4 rfl) ?_
      refine lv_icmp_ge (tgt := 157) hx hb dX1_digest_131 (by decide) (fun c_131 => ?_) (fun c_131 => ?_)
      · skip
        replace c_131 : 13 ≤ k := leN c_131
        exact (by omega : False).elim
      · skip
        replace c_131 : k < 13 := nleN c_131
        refine lv_aload hx hb dX1_digest_134 (lv_at hl 3 rfl) ?_
        refine lv_iload hx hb dX1_digest_136 (lv_at hl 5 rfl) ?_
        refine q_iald (v := f_110 k) hx hb hK hP 7 0 rfl rfl (by omega) (by decide) (rfl) dX1_digest_138 ?_
        refine lv_istore (lv' := [(7, .int (f_110 k)), (0, .ref h), (1, .ref q7), (2, .long X1), (4, .ref q7), (5, .int (nI 13)), (6, .int (nI k))]) hx hb dX1_digest_139 hl (by decide) rfl (fun ls hl => ?_)
        refine lv_lload_n hx hb dX1_digest_141 rfl (lv_at hl 3 rfl) ?_
        refine lv_ldc2 (v := (31)) hx hb hown (hts (.constantLong RX1 155 (31)) (List.mem_of_getElem? (i := 11) rfl)) dX1_digest_142 ?_
        refine lv_lmul hx hb dX1_digest_145 ?_
        refine lv_iload hx hb dX1_digest_146 (lv_at hl 0 rfl) ?_
        refine lv_i2l (v := Int32.toInt64 (f_110 k)) hx hb dX1_digest_148 rfl ?_
        refine lv_ladd hx hb dX1_digest_149 ?_
        refine lv_lstore_n (lv' := [(2, .long ((X1 * (31)) + (Int32.toInt64 (f_110 k)))), (7, .int (f_110 k)), (0, .ref h), (1, .ref q7), (4, .ref q7), (5, .int (nI 13)), (6, .int (nI k))]) hx hb dX1_digest_150 rfl hl (by decide) rfl (fun ls hl => ?_)
        refine lv_iinc (v := nI (k + 1)) (lv' := [(6, .int (nI (k + 1))), (2, .long ((X1 * (31)) + (Int32.toInt64 (f_110 k)))), (7, .int (f_110 k)), (0, .ref h), (1, .ref q7), (4, .ref q7), (5, .int (nI 13))]) hx hb dX1_digest_151 hl (k := 6) rfl (nI_i1 _) (by decide) rfl (fun ls hl => ?_)
        refine lv_goto (tgt := 127) hx hb dX1_digest_154 (by decide) ?_
        exact ih (k + 1) (by omega) ((X1 * (31)) + (Int32.toInt64 (f_110 k))) (by subst eX1; rfl) _ (lv_sub hl [3, 4, 1, 5, 6, 0] rfl)
  exact lp127 _ 0 (Nat.zero_add _) (2083) (by rfl) _ (lv_sub hl [5, 4, 3, 2, 1, 0] rfl)
