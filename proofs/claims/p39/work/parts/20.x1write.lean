set_option maxHeartbeats 4000000 in
set_option maxRecDepth 100000 in
theorem c_X1_thrown (l : Launch) (D : va_G) (cI : ClassId) (h : Nat) (a : Nat → Nat) (u : MS) (th : Int32) : Met l yX1_thrown wsX1_thrown ({ frames := 0, cells := 0, slots := 0, locals := 0 } : Room) (va_Pc [.ref h] (fun U => va_P D vwCl (pic1 cI h a u th) U.heap ∧ va_K D vwCl [(cI, .int)] U)) (vp_Si (fun r => r = th)) 0 0 (fun _ => False) := by
  refine en_pu (cc := cX1_thrown) (maxL := 1) (ret := (some .int)) _ _ (by decide) rfl (Nat.le_of_ble_eq_true rfl) ?_
  intro p e s m args below meth c ls hx hb hml hr hlocks hts hown hP hK hl
  have hown : s.vm.findClass RX1 = some m.cls := hown
  have hin : ∀ w ∈ wsX10, w ∈ wsX1_thrown := fun _ h9 => List.mem_cons_of_mem _ (List.mem_append_right _ h9)
  have hl : lv_has ls 1 [(0, .ref h)] := hl
  refine lv_aload_n hx hb dX1_thrown_0 rfl (lv_at hl 0 rfl) ?_
  refine va_get (D := D) (ci := 1) (v := .int th) (C := RX1) (T := TX1) (N := 17) hx hb hts hin hown hK hP 0 rfl rfl 0 (by decide) (hts (.fieldLink RX1 38 "AfternoonMeterModel" "thrown" "I") (List.mem_of_getElem? (i := 1) rfl)) (fun _ h9 => h9) rfl dX1_thrown_1 ?_
  have hq : th = th := by rfl
  exact W.iret hx hb hr (fun t ht _ => ⟨_, rfl, hq, ht⟩) (fun _ h9 => nomatch h9) dX1_thrown_4
set_option maxHeartbeats 4000000 in
set_option maxRecDepth 100000 in
theorem c_X1_no (l : Launch) (D : va_G) (cI : ClassId) (h : Nat) (a : Nat → Nat) (u : MS) (th : Int32) (sz : Nat) (v0 : Int32) : Met l yX1_no wsX1_no ({ frames := 0, cells := 0, slots := 0, locals := 0 } : Room) (va_Pc [.ref h, .int v0] (fun U => U.heap.size = sz ∧ va_P D vwCl (pic1 cI h a u th) U.heap ∧ va_K D vwCl [(cI, .int)] U ∧ va_D (fun _ => True) (pic1 cI h a u th))) ((fun A : Nat → Prop => va_Qi (fun (r : Int32) (w : MS × Int32) => r = nI 0 ∧ w = ((mSc u, mNc u, mBc u, mNow u, mRoom u, mRate u, mSip u, mTea u, mSpl u, mAft u, mHt u, mFr u, mTo u, mCov u, mPe u, mBe u), v0)) (fun (w : MS × Int32) (t : State) => va_P D vwCl (pic1 cI h a w.1 w.2) t.heap ∧ va_K D vwCl [(cI, .int)] t ∧ va_D A (pic1 cI h a w.1 w.2)) A) (va_A (pic1 cI h a u th) sz)) 0 0 (va_A (pic1 cI h a u th) sz) := by
  refine en_wr (cc := cX1_no) (maxL := 2) (ret := (some .int)) _ _ (fun A : Nat → Prop => va_Qi (fun (r : Int32) (w : MS × Int32) => r = nI 0 ∧ w = ((mSc u, mNc u, mBc u, mNow u, mRoom u, mRate u, mSip u, mTea u, mSpl u, mAft u, mHt u, mFr u, mTo u, mCov u, mPe u, mBe u), v0)) (fun (w : MS × Int32) (t : State) => va_P D vwCl (pic1 cI h a w.1 w.2) t.heap ∧ va_K D vwCl [(cI, .int)] t ∧ va_D A (pic1 cI h a w.1 w.2)) A) (by decide) rfl (Nat.le_of_ble_eq_true rfl) ?_
  intro p e s m args below meth c ls A H locs hx hb hml hr hlocks hts hown hP hK hD hA hS hl
  have hown : s.vm.findClass RX1 = some m.cls := hown
  have hin : ∀ w ∈ wsX10, w ∈ wsX1_no := fun _ h9 => List.mem_cons_of_mem _ (List.mem_append_right _ h9)
  have hl : lv_has ls 2 [(0, .ref h), (1, .int v0)] := hl
  refine lv_aload_n hx hb dX1_no_0 rfl (lv_at hl 0 rfl) ?_
  refine lv_iload_n hx hb dX1_no_1 rfl (lv_at hl 1 rfl) ?_
  refine va_put (D := D) (ci := 1) (v := .int v0) (ty := .int) (C := RX1) (T := TX1) (N := 17) hx hb hts hin tyX1 tyX1_ok nmX1 hown hK hP hD hS 0 rfl rfl 0 (by decide) (hts (.fieldLink RX1 38 "AfternoonMeterModel" "thrown" "I") (List.mem_of_getElem? (i := 1) rfl)) (fun _ h9 => h9) rfl (by decide +kernel) rfl rfl (Nat.le_of_ble_eq_true rfl) dX1_no_2 (fun H locs hP hD hS => ?_)
  have hP : va_P D vwCl [(h, .inr (1, [.int v0, .int (nI (mSc u)), .ref (a 0), .int (nI (mNc u)), .ref (a 1), .ref (a 2), .ref (a 3), .int (nI (mBc u)), .ref (a 4), .ref (a 5), .int (nI (mRoom u)), .int (nI (mRate u)), .int (nI (mSip u)), .int (mAft u), .int (nI (mNow u)), .int (nI (mTea u)), .int (mSpl u)])), (a 0, .inl (cI, 4, .inl (mHt u))), (a 1, .inl (cI, 8, .inl (mFr u))), (a 2, .inl (cI, 8, .inl (mTo u))), (a 3, .inl (cI, 360, .inl (mCov u))), (a 4, .inl (cI, 6, .inl (mPe u))), (a 5, .inl (cI, 6, .inl (mBe u)))] H := hP
  have hD : va_D A [(h, .inr (1, [.int v0, .int (nI (mSc u)), .ref (a 0), .int (nI (mNc u)), .ref (a 1), .ref (a 2), .ref (a 3), .int (nI (mBc u)), .ref (a 4), .ref (a 5), .int (nI (mRoom u)), .int (nI (mRate u)), .int (nI (mSip u)), .int (mAft u), .int (nI (mNow u)), .int (nI (mTea u)), .int (mSpl u)])), (a 0, .inl (cI, 4, .inl (mHt u))), (a 1, .inl (cI, 8, .inl (mFr u))), (a 2, .inl (cI, 8, .inl (mTo u))), (a 3, .inl (cI, 360, .inl (mCov u))), (a 4, .inl (cI, 6, .inl (mPe u))), (a 5, .inl (cI, 6, .inl (mBe u)))] := hD
  refine lv_iconst (v := nI 0) hx hb dX1_no_5 (by decide +kernel) ?_
  have hq : nI 0 = nI 0 ∧ (((mSc u, mNc u, mBc u, mNow u, mRoom u, mRate u, mSip u, mTea u, mSpl u, mAft u, mHt u, mFr u, mTo u, mCov u, mPe u, mBe u), v0) : MS × Int32) = ((mSc u, mNc u, mBc u, mNow u, mRoom u, mRate u, mSip u, mTea u, mSpl u, mAft u, mHt u, mFr u, mTo u, mCov u, mPe u, mBe u), v0) := by exact ⟨rfl, rfl⟩
  exact W.iret hx hb hr (fun t ht hW => ⟨⟨_, (((mSc u, mNc u, mBc u, mNow u, mRoom u, mRate u, mSip u, mTea u, mSpl u, mAft u, mHt u, mFr u, mTo u, mCov u, mPe u, mBe u), v0) : MS × Int32), rfl, hq, by rw [ht]; exact hP, va_K.moved hW.alike hK, hD⟩, hS.F ht⟩) hS.2.2 dX1_no_6
set_option maxHeartbeats 4000000 in
set_option maxRecDepth 100000 in
theorem c_X1_ok (l : Launch) (D : va_G) (cI : ClassId) (h : Nat) (a : Nat → Nat) (u : MS) (th : Int32) (sz : Nat) (v0 : Int32) : Met l yX1_ok wsX1_ok ({ frames := 0, cells := 0, slots := 0, locals := 0 } : Room) (va_Pc [.ref h, .int v0] (fun U => U.heap.size = sz ∧ va_P D vwCl (pic1 cI h a u th) U.heap ∧ va_K D vwCl [(cI, .int)] U ∧ va_D (fun _ => True) (pic1 cI h a u th))) ((fun A : Nat → Prop => va_Qi (fun (r : Int32) (w : MS × Int32) => r = v0 ∧ w = ((mSc u, mNc u, mBc u, mNow u, mRoom u, mRate u, mSip u, mTea u, mSpl u, mAft u, mHt u, mFr u, mTo u, mCov u, mPe u, mBe u), nI 0)) (fun (w : MS × Int32) (t : State) => va_P D vwCl (pic1 cI h a w.1 w.2) t.heap ∧ va_K D vwCl [(cI, .int)] t ∧ va_D A (pic1 cI h a w.1 w.2)) A) (va_A (pic1 cI h a u th) sz)) 0 0 (va_A (pic1 cI h a u th) sz) := by
  refine en_wr (cc := cX1_ok) (maxL := 2) (ret := (some .int)) _ _ (fun A : Nat → Prop => va_Qi (fun (r : Int32) (w : MS × Int32) => r = v0 ∧ w = ((mSc u, mNc u, mBc u, mNow u, mRoom u, mRate u, mSip u, mTea u, mSpl u, mAft u, mHt u, mFr u, mTo u, mCov u, mPe u, mBe u), nI 0)) (fun (w : MS × Int32) (t : State) => va_P D vwCl (pic1 cI h a w.1 w.2) t.heap ∧ va_K D vwCl [(cI, .int)] t ∧ va_D A (pic1 cI h a w.1 w.2)) A) (by decide) rfl (Nat.le_of_ble_eq_true rfl) ?_
  intro p e s m args below meth c ls A H locs hx hb hml hr hlocks hts hown hP hK hD hA hS hl
  have hown : s.vm.findClass RX1 = some m.cls := hown
  have hin : ∀ w ∈ wsX10, w ∈ wsX1_ok := fun _ h9 => List.mem_cons_of_mem _ (List.mem_append_right _ h9)
  have hl : lv_has ls 2 [(0, .ref h), (1, .int v0)] := hl
  refine lv_aload_n hx hb dX1_ok_0 rfl (lv_at hl 0 rfl) ?_
  refine lv_iconst (v := nI 0) hx hb dX1_ok_1 (by decide +kernel) ?_
  refine va_put (D := D) (ci := 1) (v := .int (nI 0)) (ty := .int) (C := RX1) (T := TX1) (N := 17) hx hb hts hin tyX1 tyX1_ok nmX1 hown hK hP hD hS 0 rfl rfl 0 (by decide) (hts (.fieldLink RX1 38 "AfternoonMeterModel" "thrown" "I") (List.mem_of_getElem? (i := 1) rfl)) (fun _ h9 => h9) rfl (by decide +kernel) rfl rfl (Nat.le_of_ble_eq_true rfl) dX1_ok_2 (fun H locs hP hD hS => ?_)
  have hP : va_P D vwCl [(h, .inr (1, [.int (nI 0), .int (nI (mSc u)), .ref (a 0), .int (nI (mNc u)), .ref (a 1), .ref (a 2), .ref (a 3), .int (nI (mBc u)), .ref (a 4), .ref (a 5), .int (nI (mRoom u)), .int (nI (mRate u)), .int (nI (mSip u)), .int (mAft u), .int (nI (mNow u)), .int (nI (mTea u)), .int (mSpl u)])), (a 0, .inl (cI, 4, .inl (mHt u))), (a 1, .inl (cI, 8, .inl (mFr u))), (a 2, .inl (cI, 8, .inl (mTo u))), (a 3, .inl (cI, 360, .inl (mCov u))), (a 4, .inl (cI, 6, .inl (mPe u))), (a 5, .inl (cI, 6, .inl (mBe u)))] H := hP
  have hD : va_D A [(h, .inr (1, [.int (nI 0), .int (nI (mSc u)), .ref (a 0), .int (nI (mNc u)), .ref (a 1), .ref (a 2), .ref (a 3), .int (nI (mBc u)), .ref (a 4), .ref (a 5), .int (nI (mRoom u)), .int (nI (mRate u)), .int (nI (mSip u)), .int (mAft u), .int (nI (mNow u)), .int (nI (mTea u)), .int (mSpl u)])), (a 0, .inl (cI, 4, .inl (mHt u))), (a 1, .inl (cI, 8, .inl (mFr u))), (a 2, .inl (cI, 8, .inl (mTo u))), (a 3, .inl (cI, 360, .inl (mCov u))), (a 4, .inl (cI, 6, .inl (mPe u))), (a 5, .inl (cI, 6, .inl (mBe u)))] := hD
  refine lv_iload_n hx hb dX1_ok_5 rfl (lv_at hl 1 rfl) ?_
  have hq : v0 = v0 ∧ (((mSc u, mNc u, mBc u, mNow u, mRoom u, mRate u, mSip u, mTea u, mSpl u, mAft u, mHt u, mFr u, mTo u, mCov u, mPe u, mBe u), nI 0) : MS × Int32) = ((mSc u, mNc u, mBc u, mNow u, mRoom u, mRate u, mSip u, mTea u, mSpl u, mAft u, mHt u, mFr u, mTo u, mCov u, mPe u, mBe u), nI 0) := by exact ⟨rfl, rfl⟩
  exact W.iret hx hb hr (fun t ht hW => ⟨⟨_, (((mSc u, mNc u, mBc u, mNow u, mRoom u, mRate u, mSip u, mTea u, mSpl u, mAft u, mHt u, mFr u, mTo u, mCov u, mPe u, mBe u), nI 0) : MS × Int32), rfl, hq, by rw [ht]; exact hP, va_K.moved hW.alike hK, hD⟩, hS.F ht⟩) hS.2.2 dX1_ok_6
set_option maxHeartbeats 4000000 in
set_option maxRecDepth 100000 in
theorem c_X1_lay (l : Launch) (D : va_G) (cI : ClassId) (h : Nat) (a : Nat → Nat) (u : MS) (th : Int32) (sz : Nat) (np : Nat) (by0 : Int32) (x0 : Nat) (y0 : Nat) (h8 : np < 8) (hf1 : mFr u np = nI x0) (hf2 : mTo u np = nI y0) (hf3 : x0 ≤ 360) (hf4 : y0 ≤ 360) (hxy : x0 ≤ y0) : Met l yX1_lay wsX1_lay ({ frames := 0, cells := 0, slots := 0, locals := 0 } : Room) (va_Pc [.ref h, .int (nI np), .int by0] (fun U => U.heap.size = sz ∧ va_P D vwCl (pic1 cI h a u th) U.heap ∧ va_K D vwCl [(cI, .int)] U ∧ va_D (fun _ => True) (pic1 cI h a u th))) ((fun A : Nat → Prop => va_Qv (fun w : MS × Int32 => w = ((mSc u, mNc u, mBc u, mNow u, mRoom u, mRate u, mSip u, mTea u, mSpl u, mAft u, mHt u, mFr u, mTo u, ccv (mCov u) x0 y0 by0 360, mPe u, mBe u), th)) (fun (w : MS × Int32) (t : State) => va_P D vwCl (pic1 cI h a w.1 w.2) t.heap ∧ va_K D vwCl [(cI, .int)] t ∧ va_D A (pic1 cI h a w.1 w.2)) A) (va_A (pic1 cI h a u th) sz)) 0 0 (va_A (pic1 cI h a u th) sz) := by
  refine en_wr (cc := cX1_lay) (maxL := 4) (ret := none) _ _ (fun A : Nat → Prop => va_Qv (fun w : MS × Int32 => w = ((mSc u, mNc u, mBc u, mNow u, mRoom u, mRate u, mSip u, mTea u, mSpl u, mAft u, mHt u, mFr u, mTo u, ccv (mCov u) x0 y0 by0 360, mPe u, mBe u), th)) (fun (w : MS × Int32) (t : State) => va_P D vwCl (pic1 cI h a w.1 w.2) t.heap ∧ va_K D vwCl [(cI, .int)] t ∧ va_D A (pic1 cI h a w.1 w.2)) A) (by decide) rfl (Nat.le_of_ble_eq_true rfl) ?_
  intro p e s m args below meth c ls A H locs hx hb hml hr hlocks hts hown hP hK hD hA hS hl
  have hown : s.vm.findClass RX1 = some m.cls := hown
  have hin : ∀ w ∈ wsX10, w ∈ wsX1_lay := fun _ h9 => List.mem_cons_of_mem _ (List.mem_append_right _ h9)
  have hl : lv_has ls 4 [(0, .ref h), (1, .int (nI np)), (2, .int by0)] := hl
  refine lv_aload_n hx hb dX1_lay_0 rfl (lv_at hl 0 rfl) ?_
  refine va_get (D := D) (ci := 1) (v := .ref (a 1)) (C := RX1) (T := TX1) (N := 17) hx hb hts hin hown hK hP 0 rfl rfl 4 (by decide) (hts (.fieldLink RX1 13 "AfternoonMeterModel" "from" "[I") (List.mem_of_getElem? (i := 1) rfl)) (fun _ h9 => h9) rfl dX1_lay_1 ?_
  refine lv_iload_n hx hb dX1_lay_4 rfl (lv_at hl 1 rfl) ?_
  refine q_iald (v := nI x0) hx hb hK hP 2 0 rfl rfl (by omega) (by decide) (hf1) dX1_lay_5 ?_
  refine lv_istore_n (lv' := [(3, .int (nI x0)), (0, .ref h), (1, .int (nI np)), (2, .int by0)]) hx hb dX1_lay_6 rfl hl (by decide) rfl (fun ls hl => ?_)
  have lp7 : ∀ (n k : Nat), k + n = y0 - x0 → ∀ (Z : Nat → Int32), Z = ccw (mCov u) x0 by0 k → ∀ (H : Heap) (locs : List Loc), va_P D vwCl [(h, .inr (1, [.int th, .int (nI (mSc u)), .ref (a 0), .int (nI (mNc u)), .ref (a 1), .ref (a 2), .ref (a 3), .int (nI (mBc u)), .ref (a 4), .ref (a 5), .int (nI (mRoom u)), .int (nI (mRate u)), .int (nI (mSip u)), .int (mAft u), .int (nI (mNow u)), .int (nI (mTea u)), .int (mSpl u)])), (a 0, .inl (cI, 4, .inl (mHt u))), (a 1, .inl (cI, 8, .inl (mFr u))), (a 2, .inl (cI, 8, .inl (mTo u))), (a 3, .inl (cI, 360, .inl Z)), (a 4, .inl (cI, 6, .inl (mPe u))), (a 5, .inl (cI, 6, .inl (mBe u)))] H → va_D A [(h, .inr (1, [.int th, .int (nI (mSc u)), .ref (a 0), .int (nI (mNc u)), .ref (a 1), .ref (a 2), .ref (a 3), .int (nI (mBc u)), .ref (a 4), .ref (a 5), .int (nI (mRoom u)), .int (nI (mRate u)), .int (nI (mSip u)), .int (mAft u), .int (nI (mNow u)), .int (nI (mTea u)), .int (mSpl u)])), (a 0, .inl (cI, 4, .inl (mHt u))), (a 1, .inl (cI, 8, .inl (mFr u))), (a 2, .inl (cI, 8, .inl (mTo u))), (a 3, .inl (cI, 360, .inl Z)), (a 4, .inl (cI, 6, .inl (mPe u))), (a 5, .inl (cI, 6, .inl (mBe u)))] → va_S A s.heap H locs → ∀ (ls : Array Slot), lv_has ls 4 [(0, .ref h), (1, .int (nI np)), (2, .int by0), (3, .int (nI (x0 + k)))] → W p l e ({ frames := 0, cells := 0, slots := 0, locals := 0 } : Room) s m args below meth c H locs 0 0 (MQ below ((fun A : Nat → Prop => va_Qv (fun w : MS × Int32 => w = ((mSc u, mNc u, mBc u, mNow u, mRoom u, mRate u, mSip u, mTea u, mSpl u, mAft u, mHt u, mFr u, mTo u, ccv (mCov u) x0 y0 by0 360, mPe u, mBe u), th)) (fun (w : MS × Int32) (t : State) => va_P D vwCl (pic1 cI h a w.1 w.2) t.heap ∧ va_K D vwCl [(cI, .int)] t ∧ va_D A (pic1 cI h a w.1 w.2)) A) A) args s 0 0 A) (F0 m 7 ls []) := by
    intro n
    induction n with
    | zero =>
      intro k hk Z eZ H locs hP hD hS ls hl
      have ek : k = y0 - x0 := by omega
      refine lv_iload_n hx hb dX1_lay_7 rfl (lv_at hl 3 rfl) ?_
      refine lv_aload_n hx hb dX1_lay_8 rfl (lv_at hl 0 rfl) ?_
      refine va_get (D := D) (ci := 1) (v := .ref (a 2)) (C := RX1) (T := TX1) (N := 17) hx hb hts hin hown hK hP 0 rfl rfl 5 (by decide) (hts (.fieldLink RX1 16 "AfternoonMeterModel" "to" "[I") (List.mem_of_getElem? (i := 2) rfl)) (fun _ h9 => h9) rfl dX1_lay_9 ?_
      refine lv_iload_n hx hb dX1_lay_12 rfl (lv_at hl 1 rfl) ?_
      refine q_iald (v := nI y0) hx hb hK hP 3 0 rfl rfl (by omega) (by decide) (hf2) dX1_lay_13 ?_
      refine lv_icmp_ge (tgt := 33) hx hb dX1_lay_14 (by decide) (fun c_14 => ?_) (fun c_14 => ?_)
      · skip
        replace c_14 : y0 ≤ (x0 + k) := leN c_14
        have hq : (((mSc u, mNc u, mBc u, mNow u, mRoom u, mRate u, mSip u, mTea u, mSpl u, mAft u, mHt u, mFr u, mTo u, Z, mPe u, mBe u), th) : MS × Int32) = ((mSc u, mNc u, mBc u, mNow u, mRoom u, mRate u, mSip u, mTea u, mSpl u, mAft u, mHt u, mFr u, mTo u, ccv (mCov u) x0 y0 by0 360, mPe u, mBe u), th) := by rw [eZ, ek, ccw_eq (by omega) (by omega)]
        exact W.vret hx hb hr (fun t ht hW => ⟨⟨(((mSc u, mNc u, mBc u, mNow u, mRoom u, mRate u, mSip u, mTea u, mSpl u, mAft u, mHt u, mFr u, mTo u, Z, mPe u, mBe u), th) : MS × Int32), rfl, hq, by rw [ht]; exact hP, va_K.moved hW.alike hK, hD⟩, hS.F ht⟩) hS.2.2 dX1_lay_33
      · skip
        replace c_14 : (x0 + k) < y0 := nleN c_14
        exact (by omega : False).elim
    | succ n ih =>
      intro k hk Z eZ H locs hP hD hS ls hl
      refine lv_iload_n hx hb dX1_lay_7 rfl (lv_at hl 3 rfl) ?_
      refine lv_aload_n hx hb dX1_lay_8 rfl (lv_at hl 0 rfl) ?_
      refine va_get (D := D) (ci := 1) (v := .ref (a 2)) (C := RX1) (T := TX1) (N := 17) hx hb hts hin hown hK hP 0 rfl rfl 5 (by decide) (hts (.fieldLink RX1 16 "AfternoonMeterModel" "to" "[I") (List.mem_of_getElem? (i := 2) rfl)) (fun _ h9 => h9) rfl dX1_lay_9 ?_
      refine lv_iload_n hx hb dX1_lay_12 rfl (lv_at hl 1 rfl) ?_
      refine q_iald (v := nI y0) hx hb hK hP 3 0 rfl rfl (by omega) (by decide) (hf2) dX1_lay_13 ?_
      refine lv_icmp_ge (tgt := 33) hx hb dX1_lay_14 (by decide) (fun c_14 => ?_) (fun c_14 => ?_)
      · skip
        replace c_14 : y0 ≤ (x0 + k) := leN c_14
        exact (by omega : False).elim
      · skip
        replace c_14 : (x0 + k) < y0 := nleN c_14
        refine lv_aload_n hx hb dX1_lay_17 rfl (lv_at hl 0 rfl) ?_
        refine va_get (D := D) (ci := 1) (v := .ref (a 3)) (C := RX1) (T := TX1) (N := 17) hx hb hts hin hown hK hP 0 rfl rfl 6 (by decide) (hts (.fieldLink RX1 19 "AfternoonMeterModel" "cover" "[I") (List.mem_of_getElem? (i := 3) rfl)) (fun _ h9 => h9) rfl dX1_lay_18 ?_
        refine lv_iload_n hx hb dX1_lay_21 rfl (lv_at hl 3 rfl) ?_
        refine lv_dup2_11 hx hb dX1_lay_22 rfl rfl ?_
        refine q_iald (v := Z (x0 + k)) hx hb hK hP 4 0 rfl rfl (by omega) (by decide) (rfl) dX1_lay_23 ?_
        refine lv_iload_n hx hb dX1_lay_24 rfl (lv_at hl 2 rfl) ?_
        refine lv_iadd hx hb dX1_lay_25 ?_
        refine q_iast hx hb hK hP hD hS 4 0 rfl rfl (by omega) (by decide) dX1_lay_26 (fun H locs hP hD hS => ?_)
        have hP : va_P D vwCl [(h, .inr (1, [.int th, .int (nI (mSc u)), .ref (a 0), .int (nI (mNc u)), .ref (a 1), .ref (a 2), .ref (a 3), .int (nI (mBc u)), .ref (a 4), .ref (a 5), .int (nI (mRoom u)), .int (nI (mRate u)), .int (nI (mSip u)), .int (mAft u), .int (nI (mNow u)), .int (nI (mTea u)), .int (mSpl u)])), (a 0, .inl (cI, 4, .inl (mHt u))), (a 1, .inl (cI, 8, .inl (mFr u))), (a 2, .inl (cI, 8, .inl (mTo u))), (a 3, .inl (cI, 360, .inl (upd Z (x0 + k) ((Z (x0 + k)) + by0)))), (a 4, .inl (cI, 6, .inl (mPe u))), (a 5, .inl (cI, 6, .inl (mBe u)))] H := hP
        have hD : va_D A [(h, .inr (1, [.int th, .int (nI (mSc u)), .ref (a 0), .int (nI (mNc u)), .ref (a 1), .ref (a 2), .ref (a 3), .int (nI (mBc u)), .ref (a 4), .ref (a 5), .int (nI (mRoom u)), .int (nI (mRate u)), .int (nI (mSip u)), .int (mAft u), .int (nI (mNow u)), .int (nI (mTea u)), .int (mSpl u)])), (a 0, .inl (cI, 4, .inl (mHt u))), (a 1, .inl (cI, 8, .inl (mFr u))), (a 2, .inl (cI, 8, .inl (mTo u))), (a 3, .inl (cI, 360, .inl (upd Z (x0 + k) ((Z (x0 + k)) + by0)))), (a 4, .inl (cI, 6, .inl (mPe u))), (a 5, .inl (cI, 6, .inl (mBe u)))] := hD
        refine lv_iinc (v := nI (x0 + k + 1)) (lv' := [(3, .int (nI (x0 + k + 1))), (0, .ref h), (1, .int (nI np)), (2, .int by0)]) hx hb dX1_lay_27 hl (k := 3) rfl (nI_i1 _) (by decide) rfl (fun ls hl => ?_)
        refine lv_goto (tgt := 7) hx hb dX1_lay_30 (by decide) ?_
        exact ih (k + 1) (by omega) (upd Z (x0 + k) ((Z (x0 + k)) + by0)) (by subst eZ; exact ccw_s) H locs hP hD hS _ (lv_sub hl [1, 2, 3, 0] rfl)
  exact lp7 _ 0 (Nat.zero_add _) (mCov u) (by exact ccw_0) _ _ hP hD hS _ (lv_sub hl [1, 2, 3, 0] rfl)
set_option maxHeartbeats 4000000 in
set_option maxRecDepth 100000 in
theorem c_X1_go (l : Launch) (D : va_G) (cI : ClassId) (h : Nat) (a : Nat → Nat) (u : MS) (th : Int32) (sz : Nat) (mm : Nat) (hI : Inv u) (hp : mNow u + mm ≤ 360) : Met l yX1_go wsX1_go ({ frames := 3, cells := 0, slots := 0, locals := 68 } : Room) (va_Pc [.ref h, .int (nI mm)] (fun U => U.heap.size = sz ∧ va_P D vwCl (pic1 cI h a u th) U.heap ∧ va_K D vwCl [(cI, .int)] U ∧ va_D (fun _ => True) (pic1 cI h a u th))) ((fun A : Nat → Prop => va_Qi (fun (r : Int32) (w : MS × Int32) => r = (psS u mm).1 ∧ w = ((mSc u, mNc u, mBc u, mNow u + mm, mRoom u, mRate u, mSip u, (psS u mm).2, mSpl u + (psS u mm).1, mAft u, mHt u, mFr u, mTo u, mCov u, mPe u, mBe u), th)) (fun (w : MS × Int32) (t : State) => va_P D vwCl (pic1 cI h a w.1 w.2) t.heap ∧ va_K D vwCl [(cI, .int)] t ∧ va_D A (pic1 cI h a w.1 w.2)) A) (va_A (pic1 cI h a u th) sz)) 0 0 (va_A (pic1 cI h a u th) sz) := by
  refine en_wr (cc := cX1_go) (maxL := 5) (ret := (some .int)) _ _ (fun A : Nat → Prop => va_Qi (fun (r : Int32) (w : MS × Int32) => r = (psS u mm).1 ∧ w = ((mSc u, mNc u, mBc u, mNow u + mm, mRoom u, mRate u, mSip u, (psS u mm).2, mSpl u + (psS u mm).1, mAft u, mHt u, mFr u, mTo u, mCov u, mPe u, mBe u), th)) (fun (w : MS × Int32) (t : State) => va_P D vwCl (pic1 cI h a w.1 w.2) t.heap ∧ va_K D vwCl [(cI, .int)] t ∧ va_D A (pic1 cI h a w.1 w.2)) A) (by decide) rfl (Nat.le_of_ble_eq_true rfl) ?_
  intro p e s m args below meth c ls A H locs hx hb hml hr hlocks hts hown hP hK hD hA hS hl
  have hown : s.vm.findClass RX1 = some m.cls := hown
  have hin : ∀ w ∈ wsX10, w ∈ wsX1_go := fun _ h9 => List.mem_cons_of_mem _ (List.mem_append_right _ h9)
  have hl : lv_has ls 5 [(0, .ref h), (1, .int (nI mm))] := hl
  obtain ⟨hIa, hIb, hIc, hId, hIe, hIf, hIg, hIh, hIi, hIj⟩ := id hI
  refine lv_iconst (v := nI 0) hx hb dX1_go_0 (by decide +kernel) ?_
  refine lv_istore_n (lv' := [(2, .int (nI 0)), (0, .ref h), (1, .int (nI mm))]) hx hb dX1_go_1 rfl hl (by decide) rfl (fun ls hl => ?_)
  refine lv_iconst (v := nI 0) hx hb dX1_go_2 (by decide +kernel) ?_
  refine lv_istore_n (lv' := [(3, .int (nI 0)), (2, .int (nI 0)), (0, .ref h), (1, .int (nI mm))]) hx hb dX1_go_3 rfl hl (by decide) rfl (fun ls hl => ?_)
  have lp4 : ∀ (n k : Nat), k + n = mm → ∀ (X : Int32), X = (psS u k).1 → ∀ (Y : Nat), Y = (psS u k).2 → ∀ (T : Nat), T = mNow u + k → Y ≤ mRoom u → ∀ (H : Heap) (locs : List Loc), va_P D vwCl [(h, .inr (1, [.int th, .int (nI (mSc u)), .ref (a 0), .int (nI (mNc u)), .ref (a 1), .ref (a 2), .ref (a 3), .int (nI (mBc u)), .ref (a 4), .ref (a 5), .int (nI (mRoom u)), .int (nI (mRate u)), .int (nI (mSip u)), .int (mAft u), .int (nI T), .int (nI Y), .int (mSpl u)])), (a 0, .inl (cI, 4, .inl (mHt u))), (a 1, .inl (cI, 8, .inl (mFr u))), (a 2, .inl (cI, 8, .inl (mTo u))), (a 3, .inl (cI, 360, .inl (mCov u))), (a 4, .inl (cI, 6, .inl (mPe u))), (a 5, .inl (cI, 6, .inl (mBe u)))] H → va_D A [(h, .inr (1, [.int th, .int (nI (mSc u)), .ref (a 0), .int (nI (mNc u)), .ref (a 1), .ref (a 2), .ref (a 3), .int (nI (mBc u)), .ref (a 4), .ref (a 5), .int (nI (mRoom u)), .int (nI (mRate u)), .int (nI (mSip u)), .int (mAft u), .int (nI T), .int (nI Y), .int (mSpl u)])), (a 0, .inl (cI, 4, .inl (mHt u))), (a 1, .inl (cI, 8, .inl (mFr u))), (a 2, .inl (cI, 8, .inl (mTo u))), (a 3, .inl (cI, 360, .inl (mCov u))), (a 4, .inl (cI, 6, .inl (mPe u))), (a 5, .inl (cI, 6, .inl (mBe u)))] → va_S A s.heap H locs → ∀ (ls : Array Slot), lv_has ls 5 [(0, .ref h), (1, .int (nI mm)), (2, .int X), (3, .int (nI k))] → W p l e ({ frames := 3, cells := 0, slots := 0, locals := 68 } : Room) s m args below meth c H locs 0 0 (MQ below ((fun A : Nat → Prop => va_Qi (fun (r : Int32) (w : MS × Int32) => r = (psS u mm).1 ∧ w = ((mSc u, mNc u, mBc u, mNow u + mm, mRoom u, mRate u, mSip u, (psS u mm).2, mSpl u + (psS u mm).1, mAft u, mHt u, mFr u, mTo u, mCov u, mPe u, mBe u), th)) (fun (w : MS × Int32) (t : State) => va_P D vwCl (pic1 cI h a w.1 w.2) t.heap ∧ va_K D vwCl [(cI, .int)] t ∧ va_D A (pic1 cI h a w.1 w.2)) A) A) args s 0 0 A) (F0 m 4 ls []) := by
    intro n
    induction n with
    | zero =>
      intro k hk X eX Y eY T eT hY H locs hP hD hS ls hl
      have ek : k = mm := by omega
      refine lv_iload_n hx hb dX1_go_4 rfl (lv_at hl 3 rfl) ?_
      refine lv_iload_n hx hb dX1_go_5 rfl (lv_at hl 1 rfl) ?_
      refine lv_icmp_ge (tgt := 66) hx hb dX1_go_6 (by decide) (fun c_6 => ?_) (fun c_6 => ?_)
      · skip
        replace c_6 : mm ≤ k := leN c_6
        refine lv_aload_n hx hb dX1_go_66 rfl (lv_at hl 0 rfl) ?_
        refine lv_dup hx hb dX1_go_67 rfl ?_
        refine va_get (D := D) (ci := 1) (v := .int (mSpl u)) (C := RX1) (T := TX1) (N := 17) hx hb hts hin hown hK hP 0 rfl rfl 16 (by decide) (hts (.fieldLink RX1 94 "AfternoonMeterModel" "spilt" "I") (List.mem_of_getElem? (i := 9) rfl)) (fun _ h9 => h9) rfl dX1_go_68 ?_
        refine lv_iload_n hx hb dX1_go_71 rfl (lv_at hl 2 rfl) ?_
        refine lv_iadd hx hb dX1_go_72 ?_
        refine va_put (D := D) (ci := 1) (v := .int ((mSpl u) + X)) (ty := .int) (C := RX1) (T := TX1) (N := 17) hx hb hts hin tyX1 tyX1_ok nmX1 hown hK hP hD hS 0 rfl rfl 16 (by decide) (hts (.fieldLink RX1 94 "AfternoonMeterModel" "spilt" "I") (List.mem_of_getElem? (i := 9) rfl)) (fun _ h9 => h9) rfl (by decide +kernel) rfl rfl (Nat.le_of_ble_eq_true rfl) dX1_go_73 (fun H locs hP hD hS => ?_)
        have hP : va_P D vwCl [(h, .inr (1, [.int th, .int (nI (mSc u)), .ref (a 0), .int (nI (mNc u)), .ref (a 1), .ref (a 2), .ref (a 3), .int (nI (mBc u)), .ref (a 4), .ref (a 5), .int (nI (mRoom u)), .int (nI (mRate u)), .int (nI (mSip u)), .int (mAft u), .int (nI T), .int (nI Y), .int ((mSpl u) + X)])), (a 0, .inl (cI, 4, .inl (mHt u))), (a 1, .inl (cI, 8, .inl (mFr u))), (a 2, .inl (cI, 8, .inl (mTo u))), (a 3, .inl (cI, 360, .inl (mCov u))), (a 4, .inl (cI, 6, .inl (mPe u))), (a 5, .inl (cI, 6, .inl (mBe u)))] H := hP
        have hD : va_D A [(h, .inr (1, [.int th, .int (nI (mSc u)), .ref (a 0), .int (nI (mNc u)), .ref (a 1), .ref (a 2), .ref (a 3), .int (nI (mBc u)), .ref (a 4), .ref (a 5), .int (nI (mRoom u)), .int (nI (mRate u)), .int (nI (mSip u)), .int (mAft u), .int (nI T), .int (nI Y), .int ((mSpl u) + X)])), (a 0, .inl (cI, 4, .inl (mHt u))), (a 1, .inl (cI, 8, .inl (mFr u))), (a 2, .inl (cI, 8, .inl (mTo u))), (a 3, .inl (cI, 360, .inl (mCov u))), (a 4, .inl (cI, 6, .inl (mPe u))), (a 5, .inl (cI, 6, .inl (mBe u)))] := hD
        refine lv_iload_n hx hb dX1_go_76 rfl (lv_at hl 2 rfl) ?_
        have hq : X = (psS u mm).1 ∧ (((mSc u, mNc u, mBc u, T, mRoom u, mRate u, mSip u, Y, (mSpl u) + X, mAft u, mHt u, mFr u, mTo u, mCov u, mPe u, mBe u), th) : MS × Int32) = ((mSc u, mNc u, mBc u, mNow u + mm, mRoom u, mRate u, mSip u, (psS u mm).2, mSpl u + (psS u mm).1, mAft u, mHt u, mFr u, mTo u, mCov u, mPe u, mBe u), th) := by rw [eX, eY, eT, ek]; exact ⟨rfl, rfl⟩
        exact W.iret hx hb hr (fun t ht hW => ⟨⟨_, (((mSc u, mNc u, mBc u, T, mRoom u, mRate u, mSip u, Y, (mSpl u) + X, mAft u, mHt u, mFr u, mTo u, mCov u, mPe u, mBe u), th) : MS × Int32), rfl, hq, by rw [ht]; exact hP, va_K.moved hW.alike hK, hD⟩, hS.F ht⟩) hS.2.2 dX1_go_77
      · skip
        replace c_6 : k < mm := nleN c_6
        exact (by omega : False).elim
    | succ n ih =>
      intro k hk X eX Y eY T eT hY H locs hP hD hS ls hl
      refine lv_iload_n hx hb dX1_go_4 rfl (lv_at hl 3 rfl) ?_
      refine lv_iload_n hx hb dX1_go_5 rfl (lv_at hl 1 rfl) ?_
      refine lv_icmp_ge (tgt := 66) hx hb dX1_go_6 (by decide) (fun c_6 => ?_) (fun c_6 => ?_)
      · skip
        replace c_6 : mm ≤ k := leN c_6
        exact (by omega : False).elim
      · skip
        replace c_6 : k < mm := nleN c_6
        refine lv_aload_n hx hb dX1_go_9 rfl (lv_at hl 0 rfl) ?_
        refine lv_aload_n hx hb dX1_go_10 rfl (lv_at hl 0 rfl) ?_
        refine va_get (D := D) (ci := 1) (v := .int (nI T)) (C := RX1) (T := TX1) (N := 17) hx hb hts hin hown hK hP 0 rfl rfl 14 (by decide) (hts (.fieldLink RX1 64 "AfternoonMeterModel" "minute" "I") (List.mem_of_getElem? (i := 1) rfl)) (fun _ h9 => h9) rfl dX1_go_11 ?_
        refine lv_aload_n hx hb dX1_go_14 rfl (lv_at hl 0 rfl) ?_
        refine va_get (D := D) (ci := 1) (v := .int (nI Y)) (C := RX1) (T := TX1) (N := 17) hx hb hts hin hown hK hP 0 rfl rfl 15 (by decide) (hts (.fieldLink RX1 87 "AfternoonMeterModel" "tea" "I") (List.mem_of_getElem? (i := 2) rfl)) (fun _ h9 => h9) rfl dX1_go_15 ?_
        refine lv_aload_n hx hb dX1_go_18 rfl (lv_at hl 0 rfl) ?_
        refine va_get (D := D) (ci := 1) (v := .int (nI (mRate u))) (C := RX1) (T := TX1) (N := 17) hx hb hts hin hown hK hP 0 rfl rfl 11 (by decide) (hts (.fieldLink RX1 32 "AfternoonMeterModel" "rate" "I") (List.mem_of_getElem? (i := 3) rfl)) (fun _ h9 => h9) rfl dX1_go_19 ?_
        refine vp_callSi (W.runV (As := [.int (nI T), .int (nI Y), .int (nI (mRate u))]) (rest := []) ⟨hx, hb, hml, hown, hts⟩ (c_X1_poured l D cI h a (mSc u, mNc u, mBc u, T, mRoom u, mRate u, mSip u, Y, mSpl u, mAft u, mHt u, mFr u, mTo u, mCov u, mPe u, mBe u) th T Y (mRate u) (inv_pt hI (by omega) (by omega)) (by omega) (by omega) (by omega)) (cwV 3 hts gX1_go_X1_poured rfl rfl rfl (by decide +kernel) ⟨Nat.le_of_ble_eq_true rfl, Nat.le_of_ble_eq_true rfl⟩) (pu_pre hK hP rfl rfl) rfl rfl hl.1 rfl (lv_room (Nat.le_of_ble_eq_true rfl)) dX1_go_22 ⟨Nat.le_of_ble_eq_true rfl, Nat.le_of_ble_eq_true rfl⟩) (fun r hr => ?_)
        subst hr
        have hca := cAf_le u T Y (mRate u)
        refine lv_istore (lv' := [(4, .int (nI (cAf u T Y (mRate u)))), (0, .ref h), (1, .int (nI mm)), (2, .int X), (3, .int (nI k))]) hx hb dX1_go_25 hl (by decide) rfl (fun ls hl => ?_)
        refine lv_aload_n hx hb dX1_go_27 rfl (lv_at hl 1 rfl) ?_
        refine lv_aload_n hx hb dX1_go_28 rfl (lv_at hl 1 rfl) ?_
        refine va_get (D := D) (ci := 1) (v := .int (nI (mRoom u))) (C := RX1) (T := TX1) (N := 17) hx hb hts hin hown hK hP 0 rfl rfl 10 (by decide) (hts (.fieldLink RX1 28 "AfternoonMeterModel" "room" "I") (List.mem_of_getElem? (i := 4) rfl)) (fun _ h9 => h9) rfl dX1_go_29 ?_
        refine lv_iload hx hb dX1_go_32 (lv_at hl 0 rfl) ?_
        refine va_mmin hx hb (hml.trans hl.1.symm) hown (hts (.methodLink RX1 84 Lib.Math.min.name) (List.mem_of_getElem? (i := 5) rfl)) (hts (.static Lib.Math.min.name) (List.mem_of_getElem? (i := 6) rfl)) (hts (.initialized "java/lang/Math") (List.mem_of_getElem? (i := 7) rfl)) (hts _ (List.mem_of_getElem? (i := 8) rfl)) (Nat.le_of_ble_eq_true rfl) (Nat.le_of_ble_eq_true rfl) (Nat.le_of_ble_eq_true rfl) (Nat.le_of_ble_eq_true rfl) dX1_go_34 ?_
        rw [show (if nI (cAf u T Y (mRate u)) < nI (mRoom u) then nI (cAf u T Y (mRate u)) else nI (mRoom u)) = nI (cAf u T Y (mRate u) - (cAf u T Y (mRate u) - mRoom u)) from (mnN (by omega) (by omega)).trans (congrArg nI (by omega))]
        refine va_put (D := D) (ci := 1) (v := .int (nI (cAf u T Y (mRate u) - (cAf u T Y (mRate u) - mRoom u)))) (ty := .int) (C := RX1) (T := TX1) (N := 17) hx hb hts hin tyX1 tyX1_ok nmX1 hown hK hP hD hS 0 rfl rfl 15 (by decide) (hts (.fieldLink RX1 87 "AfternoonMeterModel" "tea" "I") (List.mem_of_getElem? (i := 2) rfl)) (fun _ h9 => h9) rfl (by decide +kernel) rfl rfl (Nat.le_of_ble_eq_true rfl) dX1_go_37 (fun H locs hP hD hS => ?_)
        have hP : va_P D vwCl [(h, .inr (1, [.int th, .int (nI (mSc u)), .ref (a 0), .int (nI (mNc u)), .ref (a 1), .ref (a 2), .ref (a 3), .int (nI (mBc u)), .ref (a 4), .ref (a 5), .int (nI (mRoom u)), .int (nI (mRate u)), .int (nI (mSip u)), .int (mAft u), .int (nI T), .int (nI (cAf u T Y (mRate u) - (cAf u T Y (mRate u) - mRoom u))), .int (mSpl u)])), (a 0, .inl (cI, 4, .inl (mHt u))), (a 1, .inl (cI, 8, .inl (mFr u))), (a 2, .inl (cI, 8, .inl (mTo u))), (a 3, .inl (cI, 360, .inl (mCov u))), (a 4, .inl (cI, 6, .inl (mPe u))), (a 5, .inl (cI, 6, .inl (mBe u)))] H := hP
        have hD : va_D A [(h, .inr (1, [.int th, .int (nI (mSc u)), .ref (a 0), .int (nI (mNc u)), .ref (a 1), .ref (a 2), .ref (a 3), .int (nI (mBc u)), .ref (a 4), .ref (a 5), .int (nI (mRoom u)), .int (nI (mRate u)), .int (nI (mSip u)), .int (mAft u), .int (nI T), .int (nI (cAf u T Y (mRate u) - (cAf u T Y (mRate u) - mRoom u))), .int (mSpl u)])), (a 0, .inl (cI, 4, .inl (mHt u))), (a 1, .inl (cI, 8, .inl (mFr u))), (a 2, .inl (cI, 8, .inl (mTo u))), (a 3, .inl (cI, 360, .inl (mCov u))), (a 4, .inl (cI, 6, .inl (mPe u))), (a 5, .inl (cI, 6, .inl (mBe u)))] := hD
        refine lv_iload_n hx hb dX1_go_40 rfl (lv_at hl 3 rfl) ?_
        refine lv_iload hx hb dX1_go_41 (lv_at hl 0 rfl) ?_
        refine lv_aload_n hx hb dX1_go_43 rfl (lv_at hl 1 rfl) ?_
        refine va_get (D := D) (ci := 1) (v := .int (nI (cAf u T Y (mRate u) - (cAf u T Y (mRate u) - mRoom u)))) (C := RX1) (T := TX1) (N := 17) hx hb hts hin hown hK hP 0 rfl rfl 15 (by decide) (hts (.fieldLink RX1 87 "AfternoonMeterModel" "tea" "I") (List.mem_of_getElem? (i := 2) rfl)) (fun _ h9 => h9) rfl dX1_go_44 ?_
        refine q_isubN hx hb (by omega) dX1_go_47 ?_
        refine lv_iadd hx hb dX1_go_48 ?_
        refine lv_istore_n (lv' := [(2, .int (X + (nI ((cAf u T Y (mRate u)) - (cAf u T Y (mRate u) - (cAf u T Y (mRate u) - mRoom u)))))), (4, .int (nI (cAf u T Y (mRate u)))), (0, .ref h), (1, .int (nI mm)), (3, .int (nI k))]) hx hb dX1_go_49 rfl hl (by decide) rfl (fun ls hl => ?_)
        refine lv_aload_n hx hb dX1_go_50 rfl (lv_at hl 2 rfl) ?_
        refine lv_dup hx hb dX1_go_51 rfl ?_
        refine va_get (D := D) (ci := 1) (v := .int (nI T)) (C := RX1) (T := TX1) (N := 17) hx hb hts hin hown hK hP 0 rfl rfl 14 (by decide) (hts (.fieldLink RX1 64 "AfternoonMeterModel" "minute" "I") (List.mem_of_getElem? (i := 1) rfl)) (fun _ h9 => h9) rfl dX1_go_52 ?_
        refine lv_iconst (v := nI 1) hx hb dX1_go_55 (by decide +kernel) ?_
        refine q_iaddN hx hb dX1_go_56 ?_
        refine va_put (D := D) (ci := 1) (v := .int (nI (T + 1))) (ty := .int) (C := RX1) (T := TX1) (N := 17) hx hb hts hin tyX1 tyX1_ok nmX1 hown hK hP hD hS 0 rfl rfl 14 (by decide) (hts (.fieldLink RX1 64 "AfternoonMeterModel" "minute" "I") (List.mem_of_getElem? (i := 1) rfl)) (fun _ h9 => h9) rfl (by decide +kernel) rfl rfl (Nat.le_of_ble_eq_true rfl) dX1_go_57 (fun H locs hP hD hS => ?_)
        have hP : va_P D vwCl [(h, .inr (1, [.int th, .int (nI (mSc u)), .ref (a 0), .int (nI (mNc u)), .ref (a 1), .ref (a 2), .ref (a 3), .int (nI (mBc u)), .ref (a 4), .ref (a 5), .int (nI (mRoom u)), .int (nI (mRate u)), .int (nI (mSip u)), .int (mAft u), .int (nI (T + 1)), .int (nI (cAf u T Y (mRate u) - (cAf u T Y (mRate u) - mRoom u))), .int (mSpl u)])), (a 0, .inl (cI, 4, .inl (mHt u))), (a 1, .inl (cI, 8, .inl (mFr u))), (a 2, .inl (cI, 8, .inl (mTo u))), (a 3, .inl (cI, 360, .inl (mCov u))), (a 4, .inl (cI, 6, .inl (mPe u))), (a 5, .inl (cI, 6, .inl (mBe u)))] H := hP
        have hD : va_D A [(h, .inr (1, [.int th, .int (nI (mSc u)), .ref (a 0), .int (nI (mNc u)), .ref (a 1), .ref (a 2), .ref (a 3), .int (nI (mBc u)), .ref (a 4), .ref (a 5), .int (nI (mRoom u)), .int (nI (mRate u)), .int (nI (mSip u)), .int (mAft u), .int (nI (T + 1)), .int (nI (cAf u T Y (mRate u) - (cAf u T Y (mRate u) - mRoom u))), .int (mSpl u)])), (a 0, .inl (cI, 4, .inl (mHt u))), (a 1, .inl (cI, 8, .inl (mFr u))), (a 2, .inl (cI, 8, .inl (mTo u))), (a 3, .inl (cI, 360, .inl (mCov u))), (a 4, .inl (cI, 6, .inl (mPe u))), (a 5, .inl (cI, 6, .inl (mBe u)))] := hD
        refine lv_iinc (v := nI (k + 1)) (lv' := [(3, .int (nI (k + 1))), (2, .int (X + (nI ((cAf u T Y (mRate u)) - (cAf u T Y (mRate u) - (cAf u T Y (mRate u) - mRoom u)))))), (4, .int (nI (cAf u T Y (mRate u)))), (0, .ref h), (1, .int (nI mm))]) hx hb dX1_go_60 hl (k := 4) rfl (nI_i1 _) (by decide) rfl (fun ls hl => ?_)
        refine lv_goto (tgt := 4) hx hb dX1_go_63 (by decide) ?_
        exact ih (k + 1) (by omega) (X + (nI ((cAf u T Y (mRate u)) - (cAf u T Y (mRate u) - (cAf u T Y (mRate u) - mRoom u))))) (by subst eX eY eT; exact congrArg (fun z => (psS u k).1 + nI z) (sub3 _ _)) (cAf u T Y (mRate u) - (cAf u T Y (mRate u) - mRoom u)) (by subst eX eY eT; rfl) (T + 1) (by subst eT; rfl) (by omega) H locs hP hD hS _ (lv_sub hl [3, 4, 1, 0] rfl)
  exact lp4 _ 0 (Nat.zero_add _) (nI 0) (by rfl) (mTea u) (by rfl) (mNow u) (by rfl) (by omega) _ _ hP hD hS _ (lv_sub hl [2, 3, 1, 0] rfl)
set_option maxHeartbeats 4000000 in
set_option maxRecDepth 100000 in
theorem c_X1_afternoon (l : Launch) (D : va_G) (cI : ClassId) (h : Nat) (a : Nat → Nat) (u : MS) (th : Int32) (sz : Nat) : Met l yX1_afternoon wsX1_afternoon ({ frames := 1, cells := 0, slots := 0, locals := 21 } : Room) (va_Pc [.ref h] (fun U => U.heap.size = sz ∧ va_P D vwCl (pic1 cI h a u th) U.heap ∧ va_K D vwCl [(cI, .int)] U ∧ va_D (fun _ => True) (pic1 cI h a u th))) ((fun A : Nat → Prop => va_Qi (fun (r : Int32) (w : MS × Int32) => r = mAft u ∧ w = ((mSc u, mNc u, mBc u, mNow u, mRoom u, mRate u, mSip u, mTea u, mSpl u, mAft u, mHt u, mFr u, mTo u, mCov u, mPe u, mBe u), nI 0)) (fun (w : MS × Int32) (t : State) => va_P D vwCl (pic1 cI h a w.1 w.2) t.heap ∧ va_K D vwCl [(cI, .int)] t ∧ va_D A (pic1 cI h a w.1 w.2)) A) (va_A (pic1 cI h a u th) sz)) 0 0 (va_A (pic1 cI h a u th) sz) := by
  refine en_wr (cc := cX1_afternoon) (maxL := 1) (ret := (some .int)) _ _ (fun A : Nat → Prop => va_Qi (fun (r : Int32) (w : MS × Int32) => r = mAft u ∧ w = ((mSc u, mNc u, mBc u, mNow u, mRoom u, mRate u, mSip u, mTea u, mSpl u, mAft u, mHt u, mFr u, mTo u, mCov u, mPe u, mBe u), nI 0)) (fun (w : MS × Int32) (t : State) => va_P D vwCl (pic1 cI h a w.1 w.2) t.heap ∧ va_K D vwCl [(cI, .int)] t ∧ va_D A (pic1 cI h a w.1 w.2)) A) (by decide) rfl (Nat.le_of_ble_eq_true rfl) ?_
  intro p e s m args below meth c ls A H locs hx hb hml hr hlocks hts hown hP hK hD hA hS hl
  have hown : s.vm.findClass RX1 = some m.cls := hown
  have hin : ∀ w ∈ wsX10, w ∈ wsX1_afternoon := fun _ h9 => List.mem_cons_of_mem _ (List.mem_append_right _ h9)
  have hl : lv_has ls 1 [(0, .ref h)] := hl
  refine lv_aload_n hx hb dX1_afternoon_0 rfl (lv_at hl 0 rfl) ?_
  refine lv_aload_n hx hb dX1_afternoon_1 rfl (lv_at hl 0 rfl) ?_
  refine va_get (D := D) (ci := 1) (v := .int (mAft u)) (C := RX1) (T := TX1) (N := 17) hx hb hts hin hown hK hP 0 rfl rfl 13 (by decide) (hts (.fieldLink RX1 113 "AfternoonMeterModel" "afternoon" "I") (List.mem_of_getElem? (i := 1) rfl)) (fun _ h9 => h9) rfl dX1_afternoon_2 ?_
  have hFc := va_free (wc := [(h, .inr (1, [.int th, .int (nI (mSc u)), .ref (a 0), .int (nI (mNc u)), .ref (a 1), .ref (a 2), .ref (a 3), .int (nI (mBc u)), .ref (a 4), .ref (a 5), .int (nI (mRoom u)), .int (nI (mRate u)), .int (nI (mSip u)), .int (mAft u), .int (nI (mNow u)), .int (nI (mTea u)), .int (mSpl u)])), (a 0, .inl (cI, 4, .inl (mHt u))), (a 1, .inl (cI, 8, .inl (mFr u))), (a 2, .inl (cI, 8, .inl (mTo u))), (a 3, .inl (cI, 360, .inl (mCov u))), (a 4, .inl (cI, 6, .inl (mPe u))), (a 5, .inl (cI, 6, .inl (mBe u)))]) hD hS hA [0, 1, 2, 3, 4, 5, 6] rfl
  refine va_calli (va_runV (As := [.int (mAft u)]) (rest := []) ⟨hx, hb, hml, hown, hts⟩ (c_X1_ok l D cI h a u th H.size (mAft u)) (cwV 1 hts gX1_afternoon_X1_ok rfl rfl rfl (by decide +kernel) ⟨Nat.le_of_ble_eq_true rfl, Nat.le_of_ble_eq_true rfl⟩) ⟨wr_blind, va_recv (ci := 1) (q0 := 0) hK hP rfl rfl, fun U hU hW => ⟨rfl, by rw [hU], by rw [hU]; exact hP, va_K.moved hW.alike hK, hD.weaken (fun _ _ _ _ => trivial)⟩⟩ rfl rfl hl.1 rfl (lv_room (Nat.le_of_ble_eq_true rfl)) dX1_afternoon_5 ⟨Nat.le_of_ble_eq_true rfl, Nat.le_of_ble_eq_true rfl⟩) hS (fun q _ h => hFc q h) hFc (fun r w t H locs ht hvm hw hB hz1 hk1 hS => ?_)
  obtain ⟨rfl, rfl⟩ := hw
  obtain ⟨hP1, hK1, hD1⟩ := hB
  rw [ht] at hP1
  have hP : va_P D vwCl [(h, .inr (1, [.int (nI 0), .int (nI (mSc u)), .ref (a 0), .int (nI (mNc u)), .ref (a 1), .ref (a 2), .ref (a 3), .int (nI (mBc u)), .ref (a 4), .ref (a 5), .int (nI (mRoom u)), .int (nI (mRate u)), .int (nI (mSip u)), .int (mAft u), .int (nI (mNow u)), .int (nI (mTea u)), .int (mSpl u)])), (a 0, .inl (cI, 4, .inl (mHt u))), (a 1, .inl (cI, 8, .inl (mFr u))), (a 2, .inl (cI, 8, .inl (mTo u))), (a 3, .inl (cI, 360, .inl (mCov u))), (a 4, .inl (cI, 6, .inl (mPe u))), (a 5, .inl (cI, 6, .inl (mBe u)))] H := hP1
  have hD : va_D A [(h, .inr (1, [.int (nI 0), .int (nI (mSc u)), .ref (a 0), .int (nI (mNc u)), .ref (a 1), .ref (a 2), .ref (a 3), .int (nI (mBc u)), .ref (a 4), .ref (a 5), .int (nI (mRoom u)), .int (nI (mRate u)), .int (nI (mSip u)), .int (mAft u), .int (nI (mNow u)), .int (nI (mTea u)), .int (mSpl u)])), (a 0, .inl (cI, 4, .inl (mHt u))), (a 1, .inl (cI, 8, .inl (mFr u))), (a 2, .inl (cI, 8, .inl (mTo u))), (a 3, .inl (cI, 360, .inl (mCov u))), (a 4, .inl (cI, 6, .inl (mPe u))), (a 5, .inl (cI, 6, .inl (mBe u)))] := hD1.weaken (fun k q _ h => hFc q.1 h)
  have hq : (mAft u) = mAft u ∧ (((mSc u, mNc u, mBc u, mNow u, mRoom u, mRate u, mSip u, mTea u, mSpl u, mAft u, mHt u, mFr u, mTo u, mCov u, mPe u, mBe u), nI 0) : MS × Int32) = ((mSc u, mNc u, mBc u, mNow u, mRoom u, mRate u, mSip u, mTea u, mSpl u, mAft u, mHt u, mFr u, mTo u, mCov u, mPe u, mBe u), nI 0) := by exact ⟨rfl, rfl⟩
  exact W.iret hx hb hr (fun t ht hW => ⟨⟨_, (((mSc u, mNc u, mBc u, mNow u, mRoom u, mRate u, mSip u, mTea u, mSpl u, mAft u, mHt u, mFr u, mTo u, mCov u, mPe u, mBe u), nI 0) : MS × Int32), rfl, hq, by rw [ht]; exact hP, va_K.moved hW.alike hK, hD⟩, hS.F ht⟩) hS.2.2 dX1_afternoon_8
set_option maxHeartbeats 4000000 in
set_option maxRecDepth 100000 in
theorem c_X1_minute (l : Launch) (D : va_G) (cI : ClassId) (h : Nat) (a : Nat → Nat) (u : MS) (th : Int32) (sz : Nat) : Met l yX1_minute wsX1_minute ({ frames := 1, cells := 0, slots := 0, locals := 21 } : Room) (va_Pc [.ref h] (fun U => U.heap.size = sz ∧ va_P D vwCl (pic1 cI h a u th) U.heap ∧ va_K D vwCl [(cI, .int)] U ∧ va_D (fun _ => True) (pic1 cI h a u th))) ((fun A : Nat → Prop => va_Qi (fun (r : Int32) (w : MS × Int32) => r = nI (mNow u) ∧ w = ((mSc u, mNc u, mBc u, mNow u, mRoom u, mRate u, mSip u, mTea u, mSpl u, mAft u, mHt u, mFr u, mTo u, mCov u, mPe u, mBe u), nI 0)) (fun (w : MS × Int32) (t : State) => va_P D vwCl (pic1 cI h a w.1 w.2) t.heap ∧ va_K D vwCl [(cI, .int)] t ∧ va_D A (pic1 cI h a w.1 w.2)) A) (va_A (pic1 cI h a u th) sz)) 0 0 (va_A (pic1 cI h a u th) sz) := by
  refine en_wr (cc := cX1_minute) (maxL := 1) (ret := (some .int)) _ _ (fun A : Nat → Prop => va_Qi (fun (r : Int32) (w : MS × Int32) => r = nI (mNow u) ∧ w = ((mSc u, mNc u, mBc u, mNow u, mRoom u, mRate u, mSip u, mTea u, mSpl u, mAft u, mHt u, mFr u, mTo u, mCov u, mPe u, mBe u), nI 0)) (fun (w : MS × Int32) (t : State) => va_P D vwCl (pic1 cI h a w.1 w.2) t.heap ∧ va_K D vwCl [(cI, .int)] t ∧ va_D A (pic1 cI h a w.1 w.2)) A) (by decide) rfl (Nat.le_of_ble_eq_true rfl) ?_
  intro p e s m args below meth c ls A H locs hx hb hml hr hlocks hts hown hP hK hD hA hS hl
  have hown : s.vm.findClass RX1 = some m.cls := hown
  have hin : ∀ w ∈ wsX10, w ∈ wsX1_minute := fun _ h9 => List.mem_cons_of_mem _ (List.mem_append_right _ h9)
  have hl : lv_has ls 1 [(0, .ref h)] := hl
  refine lv_aload_n hx hb dX1_minute_0 rfl (lv_at hl 0 rfl) ?_
  refine lv_aload_n hx hb dX1_minute_1 rfl (lv_at hl 0 rfl) ?_
  refine va_get (D := D) (ci := 1) (v := .int (nI (mNow u))) (C := RX1) (T := TX1) (N := 17) hx hb hts hin hown hK hP 0 rfl rfl 14 (by decide) (hts (.fieldLink RX1 64 "AfternoonMeterModel" "minute" "I") (List.mem_of_getElem? (i := 1) rfl)) (fun _ h9 => h9) rfl dX1_minute_2 ?_
  have hFc := va_free (wc := [(h, .inr (1, [.int th, .int (nI (mSc u)), .ref (a 0), .int (nI (mNc u)), .ref (a 1), .ref (a 2), .ref (a 3), .int (nI (mBc u)), .ref (a 4), .ref (a 5), .int (nI (mRoom u)), .int (nI (mRate u)), .int (nI (mSip u)), .int (mAft u), .int (nI (mNow u)), .int (nI (mTea u)), .int (mSpl u)])), (a 0, .inl (cI, 4, .inl (mHt u))), (a 1, .inl (cI, 8, .inl (mFr u))), (a 2, .inl (cI, 8, .inl (mTo u))), (a 3, .inl (cI, 360, .inl (mCov u))), (a 4, .inl (cI, 6, .inl (mPe u))), (a 5, .inl (cI, 6, .inl (mBe u)))]) hD hS hA [0, 1, 2, 3, 4, 5, 6] rfl
  refine va_calli (va_runV (As := [.int (nI (mNow u))]) (rest := []) ⟨hx, hb, hml, hown, hts⟩ (c_X1_ok l D cI h a u th H.size (nI (mNow u))) (cwV 1 hts gX1_minute_X1_ok rfl rfl rfl (by decide +kernel) ⟨Nat.le_of_ble_eq_true rfl, Nat.le_of_ble_eq_true rfl⟩) ⟨wr_blind, va_recv (ci := 1) (q0 := 0) hK hP rfl rfl, fun U hU hW => ⟨rfl, by rw [hU], by rw [hU]; exact hP, va_K.moved hW.alike hK, hD.weaken (fun _ _ _ _ => trivial)⟩⟩ rfl rfl hl.1 rfl (lv_room (Nat.le_of_ble_eq_true rfl)) dX1_minute_5 ⟨Nat.le_of_ble_eq_true rfl, Nat.le_of_ble_eq_true rfl⟩) hS (fun q _ h => hFc q h) hFc (fun r w t H locs ht hvm hw hB hz1 hk1 hS => ?_)
  obtain ⟨rfl, rfl⟩ := hw
  obtain ⟨hP1, hK1, hD1⟩ := hB
  rw [ht] at hP1
  have hP : va_P D vwCl [(h, .inr (1, [.int (nI 0), .int (nI (mSc u)), .ref (a 0), .int (nI (mNc u)), .ref (a 1), .ref (a 2), .ref (a 3), .int (nI (mBc u)), .ref (a 4), .ref (a 5), .int (nI (mRoom u)), .int (nI (mRate u)), .int (nI (mSip u)), .int (mAft u), .int (nI (mNow u)), .int (nI (mTea u)), .int (mSpl u)])), (a 0, .inl (cI, 4, .inl (mHt u))), (a 1, .inl (cI, 8, .inl (mFr u))), (a 2, .inl (cI, 8, .inl (mTo u))), (a 3, .inl (cI, 360, .inl (mCov u))), (a 4, .inl (cI, 6, .inl (mPe u))), (a 5, .inl (cI, 6, .inl (mBe u)))] H := hP1
  have hD : va_D A [(h, .inr (1, [.int (nI 0), .int (nI (mSc u)), .ref (a 0), .int (nI (mNc u)), .ref (a 1), .ref (a 2), .ref (a 3), .int (nI (mBc u)), .ref (a 4), .ref (a 5), .int (nI (mRoom u)), .int (nI (mRate u)), .int (nI (mSip u)), .int (mAft u), .int (nI (mNow u)), .int (nI (mTea u)), .int (mSpl u)])), (a 0, .inl (cI, 4, .inl (mHt u))), (a 1, .inl (cI, 8, .inl (mFr u))), (a 2, .inl (cI, 8, .inl (mTo u))), (a 3, .inl (cI, 360, .inl (mCov u))), (a 4, .inl (cI, 6, .inl (mPe u))), (a 5, .inl (cI, 6, .inl (mBe u)))] := hD1.weaken (fun k q _ h => hFc q.1 h)
  have hq : (nI (mNow u)) = nI (mNow u) ∧ (((mSc u, mNc u, mBc u, mNow u, mRoom u, mRate u, mSip u, mTea u, mSpl u, mAft u, mHt u, mFr u, mTo u, mCov u, mPe u, mBe u), nI 0) : MS × Int32) = ((mSc u, mNc u, mBc u, mNow u, mRoom u, mRate u, mSip u, mTea u, mSpl u, mAft u, mHt u, mFr u, mTo u, mCov u, mPe u, mBe u), nI 0) := by exact ⟨rfl, rfl⟩
  exact W.iret hx hb hr (fun t ht hW => ⟨⟨_, (((mSc u, mNc u, mBc u, mNow u, mRoom u, mRate u, mSip u, mTea u, mSpl u, mAft u, mHt u, mFr u, mTo u, mCov u, mPe u, mBe u), nI 0) : MS × Int32), rfl, hq, by rw [ht]; exact hP, va_K.moved hW.alike hK, hD⟩, hS.F ht⟩) hS.2.2 dX1_minute_8
set_option maxHeartbeats 4000000 in
set_option maxRecDepth 100000 in
theorem c_X1_sticks (l : Launch) (D : va_G) (cI : ClassId) (h : Nat) (a : Nat → Nat) (u : MS) (th : Int32) (sz : Nat) : Met l yX1_sticks wsX1_sticks ({ frames := 1, cells := 0, slots := 0, locals := 21 } : Room) (va_Pc [.ref h] (fun U => U.heap.size = sz ∧ va_P D vwCl (pic1 cI h a u th) U.heap ∧ va_K D vwCl [(cI, .int)] U ∧ va_D (fun _ => True) (pic1 cI h a u th))) ((fun A : Nat → Prop => va_Qi (fun (r : Int32) (w : MS × Int32) => r = nI (mSc u) ∧ w = ((mSc u, mNc u, mBc u, mNow u, mRoom u, mRate u, mSip u, mTea u, mSpl u, mAft u, mHt u, mFr u, mTo u, mCov u, mPe u, mBe u), nI 0)) (fun (w : MS × Int32) (t : State) => va_P D vwCl (pic1 cI h a w.1 w.2) t.heap ∧ va_K D vwCl [(cI, .int)] t ∧ va_D A (pic1 cI h a w.1 w.2)) A) (va_A (pic1 cI h a u th) sz)) 0 0 (va_A (pic1 cI h a u th) sz) := by
  refine en_wr (cc := cX1_sticks) (maxL := 1) (ret := (some .int)) _ _ (fun A : Nat → Prop => va_Qi (fun (r : Int32) (w : MS × Int32) => r = nI (mSc u) ∧ w = ((mSc u, mNc u, mBc u, mNow u, mRoom u, mRate u, mSip u, mTea u, mSpl u, mAft u, mHt u, mFr u, mTo u, mCov u, mPe u, mBe u), nI 0)) (fun (w : MS × Int32) (t : State) => va_P D vwCl (pic1 cI h a w.1 w.2) t.heap ∧ va_K D vwCl [(cI, .int)] t ∧ va_D A (pic1 cI h a w.1 w.2)) A) (by decide) rfl (Nat.le_of_ble_eq_true rfl) ?_
  intro p e s m args below meth c ls A H locs hx hb hml hr hlocks hts hown hP hK hD hA hS hl
  have hown : s.vm.findClass RX1 = some m.cls := hown
  have hin : ∀ w ∈ wsX10, w ∈ wsX1_sticks := fun _ h9 => List.mem_cons_of_mem _ (List.mem_append_right _ h9)
  have hl : lv_has ls 1 [(0, .ref h)] := hl
  refine lv_aload_n hx hb dX1_sticks_0 rfl (lv_at hl 0 rfl) ?_
  refine lv_aload_n hx hb dX1_sticks_1 rfl (lv_at hl 0 rfl) ?_
  refine va_get (D := D) (ci := 1) (v := .int (nI (mSc u))) (C := RX1) (T := TX1) (N := 17) hx hb hts hin hown hK hP 0 rfl rfl 1 (by decide) (hts (.fieldLink RX1 41 "AfternoonMeterModel" "sticks" "I") (List.mem_of_getElem? (i := 1) rfl)) (fun _ h9 => h9) rfl dX1_sticks_2 ?_
  have hFc := va_free (wc := [(h, .inr (1, [.int th, .int (nI (mSc u)), .ref (a 0), .int (nI (mNc u)), .ref (a 1), .ref (a 2), .ref (a 3), .int (nI (mBc u)), .ref (a 4), .ref (a 5), .int (nI (mRoom u)), .int (nI (mRate u)), .int (nI (mSip u)), .int (mAft u), .int (nI (mNow u)), .int (nI (mTea u)), .int (mSpl u)])), (a 0, .inl (cI, 4, .inl (mHt u))), (a 1, .inl (cI, 8, .inl (mFr u))), (a 2, .inl (cI, 8, .inl (mTo u))), (a 3, .inl (cI, 360, .inl (mCov u))), (a 4, .inl (cI, 6, .inl (mPe u))), (a 5, .inl (cI, 6, .inl (mBe u)))]) hD hS hA [0, 1, 2, 3, 4, 5, 6] rfl
  refine va_calli (va_runV (As := [.int (nI (mSc u))]) (rest := []) ⟨hx, hb, hml, hown, hts⟩ (c_X1_ok l D cI h a u th H.size (nI (mSc u))) (cwV 1 hts gX1_sticks_X1_ok rfl rfl rfl (by decide +kernel) ⟨Nat.le_of_ble_eq_true rfl, Nat.le_of_ble_eq_true rfl⟩) ⟨wr_blind, va_recv (ci := 1) (q0 := 0) hK hP rfl rfl, fun U hU hW => ⟨rfl, by rw [hU], by rw [hU]; exact hP, va_K.moved hW.alike hK, hD.weaken (fun _ _ _ _ => trivial)⟩⟩ rfl rfl hl.1 rfl (lv_room (Nat.le_of_ble_eq_true rfl)) dX1_sticks_5 ⟨Nat.le_of_ble_eq_true rfl, Nat.le_of_ble_eq_true rfl⟩) hS (fun q _ h => hFc q h) hFc (fun r w t H locs ht hvm hw hB hz1 hk1 hS => ?_)
  obtain ⟨rfl, rfl⟩ := hw
  obtain ⟨hP1, hK1, hD1⟩ := hB
  rw [ht] at hP1
  have hP : va_P D vwCl [(h, .inr (1, [.int (nI 0), .int (nI (mSc u)), .ref (a 0), .int (nI (mNc u)), .ref (a 1), .ref (a 2), .ref (a 3), .int (nI (mBc u)), .ref (a 4), .ref (a 5), .int (nI (mRoom u)), .int (nI (mRate u)), .int (nI (mSip u)), .int (mAft u), .int (nI (mNow u)), .int (nI (mTea u)), .int (mSpl u)])), (a 0, .inl (cI, 4, .inl (mHt u))), (a 1, .inl (cI, 8, .inl (mFr u))), (a 2, .inl (cI, 8, .inl (mTo u))), (a 3, .inl (cI, 360, .inl (mCov u))), (a 4, .inl (cI, 6, .inl (mPe u))), (a 5, .inl (cI, 6, .inl (mBe u)))] H := hP1
  have hD : va_D A [(h, .inr (1, [.int (nI 0), .int (nI (mSc u)), .ref (a 0), .int (nI (mNc u)), .ref (a 1), .ref (a 2), .ref (a 3), .int (nI (mBc u)), .ref (a 4), .ref (a 5), .int (nI (mRoom u)), .int (nI (mRate u)), .int (nI (mSip u)), .int (mAft u), .int (nI (mNow u)), .int (nI (mTea u)), .int (mSpl u)])), (a 0, .inl (cI, 4, .inl (mHt u))), (a 1, .inl (cI, 8, .inl (mFr u))), (a 2, .inl (cI, 8, .inl (mTo u))), (a 3, .inl (cI, 360, .inl (mCov u))), (a 4, .inl (cI, 6, .inl (mPe u))), (a 5, .inl (cI, 6, .inl (mBe u)))] := hD1.weaken (fun k q _ h => hFc q.1 h)
  have hq : (nI (mSc u)) = nI (mSc u) ∧ (((mSc u, mNc u, mBc u, mNow u, mRoom u, mRate u, mSip u, mTea u, mSpl u, mAft u, mHt u, mFr u, mTo u, mCov u, mPe u, mBe u), nI 0) : MS × Int32) = ((mSc u, mNc u, mBc u, mNow u, mRoom u, mRate u, mSip u, mTea u, mSpl u, mAft u, mHt u, mFr u, mTo u, mCov u, mPe u, mBe u), nI 0) := by exact ⟨rfl, rfl⟩
  exact W.iret hx hb hr (fun t ht hW => ⟨⟨_, (((mSc u, mNc u, mBc u, mNow u, mRoom u, mRate u, mSip u, mTea u, mSpl u, mAft u, mHt u, mFr u, mTo u, mCov u, mPe u, mBe u), nI 0) : MS × Int32), rfl, hq, by rw [ht]; exact hP, va_K.moved hW.alike hK, hD⟩, hS.F ht⟩) hS.2.2 dX1_sticks_8
set_option maxHeartbeats 4000000 in
set_option maxRecDepth 100000 in
theorem c_X1_naps (l : Launch) (D : va_G) (cI : ClassId) (h : Nat) (a : Nat → Nat) (u : MS) (th : Int32) (sz : Nat) : Met l yX1_naps wsX1_naps ({ frames := 1, cells := 0, slots := 0, locals := 21 } : Room) (va_Pc [.ref h] (fun U => U.heap.size = sz ∧ va_P D vwCl (pic1 cI h a u th) U.heap ∧ va_K D vwCl [(cI, .int)] U ∧ va_D (fun _ => True) (pic1 cI h a u th))) ((fun A : Nat → Prop => va_Qi (fun (r : Int32) (w : MS × Int32) => r = nI (mNc u) ∧ w = ((mSc u, mNc u, mBc u, mNow u, mRoom u, mRate u, mSip u, mTea u, mSpl u, mAft u, mHt u, mFr u, mTo u, mCov u, mPe u, mBe u), nI 0)) (fun (w : MS × Int32) (t : State) => va_P D vwCl (pic1 cI h a w.1 w.2) t.heap ∧ va_K D vwCl [(cI, .int)] t ∧ va_D A (pic1 cI h a w.1 w.2)) A) (va_A (pic1 cI h a u th) sz)) 0 0 (va_A (pic1 cI h a u th) sz) := by
  refine en_wr (cc := cX1_naps) (maxL := 1) (ret := (some .int)) _ _ (fun A : Nat → Prop => va_Qi (fun (r : Int32) (w : MS × Int32) => r = nI (mNc u) ∧ w = ((mSc u, mNc u, mBc u, mNow u, mRoom u, mRate u, mSip u, mTea u, mSpl u, mAft u, mHt u, mFr u, mTo u, mCov u, mPe u, mBe u), nI 0)) (fun (w : MS × Int32) (t : State) => va_P D vwCl (pic1 cI h a w.1 w.2) t.heap ∧ va_K D vwCl [(cI, .int)] t ∧ va_D A (pic1 cI h a w.1 w.2)) A) (by decide) rfl (Nat.le_of_ble_eq_true rfl) ?_
  intro p e s m args below meth c ls A H locs hx hb hml hr hlocks hts hown hP hK hD hA hS hl
  have hown : s.vm.findClass RX1 = some m.cls := hown
  have hin : ∀ w ∈ wsX10, w ∈ wsX1_naps := fun _ h9 => List.mem_cons_of_mem _ (List.mem_append_right _ h9)
  have hl : lv_has ls 1 [(0, .ref h)] := hl
  refine lv_aload_n hx hb dX1_naps_0 rfl (lv_at hl 0 rfl) ?_
  refine lv_aload_n hx hb dX1_naps_1 rfl (lv_at hl 0 rfl) ?_
  refine va_get (D := D) (ci := 1) (v := .int (nI (mNc u))) (C := RX1) (T := TX1) (N := 17) hx hb hts hin hown hK hP 0 rfl rfl 3 (by decide) (hts (.fieldLink RX1 48 "AfternoonMeterModel" "naps" "I") (List.mem_of_getElem? (i := 1) rfl)) (fun _ h9 => h9) rfl dX1_naps_2 ?_
  have hFc := va_free (wc := [(h, .inr (1, [.int th, .int (nI (mSc u)), .ref (a 0), .int (nI (mNc u)), .ref (a 1), .ref (a 2), .ref (a 3), .int (nI (mBc u)), .ref (a 4), .ref (a 5), .int (nI (mRoom u)), .int (nI (mRate u)), .int (nI (mSip u)), .int (mAft u), .int (nI (mNow u)), .int (nI (mTea u)), .int (mSpl u)])), (a 0, .inl (cI, 4, .inl (mHt u))), (a 1, .inl (cI, 8, .inl (mFr u))), (a 2, .inl (cI, 8, .inl (mTo u))), (a 3, .inl (cI, 360, .inl (mCov u))), (a 4, .inl (cI, 6, .inl (mPe u))), (a 5, .inl (cI, 6, .inl (mBe u)))]) hD hS hA [0, 1, 2, 3, 4, 5, 6] rfl
  refine va_calli (va_runV (As := [.int (nI (mNc u))]) (rest := []) ⟨hx, hb, hml, hown, hts⟩ (c_X1_ok l D cI h a u th H.size (nI (mNc u))) (cwV 1 hts gX1_naps_X1_ok rfl rfl rfl (by decide +kernel) ⟨Nat.le_of_ble_eq_true rfl, Nat.le_of_ble_eq_true rfl⟩) ⟨wr_blind, va_recv (ci := 1) (q0 := 0) hK hP rfl rfl, fun U hU hW => ⟨rfl, by rw [hU], by rw [hU]; exact hP, va_K.moved hW.alike hK, hD.weaken (fun _ _ _ _ => trivial)⟩⟩ rfl rfl hl.1 rfl (lv_room (Nat.le_of_ble_eq_true rfl)) dX1_naps_5 ⟨Nat.le_of_ble_eq_true rfl, Nat.le_of_ble_eq_true rfl⟩) hS (fun q _ h => hFc q h) hFc (fun r w t H locs ht hvm hw hB hz1 hk1 hS => ?_)
  obtain ⟨rfl, rfl⟩ := hw
  obtain ⟨hP1, hK1, hD1⟩ := hB
  rw [ht] at hP1
  have hP : va_P D vwCl [(h, .inr (1, [.int (nI 0), .int (nI (mSc u)), .ref (a 0), .int (nI (mNc u)), .ref (a 1), .ref (a 2), .ref (a 3), .int (nI (mBc u)), .ref (a 4), .ref (a 5), .int (nI (mRoom u)), .int (nI (mRate u)), .int (nI (mSip u)), .int (mAft u), .int (nI (mNow u)), .int (nI (mTea u)), .int (mSpl u)])), (a 0, .inl (cI, 4, .inl (mHt u))), (a 1, .inl (cI, 8, .inl (mFr u))), (a 2, .inl (cI, 8, .inl (mTo u))), (a 3, .inl (cI, 360, .inl (mCov u))), (a 4, .inl (cI, 6, .inl (mPe u))), (a 5, .inl (cI, 6, .inl (mBe u)))] H := hP1
  have hD : va_D A [(h, .inr (1, [.int (nI 0), .int (nI (mSc u)), .ref (a 0), .int (nI (mNc u)), .ref (a 1), .ref (a 2), .ref (a 3), .int (nI (mBc u)), .ref (a 4), .ref (a 5), .int (nI (mRoom u)), .int (nI (mRate u)), .int (nI (mSip u)), .int (mAft u), .int (nI (mNow u)), .int (nI (mTea u)), .int (mSpl u)])), (a 0, .inl (cI, 4, .inl (mHt u))), (a 1, .inl (cI, 8, .inl (mFr u))), (a 2, .inl (cI, 8, .inl (mTo u))), (a 3, .inl (cI, 360, .inl (mCov u))), (a 4, .inl (cI, 6, .inl (mPe u))), (a 5, .inl (cI, 6, .inl (mBe u)))] := hD1.weaken (fun k q _ h => hFc q.1 h)
  have hq : (nI (mNc u)) = nI (mNc u) ∧ (((mSc u, mNc u, mBc u, mNow u, mRoom u, mRate u, mSip u, mTea u, mSpl u, mAft u, mHt u, mFr u, mTo u, mCov u, mPe u, mBe u), nI 0) : MS × Int32) = ((mSc u, mNc u, mBc u, mNow u, mRoom u, mRate u, mSip u, mTea u, mSpl u, mAft u, mHt u, mFr u, mTo u, mCov u, mPe u, mBe u), nI 0) := by exact ⟨rfl, rfl⟩
  exact W.iret hx hb hr (fun t ht hW => ⟨⟨_, (((mSc u, mNc u, mBc u, mNow u, mRoom u, mRate u, mSip u, mTea u, mSpl u, mAft u, mHt u, mFr u, mTo u, mCov u, mPe u, mBe u), nI 0) : MS × Int32), rfl, hq, by rw [ht]; exact hP, va_K.moved hW.alike hK, hD⟩, hS.F ht⟩) hS.2.2 dX1_naps_8
set_option maxHeartbeats 4000000 in
set_option maxRecDepth 100000 in
theorem c_X1_bees (l : Launch) (D : va_G) (cI : ClassId) (h : Nat) (a : Nat → Nat) (u : MS) (th : Int32) (sz : Nat) : Met l yX1_bees wsX1_bees ({ frames := 1, cells := 0, slots := 0, locals := 21 } : Room) (va_Pc [.ref h] (fun U => U.heap.size = sz ∧ va_P D vwCl (pic1 cI h a u th) U.heap ∧ va_K D vwCl [(cI, .int)] U ∧ va_D (fun _ => True) (pic1 cI h a u th))) ((fun A : Nat → Prop => va_Qi (fun (r : Int32) (w : MS × Int32) => r = nI (mBc u) ∧ w = ((mSc u, mNc u, mBc u, mNow u, mRoom u, mRate u, mSip u, mTea u, mSpl u, mAft u, mHt u, mFr u, mTo u, mCov u, mPe u, mBe u), nI 0)) (fun (w : MS × Int32) (t : State) => va_P D vwCl (pic1 cI h a w.1 w.2) t.heap ∧ va_K D vwCl [(cI, .int)] t ∧ va_D A (pic1 cI h a w.1 w.2)) A) (va_A (pic1 cI h a u th) sz)) 0 0 (va_A (pic1 cI h a u th) sz) := by
  refine en_wr (cc := cX1_bees) (maxL := 1) (ret := (some .int)) _ _ (fun A : Nat → Prop => va_Qi (fun (r : Int32) (w : MS × Int32) => r = nI (mBc u) ∧ w = ((mSc u, mNc u, mBc u, mNow u, mRoom u, mRate u, mSip u, mTea u, mSpl u, mAft u, mHt u, mFr u, mTo u, mCov u, mPe u, mBe u), nI 0)) (fun (w : MS × Int32) (t : State) => va_P D vwCl (pic1 cI h a w.1 w.2) t.heap ∧ va_K D vwCl [(cI, .int)] t ∧ va_D A (pic1 cI h a w.1 w.2)) A) (by decide) rfl (Nat.le_of_ble_eq_true rfl) ?_
  intro p e s m args below meth c ls A H locs hx hb hml hr hlocks hts hown hP hK hD hA hS hl
  have hown : s.vm.findClass RX1 = some m.cls := hown
  have hin : ∀ w ∈ wsX10, w ∈ wsX1_bees := fun _ h9 => List.mem_cons_of_mem _ (List.mem_append_right _ h9)
  have hl : lv_has ls 1 [(0, .ref h)] := hl
  refine lv_aload_n hx hb dX1_bees_0 rfl (lv_at hl 0 rfl) ?_
  refine lv_aload_n hx hb dX1_bees_1 rfl (lv_at hl 0 rfl) ?_
  refine va_get (D := D) (ci := 1) (v := .int (nI (mBc u))) (C := RX1) (T := TX1) (N := 17) hx hb hts hin hown hK hP 0 rfl rfl 7 (by decide) (hts (.fieldLink RX1 51 "AfternoonMeterModel" "bees" "I") (List.mem_of_getElem? (i := 1) rfl)) (fun _ h9 => h9) rfl dX1_bees_2 ?_
  have hFc := va_free (wc := [(h, .inr (1, [.int th, .int (nI (mSc u)), .ref (a 0), .int (nI (mNc u)), .ref (a 1), .ref (a 2), .ref (a 3), .int (nI (mBc u)), .ref (a 4), .ref (a 5), .int (nI (mRoom u)), .int (nI (mRate u)), .int (nI (mSip u)), .int (mAft u), .int (nI (mNow u)), .int (nI (mTea u)), .int (mSpl u)])), (a 0, .inl (cI, 4, .inl (mHt u))), (a 1, .inl (cI, 8, .inl (mFr u))), (a 2, .inl (cI, 8, .inl (mTo u))), (a 3, .inl (cI, 360, .inl (mCov u))), (a 4, .inl (cI, 6, .inl (mPe u))), (a 5, .inl (cI, 6, .inl (mBe u)))]) hD hS hA [0, 1, 2, 3, 4, 5, 6] rfl
  refine va_calli (va_runV (As := [.int (nI (mBc u))]) (rest := []) ⟨hx, hb, hml, hown, hts⟩ (c_X1_ok l D cI h a u th H.size (nI (mBc u))) (cwV 1 hts gX1_bees_X1_ok rfl rfl rfl (by decide +kernel) ⟨Nat.le_of_ble_eq_true rfl, Nat.le_of_ble_eq_true rfl⟩) ⟨wr_blind, va_recv (ci := 1) (q0 := 0) hK hP rfl rfl, fun U hU hW => ⟨rfl, by rw [hU], by rw [hU]; exact hP, va_K.moved hW.alike hK, hD.weaken (fun _ _ _ _ => trivial)⟩⟩ rfl rfl hl.1 rfl (lv_room (Nat.le_of_ble_eq_true rfl)) dX1_bees_5 ⟨Nat.le_of_ble_eq_true rfl, Nat.le_of_ble_eq_true rfl⟩) hS (fun q _ h => hFc q h) hFc (fun r w t H locs ht hvm hw hB hz1 hk1 hS => ?_)
  obtain ⟨rfl, rfl⟩ := hw
  obtain ⟨hP1, hK1, hD1⟩ := hB
  rw [ht] at hP1
  have hP : va_P D vwCl [(h, .inr (1, [.int (nI 0), .int (nI (mSc u)), .ref (a 0), .int (nI (mNc u)), .ref (a 1), .ref (a 2), .ref (a 3), .int (nI (mBc u)), .ref (a 4), .ref (a 5), .int (nI (mRoom u)), .int (nI (mRate u)), .int (nI (mSip u)), .int (mAft u), .int (nI (mNow u)), .int (nI (mTea u)), .int (mSpl u)])), (a 0, .inl (cI, 4, .inl (mHt u))), (a 1, .inl (cI, 8, .inl (mFr u))), (a 2, .inl (cI, 8, .inl (mTo u))), (a 3, .inl (cI, 360, .inl (mCov u))), (a 4, .inl (cI, 6, .inl (mPe u))), (a 5, .inl (cI, 6, .inl (mBe u)))] H := hP1
  have hD : va_D A [(h, .inr (1, [.int (nI 0), .int (nI (mSc u)), .ref (a 0), .int (nI (mNc u)), .ref (a 1), .ref (a 2), .ref (a 3), .int (nI (mBc u)), .ref (a 4), .ref (a 5), .int (nI (mRoom u)), .int (nI (mRate u)), .int (nI (mSip u)), .int (mAft u), .int (nI (mNow u)), .int (nI (mTea u)), .int (mSpl u)])), (a 0, .inl (cI, 4, .inl (mHt u))), (a 1, .inl (cI, 8, .inl (mFr u))), (a 2, .inl (cI, 8, .inl (mTo u))), (a 3, .inl (cI, 360, .inl (mCov u))), (a 4, .inl (cI, 6, .inl (mPe u))), (a 5, .inl (cI, 6, .inl (mBe u)))] := hD1.weaken (fun k q _ h => hFc q.1 h)
  have hq : (nI (mBc u)) = nI (mBc u) ∧ (((mSc u, mNc u, mBc u, mNow u, mRoom u, mRate u, mSip u, mTea u, mSpl u, mAft u, mHt u, mFr u, mTo u, mCov u, mPe u, mBe u), nI 0) : MS × Int32) = ((mSc u, mNc u, mBc u, mNow u, mRoom u, mRate u, mSip u, mTea u, mSpl u, mAft u, mHt u, mFr u, mTo u, mCov u, mPe u, mBe u), nI 0) := by exact ⟨rfl, rfl⟩
  exact W.iret hx hb hr (fun t ht hW => ⟨⟨_, (((mSc u, mNc u, mBc u, mNow u, mRoom u, mRate u, mSip u, mTea u, mSpl u, mAft u, mHt u, mFr u, mTo u, mCov u, mPe u, mBe u), nI 0) : MS × Int32), rfl, hq, by rw [ht]; exact hP, va_K.moved hW.alike hK, hD⟩, hS.F ht⟩) hS.2.2 dX1_bees_8
set_option maxHeartbeats 4000000 in
set_option maxRecDepth 100000 in
theorem c_X1_tea (l : Launch) (D : va_G) (cI : ClassId) (h : Nat) (a : Nat → Nat) (u : MS) (th : Int32) (sz : Nat) : Met l yX1_tea wsX1_tea ({ frames := 1, cells := 0, slots := 0, locals := 21 } : Room) (va_Pc [.ref h] (fun U => U.heap.size = sz ∧ va_P D vwCl (pic1 cI h a u th) U.heap ∧ va_K D vwCl [(cI, .int)] U ∧ va_D (fun _ => True) (pic1 cI h a u th))) ((fun A : Nat → Prop => va_Qi (fun (r : Int32) (w : MS × Int32) => r = nI (mTea u) ∧ w = ((mSc u, mNc u, mBc u, mNow u, mRoom u, mRate u, mSip u, mTea u, mSpl u, mAft u, mHt u, mFr u, mTo u, mCov u, mPe u, mBe u), nI 0)) (fun (w : MS × Int32) (t : State) => va_P D vwCl (pic1 cI h a w.1 w.2) t.heap ∧ va_K D vwCl [(cI, .int)] t ∧ va_D A (pic1 cI h a w.1 w.2)) A) (va_A (pic1 cI h a u th) sz)) 0 0 (va_A (pic1 cI h a u th) sz) := by
  refine en_wr (cc := cX1_tea) (maxL := 1) (ret := (some .int)) _ _ (fun A : Nat → Prop => va_Qi (fun (r : Int32) (w : MS × Int32) => r = nI (mTea u) ∧ w = ((mSc u, mNc u, mBc u, mNow u, mRoom u, mRate u, mSip u, mTea u, mSpl u, mAft u, mHt u, mFr u, mTo u, mCov u, mPe u, mBe u), nI 0)) (fun (w : MS × Int32) (t : State) => va_P D vwCl (pic1 cI h a w.1 w.2) t.heap ∧ va_K D vwCl [(cI, .int)] t ∧ va_D A (pic1 cI h a w.1 w.2)) A) (by decide) rfl (Nat.le_of_ble_eq_true rfl) ?_
  intro p e s m args below meth c ls A H locs hx hb hml hr hlocks hts hown hP hK hD hA hS hl
  have hown : s.vm.findClass RX1 = some m.cls := hown
  have hin : ∀ w ∈ wsX10, w ∈ wsX1_tea := fun _ h9 => List.mem_cons_of_mem _ (List.mem_append_right _ h9)
  have hl : lv_has ls 1 [(0, .ref h)] := hl
  refine lv_aload_n hx hb dX1_tea_0 rfl (lv_at hl 0 rfl) ?_
  refine lv_aload_n hx hb dX1_tea_1 rfl (lv_at hl 0 rfl) ?_
  refine va_get (D := D) (ci := 1) (v := .int (nI (mTea u))) (C := RX1) (T := TX1) (N := 17) hx hb hts hin hown hK hP 0 rfl rfl 15 (by decide) (hts (.fieldLink RX1 87 "AfternoonMeterModel" "tea" "I") (List.mem_of_getElem? (i := 1) rfl)) (fun _ h9 => h9) rfl dX1_tea_2 ?_
  have hFc := va_free (wc := [(h, .inr (1, [.int th, .int (nI (mSc u)), .ref (a 0), .int (nI (mNc u)), .ref (a 1), .ref (a 2), .ref (a 3), .int (nI (mBc u)), .ref (a 4), .ref (a 5), .int (nI (mRoom u)), .int (nI (mRate u)), .int (nI (mSip u)), .int (mAft u), .int (nI (mNow u)), .int (nI (mTea u)), .int (mSpl u)])), (a 0, .inl (cI, 4, .inl (mHt u))), (a 1, .inl (cI, 8, .inl (mFr u))), (a 2, .inl (cI, 8, .inl (mTo u))), (a 3, .inl (cI, 360, .inl (mCov u))), (a 4, .inl (cI, 6, .inl (mPe u))), (a 5, .inl (cI, 6, .inl (mBe u)))]) hD hS hA [0, 1, 2, 3, 4, 5, 6] rfl
  refine va_calli (va_runV (As := [.int (nI (mTea u))]) (rest := []) ⟨hx, hb, hml, hown, hts⟩ (c_X1_ok l D cI h a u th H.size (nI (mTea u))) (cwV 1 hts gX1_tea_X1_ok rfl rfl rfl (by decide +kernel) ⟨Nat.le_of_ble_eq_true rfl, Nat.le_of_ble_eq_true rfl⟩) ⟨wr_blind, va_recv (ci := 1) (q0 := 0) hK hP rfl rfl, fun U hU hW => ⟨rfl, by rw [hU], by rw [hU]; exact hP, va_K.moved hW.alike hK, hD.weaken (fun _ _ _ _ => trivial)⟩⟩ rfl rfl hl.1 rfl (lv_room (Nat.le_of_ble_eq_true rfl)) dX1_tea_5 ⟨Nat.le_of_ble_eq_true rfl, Nat.le_of_ble_eq_true rfl⟩) hS (fun q _ h => hFc q h) hFc (fun r w t H locs ht hvm hw hB hz1 hk1 hS => ?_)
  obtain ⟨rfl, rfl⟩ := hw
  obtain ⟨hP1, hK1, hD1⟩ := hB
  rw [ht] at hP1
  have hP : va_P D vwCl [(h, .inr (1, [.int (nI 0), .int (nI (mSc u)), .ref (a 0), .int (nI (mNc u)), .ref (a 1), .ref (a 2), .ref (a 3), .int (nI (mBc u)), .ref (a 4), .ref (a 5), .int (nI (mRoom u)), .int (nI (mRate u)), .int (nI (mSip u)), .int (mAft u), .int (nI (mNow u)), .int (nI (mTea u)), .int (mSpl u)])), (a 0, .inl (cI, 4, .inl (mHt u))), (a 1, .inl (cI, 8, .inl (mFr u))), (a 2, .inl (cI, 8, .inl (mTo u))), (a 3, .inl (cI, 360, .inl (mCov u))), (a 4, .inl (cI, 6, .inl (mPe u))), (a 5, .inl (cI, 6, .inl (mBe u)))] H := hP1
  have hD : va_D A [(h, .inr (1, [.int (nI 0), .int (nI (mSc u)), .ref (a 0), .int (nI (mNc u)), .ref (a 1), .ref (a 2), .ref (a 3), .int (nI (mBc u)), .ref (a 4), .ref (a 5), .int (nI (mRoom u)), .int (nI (mRate u)), .int (nI (mSip u)), .int (mAft u), .int (nI (mNow u)), .int (nI (mTea u)), .int (mSpl u)])), (a 0, .inl (cI, 4, .inl (mHt u))), (a 1, .inl (cI, 8, .inl (mFr u))), (a 2, .inl (cI, 8, .inl (mTo u))), (a 3, .inl (cI, 360, .inl (mCov u))), (a 4, .inl (cI, 6, .inl (mPe u))), (a 5, .inl (cI, 6, .inl (mBe u)))] := hD1.weaken (fun k q _ h => hFc q.1 h)
  have hq : (nI (mTea u)) = nI (mTea u) ∧ (((mSc u, mNc u, mBc u, mNow u, mRoom u, mRate u, mSip u, mTea u, mSpl u, mAft u, mHt u, mFr u, mTo u, mCov u, mPe u, mBe u), nI 0) : MS × Int32) = ((mSc u, mNc u, mBc u, mNow u, mRoom u, mRate u, mSip u, mTea u, mSpl u, mAft u, mHt u, mFr u, mTo u, mCov u, mPe u, mBe u), nI 0) := by exact ⟨rfl, rfl⟩
  exact W.iret hx hb hr (fun t ht hW => ⟨⟨_, (((mSc u, mNc u, mBc u, mNow u, mRoom u, mRate u, mSip u, mTea u, mSpl u, mAft u, mHt u, mFr u, mTo u, mCov u, mPe u, mBe u), nI 0) : MS × Int32), rfl, hq, by rw [ht]; exact hP, va_K.moved hW.alike hK, hD⟩, hS.F ht⟩) hS.2.2 dX1_tea_8
set_option maxHeartbeats 4000000 in
set_option maxRecDepth 100000 in
theorem c_X1_spilt (l : Launch) (D : va_G) (cI : ClassId) (h : Nat) (a : Nat → Nat) (u : MS) (th : Int32) (sz : Nat) : Met l yX1_spilt wsX1_spilt ({ frames := 1, cells := 0, slots := 0, locals := 21 } : Room) (va_Pc [.ref h] (fun U => U.heap.size = sz ∧ va_P D vwCl (pic1 cI h a u th) U.heap ∧ va_K D vwCl [(cI, .int)] U ∧ va_D (fun _ => True) (pic1 cI h a u th))) ((fun A : Nat → Prop => va_Qi (fun (r : Int32) (w : MS × Int32) => r = mSpl u ∧ w = ((mSc u, mNc u, mBc u, mNow u, mRoom u, mRate u, mSip u, mTea u, mSpl u, mAft u, mHt u, mFr u, mTo u, mCov u, mPe u, mBe u), nI 0)) (fun (w : MS × Int32) (t : State) => va_P D vwCl (pic1 cI h a w.1 w.2) t.heap ∧ va_K D vwCl [(cI, .int)] t ∧ va_D A (pic1 cI h a w.1 w.2)) A) (va_A (pic1 cI h a u th) sz)) 0 0 (va_A (pic1 cI h a u th) sz) := by
  refine en_wr (cc := cX1_spilt) (maxL := 1) (ret := (some .int)) _ _ (fun A : Nat → Prop => va_Qi (fun (r : Int32) (w : MS × Int32) => r = mSpl u ∧ w = ((mSc u, mNc u, mBc u, mNow u, mRoom u, mRate u, mSip u, mTea u, mSpl u, mAft u, mHt u, mFr u, mTo u, mCov u, mPe u, mBe u), nI 0)) (fun (w : MS × Int32) (t : State) => va_P D vwCl (pic1 cI h a w.1 w.2) t.heap ∧ va_K D vwCl [(cI, .int)] t ∧ va_D A (pic1 cI h a w.1 w.2)) A) (by decide) rfl (Nat.le_of_ble_eq_true rfl) ?_
  intro p e s m args below meth c ls A H locs hx hb hml hr hlocks hts hown hP hK hD hA hS hl
  have hown : s.vm.findClass RX1 = some m.cls := hown
  have hin : ∀ w ∈ wsX10, w ∈ wsX1_spilt := fun _ h9 => List.mem_cons_of_mem _ (List.mem_append_right _ h9)
  have hl : lv_has ls 1 [(0, .ref h)] := hl
  refine lv_aload_n hx hb dX1_spilt_0 rfl (lv_at hl 0 rfl) ?_
  refine lv_aload_n hx hb dX1_spilt_1 rfl (lv_at hl 0 rfl) ?_
  refine va_get (D := D) (ci := 1) (v := .int (mSpl u)) (C := RX1) (T := TX1) (N := 17) hx hb hts hin hown hK hP 0 rfl rfl 16 (by decide) (hts (.fieldLink RX1 94 "AfternoonMeterModel" "spilt" "I") (List.mem_of_getElem? (i := 1) rfl)) (fun _ h9 => h9) rfl dX1_spilt_2 ?_
  have hFc := va_free (wc := [(h, .inr (1, [.int th, .int (nI (mSc u)), .ref (a 0), .int (nI (mNc u)), .ref (a 1), .ref (a 2), .ref (a 3), .int (nI (mBc u)), .ref (a 4), .ref (a 5), .int (nI (mRoom u)), .int (nI (mRate u)), .int (nI (mSip u)), .int (mAft u), .int (nI (mNow u)), .int (nI (mTea u)), .int (mSpl u)])), (a 0, .inl (cI, 4, .inl (mHt u))), (a 1, .inl (cI, 8, .inl (mFr u))), (a 2, .inl (cI, 8, .inl (mTo u))), (a 3, .inl (cI, 360, .inl (mCov u))), (a 4, .inl (cI, 6, .inl (mPe u))), (a 5, .inl (cI, 6, .inl (mBe u)))]) hD hS hA [0, 1, 2, 3, 4, 5, 6] rfl
  refine va_calli (va_runV (As := [.int (mSpl u)]) (rest := []) ⟨hx, hb, hml, hown, hts⟩ (c_X1_ok l D cI h a u th H.size (mSpl u)) (cwV 1 hts gX1_spilt_X1_ok rfl rfl rfl (by decide +kernel) ⟨Nat.le_of_ble_eq_true rfl, Nat.le_of_ble_eq_true rfl⟩) ⟨wr_blind, va_recv (ci := 1) (q0 := 0) hK hP rfl rfl, fun U hU hW => ⟨rfl, by rw [hU], by rw [hU]; exact hP, va_K.moved hW.alike hK, hD.weaken (fun _ _ _ _ => trivial)⟩⟩ rfl rfl hl.1 rfl (lv_room (Nat.le_of_ble_eq_true rfl)) dX1_spilt_5 ⟨Nat.le_of_ble_eq_true rfl, Nat.le_of_ble_eq_true rfl⟩) hS (fun q _ h => hFc q h) hFc (fun r w t H locs ht hvm hw hB hz1 hk1 hS => ?_)
  obtain ⟨rfl, rfl⟩ := hw
  obtain ⟨hP1, hK1, hD1⟩ := hB
  rw [ht] at hP1
  have hP : va_P D vwCl [(h, .inr (1, [.int (nI 0), .int (nI (mSc u)), .ref (a 0), .int (nI (mNc u)), .ref (a 1), .ref (a 2), .ref (a 3), .int (nI (mBc u)), .ref (a 4), .ref (a 5), .int (nI (mRoom u)), .int (nI (mRate u)), .int (nI (mSip u)), .int (mAft u), .int (nI (mNow u)), .int (nI (mTea u)), .int (mSpl u)])), (a 0, .inl (cI, 4, .inl (mHt u))), (a 1, .inl (cI, 8, .inl (mFr u))), (a 2, .inl (cI, 8, .inl (mTo u))), (a 3, .inl (cI, 360, .inl (mCov u))), (a 4, .inl (cI, 6, .inl (mPe u))), (a 5, .inl (cI, 6, .inl (mBe u)))] H := hP1
  have hD : va_D A [(h, .inr (1, [.int (nI 0), .int (nI (mSc u)), .ref (a 0), .int (nI (mNc u)), .ref (a 1), .ref (a 2), .ref (a 3), .int (nI (mBc u)), .ref (a 4), .ref (a 5), .int (nI (mRoom u)), .int (nI (mRate u)), .int (nI (mSip u)), .int (mAft u), .int (nI (mNow u)), .int (nI (mTea u)), .int (mSpl u)])), (a 0, .inl (cI, 4, .inl (mHt u))), (a 1, .inl (cI, 8, .inl (mFr u))), (a 2, .inl (cI, 8, .inl (mTo u))), (a 3, .inl (cI, 360, .inl (mCov u))), (a 4, .inl (cI, 6, .inl (mPe u))), (a 5, .inl (cI, 6, .inl (mBe u)))] := hD1.weaken (fun k q _ h => hFc q.1 h)
  have hq : (mSpl u) = mSpl u ∧ (((mSc u, mNc u, mBc u, mNow u, mRoom u, mRate u, mSip u, mTea u, mSpl u, mAft u, mHt u, mFr u, mTo u, mCov u, mPe u, mBe u), nI 0) : MS × Int32) = ((mSc u, mNc u, mBc u, mNow u, mRoom u, mRate u, mSip u, mTea u, mSpl u, mAft u, mHt u, mFr u, mTo u, mCov u, mPe u, mBe u), nI 0) := by exact ⟨rfl, rfl⟩
  exact W.iret hx hb hr (fun t ht hW => ⟨⟨_, (((mSc u, mNc u, mBc u, mNow u, mRoom u, mRate u, mSip u, mTea u, mSpl u, mAft u, mHt u, mFr u, mTo u, mCov u, mPe u, mBe u), nI 0) : MS × Int32), rfl, hq, by rw [ht]; exact hP, va_K.moved hW.alike hK, hD⟩, hS.F ht⟩) hS.2.2 dX1_spilt_8
set_option maxHeartbeats 4000000 in
set_option maxRecDepth 100000 in
theorem c_X1_awakeMinutes (l : Launch) (D : va_G) (cI : ClassId) (h : Nat) (a : Nat → Nat) (u : MS) (th : Int32) (sz : Nat) (hI : Inv u) : Met l yX1_awakeMinutes wsX1_awakeMinutes ({ frames := 2, cells := 0, slots := 0, locals := 44 } : Room) (va_Pc [.ref h] (fun U => U.heap.size = sz ∧ va_P D vwCl (pic1 cI h a u th) U.heap ∧ va_K D vwCl [(cI, .int)] U ∧ va_D (fun _ => True) (pic1 cI h a u th))) ((fun A : Nat → Prop => va_Qi (fun (r : Int32) (w : MS × Int32) => r = fAw u ∧ w = ((mSc u, mNc u, mBc u, mNow u, mRoom u, mRate u, mSip u, mTea u, mSpl u, mAft u, mHt u, mFr u, mTo u, mCov u, mPe u, mBe u), nI 0)) (fun (w : MS × Int32) (t : State) => va_P D vwCl (pic1 cI h a w.1 w.2) t.heap ∧ va_K D vwCl [(cI, .int)] t ∧ va_D A (pic1 cI h a w.1 w.2)) A) (va_A (pic1 cI h a u th) sz)) 0 0 (va_A (pic1 cI h a u th) sz) := by
  refine en_wr (cc := cX1_awakeMinutes) (maxL := 1) (ret := (some .int)) _ _ (fun A : Nat → Prop => va_Qi (fun (r : Int32) (w : MS × Int32) => r = fAw u ∧ w = ((mSc u, mNc u, mBc u, mNow u, mRoom u, mRate u, mSip u, mTea u, mSpl u, mAft u, mHt u, mFr u, mTo u, mCov u, mPe u, mBe u), nI 0)) (fun (w : MS × Int32) (t : State) => va_P D vwCl (pic1 cI h a w.1 w.2) t.heap ∧ va_K D vwCl [(cI, .int)] t ∧ va_D A (pic1 cI h a w.1 w.2)) A) (by decide) rfl (Nat.le_of_ble_eq_true rfl) ?_
  intro p e s m args below meth c ls A H locs hx hb hml hr hlocks hts hown hP hK hD hA hS hl
  have hown : s.vm.findClass RX1 = some m.cls := hown
  have hin : ∀ w ∈ wsX10, w ∈ wsX1_awakeMinutes := fun _ h9 => List.mem_cons_of_mem _ (List.mem_append_right _ h9)
  have hl : lv_has ls 1 [(0, .ref h)] := hl
  obtain ⟨hIa, hIb, hIc, hId, hIe, hIf, hIg, hIh, hIi, hIj⟩ := id hI
  refine lv_aload_n hx hb dX1_awakeMinutes_0 rfl (lv_at hl 0 rfl) ?_
  refine lv_aload_n hx hb dX1_awakeMinutes_1 rfl (lv_at hl 0 rfl) ?_
  refine lv_aload_n hx hb dX1_awakeMinutes_2 rfl (lv_at hl 0 rfl) ?_
  refine va_get (D := D) (ci := 1) (v := .int (nI (mNow u))) (C := RX1) (T := TX1) (N := 17) hx hb hts hin hown hK hP 0 rfl rfl 14 (by decide) (hts (.fieldLink RX1 64 "AfternoonMeterModel" "minute" "I") (List.mem_of_getElem? (i := 1) rfl)) (fun _ h9 => h9) rfl dX1_awakeMinutes_3 ?_
  refine vp_callSi (W.runV (As := [.int (nI (mNow u))]) (rest := [.ref h]) ⟨hx, hb, hml, hown, hts⟩ (c_X1_awake l D cI h a u th (mNow u) hI (by omega)) (cwV 1 hts gX1_awakeMinutes_X1_awake rfl rfl rfl (by decide +kernel) ⟨Nat.le_of_ble_eq_true rfl, Nat.le_of_ble_eq_true rfl⟩) (pu_pre hK hP rfl rfl) rfl rfl hl.1 rfl (lv_room (Nat.le_of_ble_eq_true rfl)) dX1_awakeMinutes_6 ⟨Nat.le_of_ble_eq_true rfl, Nat.le_of_ble_eq_true rfl⟩) (fun r hr => ?_)
  subst hr
  have hFc := va_free (wc := [(h, .inr (1, [.int th, .int (nI (mSc u)), .ref (a 0), .int (nI (mNc u)), .ref (a 1), .ref (a 2), .ref (a 3), .int (nI (mBc u)), .ref (a 4), .ref (a 5), .int (nI (mRoom u)), .int (nI (mRate u)), .int (nI (mSip u)), .int (mAft u), .int (nI (mNow u)), .int (nI (mTea u)), .int (mSpl u)])), (a 0, .inl (cI, 4, .inl (mHt u))), (a 1, .inl (cI, 8, .inl (mFr u))), (a 2, .inl (cI, 8, .inl (mTo u))), (a 3, .inl (cI, 360, .inl (mCov u))), (a 4, .inl (cI, 6, .inl (mPe u))), (a 5, .inl (cI, 6, .inl (mBe u)))]) hD hS hA [0, 1, 2, 3, 4, 5, 6] rfl
  refine va_calli (va_runV (As := [.int (fz (awF u) (mNow u) (nI 0))]) (rest := []) ⟨hx, hb, hml, hown, hts⟩ (c_X1_ok l D cI h a u th H.size (fz (awF u) (mNow u) (nI 0))) (cwV 1 hts gX1_awakeMinutes_X1_ok rfl rfl rfl (by decide +kernel) ⟨Nat.le_of_ble_eq_true rfl, Nat.le_of_ble_eq_true rfl⟩) ⟨wr_blind, va_recv (ci := 1) (q0 := 0) hK hP rfl rfl, fun U hU hW => ⟨rfl, by rw [hU], by rw [hU]; exact hP, va_K.moved hW.alike hK, hD.weaken (fun _ _ _ _ => trivial)⟩⟩ rfl rfl hl.1 rfl (lv_room (Nat.le_of_ble_eq_true rfl)) dX1_awakeMinutes_9 ⟨Nat.le_of_ble_eq_true rfl, Nat.le_of_ble_eq_true rfl⟩) hS (fun q _ h => hFc q h) hFc (fun r w t H locs ht hvm hw hB hz1 hk1 hS => ?_)
  obtain ⟨rfl, rfl⟩ := hw
  obtain ⟨hP1, hK1, hD1⟩ := hB
  rw [ht] at hP1
  have hP : va_P D vwCl [(h, .inr (1, [.int (nI 0), .int (nI (mSc u)), .ref (a 0), .int (nI (mNc u)), .ref (a 1), .ref (a 2), .ref (a 3), .int (nI (mBc u)), .ref (a 4), .ref (a 5), .int (nI (mRoom u)), .int (nI (mRate u)), .int (nI (mSip u)), .int (mAft u), .int (nI (mNow u)), .int (nI (mTea u)), .int (mSpl u)])), (a 0, .inl (cI, 4, .inl (mHt u))), (a 1, .inl (cI, 8, .inl (mFr u))), (a 2, .inl (cI, 8, .inl (mTo u))), (a 3, .inl (cI, 360, .inl (mCov u))), (a 4, .inl (cI, 6, .inl (mPe u))), (a 5, .inl (cI, 6, .inl (mBe u)))] H := hP1
  have hD : va_D A [(h, .inr (1, [.int (nI 0), .int (nI (mSc u)), .ref (a 0), .int (nI (mNc u)), .ref (a 1), .ref (a 2), .ref (a 3), .int (nI (mBc u)), .ref (a 4), .ref (a 5), .int (nI (mRoom u)), .int (nI (mRate u)), .int (nI (mSip u)), .int (mAft u), .int (nI (mNow u)), .int (nI (mTea u)), .int (mSpl u)])), (a 0, .inl (cI, 4, .inl (mHt u))), (a 1, .inl (cI, 8, .inl (mFr u))), (a 2, .inl (cI, 8, .inl (mTo u))), (a 3, .inl (cI, 360, .inl (mCov u))), (a 4, .inl (cI, 6, .inl (mPe u))), (a 5, .inl (cI, 6, .inl (mBe u)))] := hD1.weaken (fun k q _ h => hFc q.1 h)
  have hq : (fz (awF u) (mNow u) (nI 0)) = fAw u ∧ (((mSc u, mNc u, mBc u, mNow u, mRoom u, mRate u, mSip u, mTea u, mSpl u, mAft u, mHt u, mFr u, mTo u, mCov u, mPe u, mBe u), nI 0) : MS × Int32) = ((mSc u, mNc u, mBc u, mNow u, mRoom u, mRate u, mSip u, mTea u, mSpl u, mAft u, mHt u, mFr u, mTo u, mCov u, mPe u, mBe u), nI 0) := by exact ⟨rfl, rfl⟩
  exact W.iret hx hb hr (fun t ht hW => ⟨⟨_, (((mSc u, mNc u, mBc u, mNow u, mRoom u, mRate u, mSip u, mTea u, mSpl u, mAft u, mHt u, mFr u, mTo u, mCov u, mPe u, mBe u), nI 0) : MS × Int32), rfl, hq, by rw [ht]; exact hP, va_K.moved hW.alike hK, hD⟩, hS.F ht⟩) hS.2.2 dX1_awakeMinutes_12
set_option maxHeartbeats 4000000 in
set_option maxRecDepth 100000 in
theorem c_X1_sleptMinutes (l : Launch) (D : va_G) (cI : ClassId) (h : Nat) (a : Nat → Nat) (u : MS) (th : Int32) (sz : Nat) (hI : Inv u) : Met l yX1_sleptMinutes wsX1_sleptMinutes ({ frames := 2, cells := 0, slots := 0, locals := 44 } : Room) (va_Pc [.ref h] (fun U => U.heap.size = sz ∧ va_P D vwCl (pic1 cI h a u th) U.heap ∧ va_K D vwCl [(cI, .int)] U ∧ va_D (fun _ => True) (pic1 cI h a u th))) ((fun A : Nat → Prop => va_Qi (fun (r : Int32) (w : MS × Int32) => r = nI (mNow u) - fAw u ∧ w = ((mSc u, mNc u, mBc u, mNow u, mRoom u, mRate u, mSip u, mTea u, mSpl u, mAft u, mHt u, mFr u, mTo u, mCov u, mPe u, mBe u), nI 0)) (fun (w : MS × Int32) (t : State) => va_P D vwCl (pic1 cI h a w.1 w.2) t.heap ∧ va_K D vwCl [(cI, .int)] t ∧ va_D A (pic1 cI h a w.1 w.2)) A) (va_A (pic1 cI h a u th) sz)) 0 0 (va_A (pic1 cI h a u th) sz) := by
  refine en_wr (cc := cX1_sleptMinutes) (maxL := 1) (ret := (some .int)) _ _ (fun A : Nat → Prop => va_Qi (fun (r : Int32) (w : MS × Int32) => r = nI (mNow u) - fAw u ∧ w = ((mSc u, mNc u, mBc u, mNow u, mRoom u, mRate u, mSip u, mTea u, mSpl u, mAft u, mHt u, mFr u, mTo u, mCov u, mPe u, mBe u), nI 0)) (fun (w : MS × Int32) (t : State) => va_P D vwCl (pic1 cI h a w.1 w.2) t.heap ∧ va_K D vwCl [(cI, .int)] t ∧ va_D A (pic1 cI h a w.1 w.2)) A) (by decide) rfl (Nat.le_of_ble_eq_true rfl) ?_
  intro p e s m args below meth c ls A H locs hx hb hml hr hlocks hts hown hP hK hD hA hS hl
  have hown : s.vm.findClass RX1 = some m.cls := hown
  have hin : ∀ w ∈ wsX10, w ∈ wsX1_sleptMinutes := fun _ h9 => List.mem_cons_of_mem _ (List.mem_append_right _ h9)
  have hl : lv_has ls 1 [(0, .ref h)] := hl
  obtain ⟨hIa, hIb, hIc, hId, hIe, hIf, hIg, hIh, hIi, hIj⟩ := id hI
  refine lv_aload_n hx hb dX1_sleptMinutes_0 rfl (lv_at hl 0 rfl) ?_
  refine lv_aload_n hx hb dX1_sleptMinutes_1 rfl (lv_at hl 0 rfl) ?_
  refine va_get (D := D) (ci := 1) (v := .int (nI (mNow u))) (C := RX1) (T := TX1) (N := 17) hx hb hts hin hown hK hP 0 rfl rfl 14 (by decide) (hts (.fieldLink RX1 64 "AfternoonMeterModel" "minute" "I") (List.mem_of_getElem? (i := 1) rfl)) (fun _ h9 => h9) rfl dX1_sleptMinutes_2 ?_
  refine lv_aload_n hx hb dX1_sleptMinutes_5 rfl (lv_at hl 0 rfl) ?_
  refine lv_aload_n hx hb dX1_sleptMinutes_6 rfl (lv_at hl 0 rfl) ?_
  refine va_get (D := D) (ci := 1) (v := .int (nI (mNow u))) (C := RX1) (T := TX1) (N := 17) hx hb hts hin hown hK hP 0 rfl rfl 14 (by decide) (hts (.fieldLink RX1 64 "AfternoonMeterModel" "minute" "I") (List.mem_of_getElem? (i := 1) rfl)) (fun _ h9 => h9) rfl dX1_sleptMinutes_7 ?_
  refine vp_callSi (W.runV (As := [.int (nI (mNow u))]) (rest := [.int (nI (mNow u)), .ref h]) ⟨hx, hb, hml, hown, hts⟩ (c_X1_awake l D cI h a u th (mNow u) hI (by omega)) (cwV 1 hts gX1_sleptMinutes_X1_awake rfl rfl rfl (by decide +kernel) ⟨Nat.le_of_ble_eq_true rfl, Nat.le_of_ble_eq_true rfl⟩) (pu_pre hK hP rfl rfl) rfl rfl hl.1 rfl (lv_room (Nat.le_of_ble_eq_true rfl)) dX1_sleptMinutes_10 ⟨Nat.le_of_ble_eq_true rfl, Nat.le_of_ble_eq_true rfl⟩) (fun r hr => ?_)
  subst hr
  refine lv_isub hx hb dX1_sleptMinutes_13 ?_
  have hFc := va_free (wc := [(h, .inr (1, [.int th, .int (nI (mSc u)), .ref (a 0), .int (nI (mNc u)), .ref (a 1), .ref (a 2), .ref (a 3), .int (nI (mBc u)), .ref (a 4), .ref (a 5), .int (nI (mRoom u)), .int (nI (mRate u)), .int (nI (mSip u)), .int (mAft u), .int (nI (mNow u)), .int (nI (mTea u)), .int (mSpl u)])), (a 0, .inl (cI, 4, .inl (mHt u))), (a 1, .inl (cI, 8, .inl (mFr u))), (a 2, .inl (cI, 8, .inl (mTo u))), (a 3, .inl (cI, 360, .inl (mCov u))), (a 4, .inl (cI, 6, .inl (mPe u))), (a 5, .inl (cI, 6, .inl (mBe u)))]) hD hS hA [0, 1, 2, 3, 4, 5, 6] rfl
  refine va_calli (va_runV (As := [.int ((nI (mNow u)) - (fz (awF u) (mNow u) (nI 0)))]) (rest := []) ⟨hx, hb, hml, hown, hts⟩ (c_X1_ok l D cI h a u th H.size ((nI (mNow u)) - (fz (awF u) (mNow u) (nI 0)))) (cwV 1 hts gX1_sleptMinutes_X1_ok rfl rfl rfl (by decide +kernel) ⟨Nat.le_of_ble_eq_true rfl, Nat.le_of_ble_eq_true rfl⟩) ⟨wr_blind, va_recv (ci := 1) (q0 := 0) hK hP rfl rfl, fun U hU hW => ⟨rfl, by rw [hU], by rw [hU]; exact hP, va_K.moved hW.alike hK, hD.weaken (fun _ _ _ _ => trivial)⟩⟩ rfl rfl hl.1 rfl (lv_room (Nat.le_of_ble_eq_true rfl)) dX1_sleptMinutes_14 ⟨Nat.le_of_ble_eq_true rfl, Nat.le_of_ble_eq_true rfl⟩) hS (fun q _ h => hFc q h) hFc (fun r w t H locs ht hvm hw hB hz1 hk1 hS => ?_)
  obtain ⟨rfl, rfl⟩ := hw
  obtain ⟨hP1, hK1, hD1⟩ := hB
  rw [ht] at hP1
  have hP : va_P D vwCl [(h, .inr (1, [.int (nI 0), .int (nI (mSc u)), .ref (a 0), .int (nI (mNc u)), .ref (a 1), .ref (a 2), .ref (a 3), .int (nI (mBc u)), .ref (a 4), .ref (a 5), .int (nI (mRoom u)), .int (nI (mRate u)), .int (nI (mSip u)), .int (mAft u), .int (nI (mNow u)), .int (nI (mTea u)), .int (mSpl u)])), (a 0, .inl (cI, 4, .inl (mHt u))), (a 1, .inl (cI, 8, .inl (mFr u))), (a 2, .inl (cI, 8, .inl (mTo u))), (a 3, .inl (cI, 360, .inl (mCov u))), (a 4, .inl (cI, 6, .inl (mPe u))), (a 5, .inl (cI, 6, .inl (mBe u)))] H := hP1
  have hD : va_D A [(h, .inr (1, [.int (nI 0), .int (nI (mSc u)), .ref (a 0), .int (nI (mNc u)), .ref (a 1), .ref (a 2), .ref (a 3), .int (nI (mBc u)), .ref (a 4), .ref (a 5), .int (nI (mRoom u)), .int (nI (mRate u)), .int (nI (mSip u)), .int (mAft u), .int (nI (mNow u)), .int (nI (mTea u)), .int (mSpl u)])), (a 0, .inl (cI, 4, .inl (mHt u))), (a 1, .inl (cI, 8, .inl (mFr u))), (a 2, .inl (cI, 8, .inl (mTo u))), (a 3, .inl (cI, 360, .inl (mCov u))), (a 4, .inl (cI, 6, .inl (mPe u))), (a 5, .inl (cI, 6, .inl (mBe u)))] := hD1.weaken (fun k q _ h => hFc q.1 h)
  have hq : ((nI (mNow u)) - (fz (awF u) (mNow u) (nI 0))) = nI (mNow u) - fAw u ∧ (((mSc u, mNc u, mBc u, mNow u, mRoom u, mRate u, mSip u, mTea u, mSpl u, mAft u, mHt u, mFr u, mTo u, mCov u, mPe u, mBe u), nI 0) : MS × Int32) = ((mSc u, mNc u, mBc u, mNow u, mRoom u, mRate u, mSip u, mTea u, mSpl u, mAft u, mHt u, mFr u, mTo u, mCov u, mPe u, mBe u), nI 0) := by exact ⟨rfl, rfl⟩
  exact W.iret hx hb hr (fun t ht hW => ⟨⟨_, (((mSc u, mNc u, mBc u, mNow u, mRoom u, mRate u, mSip u, mTea u, mSpl u, mAft u, mHt u, mFr u, mTo u, mCov u, mPe u, mBe u), nI 0) : MS × Int32), rfl, hq, by rw [ht]; exact hP, va_K.moved hW.alike hK, hD⟩, hS.F ht⟩) hS.2.2 dX1_sleptMinutes_17
set_option maxHeartbeats 4000000 in
set_option maxRecDepth 100000 in
theorem c_X1_longestAwake (l : Launch) (D : va_G) (cI : ClassId) (h : Nat) (a : Nat → Nat) (u : MS) (th : Int32) (sz : Nat) (hI : Inv u) : Met l yX1_longestAwake wsX1_longestAwake ({ frames := 2, cells := 0, slots := 0, locals := 44 } : Room) (va_Pc [.ref h] (fun U => U.heap.size = sz ∧ va_P D vwCl (pic1 cI h a u th) U.heap ∧ va_K D vwCl [(cI, .int)] U ∧ va_D (fun _ => True) (pic1 cI h a u th))) ((fun A : Nat → Prop => va_Qi (fun (r : Int32) (w : MS × Int32) => r = fLong u ∧ w = ((mSc u, mNc u, mBc u, mNow u, mRoom u, mRate u, mSip u, mTea u, mSpl u, mAft u, mHt u, mFr u, mTo u, mCov u, mPe u, mBe u), nI 0)) (fun (w : MS × Int32) (t : State) => va_P D vwCl (pic1 cI h a w.1 w.2) t.heap ∧ va_K D vwCl [(cI, .int)] t ∧ va_D A (pic1 cI h a w.1 w.2)) A) (va_A (pic1 cI h a u th) sz)) 0 0 (va_A (pic1 cI h a u th) sz) := by
  refine en_wr (cc := cX1_longestAwake) (maxL := 1) (ret := (some .int)) _ _ (fun A : Nat → Prop => va_Qi (fun (r : Int32) (w : MS × Int32) => r = fLong u ∧ w = ((mSc u, mNc u, mBc u, mNow u, mRoom u, mRate u, mSip u, mTea u, mSpl u, mAft u, mHt u, mFr u, mTo u, mCov u, mPe u, mBe u), nI 0)) (fun (w : MS × Int32) (t : State) => va_P D vwCl (pic1 cI h a w.1 w.2) t.heap ∧ va_K D vwCl [(cI, .int)] t ∧ va_D A (pic1 cI h a w.1 w.2)) A) (by decide) rfl (Nat.le_of_ble_eq_true rfl) ?_
  intro p e s m args below meth c ls A H locs hx hb hml hr hlocks hts hown hP hK hD hA hS hl
  have hown : s.vm.findClass RX1 = some m.cls := hown
  have hin : ∀ w ∈ wsX10, w ∈ wsX1_longestAwake := fun _ h9 => List.mem_cons_of_mem _ (List.mem_append_right _ h9)
  have hl : lv_has ls 1 [(0, .ref h)] := hl
  obtain ⟨hIa, hIb, hIc, hId, hIe, hIf, hIg, hIh, hIi, hIj⟩ := id hI
  refine lv_aload_n hx hb dX1_longestAwake_0 rfl (lv_at hl 0 rfl) ?_
  refine lv_aload_n hx hb dX1_longestAwake_1 rfl (lv_at hl 0 rfl) ?_
  refine vp_callSi (W.runV (As := []) (rest := [.ref h]) ⟨hx, hb, hml, hown, hts⟩ (c_X1_longest l D cI h a u th hI) (cwV 0 hts gX1_longestAwake_X1_longest rfl rfl rfl (by decide +kernel) ⟨Nat.le_of_ble_eq_true rfl, Nat.le_of_ble_eq_true rfl⟩) (pu_pre hK hP rfl rfl) rfl rfl hl.1 rfl (lv_room (Nat.le_of_ble_eq_true rfl)) dX1_longestAwake_2 ⟨Nat.le_of_ble_eq_true rfl, Nat.le_of_ble_eq_true rfl⟩) (fun r hr => ?_)
  subst hr
  have hFc := va_free (wc := [(h, .inr (1, [.int th, .int (nI (mSc u)), .ref (a 0), .int (nI (mNc u)), .ref (a 1), .ref (a 2), .ref (a 3), .int (nI (mBc u)), .ref (a 4), .ref (a 5), .int (nI (mRoom u)), .int (nI (mRate u)), .int (nI (mSip u)), .int (mAft u), .int (nI (mNow u)), .int (nI (mTea u)), .int (mSpl u)])), (a 0, .inl (cI, 4, .inl (mHt u))), (a 1, .inl (cI, 8, .inl (mFr u))), (a 2, .inl (cI, 8, .inl (mTo u))), (a 3, .inl (cI, 360, .inl (mCov u))), (a 4, .inl (cI, 6, .inl (mPe u))), (a 5, .inl (cI, 6, .inl (mBe u)))]) hD hS hA [0, 1, 2, 3, 4, 5, 6] rfl
  refine va_calli (va_runV (As := [.int (fLong u)]) (rest := []) ⟨hx, hb, hml, hown, hts⟩ (c_X1_ok l D cI h a u th H.size (fLong u)) (cwV 1 hts gX1_longestAwake_X1_ok rfl rfl rfl (by decide +kernel) ⟨Nat.le_of_ble_eq_true rfl, Nat.le_of_ble_eq_true rfl⟩) ⟨wr_blind, va_recv (ci := 1) (q0 := 0) hK hP rfl rfl, fun U hU hW => ⟨rfl, by rw [hU], by rw [hU]; exact hP, va_K.moved hW.alike hK, hD.weaken (fun _ _ _ _ => trivial)⟩⟩ rfl rfl hl.1 rfl (lv_room (Nat.le_of_ble_eq_true rfl)) dX1_longestAwake_5 ⟨Nat.le_of_ble_eq_true rfl, Nat.le_of_ble_eq_true rfl⟩) hS (fun q _ h => hFc q h) hFc (fun r w t H locs ht hvm hw hB hz1 hk1 hS => ?_)
  obtain ⟨rfl, rfl⟩ := hw
  obtain ⟨hP1, hK1, hD1⟩ := hB
  rw [ht] at hP1
  have hP : va_P D vwCl [(h, .inr (1, [.int (nI 0), .int (nI (mSc u)), .ref (a 0), .int (nI (mNc u)), .ref (a 1), .ref (a 2), .ref (a 3), .int (nI (mBc u)), .ref (a 4), .ref (a 5), .int (nI (mRoom u)), .int (nI (mRate u)), .int (nI (mSip u)), .int (mAft u), .int (nI (mNow u)), .int (nI (mTea u)), .int (mSpl u)])), (a 0, .inl (cI, 4, .inl (mHt u))), (a 1, .inl (cI, 8, .inl (mFr u))), (a 2, .inl (cI, 8, .inl (mTo u))), (a 3, .inl (cI, 360, .inl (mCov u))), (a 4, .inl (cI, 6, .inl (mPe u))), (a 5, .inl (cI, 6, .inl (mBe u)))] H := hP1
  have hD : va_D A [(h, .inr (1, [.int (nI 0), .int (nI (mSc u)), .ref (a 0), .int (nI (mNc u)), .ref (a 1), .ref (a 2), .ref (a 3), .int (nI (mBc u)), .ref (a 4), .ref (a 5), .int (nI (mRoom u)), .int (nI (mRate u)), .int (nI (mSip u)), .int (mAft u), .int (nI (mNow u)), .int (nI (mTea u)), .int (mSpl u)])), (a 0, .inl (cI, 4, .inl (mHt u))), (a 1, .inl (cI, 8, .inl (mFr u))), (a 2, .inl (cI, 8, .inl (mTo u))), (a 3, .inl (cI, 360, .inl (mCov u))), (a 4, .inl (cI, 6, .inl (mPe u))), (a 5, .inl (cI, 6, .inl (mBe u)))] := hD1.weaken (fun k q _ h => hFc q.1 h)
  have hq : (fLong u) = fLong u ∧ (((mSc u, mNc u, mBc u, mNow u, mRoom u, mRate u, mSip u, mTea u, mSpl u, mAft u, mHt u, mFr u, mTo u, mCov u, mPe u, mBe u), nI 0) : MS × Int32) = ((mSc u, mNc u, mBc u, mNow u, mRoom u, mRate u, mSip u, mTea u, mSpl u, mAft u, mHt u, mFr u, mTo u, mCov u, mPe u, mBe u), nI 0) := by exact ⟨rfl, rfl⟩
  exact W.iret hx hb hr (fun t ht hW => ⟨⟨_, (((mSc u, mNc u, mBc u, mNow u, mRoom u, mRate u, mSip u, mTea u, mSpl u, mAft u, mHt u, mFr u, mTo u, mCov u, mPe u, mBe u), nI 0) : MS × Int32), rfl, hq, by rw [ht]; exact hP, va_K.moved hW.alike hK, hD⟩, hS.F ht⟩) hS.2.2 dX1_longestAwake_8
set_option maxHeartbeats 4000000 in
set_option maxRecDepth 100000 in
theorem c_X1_bestBee (l : Launch) (D : va_G) (cI : ClassId) (h : Nat) (a : Nat → Nat) (u : MS) (th : Int32) (sz : Nat) (hI : Inv u) : Met l yX1_bestBee wsX1_bestBee ({ frames := 5, cells := 0, slots := 0, locals := 109 } : Room) (va_Pc [.ref h] (fun U => U.heap.size = sz ∧ va_P D vwCl (pic1 cI h a u th) U.heap ∧ va_K D vwCl [(cI, .int)] U ∧ va_D (fun _ => True) (pic1 cI h a u th))) ((fun A : Nat → Prop => va_Qi (fun (r : Int32) (w : MS × Int32) => r = fBB u ∧ w = ((mSc u, mNc u, mBc u, mNow u, mRoom u, mRate u, mSip u, mTea u, mSpl u, mAft u, mHt u, mFr u, mTo u, mCov u, mPe u, mBe u), nI 0)) (fun (w : MS × Int32) (t : State) => va_P D vwCl (pic1 cI h a w.1 w.2) t.heap ∧ va_K D vwCl [(cI, .int)] t ∧ va_D A (pic1 cI h a w.1 w.2)) A) (va_A (pic1 cI h a u th) sz)) 0 0 (va_A (pic1 cI h a u th) sz) := by
  refine en_wr (cc := cX1_bestBee) (maxL := 1) (ret := (some .int)) _ _ (fun A : Nat → Prop => va_Qi (fun (r : Int32) (w : MS × Int32) => r = fBB u ∧ w = ((mSc u, mNc u, mBc u, mNow u, mRoom u, mRate u, mSip u, mTea u, mSpl u, mAft u, mHt u, mFr u, mTo u, mCov u, mPe u, mBe u), nI 0)) (fun (w : MS × Int32) (t : State) => va_P D vwCl (pic1 cI h a w.1 w.2) t.heap ∧ va_K D vwCl [(cI, .int)] t ∧ va_D A (pic1 cI h a w.1 w.2)) A) (by decide) rfl (Nat.le_of_ble_eq_true rfl) ?_
  intro p e s m args below meth c ls A H locs hx hb hml hr hlocks hts hown hP hK hD hA hS hl
  have hown : s.vm.findClass RX1 = some m.cls := hown
  have hin : ∀ w ∈ wsX10, w ∈ wsX1_bestBee := fun _ h9 => List.mem_cons_of_mem _ (List.mem_append_right _ h9)
  have hl : lv_has ls 1 [(0, .ref h)] := hl
  obtain ⟨hIa, hIb, hIc, hId, hIe, hIf, hIg, hIh, hIi, hIj⟩ := id hI
  refine lv_aload_n hx hb dX1_bestBee_0 rfl (lv_at hl 0 rfl) ?_
  refine lv_aload_n hx hb dX1_bestBee_1 rfl (lv_at hl 0 rfl) ?_
  refine vp_callSi (W.runV (As := []) (rest := [.ref h]) ⟨hx, hb, hml, hown, hts⟩ (c_X1_best l D cI h a u th hI) (cwV 0 hts gX1_bestBee_X1_best rfl rfl rfl (by decide +kernel) ⟨Nat.le_of_ble_eq_true rfl, Nat.le_of_ble_eq_true rfl⟩) (pu_pre hK hP rfl rfl) rfl rfl hl.1 rfl (lv_room (Nat.le_of_ble_eq_true rfl)) dX1_bestBee_2 ⟨Nat.le_of_ble_eq_true rfl, Nat.le_of_ble_eq_true rfl⟩) (fun r hr => ?_)
  subst hr
  have hFc := va_free (wc := [(h, .inr (1, [.int th, .int (nI (mSc u)), .ref (a 0), .int (nI (mNc u)), .ref (a 1), .ref (a 2), .ref (a 3), .int (nI (mBc u)), .ref (a 4), .ref (a 5), .int (nI (mRoom u)), .int (nI (mRate u)), .int (nI (mSip u)), .int (mAft u), .int (nI (mNow u)), .int (nI (mTea u)), .int (mSpl u)])), (a 0, .inl (cI, 4, .inl (mHt u))), (a 1, .inl (cI, 8, .inl (mFr u))), (a 2, .inl (cI, 8, .inl (mTo u))), (a 3, .inl (cI, 360, .inl (mCov u))), (a 4, .inl (cI, 6, .inl (mPe u))), (a 5, .inl (cI, 6, .inl (mBe u)))]) hD hS hA [0, 1, 2, 3, 4, 5, 6] rfl
  refine va_calli (va_runV (As := [.int (fBB u)]) (rest := []) ⟨hx, hb, hml, hown, hts⟩ (c_X1_ok l D cI h a u th H.size (fBB u)) (cwV 1 hts gX1_bestBee_X1_ok rfl rfl rfl (by decide +kernel) ⟨Nat.le_of_ble_eq_true rfl, Nat.le_of_ble_eq_true rfl⟩) ⟨wr_blind, va_recv (ci := 1) (q0 := 0) hK hP rfl rfl, fun U hU hW => ⟨rfl, by rw [hU], by rw [hU]; exact hP, va_K.moved hW.alike hK, hD.weaken (fun _ _ _ _ => trivial)⟩⟩ rfl rfl hl.1 rfl (lv_room (Nat.le_of_ble_eq_true rfl)) dX1_bestBee_5 ⟨Nat.le_of_ble_eq_true rfl, Nat.le_of_ble_eq_true rfl⟩) hS (fun q _ h => hFc q h) hFc (fun r w t H locs ht hvm hw hB hz1 hk1 hS => ?_)
  obtain ⟨rfl, rfl⟩ := hw
  obtain ⟨hP1, hK1, hD1⟩ := hB
  rw [ht] at hP1
  have hP : va_P D vwCl [(h, .inr (1, [.int (nI 0), .int (nI (mSc u)), .ref (a 0), .int (nI (mNc u)), .ref (a 1), .ref (a 2), .ref (a 3), .int (nI (mBc u)), .ref (a 4), .ref (a 5), .int (nI (mRoom u)), .int (nI (mRate u)), .int (nI (mSip u)), .int (mAft u), .int (nI (mNow u)), .int (nI (mTea u)), .int (mSpl u)])), (a 0, .inl (cI, 4, .inl (mHt u))), (a 1, .inl (cI, 8, .inl (mFr u))), (a 2, .inl (cI, 8, .inl (mTo u))), (a 3, .inl (cI, 360, .inl (mCov u))), (a 4, .inl (cI, 6, .inl (mPe u))), (a 5, .inl (cI, 6, .inl (mBe u)))] H := hP1
  have hD : va_D A [(h, .inr (1, [.int (nI 0), .int (nI (mSc u)), .ref (a 0), .int (nI (mNc u)), .ref (a 1), .ref (a 2), .ref (a 3), .int (nI (mBc u)), .ref (a 4), .ref (a 5), .int (nI (mRoom u)), .int (nI (mRate u)), .int (nI (mSip u)), .int (mAft u), .int (nI (mNow u)), .int (nI (mTea u)), .int (mSpl u)])), (a 0, .inl (cI, 4, .inl (mHt u))), (a 1, .inl (cI, 8, .inl (mFr u))), (a 2, .inl (cI, 8, .inl (mTo u))), (a 3, .inl (cI, 360, .inl (mCov u))), (a 4, .inl (cI, 6, .inl (mPe u))), (a 5, .inl (cI, 6, .inl (mBe u)))] := hD1.weaken (fun k q _ h => hFc q.1 h)
  have hq : (fBB u) = fBB u ∧ (((mSc u, mNc u, mBc u, mNow u, mRoom u, mRate u, mSip u, mTea u, mSpl u, mAft u, mHt u, mFr u, mTo u, mCov u, mPe u, mBe u), nI 0) : MS × Int32) = ((mSc u, mNc u, mBc u, mNow u, mRoom u, mRate u, mSip u, mTea u, mSpl u, mAft u, mHt u, mFr u, mTo u, mCov u, mPe u, mBe u), nI 0) := by exact ⟨rfl, rfl⟩
  exact W.iret hx hb hr (fun t ht hW => ⟨⟨_, (((mSc u, mNc u, mBc u, mNow u, mRoom u, mRate u, mSip u, mTea u, mSpl u, mAft u, mHt u, mFr u, mTo u, mCov u, mPe u, mBe u), nI 0) : MS × Int32), rfl, hq, by rw [ht]; exact hP, va_K.moved hW.alike hK, hD⟩, hS.F ht⟩) hS.2.2 dX1_bestBee_8
set_option maxHeartbeats 4000000 in
set_option maxRecDepth 100000 in
theorem c_X1_spiltAtEnd (l : Launch) (D : va_G) (cI : ClassId) (h : Nat) (a : Nat → Nat) (u : MS) (th : Int32) (sz : Nat) (hI : Inv u) : Met l yX1_spiltAtEnd wsX1_spiltAtEnd ({ frames := 4, cells := 0, slots := 0, locals := 92 } : Room) (va_Pc [.ref h] (fun U => U.heap.size = sz ∧ va_P D vwCl (pic1 cI h a u th) U.heap ∧ va_K D vwCl [(cI, .int)] U ∧ va_D (fun _ => True) (pic1 cI h a u th))) ((fun A : Nat → Prop => va_Qi (fun (r : Int32) (w : MS × Int32) => r = fEnd u ∧ w = ((mSc u, mNc u, mBc u, mNow u, mRoom u, mRate u, mSip u, mTea u, mSpl u, mAft u, mHt u, mFr u, mTo u, mCov u, mPe u, mBe u), nI 0)) (fun (w : MS × Int32) (t : State) => va_P D vwCl (pic1 cI h a w.1 w.2) t.heap ∧ va_K D vwCl [(cI, .int)] t ∧ va_D A (pic1 cI h a w.1 w.2)) A) (va_A (pic1 cI h a u th) sz)) 0 0 (va_A (pic1 cI h a u th) sz) := by
  refine en_wr (cc := cX1_spiltAtEnd) (maxL := 1) (ret := (some .int)) _ _ (fun A : Nat → Prop => va_Qi (fun (r : Int32) (w : MS × Int32) => r = fEnd u ∧ w = ((mSc u, mNc u, mBc u, mNow u, mRoom u, mRate u, mSip u, mTea u, mSpl u, mAft u, mHt u, mFr u, mTo u, mCov u, mPe u, mBe u), nI 0)) (fun (w : MS × Int32) (t : State) => va_P D vwCl (pic1 cI h a w.1 w.2) t.heap ∧ va_K D vwCl [(cI, .int)] t ∧ va_D A (pic1 cI h a w.1 w.2)) A) (by decide) rfl (Nat.le_of_ble_eq_true rfl) ?_
  intro p e s m args below meth c ls A H locs hx hb hml hr hlocks hts hown hP hK hD hA hS hl
  have hown : s.vm.findClass RX1 = some m.cls := hown
  have hin : ∀ w ∈ wsX10, w ∈ wsX1_spiltAtEnd := fun _ h9 => List.mem_cons_of_mem _ (List.mem_append_right _ h9)
  have hl : lv_has ls 1 [(0, .ref h)] := hl
  obtain ⟨hIa, hIb, hIc, hId, hIe, hIf, hIg, hIh, hIi, hIj⟩ := id hI
  refine lv_aload_n hx hb dX1_spiltAtEnd_0 rfl (lv_at hl 0 rfl) ?_
  refine lv_aload_n hx hb dX1_spiltAtEnd_1 rfl (lv_at hl 0 rfl) ?_
  refine vp_callSi (W.runV (As := []) (rest := [.ref h]) ⟨hx, hb, hml, hown, hts⟩ (c_X1_atEnd l D cI h a u th hI) (cwV 0 hts gX1_spiltAtEnd_X1_atEnd rfl rfl rfl (by decide +kernel) ⟨Nat.le_of_ble_eq_true rfl, Nat.le_of_ble_eq_true rfl⟩) (pu_pre hK hP rfl rfl) rfl rfl hl.1 rfl (lv_room (Nat.le_of_ble_eq_true rfl)) dX1_spiltAtEnd_2 ⟨Nat.le_of_ble_eq_true rfl, Nat.le_of_ble_eq_true rfl⟩) (fun r hr => ?_)
  subst hr
  have hFc := va_free (wc := [(h, .inr (1, [.int th, .int (nI (mSc u)), .ref (a 0), .int (nI (mNc u)), .ref (a 1), .ref (a 2), .ref (a 3), .int (nI (mBc u)), .ref (a 4), .ref (a 5), .int (nI (mRoom u)), .int (nI (mRate u)), .int (nI (mSip u)), .int (mAft u), .int (nI (mNow u)), .int (nI (mTea u)), .int (mSpl u)])), (a 0, .inl (cI, 4, .inl (mHt u))), (a 1, .inl (cI, 8, .inl (mFr u))), (a 2, .inl (cI, 8, .inl (mTo u))), (a 3, .inl (cI, 360, .inl (mCov u))), (a 4, .inl (cI, 6, .inl (mPe u))), (a 5, .inl (cI, 6, .inl (mBe u)))]) hD hS hA [0, 1, 2, 3, 4, 5, 6] rfl
  refine va_calli (va_runV (As := [.int (fEnd u)]) (rest := []) ⟨hx, hb, hml, hown, hts⟩ (c_X1_ok l D cI h a u th H.size (fEnd u)) (cwV 1 hts gX1_spiltAtEnd_X1_ok rfl rfl rfl (by decide +kernel) ⟨Nat.le_of_ble_eq_true rfl, Nat.le_of_ble_eq_true rfl⟩) ⟨wr_blind, va_recv (ci := 1) (q0 := 0) hK hP rfl rfl, fun U hU hW => ⟨rfl, by rw [hU], by rw [hU]; exact hP, va_K.moved hW.alike hK, hD.weaken (fun _ _ _ _ => trivial)⟩⟩ rfl rfl hl.1 rfl (lv_room (Nat.le_of_ble_eq_true rfl)) dX1_spiltAtEnd_5 ⟨Nat.le_of_ble_eq_true rfl, Nat.le_of_ble_eq_true rfl⟩) hS (fun q _ h => hFc q h) hFc (fun r w t H locs ht hvm hw hB hz1 hk1 hS => ?_)
  obtain ⟨rfl, rfl⟩ := hw
  obtain ⟨hP1, hK1, hD1⟩ := hB
  rw [ht] at hP1
  have hP : va_P D vwCl [(h, .inr (1, [.int (nI 0), .int (nI (mSc u)), .ref (a 0), .int (nI (mNc u)), .ref (a 1), .ref (a 2), .ref (a 3), .int (nI (mBc u)), .ref (a 4), .ref (a 5), .int (nI (mRoom u)), .int (nI (mRate u)), .int (nI (mSip u)), .int (mAft u), .int (nI (mNow u)), .int (nI (mTea u)), .int (mSpl u)])), (a 0, .inl (cI, 4, .inl (mHt u))), (a 1, .inl (cI, 8, .inl (mFr u))), (a 2, .inl (cI, 8, .inl (mTo u))), (a 3, .inl (cI, 360, .inl (mCov u))), (a 4, .inl (cI, 6, .inl (mPe u))), (a 5, .inl (cI, 6, .inl (mBe u)))] H := hP1
  have hD : va_D A [(h, .inr (1, [.int (nI 0), .int (nI (mSc u)), .ref (a 0), .int (nI (mNc u)), .ref (a 1), .ref (a 2), .ref (a 3), .int (nI (mBc u)), .ref (a 4), .ref (a 5), .int (nI (mRoom u)), .int (nI (mRate u)), .int (nI (mSip u)), .int (mAft u), .int (nI (mNow u)), .int (nI (mTea u)), .int (mSpl u)])), (a 0, .inl (cI, 4, .inl (mHt u))), (a 1, .inl (cI, 8, .inl (mFr u))), (a 2, .inl (cI, 8, .inl (mTo u))), (a 3, .inl (cI, 360, .inl (mCov u))), (a 4, .inl (cI, 6, .inl (mPe u))), (a 5, .inl (cI, 6, .inl (mBe u)))] := hD1.weaken (fun k q _ h => hFc q.1 h)
  have hq : (fEnd u) = fEnd u ∧ (((mSc u, mNc u, mBc u, mNow u, mRoom u, mRate u, mSip u, mTea u, mSpl u, mAft u, mHt u, mFr u, mTo u, mCov u, mPe u, mBe u), nI 0) : MS × Int32) = ((mSc u, mNc u, mBc u, mNow u, mRoom u, mRate u, mSip u, mTea u, mSpl u, mAft u, mHt u, mFr u, mTo u, mCov u, mPe u, mBe u), nI 0) := by exact ⟨rfl, rfl⟩
  exact W.iret hx hb hr (fun t ht hW => ⟨⟨_, (((mSc u, mNc u, mBc u, mNow u, mRoom u, mRate u, mSip u, mTea u, mSpl u, mAft u, mHt u, mFr u, mTo u, mCov u, mPe u, mBe u), nI 0) : MS × Int32), rfl, hq, by rw [ht]; exact hP, va_K.moved hW.alike hK, hD⟩, hS.F ht⟩) hS.2.2 dX1_spiltAtEnd_8
set_option maxHeartbeats 4000000 in
set_option maxRecDepth 100000 in
theorem c_X1_minuteOfSpill (l : Launch) (D : va_G) (cI : ClassId) (h : Nat) (a : Nat → Nat) (u : MS) (th : Int32) (sz : Nat) (hI : Inv u) : Met l yX1_minuteOfSpill wsX1_minuteOfSpill ({ frames := 4, cells := 0, slots := 0, locals := 91 } : Room) (va_Pc [.ref h] (fun U => U.heap.size = sz ∧ va_P D vwCl (pic1 cI h a u th) U.heap ∧ va_K D vwCl [(cI, .int)] U ∧ va_D (fun _ => True) (pic1 cI h a u th))) ((fun A : Nat → Prop => va_Qi (fun (r : Int32) (w : MS × Int32) => r = fSp u (mRate u) ∧ w = ((mSc u, mNc u, mBc u, mNow u, mRoom u, mRate u, mSip u, mTea u, mSpl u, mAft u, mHt u, mFr u, mTo u, mCov u, mPe u, mBe u), nI 0)) (fun (w : MS × Int32) (t : State) => va_P D vwCl (pic1 cI h a w.1 w.2) t.heap ∧ va_K D vwCl [(cI, .int)] t ∧ va_D A (pic1 cI h a w.1 w.2)) A) (va_A (pic1 cI h a u th) sz)) 0 0 (va_A (pic1 cI h a u th) sz) := by
  refine en_wr (cc := cX1_minuteOfSpill) (maxL := 1) (ret := (some .int)) _ _ (fun A : Nat → Prop => va_Qi (fun (r : Int32) (w : MS × Int32) => r = fSp u (mRate u) ∧ w = ((mSc u, mNc u, mBc u, mNow u, mRoom u, mRate u, mSip u, mTea u, mSpl u, mAft u, mHt u, mFr u, mTo u, mCov u, mPe u, mBe u), nI 0)) (fun (w : MS × Int32) (t : State) => va_P D vwCl (pic1 cI h a w.1 w.2) t.heap ∧ va_K D vwCl [(cI, .int)] t ∧ va_D A (pic1 cI h a w.1 w.2)) A) (by decide) rfl (Nat.le_of_ble_eq_true rfl) ?_
  intro p e s m args below meth c ls A H locs hx hb hml hr hlocks hts hown hP hK hD hA hS hl
  have hown : s.vm.findClass RX1 = some m.cls := hown
  have hin : ∀ w ∈ wsX10, w ∈ wsX1_minuteOfSpill := fun _ h9 => List.mem_cons_of_mem _ (List.mem_append_right _ h9)
  have hl : lv_has ls 1 [(0, .ref h)] := hl
  obtain ⟨hIa, hIb, hIc, hId, hIe, hIf, hIg, hIh, hIi, hIj⟩ := id hI
  refine lv_aload_n hx hb dX1_minuteOfSpill_0 rfl (lv_at hl 0 rfl) ?_
  refine lv_aload_n hx hb dX1_minuteOfSpill_1 rfl (lv_at hl 0 rfl) ?_
  refine lv_aload_n hx hb dX1_minuteOfSpill_2 rfl (lv_at hl 0 rfl) ?_
  refine va_get (D := D) (ci := 1) (v := .int (nI (mRate u))) (C := RX1) (T := TX1) (N := 17) hx hb hts hin hown hK hP 0 rfl rfl 11 (by decide) (hts (.fieldLink RX1 32 "AfternoonMeterModel" "rate" "I") (List.mem_of_getElem? (i := 1) rfl)) (fun _ h9 => h9) rfl dX1_minuteOfSpill_3 ?_
  refine vp_callSi (W.runV (As := [.int (nI (mRate u))]) (rest := [.ref h]) ⟨hx, hb, hml, hown, hts⟩ (c_X1_spill l D cI h a u th (mRate u) hI (by omega)) (cwV 1 hts gX1_minuteOfSpill_X1_spill rfl rfl rfl (by decide +kernel) ⟨Nat.le_of_ble_eq_true rfl, Nat.le_of_ble_eq_true rfl⟩) (pu_pre hK hP rfl rfl) rfl rfl hl.1 rfl (lv_room (Nat.le_of_ble_eq_true rfl)) dX1_minuteOfSpill_6 ⟨Nat.le_of_ble_eq_true rfl, Nat.le_of_ble_eq_true rfl⟩) (fun r hr => ?_)
  subst hr
  have hFc := va_free (wc := [(h, .inr (1, [.int th, .int (nI (mSc u)), .ref (a 0), .int (nI (mNc u)), .ref (a 1), .ref (a 2), .ref (a 3), .int (nI (mBc u)), .ref (a 4), .ref (a 5), .int (nI (mRoom u)), .int (nI (mRate u)), .int (nI (mSip u)), .int (mAft u), .int (nI (mNow u)), .int (nI (mTea u)), .int (mSpl u)])), (a 0, .inl (cI, 4, .inl (mHt u))), (a 1, .inl (cI, 8, .inl (mFr u))), (a 2, .inl (cI, 8, .inl (mTo u))), (a 3, .inl (cI, 360, .inl (mCov u))), (a 4, .inl (cI, 6, .inl (mPe u))), (a 5, .inl (cI, 6, .inl (mBe u)))]) hD hS hA [0, 1, 2, 3, 4, 5, 6] rfl
  refine va_calli (va_runV (As := [.int (fSp u (mRate u))]) (rest := []) ⟨hx, hb, hml, hown, hts⟩ (c_X1_ok l D cI h a u th H.size (fSp u (mRate u))) (cwV 1 hts gX1_minuteOfSpill_X1_ok rfl rfl rfl (by decide +kernel) ⟨Nat.le_of_ble_eq_true rfl, Nat.le_of_ble_eq_true rfl⟩) ⟨wr_blind, va_recv (ci := 1) (q0 := 0) hK hP rfl rfl, fun U hU hW => ⟨rfl, by rw [hU], by rw [hU]; exact hP, va_K.moved hW.alike hK, hD.weaken (fun _ _ _ _ => trivial)⟩⟩ rfl rfl hl.1 rfl (lv_room (Nat.le_of_ble_eq_true rfl)) dX1_minuteOfSpill_9 ⟨Nat.le_of_ble_eq_true rfl, Nat.le_of_ble_eq_true rfl⟩) hS (fun q _ h => hFc q h) hFc (fun r w t H locs ht hvm hw hB hz1 hk1 hS => ?_)
  obtain ⟨rfl, rfl⟩ := hw
  obtain ⟨hP1, hK1, hD1⟩ := hB
  rw [ht] at hP1
  have hP : va_P D vwCl [(h, .inr (1, [.int (nI 0), .int (nI (mSc u)), .ref (a 0), .int (nI (mNc u)), .ref (a 1), .ref (a 2), .ref (a 3), .int (nI (mBc u)), .ref (a 4), .ref (a 5), .int (nI (mRoom u)), .int (nI (mRate u)), .int (nI (mSip u)), .int (mAft u), .int (nI (mNow u)), .int (nI (mTea u)), .int (mSpl u)])), (a 0, .inl (cI, 4, .inl (mHt u))), (a 1, .inl (cI, 8, .inl (mFr u))), (a 2, .inl (cI, 8, .inl (mTo u))), (a 3, .inl (cI, 360, .inl (mCov u))), (a 4, .inl (cI, 6, .inl (mPe u))), (a 5, .inl (cI, 6, .inl (mBe u)))] H := hP1
  have hD : va_D A [(h, .inr (1, [.int (nI 0), .int (nI (mSc u)), .ref (a 0), .int (nI (mNc u)), .ref (a 1), .ref (a 2), .ref (a 3), .int (nI (mBc u)), .ref (a 4), .ref (a 5), .int (nI (mRoom u)), .int (nI (mRate u)), .int (nI (mSip u)), .int (mAft u), .int (nI (mNow u)), .int (nI (mTea u)), .int (mSpl u)])), (a 0, .inl (cI, 4, .inl (mHt u))), (a 1, .inl (cI, 8, .inl (mFr u))), (a 2, .inl (cI, 8, .inl (mTo u))), (a 3, .inl (cI, 360, .inl (mCov u))), (a 4, .inl (cI, 6, .inl (mPe u))), (a 5, .inl (cI, 6, .inl (mBe u)))] := hD1.weaken (fun k q _ h => hFc q.1 h)
  have hq : (fSp u (mRate u)) = fSp u (mRate u) ∧ (((mSc u, mNc u, mBc u, mNow u, mRoom u, mRate u, mSip u, mTea u, mSpl u, mAft u, mHt u, mFr u, mTo u, mCov u, mPe u, mBe u), nI 0) : MS × Int32) = ((mSc u, mNc u, mBc u, mNow u, mRoom u, mRate u, mSip u, mTea u, mSpl u, mAft u, mHt u, mFr u, mTo u, mCov u, mPe u, mBe u), nI 0) := by exact ⟨rfl, rfl⟩
  exact W.iret hx hb hr (fun t ht hW => ⟨⟨_, (((mSc u, mNc u, mBc u, mNow u, mRoom u, mRate u, mSip u, mTea u, mSpl u, mAft u, mHt u, mFr u, mTo u, mCov u, mPe u, mBe u), nI 0) : MS × Int32), rfl, hq, by rw [ht]; exact hP, va_K.moved hW.alike hK, hD⟩, hS.F ht⟩) hS.2.2 dX1_minuteOfSpill_12
set_option maxHeartbeats 4000000 in
set_option maxRecDepth 100000 in
theorem c_X1_safeRate (l : Launch) (D : va_G) (cI : ClassId) (h : Nat) (a : Nat → Nat) (u : MS) (th : Int32) (sz : Nat) (hI : Inv u) : Met l yX1_safeRate wsX1_safeRate ({ frames := 5, cells := 0, slots := 0, locals := 112 } : Room) (va_Pc [.ref h] (fun U => U.heap.size = sz ∧ va_P D vwCl (pic1 cI h a u th) U.heap ∧ va_K D vwCl [(cI, .int)] U ∧ va_D (fun _ => True) (pic1 cI h a u th))) ((fun A : Nat → Prop => va_Qi (fun (r : Int32) (w : MS × Int32) => r = nI (sfF u 9) ∧ w = ((mSc u, mNc u, mBc u, mNow u, mRoom u, mRate u, mSip u, mTea u, mSpl u, mAft u, mHt u, mFr u, mTo u, mCov u, mPe u, mBe u), nI 0)) (fun (w : MS × Int32) (t : State) => va_P D vwCl (pic1 cI h a w.1 w.2) t.heap ∧ va_K D vwCl [(cI, .int)] t ∧ va_D A (pic1 cI h a w.1 w.2)) A) (va_A (pic1 cI h a u th) sz)) 0 0 (va_A (pic1 cI h a u th) sz) := by
  refine en_wr (cc := cX1_safeRate) (maxL := 1) (ret := (some .int)) _ _ (fun A : Nat → Prop => va_Qi (fun (r : Int32) (w : MS × Int32) => r = nI (sfF u 9) ∧ w = ((mSc u, mNc u, mBc u, mNow u, mRoom u, mRate u, mSip u, mTea u, mSpl u, mAft u, mHt u, mFr u, mTo u, mCov u, mPe u, mBe u), nI 0)) (fun (w : MS × Int32) (t : State) => va_P D vwCl (pic1 cI h a w.1 w.2) t.heap ∧ va_K D vwCl [(cI, .int)] t ∧ va_D A (pic1 cI h a w.1 w.2)) A) (by decide) rfl (Nat.le_of_ble_eq_true rfl) ?_
  intro p e s m args below meth c ls A H locs hx hb hml hr hlocks hts hown hP hK hD hA hS hl
  have hown : s.vm.findClass RX1 = some m.cls := hown
  have hin : ∀ w ∈ wsX10, w ∈ wsX1_safeRate := fun _ h9 => List.mem_cons_of_mem _ (List.mem_append_right _ h9)
  have hl : lv_has ls 1 [(0, .ref h)] := hl
  obtain ⟨hIa, hIb, hIc, hId, hIe, hIf, hIg, hIh, hIi, hIj⟩ := id hI
  refine lv_aload_n hx hb dX1_safeRate_0 rfl (lv_at hl 0 rfl) ?_
  refine lv_aload_n hx hb dX1_safeRate_1 rfl (lv_at hl 0 rfl) ?_
  refine vp_callSi (W.runV (As := []) (rest := [.ref h]) ⟨hx, hb, hml, hown, hts⟩ (c_X1_safest l D cI h a u th hI) (cwV 0 hts gX1_safeRate_X1_safest rfl rfl rfl (by decide +kernel) ⟨Nat.le_of_ble_eq_true rfl, Nat.le_of_ble_eq_true rfl⟩) (pu_pre hK hP rfl rfl) rfl rfl hl.1 rfl (lv_room (Nat.le_of_ble_eq_true rfl)) dX1_safeRate_2 ⟨Nat.le_of_ble_eq_true rfl, Nat.le_of_ble_eq_true rfl⟩) (fun r hr => ?_)
  subst hr
  have hFc := va_free (wc := [(h, .inr (1, [.int th, .int (nI (mSc u)), .ref (a 0), .int (nI (mNc u)), .ref (a 1), .ref (a 2), .ref (a 3), .int (nI (mBc u)), .ref (a 4), .ref (a 5), .int (nI (mRoom u)), .int (nI (mRate u)), .int (nI (mSip u)), .int (mAft u), .int (nI (mNow u)), .int (nI (mTea u)), .int (mSpl u)])), (a 0, .inl (cI, 4, .inl (mHt u))), (a 1, .inl (cI, 8, .inl (mFr u))), (a 2, .inl (cI, 8, .inl (mTo u))), (a 3, .inl (cI, 360, .inl (mCov u))), (a 4, .inl (cI, 6, .inl (mPe u))), (a 5, .inl (cI, 6, .inl (mBe u)))]) hD hS hA [0, 1, 2, 3, 4, 5, 6] rfl
  refine va_calli (va_runV (As := [.int (nI (sfF u 9))]) (rest := []) ⟨hx, hb, hml, hown, hts⟩ (c_X1_ok l D cI h a u th H.size (nI (sfF u 9))) (cwV 1 hts gX1_safeRate_X1_ok rfl rfl rfl (by decide +kernel) ⟨Nat.le_of_ble_eq_true rfl, Nat.le_of_ble_eq_true rfl⟩) ⟨wr_blind, va_recv (ci := 1) (q0 := 0) hK hP rfl rfl, fun U hU hW => ⟨rfl, by rw [hU], by rw [hU]; exact hP, va_K.moved hW.alike hK, hD.weaken (fun _ _ _ _ => trivial)⟩⟩ rfl rfl hl.1 rfl (lv_room (Nat.le_of_ble_eq_true rfl)) dX1_safeRate_5 ⟨Nat.le_of_ble_eq_true rfl, Nat.le_of_ble_eq_true rfl⟩) hS (fun q _ h => hFc q h) hFc (fun r w t H locs ht hvm hw hB hz1 hk1 hS => ?_)
  obtain ⟨rfl, rfl⟩ := hw
  obtain ⟨hP1, hK1, hD1⟩ := hB
  rw [ht] at hP1
  have hP : va_P D vwCl [(h, .inr (1, [.int (nI 0), .int (nI (mSc u)), .ref (a 0), .int (nI (mNc u)), .ref (a 1), .ref (a 2), .ref (a 3), .int (nI (mBc u)), .ref (a 4), .ref (a 5), .int (nI (mRoom u)), .int (nI (mRate u)), .int (nI (mSip u)), .int (mAft u), .int (nI (mNow u)), .int (nI (mTea u)), .int (mSpl u)])), (a 0, .inl (cI, 4, .inl (mHt u))), (a 1, .inl (cI, 8, .inl (mFr u))), (a 2, .inl (cI, 8, .inl (mTo u))), (a 3, .inl (cI, 360, .inl (mCov u))), (a 4, .inl (cI, 6, .inl (mPe u))), (a 5, .inl (cI, 6, .inl (mBe u)))] H := hP1
  have hD : va_D A [(h, .inr (1, [.int (nI 0), .int (nI (mSc u)), .ref (a 0), .int (nI (mNc u)), .ref (a 1), .ref (a 2), .ref (a 3), .int (nI (mBc u)), .ref (a 4), .ref (a 5), .int (nI (mRoom u)), .int (nI (mRate u)), .int (nI (mSip u)), .int (mAft u), .int (nI (mNow u)), .int (nI (mTea u)), .int (mSpl u)])), (a 0, .inl (cI, 4, .inl (mHt u))), (a 1, .inl (cI, 8, .inl (mFr u))), (a 2, .inl (cI, 8, .inl (mTo u))), (a 3, .inl (cI, 360, .inl (mCov u))), (a 4, .inl (cI, 6, .inl (mPe u))), (a 5, .inl (cI, 6, .inl (mBe u)))] := hD1.weaken (fun k q _ h => hFc q.1 h)
  have hq : (nI (sfF u 9)) = nI (sfF u 9) ∧ (((mSc u, mNc u, mBc u, mNow u, mRoom u, mRate u, mSip u, mTea u, mSpl u, mAft u, mHt u, mFr u, mTo u, mCov u, mPe u, mBe u), nI 0) : MS × Int32) = ((mSc u, mNc u, mBc u, mNow u, mRoom u, mRate u, mSip u, mTea u, mSpl u, mAft u, mHt u, mFr u, mTo u, mCov u, mPe u, mBe u), nI 0) := by exact ⟨rfl, rfl⟩
  exact W.iret hx hb hr (fun t ht hW => ⟨⟨_, (((mSc u, mNc u, mBc u, mNow u, mRoom u, mRate u, mSip u, mTea u, mSpl u, mAft u, mHt u, mFr u, mTo u, mCov u, mPe u, mBe u), nI 0) : MS × Int32), rfl, hq, by rw [ht]; exact hP, va_K.moved hW.alike hK, hD⟩, hS.F ht⟩) hS.2.2 dX1_safeRate_8
set_option maxHeartbeats 4000000 in
set_option maxRecDepth 100000 in
theorem c_X1_bestToGiveUp (l : Launch) (D : va_G) (cI : ClassId) (h : Nat) (a : Nat → Nat) (u : MS) (th : Int32) (sz : Nat) (hI : Inv u) : Met l yX1_bestToGiveUp wsX1_bestToGiveUp ({ frames := 2, cells := 0, slots := 0, locals := 45 } : Room) (va_Pc [.ref h] (fun U => U.heap.size = sz ∧ va_P D vwCl (pic1 cI h a u th) U.heap ∧ va_K D vwCl [(cI, .int)] U ∧ va_D (fun _ => True) (pic1 cI h a u th))) ((fun A : Nat → Prop => va_Qi (fun (r : Int32) (w : MS × Int32) => r = fBG u ∧ w = ((mSc u, mNc u, mBc u, mNow u, mRoom u, mRate u, mSip u, mTea u, mSpl u, mAft u, mHt u, mFr u, mTo u, mCov u, mPe u, mBe u), nI 0)) (fun (w : MS × Int32) (t : State) => va_P D vwCl (pic1 cI h a w.1 w.2) t.heap ∧ va_K D vwCl [(cI, .int)] t ∧ va_D A (pic1 cI h a w.1 w.2)) A) (va_A (pic1 cI h a u th) sz)) 0 0 (va_A (pic1 cI h a u th) sz) := by
  refine en_wr (cc := cX1_bestToGiveUp) (maxL := 1) (ret := (some .int)) _ _ (fun A : Nat → Prop => va_Qi (fun (r : Int32) (w : MS × Int32) => r = fBG u ∧ w = ((mSc u, mNc u, mBc u, mNow u, mRoom u, mRate u, mSip u, mTea u, mSpl u, mAft u, mHt u, mFr u, mTo u, mCov u, mPe u, mBe u), nI 0)) (fun (w : MS × Int32) (t : State) => va_P D vwCl (pic1 cI h a w.1 w.2) t.heap ∧ va_K D vwCl [(cI, .int)] t ∧ va_D A (pic1 cI h a w.1 w.2)) A) (by decide) rfl (Nat.le_of_ble_eq_true rfl) ?_
  intro p e s m args below meth c ls A H locs hx hb hml hr hlocks hts hown hP hK hD hA hS hl
  have hown : s.vm.findClass RX1 = some m.cls := hown
  have hin : ∀ w ∈ wsX10, w ∈ wsX1_bestToGiveUp := fun _ h9 => List.mem_cons_of_mem _ (List.mem_append_right _ h9)
  have hl : lv_has ls 1 [(0, .ref h)] := hl
  obtain ⟨hIa, hIb, hIc, hId, hIe, hIf, hIg, hIh, hIi, hIj⟩ := id hI
  refine lv_aload_n hx hb dX1_bestToGiveUp_0 rfl (lv_at hl 0 rfl) ?_
  refine lv_aload_n hx hb dX1_bestToGiveUp_1 rfl (lv_at hl 0 rfl) ?_
  refine vp_callSi (W.runV (As := []) (rest := [.ref h]) ⟨hx, hb, hml, hown, hts⟩ (c_X1_worst l D cI h a u th hI) (cwV 0 hts gX1_bestToGiveUp_X1_worst rfl rfl rfl (by decide +kernel) ⟨Nat.le_of_ble_eq_true rfl, Nat.le_of_ble_eq_true rfl⟩) (pu_pre hK hP rfl rfl) rfl rfl hl.1 rfl (lv_room (Nat.le_of_ble_eq_true rfl)) dX1_bestToGiveUp_2 ⟨Nat.le_of_ble_eq_true rfl, Nat.le_of_ble_eq_true rfl⟩) (fun r hr => ?_)
  subst hr
  have hFc := va_free (wc := [(h, .inr (1, [.int th, .int (nI (mSc u)), .ref (a 0), .int (nI (mNc u)), .ref (a 1), .ref (a 2), .ref (a 3), .int (nI (mBc u)), .ref (a 4), .ref (a 5), .int (nI (mRoom u)), .int (nI (mRate u)), .int (nI (mSip u)), .int (mAft u), .int (nI (mNow u)), .int (nI (mTea u)), .int (mSpl u)])), (a 0, .inl (cI, 4, .inl (mHt u))), (a 1, .inl (cI, 8, .inl (mFr u))), (a 2, .inl (cI, 8, .inl (mTo u))), (a 3, .inl (cI, 360, .inl (mCov u))), (a 4, .inl (cI, 6, .inl (mPe u))), (a 5, .inl (cI, 6, .inl (mBe u)))]) hD hS hA [0, 1, 2, 3, 4, 5, 6] rfl
  refine va_calli (va_runV (As := [.int (fBG u)]) (rest := []) ⟨hx, hb, hml, hown, hts⟩ (c_X1_ok l D cI h a u th H.size (fBG u)) (cwV 1 hts gX1_bestToGiveUp_X1_ok rfl rfl rfl (by decide +kernel) ⟨Nat.le_of_ble_eq_true rfl, Nat.le_of_ble_eq_true rfl⟩) ⟨wr_blind, va_recv (ci := 1) (q0 := 0) hK hP rfl rfl, fun U hU hW => ⟨rfl, by rw [hU], by rw [hU]; exact hP, va_K.moved hW.alike hK, hD.weaken (fun _ _ _ _ => trivial)⟩⟩ rfl rfl hl.1 rfl (lv_room (Nat.le_of_ble_eq_true rfl)) dX1_bestToGiveUp_5 ⟨Nat.le_of_ble_eq_true rfl, Nat.le_of_ble_eq_true rfl⟩) hS (fun q _ h => hFc q h) hFc (fun r w t H locs ht hvm hw hB hz1 hk1 hS => ?_)
  obtain ⟨rfl, rfl⟩ := hw
  obtain ⟨hP1, hK1, hD1⟩ := hB
  rw [ht] at hP1
  have hP : va_P D vwCl [(h, .inr (1, [.int (nI 0), .int (nI (mSc u)), .ref (a 0), .int (nI (mNc u)), .ref (a 1), .ref (a 2), .ref (a 3), .int (nI (mBc u)), .ref (a 4), .ref (a 5), .int (nI (mRoom u)), .int (nI (mRate u)), .int (nI (mSip u)), .int (mAft u), .int (nI (mNow u)), .int (nI (mTea u)), .int (mSpl u)])), (a 0, .inl (cI, 4, .inl (mHt u))), (a 1, .inl (cI, 8, .inl (mFr u))), (a 2, .inl (cI, 8, .inl (mTo u))), (a 3, .inl (cI, 360, .inl (mCov u))), (a 4, .inl (cI, 6, .inl (mPe u))), (a 5, .inl (cI, 6, .inl (mBe u)))] H := hP1
  have hD : va_D A [(h, .inr (1, [.int (nI 0), .int (nI (mSc u)), .ref (a 0), .int (nI (mNc u)), .ref (a 1), .ref (a 2), .ref (a 3), .int (nI (mBc u)), .ref (a 4), .ref (a 5), .int (nI (mRoom u)), .int (nI (mRate u)), .int (nI (mSip u)), .int (mAft u), .int (nI (mNow u)), .int (nI (mTea u)), .int (mSpl u)])), (a 0, .inl (cI, 4, .inl (mHt u))), (a 1, .inl (cI, 8, .inl (mFr u))), (a 2, .inl (cI, 8, .inl (mTo u))), (a 3, .inl (cI, 360, .inl (mCov u))), (a 4, .inl (cI, 6, .inl (mPe u))), (a 5, .inl (cI, 6, .inl (mBe u)))] := hD1.weaken (fun k q _ h => hFc q.1 h)
  have hq : (fBG u) = fBG u ∧ (((mSc u, mNc u, mBc u, mNow u, mRoom u, mRate u, mSip u, mTea u, mSpl u, mAft u, mHt u, mFr u, mTo u, mCov u, mPe u, mBe u), nI 0) : MS × Int32) = ((mSc u, mNc u, mBc u, mNow u, mRoom u, mRate u, mSip u, mTea u, mSpl u, mAft u, mHt u, mFr u, mTo u, mCov u, mPe u, mBe u), nI 0) := by exact ⟨rfl, rfl⟩
  exact W.iret hx hb hr (fun t ht hW => ⟨⟨_, (((mSc u, mNc u, mBc u, mNow u, mRoom u, mRate u, mSip u, mTea u, mSpl u, mAft u, mHt u, mFr u, mTo u, mCov u, mPe u, mBe u), nI 0) : MS × Int32), rfl, hq, by rw [ht]; exact hP, va_K.moved hW.alike hK, hD⟩, hS.F ht⟩) hS.2.2 dX1_bestToGiveUp_8
set_option maxHeartbeats 4000000 in
set_option maxRecDepth 100000 in
theorem c_X1_begin (l : Launch) (D : va_G) (cI : ClassId) (h : Nat) (a : Nat → Nat) (u : MS) (th : Int32) (sz : Nat) : Met l yX1_begin wsX1_begin ({ frames := 0, cells := 0, slots := 0, locals := 0 } : Room) (va_Pc [.ref h] (fun U => U.heap.size = sz ∧ va_P D vwCl (pic1 cI h a u th) U.heap ∧ va_K D vwCl [(cI, .int)] U ∧ va_D (fun _ => True) (pic1 cI h a u th))) ((fun A : Nat → Prop => va_Qi (fun (r : Int32) (w : MS × Int32) => r = mAft u + nI 1 ∧ w = ((mSc u, mNc u, mBc u, 0, mRoom u, mRate u, mSip u, 0, nI 0, mAft u + nI 1, mHt u, mFr u, mTo u, mCov u, mPe u, mBe u), nI 0)) (fun (w : MS × Int32) (t : State) => va_P D vwCl (pic1 cI h a w.1 w.2) t.heap ∧ va_K D vwCl [(cI, .int)] t ∧ va_D A (pic1 cI h a w.1 w.2)) A) (va_A (pic1 cI h a u th) sz)) 0 0 (va_A (pic1 cI h a u th) sz) := by
  refine en_wr (cc := cX1_begin) (maxL := 1) (ret := (some .int)) _ _ (fun A : Nat → Prop => va_Qi (fun (r : Int32) (w : MS × Int32) => r = mAft u + nI 1 ∧ w = ((mSc u, mNc u, mBc u, 0, mRoom u, mRate u, mSip u, 0, nI 0, mAft u + nI 1, mHt u, mFr u, mTo u, mCov u, mPe u, mBe u), nI 0)) (fun (w : MS × Int32) (t : State) => va_P D vwCl (pic1 cI h a w.1 w.2) t.heap ∧ va_K D vwCl [(cI, .int)] t ∧ va_D A (pic1 cI h a w.1 w.2)) A) (by decide) rfl (Nat.le_of_ble_eq_true rfl) ?_
  intro p e s m args below meth c ls A H locs hx hb hml hr hlocks hts hown hP hK hD hA hS hl
  have hown : s.vm.findClass RX1 = some m.cls := hown
  have hin : ∀ w ∈ wsX10, w ∈ wsX1_begin := fun _ h9 => List.mem_cons_of_mem _ (List.mem_append_right _ h9)
  have hl : lv_has ls 1 [(0, .ref h)] := hl
  refine lv_aload_n hx hb dX1_begin_0 rfl (lv_at hl 0 rfl) ?_
  refine lv_iconst (v := nI 0) hx hb dX1_begin_1 (by decide +kernel) ?_
  refine va_put (D := D) (ci := 1) (v := .int (nI 0)) (ty := .int) (C := RX1) (T := TX1) (N := 17) hx hb hts hin tyX1 tyX1_ok nmX1 hown hK hP hD hS 0 rfl rfl 0 (by decide) (hts (.fieldLink RX1 38 "AfternoonMeterModel" "thrown" "I") (List.mem_of_getElem? (i := 1) rfl)) (fun _ h9 => h9) rfl (by decide +kernel) rfl rfl (Nat.le_of_ble_eq_true rfl) dX1_begin_2 (fun H locs hP hD hS => ?_)
  have hP : va_P D vwCl [(h, .inr (1, [.int (nI 0), .int (nI (mSc u)), .ref (a 0), .int (nI (mNc u)), .ref (a 1), .ref (a 2), .ref (a 3), .int (nI (mBc u)), .ref (a 4), .ref (a 5), .int (nI (mRoom u)), .int (nI (mRate u)), .int (nI (mSip u)), .int (mAft u), .int (nI (mNow u)), .int (nI (mTea u)), .int (mSpl u)])), (a 0, .inl (cI, 4, .inl (mHt u))), (a 1, .inl (cI, 8, .inl (mFr u))), (a 2, .inl (cI, 8, .inl (mTo u))), (a 3, .inl (cI, 360, .inl (mCov u))), (a 4, .inl (cI, 6, .inl (mPe u))), (a 5, .inl (cI, 6, .inl (mBe u)))] H := hP
  have hD : va_D A [(h, .inr (1, [.int (nI 0), .int (nI (mSc u)), .ref (a 0), .int (nI (mNc u)), .ref (a 1), .ref (a 2), .ref (a 3), .int (nI (mBc u)), .ref (a 4), .ref (a 5), .int (nI (mRoom u)), .int (nI (mRate u)), .int (nI (mSip u)), .int (mAft u), .int (nI (mNow u)), .int (nI (mTea u)), .int (mSpl u)])), (a 0, .inl (cI, 4, .inl (mHt u))), (a 1, .inl (cI, 8, .inl (mFr u))), (a 2, .inl (cI, 8, .inl (mTo u))), (a 3, .inl (cI, 360, .inl (mCov u))), (a 4, .inl (cI, 6, .inl (mPe u))), (a 5, .inl (cI, 6, .inl (mBe u)))] := hD
  refine lv_aload_n hx hb dX1_begin_5 rfl (lv_at hl 0 rfl) ?_
  refine lv_dup hx hb dX1_begin_6 rfl ?_
  refine va_get (D := D) (ci := 1) (v := .int (mAft u)) (C := RX1) (T := TX1) (N := 17) hx hb hts hin hown hK hP 0 rfl rfl 13 (by decide) (hts (.fieldLink RX1 113 "AfternoonMeterModel" "afternoon" "I") (List.mem_of_getElem? (i := 2) rfl)) (fun _ h9 => h9) rfl dX1_begin_7 ?_
  refine lv_iconst (v := nI 1) hx hb dX1_begin_10 (by decide +kernel) ?_
  refine lv_iadd hx hb dX1_begin_11 ?_
  refine va_put (D := D) (ci := 1) (v := .int ((mAft u) + (nI 1))) (ty := .int) (C := RX1) (T := TX1) (N := 17) hx hb hts hin tyX1 tyX1_ok nmX1 hown hK hP hD hS 0 rfl rfl 13 (by decide) (hts (.fieldLink RX1 113 "AfternoonMeterModel" "afternoon" "I") (List.mem_of_getElem? (i := 2) rfl)) (fun _ h9 => h9) rfl (by decide +kernel) rfl rfl (Nat.le_of_ble_eq_true rfl) dX1_begin_12 (fun H locs hP hD hS => ?_)
  have hP : va_P D vwCl [(h, .inr (1, [.int (nI 0), .int (nI (mSc u)), .ref (a 0), .int (nI (mNc u)), .ref (a 1), .ref (a 2), .ref (a 3), .int (nI (mBc u)), .ref (a 4), .ref (a 5), .int (nI (mRoom u)), .int (nI (mRate u)), .int (nI (mSip u)), .int ((mAft u) + (nI 1)), .int (nI (mNow u)), .int (nI (mTea u)), .int (mSpl u)])), (a 0, .inl (cI, 4, .inl (mHt u))), (a 1, .inl (cI, 8, .inl (mFr u))), (a 2, .inl (cI, 8, .inl (mTo u))), (a 3, .inl (cI, 360, .inl (mCov u))), (a 4, .inl (cI, 6, .inl (mPe u))), (a 5, .inl (cI, 6, .inl (mBe u)))] H := hP
  have hD : va_D A [(h, .inr (1, [.int (nI 0), .int (nI (mSc u)), .ref (a 0), .int (nI (mNc u)), .ref (a 1), .ref (a 2), .ref (a 3), .int (nI (mBc u)), .ref (a 4), .ref (a 5), .int (nI (mRoom u)), .int (nI (mRate u)), .int (nI (mSip u)), .int ((mAft u) + (nI 1)), .int (nI (mNow u)), .int (nI (mTea u)), .int (mSpl u)])), (a 0, .inl (cI, 4, .inl (mHt u))), (a 1, .inl (cI, 8, .inl (mFr u))), (a 2, .inl (cI, 8, .inl (mTo u))), (a 3, .inl (cI, 360, .inl (mCov u))), (a 4, .inl (cI, 6, .inl (mPe u))), (a 5, .inl (cI, 6, .inl (mBe u)))] := hD
  refine lv_aload_n hx hb dX1_begin_15 rfl (lv_at hl 0 rfl) ?_
  refine lv_iconst (v := nI 0) hx hb dX1_begin_16 (by decide +kernel) ?_
  refine va_put (D := D) (ci := 1) (v := .int (nI 0)) (ty := .int) (C := RX1) (T := TX1) (N := 17) hx hb hts hin tyX1 tyX1_ok nmX1 hown hK hP hD hS 0 rfl rfl 14 (by decide) (hts (.fieldLink RX1 64 "AfternoonMeterModel" "minute" "I") (List.mem_of_getElem? (i := 3) rfl)) (fun _ h9 => h9) rfl (by decide +kernel) rfl rfl (Nat.le_of_ble_eq_true rfl) dX1_begin_17 (fun H locs hP hD hS => ?_)
  have hP : va_P D vwCl [(h, .inr (1, [.int (nI 0), .int (nI (mSc u)), .ref (a 0), .int (nI (mNc u)), .ref (a 1), .ref (a 2), .ref (a 3), .int (nI (mBc u)), .ref (a 4), .ref (a 5), .int (nI (mRoom u)), .int (nI (mRate u)), .int (nI (mSip u)), .int ((mAft u) + (nI 1)), .int (nI 0), .int (nI (mTea u)), .int (mSpl u)])), (a 0, .inl (cI, 4, .inl (mHt u))), (a 1, .inl (cI, 8, .inl (mFr u))), (a 2, .inl (cI, 8, .inl (mTo u))), (a 3, .inl (cI, 360, .inl (mCov u))), (a 4, .inl (cI, 6, .inl (mPe u))), (a 5, .inl (cI, 6, .inl (mBe u)))] H := hP
  have hD : va_D A [(h, .inr (1, [.int (nI 0), .int (nI (mSc u)), .ref (a 0), .int (nI (mNc u)), .ref (a 1), .ref (a 2), .ref (a 3), .int (nI (mBc u)), .ref (a 4), .ref (a 5), .int (nI (mRoom u)), .int (nI (mRate u)), .int (nI (mSip u)), .int ((mAft u) + (nI 1)), .int (nI 0), .int (nI (mTea u)), .int (mSpl u)])), (a 0, .inl (cI, 4, .inl (mHt u))), (a 1, .inl (cI, 8, .inl (mFr u))), (a 2, .inl (cI, 8, .inl (mTo u))), (a 3, .inl (cI, 360, .inl (mCov u))), (a 4, .inl (cI, 6, .inl (mPe u))), (a 5, .inl (cI, 6, .inl (mBe u)))] := hD
  refine lv_aload_n hx hb dX1_begin_20 rfl (lv_at hl 0 rfl) ?_
  refine lv_iconst (v := nI 0) hx hb dX1_begin_21 (by decide +kernel) ?_
  refine va_put (D := D) (ci := 1) (v := .int (nI 0)) (ty := .int) (C := RX1) (T := TX1) (N := 17) hx hb hts hin tyX1 tyX1_ok nmX1 hown hK hP hD hS 0 rfl rfl 15 (by decide) (hts (.fieldLink RX1 87 "AfternoonMeterModel" "tea" "I") (List.mem_of_getElem? (i := 4) rfl)) (fun _ h9 => h9) rfl (by decide +kernel) rfl rfl (Nat.le_of_ble_eq_true rfl) dX1_begin_22 (fun H locs hP hD hS => ?_)
  have hP : va_P D vwCl [(h, .inr (1, [.int (nI 0), .int (nI (mSc u)), .ref (a 0), .int (nI (mNc u)), .ref (a 1), .ref (a 2), .ref (a 3), .int (nI (mBc u)), .ref (a 4), .ref (a 5), .int (nI (mRoom u)), .int (nI (mRate u)), .int (nI (mSip u)), .int ((mAft u) + (nI 1)), .int (nI 0), .int (nI 0), .int (mSpl u)])), (a 0, .inl (cI, 4, .inl (mHt u))), (a 1, .inl (cI, 8, .inl (mFr u))), (a 2, .inl (cI, 8, .inl (mTo u))), (a 3, .inl (cI, 360, .inl (mCov u))), (a 4, .inl (cI, 6, .inl (mPe u))), (a 5, .inl (cI, 6, .inl (mBe u)))] H := hP
  have hD : va_D A [(h, .inr (1, [.int (nI 0), .int (nI (mSc u)), .ref (a 0), .int (nI (mNc u)), .ref (a 1), .ref (a 2), .ref (a 3), .int (nI (mBc u)), .ref (a 4), .ref (a 5), .int (nI (mRoom u)), .int (nI (mRate u)), .int (nI (mSip u)), .int ((mAft u) + (nI 1)), .int (nI 0), .int (nI 0), .int (mSpl u)])), (a 0, .inl (cI, 4, .inl (mHt u))), (a 1, .inl (cI, 8, .inl (mFr u))), (a 2, .inl (cI, 8, .inl (mTo u))), (a 3, .inl (cI, 360, .inl (mCov u))), (a 4, .inl (cI, 6, .inl (mPe u))), (a 5, .inl (cI, 6, .inl (mBe u)))] := hD
  refine lv_aload_n hx hb dX1_begin_25 rfl (lv_at hl 0 rfl) ?_
  refine lv_iconst (v := nI 0) hx hb dX1_begin_26 (by decide +kernel) ?_
  refine va_put (D := D) (ci := 1) (v := .int (nI 0)) (ty := .int) (C := RX1) (T := TX1) (N := 17) hx hb hts hin tyX1 tyX1_ok nmX1 hown hK hP hD hS 0 rfl rfl 16 (by decide) (hts (.fieldLink RX1 94 "AfternoonMeterModel" "spilt" "I") (List.mem_of_getElem? (i := 5) rfl)) (fun _ h9 => h9) rfl (by decide +kernel) rfl rfl (Nat.le_of_ble_eq_true rfl) dX1_begin_27 (fun H locs hP hD hS => ?_)
  have hP : va_P D vwCl [(h, .inr (1, [.int (nI 0), .int (nI (mSc u)), .ref (a 0), .int (nI (mNc u)), .ref (a 1), .ref (a 2), .ref (a 3), .int (nI (mBc u)), .ref (a 4), .ref (a 5), .int (nI (mRoom u)), .int (nI (mRate u)), .int (nI (mSip u)), .int ((mAft u) + (nI 1)), .int (nI 0), .int (nI 0), .int (nI 0)])), (a 0, .inl (cI, 4, .inl (mHt u))), (a 1, .inl (cI, 8, .inl (mFr u))), (a 2, .inl (cI, 8, .inl (mTo u))), (a 3, .inl (cI, 360, .inl (mCov u))), (a 4, .inl (cI, 6, .inl (mPe u))), (a 5, .inl (cI, 6, .inl (mBe u)))] H := hP
  have hD : va_D A [(h, .inr (1, [.int (nI 0), .int (nI (mSc u)), .ref (a 0), .int (nI (mNc u)), .ref (a 1), .ref (a 2), .ref (a 3), .int (nI (mBc u)), .ref (a 4), .ref (a 5), .int (nI (mRoom u)), .int (nI (mRate u)), .int (nI (mSip u)), .int ((mAft u) + (nI 1)), .int (nI 0), .int (nI 0), .int (nI 0)])), (a 0, .inl (cI, 4, .inl (mHt u))), (a 1, .inl (cI, 8, .inl (mFr u))), (a 2, .inl (cI, 8, .inl (mTo u))), (a 3, .inl (cI, 360, .inl (mCov u))), (a 4, .inl (cI, 6, .inl (mPe u))), (a 5, .inl (cI, 6, .inl (mBe u)))] := hD
  refine lv_aload_n hx hb dX1_begin_30 rfl (lv_at hl 0 rfl) ?_
  refine va_get (D := D) (ci := 1) (v := .int ((mAft u) + (nI 1))) (C := RX1) (T := TX1) (N := 17) hx hb hts hin hown hK hP 0 rfl rfl 13 (by decide) (hts (.fieldLink RX1 113 "AfternoonMeterModel" "afternoon" "I") (List.mem_of_getElem? (i := 2) rfl)) (fun _ h9 => h9) rfl dX1_begin_31 ?_
  have hq : (mAft u) + (nI 1) = mAft u + nI 1 ∧ (((mSc u, mNc u, mBc u, 0, mRoom u, mRate u, mSip u, 0, nI 0, (mAft u) + (nI 1), mHt u, mFr u, mTo u, mCov u, mPe u, mBe u), nI 0) : MS × Int32) = ((mSc u, mNc u, mBc u, 0, mRoom u, mRate u, mSip u, 0, nI 0, mAft u + nI 1, mHt u, mFr u, mTo u, mCov u, mPe u, mBe u), nI 0) := by exact ⟨rfl, rfl⟩
  exact W.iret hx hb hr (fun t ht hW => ⟨⟨_, (((mSc u, mNc u, mBc u, 0, mRoom u, mRate u, mSip u, 0, nI 0, (mAft u) + (nI 1), mHt u, mFr u, mTo u, mCov u, mPe u, mBe u), nI 0) : MS × Int32), rfl, hq, by rw [ht]; exact hP, va_K.moved hW.alike hK, hD⟩, hS.F ht⟩) hS.2.2 dX1_begin_34
set_option maxHeartbeats 4000000 in
set_option maxRecDepth 100000 in
theorem c_X1_startOf (l : Launch) (D : va_G) (cI : ClassId) (h : Nat) (a : Nat → Nat) (u : MS) (th : Int32) (sz : Nat) (v0 : Int32) (hI : Inv u) : Met l yX1_startOf wsX1_startOf ({ frames := 2, cells := 0, slots := 0, locals := 43 } : Room) (va_Pc [.ref h, .int v0] (fun U => U.heap.size = sz ∧ va_P D vwCl (pic1 cI h a u th) U.heap ∧ va_K D vwCl [(cI, .int)] U ∧ va_D (fun _ => True) (pic1 cI h a u th))) ((fun A : Nat → Prop => va_Qi (fun (r : Int32) (w : MS × Int32) => w = ((u, kdI v0 (mNc u)) : MS × Int32) ∧ (kdI v0 (mNc u) = nI 0 → r = nI (aN u (tn v0)))) (fun (w : MS × Int32) (t : State) => va_P D vwCl (pic1 cI h a w.1 w.2) t.heap ∧ va_K D vwCl [(cI, .int)] t ∧ va_D A (pic1 cI h a w.1 w.2)) A) (va_A (pic1 cI h a u th) sz)) 0 0 (va_A (pic1 cI h a u th) sz) := by
  refine en_wr (cc := cX1_startOf) (maxL := 2) (ret := (some .int)) _ _ (fun A : Nat → Prop => va_Qi (fun (r : Int32) (w : MS × Int32) => w = ((u, kdI v0 (mNc u)) : MS × Int32) ∧ (kdI v0 (mNc u) = nI 0 → r = nI (aN u (tn v0)))) (fun (w : MS × Int32) (t : State) => va_P D vwCl (pic1 cI h a w.1 w.2) t.heap ∧ va_K D vwCl [(cI, .int)] t ∧ va_D A (pic1 cI h a w.1 w.2)) A) (by decide) rfl (Nat.le_of_ble_eq_true rfl) ?_
  intro p e s m args below meth c ls A H locs hx hb hml hr hlocks hts hown hP hK hD hA hS hl
  have hown : s.vm.findClass RX1 = some m.cls := hown
  have hin : ∀ w ∈ wsX10, w ∈ wsX1_startOf := fun _ h9 => List.mem_cons_of_mem _ (List.mem_append_right _ h9)
  have hl : lv_has ls 2 [(0, .ref h), (1, .int v0)] := hl
  obtain ⟨hIa, hIb, hIc, hId, hIe, hIf, hIg, hIh, hIi, hIj⟩ := id hI
  refine lv_aload_n hx hb dX1_startOf_0 rfl (lv_at hl 0 rfl) ?_
  refine lv_iconst (v := nI 0) hx hb dX1_startOf_1 (by decide +kernel) ?_
  refine va_put (D := D) (ci := 1) (v := .int (nI 0)) (ty := .int) (C := RX1) (T := TX1) (N := 17) hx hb hts hin tyX1 tyX1_ok nmX1 hown hK hP hD hS 0 rfl rfl 0 (by decide) (hts (.fieldLink RX1 38 "AfternoonMeterModel" "thrown" "I") (List.mem_of_getElem? (i := 1) rfl)) (fun _ h9 => h9) rfl (by decide +kernel) rfl rfl (Nat.le_of_ble_eq_true rfl) dX1_startOf_2 (fun H locs hP hD hS => ?_)
  have hP : va_P D vwCl [(h, .inr (1, [.int (nI 0), .int (nI (mSc u)), .ref (a 0), .int (nI (mNc u)), .ref (a 1), .ref (a 2), .ref (a 3), .int (nI (mBc u)), .ref (a 4), .ref (a 5), .int (nI (mRoom u)), .int (nI (mRate u)), .int (nI (mSip u)), .int (mAft u), .int (nI (mNow u)), .int (nI (mTea u)), .int (mSpl u)])), (a 0, .inl (cI, 4, .inl (mHt u))), (a 1, .inl (cI, 8, .inl (mFr u))), (a 2, .inl (cI, 8, .inl (mTo u))), (a 3, .inl (cI, 360, .inl (mCov u))), (a 4, .inl (cI, 6, .inl (mPe u))), (a 5, .inl (cI, 6, .inl (mBe u)))] H := hP
  have hD : va_D A [(h, .inr (1, [.int (nI 0), .int (nI (mSc u)), .ref (a 0), .int (nI (mNc u)), .ref (a 1), .ref (a 2), .ref (a 3), .int (nI (mBc u)), .ref (a 4), .ref (a 5), .int (nI (mRoom u)), .int (nI (mRate u)), .int (nI (mSip u)), .int (mAft u), .int (nI (mNow u)), .int (nI (mTea u)), .int (mSpl u)])), (a 0, .inl (cI, 4, .inl (mHt u))), (a 1, .inl (cI, 8, .inl (mFr u))), (a 2, .inl (cI, 8, .inl (mTo u))), (a 3, .inl (cI, 360, .inl (mCov u))), (a 4, .inl (cI, 6, .inl (mPe u))), (a 5, .inl (cI, 6, .inl (mBe u)))] := hD
  refine lv_aload_n hx hb dX1_startOf_5 rfl (lv_at hl 0 rfl) ?_
  refine lv_iload_n hx hb dX1_startOf_6 rfl (lv_at hl 1 rfl) ?_
  refine vp_callSi (W.runV (As := [.int v0]) (rest := []) ⟨hx, hb, hml, hown, hts⟩ (c_X1_isNap l D cI h a u (nI 0) v0 hI) (cwV 1 hts gX1_startOf_X1_isNap rfl rfl rfl (by decide +kernel) ⟨Nat.le_of_ble_eq_true rfl, Nat.le_of_ble_eq_true rfl⟩) (pu_pre hK hP rfl rfl) rfl rfl hl.1 rfl (lv_room (Nat.le_of_ble_eq_true rfl)) dX1_startOf_7 ⟨Nat.le_of_ble_eq_true rfl, Nat.le_of_ble_eq_true rfl⟩) (fun r hr => ?_)
  subst hr
  refine lv_if_eq (tgt := 22) hx hb dX1_startOf_10 (by decide) (fun c_10 => ?_) (fun c_10 => ?_)
  · skip
    replace c_10 : (inR v0 (mNc u)) = false := bI_eq0 c_10
    refine lv_aload_n hx hb dX1_startOf_22 rfl (lv_at hl 0 rfl) ?_
    refine lv_iconst (v := nI 1) hx hb dX1_startOf_23 (by decide +kernel) ?_
    have hFc := va_free (wc := [(h, .inr (1, [.int (nI 0), .int (nI (mSc u)), .ref (a 0), .int (nI (mNc u)), .ref (a 1), .ref (a 2), .ref (a 3), .int (nI (mBc u)), .ref (a 4), .ref (a 5), .int (nI (mRoom u)), .int (nI (mRate u)), .int (nI (mSip u)), .int (mAft u), .int (nI (mNow u)), .int (nI (mTea u)), .int (mSpl u)])), (a 0, .inl (cI, 4, .inl (mHt u))), (a 1, .inl (cI, 8, .inl (mFr u))), (a 2, .inl (cI, 8, .inl (mTo u))), (a 3, .inl (cI, 360, .inl (mCov u))), (a 4, .inl (cI, 6, .inl (mPe u))), (a 5, .inl (cI, 6, .inl (mBe u)))]) hD hS hA [0, 1, 2, 3, 4, 5, 6] rfl
    refine va_calli (va_runV (As := [.int (nI 1)]) (rest := []) ⟨hx, hb, hml, hown, hts⟩ (c_X1_no l D cI h a u (nI 0) H.size (nI 1)) (cwV 1 hts gX1_startOf_X1_no rfl rfl rfl (by decide +kernel) ⟨Nat.le_of_ble_eq_true rfl, Nat.le_of_ble_eq_true rfl⟩) ⟨wr_blind, va_recv (ci := 1) (q0 := 0) hK hP rfl rfl, fun U hU hW => ⟨rfl, by rw [hU], by rw [hU]; exact hP, va_K.moved hW.alike hK, hD.weaken (fun _ _ _ _ => trivial)⟩⟩ rfl rfl hl.1 rfl (lv_room (Nat.le_of_ble_eq_true rfl)) dX1_startOf_24 ⟨Nat.le_of_ble_eq_true rfl, Nat.le_of_ble_eq_true rfl⟩) hS (fun q _ h => hFc q h) hFc (fun r w t H locs ht hvm hw hB hz1 hk1 hS => ?_)
    obtain ⟨rfl, rfl⟩ := hw
    obtain ⟨hP1, hK1, hD1⟩ := hB
    rw [ht] at hP1
    have hP : va_P D vwCl [(h, .inr (1, [.int (nI 1), .int (nI (mSc u)), .ref (a 0), .int (nI (mNc u)), .ref (a 1), .ref (a 2), .ref (a 3), .int (nI (mBc u)), .ref (a 4), .ref (a 5), .int (nI (mRoom u)), .int (nI (mRate u)), .int (nI (mSip u)), .int (mAft u), .int (nI (mNow u)), .int (nI (mTea u)), .int (mSpl u)])), (a 0, .inl (cI, 4, .inl (mHt u))), (a 1, .inl (cI, 8, .inl (mFr u))), (a 2, .inl (cI, 8, .inl (mTo u))), (a 3, .inl (cI, 360, .inl (mCov u))), (a 4, .inl (cI, 6, .inl (mPe u))), (a 5, .inl (cI, 6, .inl (mBe u)))] H := hP1
    have hD : va_D A [(h, .inr (1, [.int (nI 1), .int (nI (mSc u)), .ref (a 0), .int (nI (mNc u)), .ref (a 1), .ref (a 2), .ref (a 3), .int (nI (mBc u)), .ref (a 4), .ref (a 5), .int (nI (mRoom u)), .int (nI (mRate u)), .int (nI (mSip u)), .int (mAft u), .int (nI (mNow u)), .int (nI (mTea u)), .int (mSpl u)])), (a 0, .inl (cI, 4, .inl (mHt u))), (a 1, .inl (cI, 8, .inl (mFr u))), (a 2, .inl (cI, 8, .inl (mTo u))), (a 3, .inl (cI, 360, .inl (mCov u))), (a 4, .inl (cI, 6, .inl (mPe u))), (a 5, .inl (cI, 6, .inl (mBe u)))] := hD1.weaken (fun k q _ h => hFc q.1 h)
    have hq : (((mSc u, mNc u, mBc u, mNow u, mRoom u, mRate u, mSip u, mTea u, mSpl u, mAft u, mHt u, mFr u, mTo u, mCov u, mPe u, mBe u), (nI 1)) : MS × Int32) = ((u, kdI v0 (mNc u)) : MS × Int32) ∧ (kdI v0 (mNc u) = nI 0 → nI 0 = nI (aN u (tn v0))) := by exact ⟨congrArg (fun z => (u, z)) (kd_f c_10).symm, kd_n1 (kd_f c_10)⟩
    exact W.iret hx hb hr (fun t ht hW => ⟨⟨_, (((mSc u, mNc u, mBc u, mNow u, mRoom u, mRate u, mSip u, mTea u, mSpl u, mAft u, mHt u, mFr u, mTo u, mCov u, mPe u, mBe u), (nI 1)) : MS × Int32), rfl, hq, by rw [ht]; exact hP, va_K.moved hW.alike hK, hD⟩, hS.F ht⟩) hS.2.2 dX1_startOf_27
  · skip
    replace c_10 : (inR v0 (mNc u)) = true := bI_ne0 c_10
    obtain ⟨np, hnp, rfl⟩ := inR_of (by omega) c_10
    refine lv_aload_n hx hb dX1_startOf_13 rfl (lv_at hl 0 rfl) ?_
    refine va_get (D := D) (ci := 1) (v := .ref (a 1)) (C := RX1) (T := TX1) (N := 17) hx hb hts hin hown hK hP 0 rfl rfl 4 (by decide) (hts (.fieldLink RX1 13 "AfternoonMeterModel" "from" "[I") (List.mem_of_getElem? (i := 2) rfl)) (fun _ h9 => h9) rfl dX1_startOf_14 ?_
    refine lv_iload_n hx hb dX1_startOf_17 rfl (lv_at hl 1 rfl) ?_
    refine q_iald (v := nI (aN u np)) hx hb hK hP 2 0 rfl rfl (by omega) (by decide) ((hIg np (by omega)).1) dX1_startOf_18 ?_
    obtain ⟨_, _, _, _⟩ := hIg np (by omega)
    refine lv_goto (tgt := 27) hx hb dX1_startOf_19 (by decide) ?_
    have hq : (((mSc u, mNc u, mBc u, mNow u, mRoom u, mRate u, mSip u, mTea u, mSpl u, mAft u, mHt u, mFr u, mTo u, mCov u, mPe u, mBe u), nI 0) : MS × Int32) = ((u, kdI (nI np) (mNc u)) : MS × Int32) ∧ (kdI (nI np) (mNc u) = nI 0 → nI (aN u np) = nI (aN u (tn (nI np)))) := by exact ⟨congrArg (fun z => (u, z)) (kd_t c_10).symm, fun _ => by rw [tn_nI]⟩
    exact W.iret hx hb hr (fun t ht hW => ⟨⟨_, (((mSc u, mNc u, mBc u, mNow u, mRoom u, mRate u, mSip u, mTea u, mSpl u, mAft u, mHt u, mFr u, mTo u, mCov u, mPe u, mBe u), nI 0) : MS × Int32), rfl, hq, by rw [ht]; exact hP, va_K.moved hW.alike hK, hD⟩, hS.F ht⟩) hS.2.2 dX1_startOf_27
set_option maxHeartbeats 4000000 in
set_option maxRecDepth 100000 in
theorem c_X1_lengthOf (l : Launch) (D : va_G) (cI : ClassId) (h : Nat) (a : Nat → Nat) (u : MS) (th : Int32) (sz : Nat) (v0 : Int32) (hI : Inv u) : Met l yX1_lengthOf wsX1_lengthOf ({ frames := 2, cells := 0, slots := 0, locals := 43 } : Room) (va_Pc [.ref h, .int v0] (fun U => U.heap.size = sz ∧ va_P D vwCl (pic1 cI h a u th) U.heap ∧ va_K D vwCl [(cI, .int)] U ∧ va_D (fun _ => True) (pic1 cI h a u th))) ((fun A : Nat → Prop => va_Qi (fun (r : Int32) (w : MS × Int32) => w = ((u, kdI v0 (mNc u)) : MS × Int32) ∧ (kdI v0 (mNc u) = nI 0 → r = nI (bN u (tn v0) - aN u (tn v0)))) (fun (w : MS × Int32) (t : State) => va_P D vwCl (pic1 cI h a w.1 w.2) t.heap ∧ va_K D vwCl [(cI, .int)] t ∧ va_D A (pic1 cI h a w.1 w.2)) A) (va_A (pic1 cI h a u th) sz)) 0 0 (va_A (pic1 cI h a u th) sz) := by
  refine en_wr (cc := cX1_lengthOf) (maxL := 2) (ret := (some .int)) _ _ (fun A : Nat → Prop => va_Qi (fun (r : Int32) (w : MS × Int32) => w = ((u, kdI v0 (mNc u)) : MS × Int32) ∧ (kdI v0 (mNc u) = nI 0 → r = nI (bN u (tn v0) - aN u (tn v0)))) (fun (w : MS × Int32) (t : State) => va_P D vwCl (pic1 cI h a w.1 w.2) t.heap ∧ va_K D vwCl [(cI, .int)] t ∧ va_D A (pic1 cI h a w.1 w.2)) A) (by decide) rfl (Nat.le_of_ble_eq_true rfl) ?_
  intro p e s m args below meth c ls A H locs hx hb hml hr hlocks hts hown hP hK hD hA hS hl
  have hown : s.vm.findClass RX1 = some m.cls := hown
  have hin : ∀ w ∈ wsX10, w ∈ wsX1_lengthOf := fun _ h9 => List.mem_cons_of_mem _ (List.mem_append_right _ h9)
  have hl : lv_has ls 2 [(0, .ref h), (1, .int v0)] := hl
  obtain ⟨hIa, hIb, hIc, hId, hIe, hIf, hIg, hIh, hIi, hIj⟩ := id hI
  refine lv_aload_n hx hb dX1_lengthOf_0 rfl (lv_at hl 0 rfl) ?_
  refine lv_iconst (v := nI 0) hx hb dX1_lengthOf_1 (by decide +kernel) ?_
  refine va_put (D := D) (ci := 1) (v := .int (nI 0)) (ty := .int) (C := RX1) (T := TX1) (N := 17) hx hb hts hin tyX1 tyX1_ok nmX1 hown hK hP hD hS 0 rfl rfl 0 (by decide) (hts (.fieldLink RX1 38 "AfternoonMeterModel" "thrown" "I") (List.mem_of_getElem? (i := 1) rfl)) (fun _ h9 => h9) rfl (by decide +kernel) rfl rfl (Nat.le_of_ble_eq_true rfl) dX1_lengthOf_2 (fun H locs hP hD hS => ?_)
  have hP : va_P D vwCl [(h, .inr (1, [.int (nI 0), .int (nI (mSc u)), .ref (a 0), .int (nI (mNc u)), .ref (a 1), .ref (a 2), .ref (a 3), .int (nI (mBc u)), .ref (a 4), .ref (a 5), .int (nI (mRoom u)), .int (nI (mRate u)), .int (nI (mSip u)), .int (mAft u), .int (nI (mNow u)), .int (nI (mTea u)), .int (mSpl u)])), (a 0, .inl (cI, 4, .inl (mHt u))), (a 1, .inl (cI, 8, .inl (mFr u))), (a 2, .inl (cI, 8, .inl (mTo u))), (a 3, .inl (cI, 360, .inl (mCov u))), (a 4, .inl (cI, 6, .inl (mPe u))), (a 5, .inl (cI, 6, .inl (mBe u)))] H := hP
  have hD : va_D A [(h, .inr (1, [.int (nI 0), .int (nI (mSc u)), .ref (a 0), .int (nI (mNc u)), .ref (a 1), .ref (a 2), .ref (a 3), .int (nI (mBc u)), .ref (a 4), .ref (a 5), .int (nI (mRoom u)), .int (nI (mRate u)), .int (nI (mSip u)), .int (mAft u), .int (nI (mNow u)), .int (nI (mTea u)), .int (mSpl u)])), (a 0, .inl (cI, 4, .inl (mHt u))), (a 1, .inl (cI, 8, .inl (mFr u))), (a 2, .inl (cI, 8, .inl (mTo u))), (a 3, .inl (cI, 360, .inl (mCov u))), (a 4, .inl (cI, 6, .inl (mPe u))), (a 5, .inl (cI, 6, .inl (mBe u)))] := hD
  refine lv_aload_n hx hb dX1_lengthOf_5 rfl (lv_at hl 0 rfl) ?_
  refine lv_iload_n hx hb dX1_lengthOf_6 rfl (lv_at hl 1 rfl) ?_
  refine vp_callSi (W.runV (As := [.int v0]) (rest := []) ⟨hx, hb, hml, hown, hts⟩ (c_X1_isNap l D cI h a u (nI 0) v0 hI) (cwV 1 hts gX1_lengthOf_X1_isNap rfl rfl rfl (by decide +kernel) ⟨Nat.le_of_ble_eq_true rfl, Nat.le_of_ble_eq_true rfl⟩) (pu_pre hK hP rfl rfl) rfl rfl hl.1 rfl (lv_room (Nat.le_of_ble_eq_true rfl)) dX1_lengthOf_7 ⟨Nat.le_of_ble_eq_true rfl, Nat.le_of_ble_eq_true rfl⟩) (fun r hr => ?_)
  subst hr
  refine lv_if_eq (tgt := 29) hx hb dX1_lengthOf_10 (by decide) (fun c_10 => ?_) (fun c_10 => ?_)
  · skip
    replace c_10 : (inR v0 (mNc u)) = false := bI_eq0 c_10
    refine lv_aload_n hx hb dX1_lengthOf_29 rfl (lv_at hl 0 rfl) ?_
    refine lv_iconst (v := nI 1) hx hb dX1_lengthOf_30 (by decide +kernel) ?_
    have hFc := va_free (wc := [(h, .inr (1, [.int (nI 0), .int (nI (mSc u)), .ref (a 0), .int (nI (mNc u)), .ref (a 1), .ref (a 2), .ref (a 3), .int (nI (mBc u)), .ref (a 4), .ref (a 5), .int (nI (mRoom u)), .int (nI (mRate u)), .int (nI (mSip u)), .int (mAft u), .int (nI (mNow u)), .int (nI (mTea u)), .int (mSpl u)])), (a 0, .inl (cI, 4, .inl (mHt u))), (a 1, .inl (cI, 8, .inl (mFr u))), (a 2, .inl (cI, 8, .inl (mTo u))), (a 3, .inl (cI, 360, .inl (mCov u))), (a 4, .inl (cI, 6, .inl (mPe u))), (a 5, .inl (cI, 6, .inl (mBe u)))]) hD hS hA [0, 1, 2, 3, 4, 5, 6] rfl
    refine va_calli (va_runV (As := [.int (nI 1)]) (rest := []) ⟨hx, hb, hml, hown, hts⟩ (c_X1_no l D cI h a u (nI 0) H.size (nI 1)) (cwV 1 hts gX1_lengthOf_X1_no rfl rfl rfl (by decide +kernel) ⟨Nat.le_of_ble_eq_true rfl, Nat.le_of_ble_eq_true rfl⟩) ⟨wr_blind, va_recv (ci := 1) (q0 := 0) hK hP rfl rfl, fun U hU hW => ⟨rfl, by rw [hU], by rw [hU]; exact hP, va_K.moved hW.alike hK, hD.weaken (fun _ _ _ _ => trivial)⟩⟩ rfl rfl hl.1 rfl (lv_room (Nat.le_of_ble_eq_true rfl)) dX1_lengthOf_31 ⟨Nat.le_of_ble_eq_true rfl, Nat.le_of_ble_eq_true rfl⟩) hS (fun q _ h => hFc q h) hFc (fun r w t H locs ht hvm hw hB hz1 hk1 hS => ?_)
    obtain ⟨rfl, rfl⟩ := hw
    obtain ⟨hP1, hK1, hD1⟩ := hB
    rw [ht] at hP1
    have hP : va_P D vwCl [(h, .inr (1, [.int (nI 1), .int (nI (mSc u)), .ref (a 0), .int (nI (mNc u)), .ref (a 1), .ref (a 2), .ref (a 3), .int (nI (mBc u)), .ref (a 4), .ref (a 5), .int (nI (mRoom u)), .int (nI (mRate u)), .int (nI (mSip u)), .int (mAft u), .int (nI (mNow u)), .int (nI (mTea u)), .int (mSpl u)])), (a 0, .inl (cI, 4, .inl (mHt u))), (a 1, .inl (cI, 8, .inl (mFr u))), (a 2, .inl (cI, 8, .inl (mTo u))), (a 3, .inl (cI, 360, .inl (mCov u))), (a 4, .inl (cI, 6, .inl (mPe u))), (a 5, .inl (cI, 6, .inl (mBe u)))] H := hP1
    have hD : va_D A [(h, .inr (1, [.int (nI 1), .int (nI (mSc u)), .ref (a 0), .int (nI (mNc u)), .ref (a 1), .ref (a 2), .ref (a 3), .int (nI (mBc u)), .ref (a 4), .ref (a 5), .int (nI (mRoom u)), .int (nI (mRate u)), .int (nI (mSip u)), .int (mAft u), .int (nI (mNow u)), .int (nI (mTea u)), .int (mSpl u)])), (a 0, .inl (cI, 4, .inl (mHt u))), (a 1, .inl (cI, 8, .inl (mFr u))), (a 2, .inl (cI, 8, .inl (mTo u))), (a 3, .inl (cI, 360, .inl (mCov u))), (a 4, .inl (cI, 6, .inl (mPe u))), (a 5, .inl (cI, 6, .inl (mBe u)))] := hD1.weaken (fun k q _ h => hFc q.1 h)
    have hq : (((mSc u, mNc u, mBc u, mNow u, mRoom u, mRate u, mSip u, mTea u, mSpl u, mAft u, mHt u, mFr u, mTo u, mCov u, mPe u, mBe u), (nI 1)) : MS × Int32) = ((u, kdI v0 (mNc u)) : MS × Int32) ∧ (kdI v0 (mNc u) = nI 0 → nI 0 = nI (bN u (tn v0) - aN u (tn v0))) := by exact ⟨congrArg (fun z => (u, z)) (kd_f c_10).symm, kd_n1 (kd_f c_10)⟩
    exact W.iret hx hb hr (fun t ht hW => ⟨⟨_, (((mSc u, mNc u, mBc u, mNow u, mRoom u, mRate u, mSip u, mTea u, mSpl u, mAft u, mHt u, mFr u, mTo u, mCov u, mPe u, mBe u), (nI 1)) : MS × Int32), rfl, hq, by rw [ht]; exact hP, va_K.moved hW.alike hK, hD⟩, hS.F ht⟩) hS.2.2 dX1_lengthOf_34
  · skip
    replace c_10 : (inR v0 (mNc u)) = true := bI_ne0 c_10
    obtain ⟨np, hnp, rfl⟩ := inR_of (by omega) c_10
    refine lv_aload_n hx hb dX1_lengthOf_13 rfl (lv_at hl 0 rfl) ?_
    refine va_get (D := D) (ci := 1) (v := .ref (a 2)) (C := RX1) (T := TX1) (N := 17) hx hb hts hin hown hK hP 0 rfl rfl 5 (by decide) (hts (.fieldLink RX1 16 "AfternoonMeterModel" "to" "[I") (List.mem_of_getElem? (i := 2) rfl)) (fun _ h9 => h9) rfl dX1_lengthOf_14 ?_
    refine lv_iload_n hx hb dX1_lengthOf_17 rfl (lv_at hl 1 rfl) ?_
    refine q_iald (v := nI (bN u np)) hx hb hK hP 3 0 rfl rfl (by omega) (by decide) ((hIg np (by omega)).2.1) dX1_lengthOf_18 ?_
    obtain ⟨_, _, _, _⟩ := hIg np (by omega)
    refine lv_aload_n hx hb dX1_lengthOf_19 rfl (lv_at hl 0 rfl) ?_
    refine va_get (D := D) (ci := 1) (v := .ref (a 1)) (C := RX1) (T := TX1) (N := 17) hx hb hts hin hown hK hP 0 rfl rfl 4 (by decide) (hts (.fieldLink RX1 13 "AfternoonMeterModel" "from" "[I") (List.mem_of_getElem? (i := 3) rfl)) (fun _ h9 => h9) rfl dX1_lengthOf_20 ?_
    refine lv_iload_n hx hb dX1_lengthOf_23 rfl (lv_at hl 1 rfl) ?_
    refine q_iald (v := nI (aN u np)) hx hb hK hP 2 0 rfl rfl (by omega) (by decide) ((hIg np (by omega)).1) dX1_lengthOf_24 ?_
    obtain ⟨_, _, _, _⟩ := hIg np (by omega)
    refine q_isubN hx hb (by omega) dX1_lengthOf_25 ?_
    refine lv_goto (tgt := 34) hx hb dX1_lengthOf_26 (by decide) ?_
    have hq : (((mSc u, mNc u, mBc u, mNow u, mRoom u, mRate u, mSip u, mTea u, mSpl u, mAft u, mHt u, mFr u, mTo u, mCov u, mPe u, mBe u), nI 0) : MS × Int32) = ((u, kdI (nI np) (mNc u)) : MS × Int32) ∧ (kdI (nI np) (mNc u) = nI 0 → nI ((bN u np) - (aN u np)) = nI (bN u (tn (nI np)) - aN u (tn (nI np)))) := by exact ⟨congrArg (fun z => (u, z)) (kd_t c_10).symm, fun _ => by rw [tn_nI]⟩
    exact W.iret hx hb hr (fun t ht hW => ⟨⟨_, (((mSc u, mNc u, mBc u, mNow u, mRoom u, mRate u, mSip u, mTea u, mSpl u, mAft u, mHt u, mFr u, mTo u, mCov u, mPe u, mBe u), nI 0) : MS × Int32), rfl, hq, by rw [ht]; exact hP, va_K.moved hW.alike hK, hD⟩, hS.F ht⟩) hS.2.2 dX1_lengthOf_34
set_option maxHeartbeats 4000000 in
set_option maxRecDepth 100000 in
theorem c_X1_napsAt (l : Launch) (D : va_G) (cI : ClassId) (h : Nat) (a : Nat → Nat) (u : MS) (th : Int32) (sz : Nat) (v0 : Int32) (hI : Inv u) : Met l yX1_napsAt wsX1_napsAt ({ frames := 2, cells := 0, slots := 0, locals := 42 } : Room) (va_Pc [.ref h, .int v0] (fun U => U.heap.size = sz ∧ va_P D vwCl (pic1 cI h a u th) U.heap ∧ va_K D vwCl [(cI, .int)] U ∧ va_D (fun _ => True) (pic1 cI h a u th))) ((fun A : Nat → Prop => va_Qi (fun (r : Int32) (w : MS × Int32) => w = ((u, kdI v0 360) : MS × Int32) ∧ (kdI v0 360 = nI 0 → r = nI (cN u (tn v0)))) (fun (w : MS × Int32) (t : State) => va_P D vwCl (pic1 cI h a w.1 w.2) t.heap ∧ va_K D vwCl [(cI, .int)] t ∧ va_D A (pic1 cI h a w.1 w.2)) A) (va_A (pic1 cI h a u th) sz)) 0 0 (va_A (pic1 cI h a u th) sz) := by
  refine en_wr (cc := cX1_napsAt) (maxL := 2) (ret := (some .int)) _ _ (fun A : Nat → Prop => va_Qi (fun (r : Int32) (w : MS × Int32) => w = ((u, kdI v0 360) : MS × Int32) ∧ (kdI v0 360 = nI 0 → r = nI (cN u (tn v0)))) (fun (w : MS × Int32) (t : State) => va_P D vwCl (pic1 cI h a w.1 w.2) t.heap ∧ va_K D vwCl [(cI, .int)] t ∧ va_D A (pic1 cI h a w.1 w.2)) A) (by decide) rfl (Nat.le_of_ble_eq_true rfl) ?_
  intro p e s m args below meth c ls A H locs hx hb hml hr hlocks hts hown hP hK hD hA hS hl
  have hown : s.vm.findClass RX1 = some m.cls := hown
  have hin : ∀ w ∈ wsX10, w ∈ wsX1_napsAt := fun _ h9 => List.mem_cons_of_mem _ (List.mem_append_right _ h9)
  have hl : lv_has ls 2 [(0, .ref h), (1, .int v0)] := hl
  obtain ⟨hIa, hIb, hIc, hId, hIe, hIf, hIg, hIh, hIi, hIj⟩ := id hI
  refine lv_aload_n hx hb dX1_napsAt_0 rfl (lv_at hl 0 rfl) ?_
  refine lv_iconst (v := nI 0) hx hb dX1_napsAt_1 (by decide +kernel) ?_
  refine va_put (D := D) (ci := 1) (v := .int (nI 0)) (ty := .int) (C := RX1) (T := TX1) (N := 17) hx hb hts hin tyX1 tyX1_ok nmX1 hown hK hP hD hS 0 rfl rfl 0 (by decide) (hts (.fieldLink RX1 38 "AfternoonMeterModel" "thrown" "I") (List.mem_of_getElem? (i := 1) rfl)) (fun _ h9 => h9) rfl (by decide +kernel) rfl rfl (Nat.le_of_ble_eq_true rfl) dX1_napsAt_2 (fun H locs hP hD hS => ?_)
  have hP : va_P D vwCl [(h, .inr (1, [.int (nI 0), .int (nI (mSc u)), .ref (a 0), .int (nI (mNc u)), .ref (a 1), .ref (a 2), .ref (a 3), .int (nI (mBc u)), .ref (a 4), .ref (a 5), .int (nI (mRoom u)), .int (nI (mRate u)), .int (nI (mSip u)), .int (mAft u), .int (nI (mNow u)), .int (nI (mTea u)), .int (mSpl u)])), (a 0, .inl (cI, 4, .inl (mHt u))), (a 1, .inl (cI, 8, .inl (mFr u))), (a 2, .inl (cI, 8, .inl (mTo u))), (a 3, .inl (cI, 360, .inl (mCov u))), (a 4, .inl (cI, 6, .inl (mPe u))), (a 5, .inl (cI, 6, .inl (mBe u)))] H := hP
  have hD : va_D A [(h, .inr (1, [.int (nI 0), .int (nI (mSc u)), .ref (a 0), .int (nI (mNc u)), .ref (a 1), .ref (a 2), .ref (a 3), .int (nI (mBc u)), .ref (a 4), .ref (a 5), .int (nI (mRoom u)), .int (nI (mRate u)), .int (nI (mSip u)), .int (mAft u), .int (nI (mNow u)), .int (nI (mTea u)), .int (mSpl u)])), (a 0, .inl (cI, 4, .inl (mHt u))), (a 1, .inl (cI, 8, .inl (mFr u))), (a 2, .inl (cI, 8, .inl (mTo u))), (a 3, .inl (cI, 360, .inl (mCov u))), (a 4, .inl (cI, 6, .inl (mPe u))), (a 5, .inl (cI, 6, .inl (mBe u)))] := hD
  refine lv_iload_n hx hb dX1_napsAt_5 rfl (lv_at hl 1 rfl) ?_
  refine vp_callSi (W.runS (As := [.int v0]) (rest := []) ⟨hx, hb, hml, hown, hts⟩ (c_X1_isMinute l v0) (va_cwS 1 hts gX1_napsAt_X1_isMinute rfl rfl rfl (by decide +kernel) ⟨Nat.le_of_ble_eq_true rfl, Nat.le_of_ble_eq_true rfl⟩) preEq rfl rfl hl.1 rfl (lv_room (Nat.le_of_ble_eq_true rfl)) dX1_napsAt_6 ⟨Nat.le_of_ble_eq_true rfl, Nat.le_of_ble_eq_true rfl⟩) (fun r hr => ?_)
  subst hr
  refine lv_if_eq (tgt := 21) hx hb dX1_napsAt_9 (by decide) (fun c_9 => ?_) (fun c_9 => ?_)
  · skip
    replace c_9 : (inR v0 360) = false := bI_eq0 c_9
    refine lv_aload_n hx hb dX1_napsAt_21 rfl (lv_at hl 0 rfl) ?_
    refine lv_iconst (v := nI 1) hx hb dX1_napsAt_22 (by decide +kernel) ?_
    have hFc := va_free (wc := [(h, .inr (1, [.int (nI 0), .int (nI (mSc u)), .ref (a 0), .int (nI (mNc u)), .ref (a 1), .ref (a 2), .ref (a 3), .int (nI (mBc u)), .ref (a 4), .ref (a 5), .int (nI (mRoom u)), .int (nI (mRate u)), .int (nI (mSip u)), .int (mAft u), .int (nI (mNow u)), .int (nI (mTea u)), .int (mSpl u)])), (a 0, .inl (cI, 4, .inl (mHt u))), (a 1, .inl (cI, 8, .inl (mFr u))), (a 2, .inl (cI, 8, .inl (mTo u))), (a 3, .inl (cI, 360, .inl (mCov u))), (a 4, .inl (cI, 6, .inl (mPe u))), (a 5, .inl (cI, 6, .inl (mBe u)))]) hD hS hA [0, 1, 2, 3, 4, 5, 6] rfl
    refine va_calli (va_runV (As := [.int (nI 1)]) (rest := []) ⟨hx, hb, hml, hown, hts⟩ (c_X1_no l D cI h a u (nI 0) H.size (nI 1)) (cwV 1 hts gX1_napsAt_X1_no rfl rfl rfl (by decide +kernel) ⟨Nat.le_of_ble_eq_true rfl, Nat.le_of_ble_eq_true rfl⟩) ⟨wr_blind, va_recv (ci := 1) (q0 := 0) hK hP rfl rfl, fun U hU hW => ⟨rfl, by rw [hU], by rw [hU]; exact hP, va_K.moved hW.alike hK, hD.weaken (fun _ _ _ _ => trivial)⟩⟩ rfl rfl hl.1 rfl (lv_room (Nat.le_of_ble_eq_true rfl)) dX1_napsAt_23 ⟨Nat.le_of_ble_eq_true rfl, Nat.le_of_ble_eq_true rfl⟩) hS (fun q _ h => hFc q h) hFc (fun r w t H locs ht hvm hw hB hz1 hk1 hS => ?_)
    obtain ⟨rfl, rfl⟩ := hw
    obtain ⟨hP1, hK1, hD1⟩ := hB
    rw [ht] at hP1
    have hP : va_P D vwCl [(h, .inr (1, [.int (nI 1), .int (nI (mSc u)), .ref (a 0), .int (nI (mNc u)), .ref (a 1), .ref (a 2), .ref (a 3), .int (nI (mBc u)), .ref (a 4), .ref (a 5), .int (nI (mRoom u)), .int (nI (mRate u)), .int (nI (mSip u)), .int (mAft u), .int (nI (mNow u)), .int (nI (mTea u)), .int (mSpl u)])), (a 0, .inl (cI, 4, .inl (mHt u))), (a 1, .inl (cI, 8, .inl (mFr u))), (a 2, .inl (cI, 8, .inl (mTo u))), (a 3, .inl (cI, 360, .inl (mCov u))), (a 4, .inl (cI, 6, .inl (mPe u))), (a 5, .inl (cI, 6, .inl (mBe u)))] H := hP1
    have hD : va_D A [(h, .inr (1, [.int (nI 1), .int (nI (mSc u)), .ref (a 0), .int (nI (mNc u)), .ref (a 1), .ref (a 2), .ref (a 3), .int (nI (mBc u)), .ref (a 4), .ref (a 5), .int (nI (mRoom u)), .int (nI (mRate u)), .int (nI (mSip u)), .int (mAft u), .int (nI (mNow u)), .int (nI (mTea u)), .int (mSpl u)])), (a 0, .inl (cI, 4, .inl (mHt u))), (a 1, .inl (cI, 8, .inl (mFr u))), (a 2, .inl (cI, 8, .inl (mTo u))), (a 3, .inl (cI, 360, .inl (mCov u))), (a 4, .inl (cI, 6, .inl (mPe u))), (a 5, .inl (cI, 6, .inl (mBe u)))] := hD1.weaken (fun k q _ h => hFc q.1 h)
    have hq : (((mSc u, mNc u, mBc u, mNow u, mRoom u, mRate u, mSip u, mTea u, mSpl u, mAft u, mHt u, mFr u, mTo u, mCov u, mPe u, mBe u), (nI 1)) : MS × Int32) = ((u, kdI v0 360) : MS × Int32) ∧ (kdI v0 360 = nI 0 → nI 0 = nI (cN u (tn v0))) := by exact ⟨congrArg (fun z => (u, z)) (kd_f c_9).symm, kd_n1 (kd_f c_9)⟩
    exact W.iret hx hb hr (fun t ht hW => ⟨⟨_, (((mSc u, mNc u, mBc u, mNow u, mRoom u, mRate u, mSip u, mTea u, mSpl u, mAft u, mHt u, mFr u, mTo u, mCov u, mPe u, mBe u), (nI 1)) : MS × Int32), rfl, hq, by rw [ht]; exact hP, va_K.moved hW.alike hK, hD⟩, hS.F ht⟩) hS.2.2 dX1_napsAt_26
  · skip
    replace c_9 : (inR v0 360) = true := bI_ne0 c_9
    obtain ⟨tt, ht, rfl⟩ := inR_of (by omega) c_9
    refine lv_aload_n hx hb dX1_napsAt_12 rfl (lv_at hl 0 rfl) ?_
    refine va_get (D := D) (ci := 1) (v := .ref (a 3)) (C := RX1) (T := TX1) (N := 17) hx hb hts hin hown hK hP 0 rfl rfl 6 (by decide) (hts (.fieldLink RX1 19 "AfternoonMeterModel" "cover" "[I") (List.mem_of_getElem? (i := 2) rfl)) (fun _ h9 => h9) rfl dX1_napsAt_13 ?_
    refine lv_iload_n hx hb dX1_napsAt_16 rfl (lv_at hl 1 rfl) ?_
    refine q_iald (v := nI (cN u tt)) hx hb hK hP 4 0 rfl rfl (by omega) (by decide) (hIh tt (by omega)) dX1_napsAt_17 ?_
    have hcn := cN_le u tt
    refine lv_goto (tgt := 26) hx hb dX1_napsAt_18 (by decide) ?_
    have hq : (((mSc u, mNc u, mBc u, mNow u, mRoom u, mRate u, mSip u, mTea u, mSpl u, mAft u, mHt u, mFr u, mTo u, mCov u, mPe u, mBe u), nI 0) : MS × Int32) = ((u, kdI (nI tt) 360) : MS × Int32) ∧ (kdI (nI tt) 360 = nI 0 → nI (cN u tt) = nI (cN u (tn (nI tt)))) := by exact ⟨congrArg (fun z => (u, z)) (kd_t c_9).symm, fun _ => by rw [tn_nI]⟩
    exact W.iret hx hb hr (fun t ht hW => ⟨⟨_, (((mSc u, mNc u, mBc u, mNow u, mRoom u, mRate u, mSip u, mTea u, mSpl u, mAft u, mHt u, mFr u, mTo u, mCov u, mPe u, mBe u), nI 0) : MS × Int32), rfl, hq, by rw [ht]; exact hP, va_K.moved hW.alike hK, hD⟩, hS.F ht⟩) hS.2.2 dX1_napsAt_26
set_option maxHeartbeats 4000000 in
set_option maxRecDepth 100000 in
theorem c_X1_minutesAlone (l : Launch) (D : va_G) (cI : ClassId) (h : Nat) (a : Nat → Nat) (u : MS) (th : Int32) (sz : Nat) (v0 : Int32) (hI : Inv u) : Met l yX1_minutesAlone wsX1_minutesAlone ({ frames := 2, cells := 0, slots := 0, locals := 43 } : Room) (va_Pc [.ref h, .int v0] (fun U => U.heap.size = sz ∧ va_P D vwCl (pic1 cI h a u th) U.heap ∧ va_K D vwCl [(cI, .int)] U ∧ va_D (fun _ => True) (pic1 cI h a u th))) ((fun A : Nat → Prop => va_Qi (fun (r : Int32) (w : MS × Int32) => w = ((u, kdI v0 (mNc u)) : MS × Int32) ∧ (kdI v0 (mNc u) = nI 0 → r = fAl u (tn v0))) (fun (w : MS × Int32) (t : State) => va_P D vwCl (pic1 cI h a w.1 w.2) t.heap ∧ va_K D vwCl [(cI, .int)] t ∧ va_D A (pic1 cI h a w.1 w.2)) A) (va_A (pic1 cI h a u th) sz)) 0 0 (va_A (pic1 cI h a u th) sz) := by
  refine en_wr (cc := cX1_minutesAlone) (maxL := 2) (ret := (some .int)) _ _ (fun A : Nat → Prop => va_Qi (fun (r : Int32) (w : MS × Int32) => w = ((u, kdI v0 (mNc u)) : MS × Int32) ∧ (kdI v0 (mNc u) = nI 0 → r = fAl u (tn v0))) (fun (w : MS × Int32) (t : State) => va_P D vwCl (pic1 cI h a w.1 w.2) t.heap ∧ va_K D vwCl [(cI, .int)] t ∧ va_D A (pic1 cI h a w.1 w.2)) A) (by decide) rfl (Nat.le_of_ble_eq_true rfl) ?_
  intro p e s m args below meth c ls A H locs hx hb hml hr hlocks hts hown hP hK hD hA hS hl
  have hown : s.vm.findClass RX1 = some m.cls := hown
  have hin : ∀ w ∈ wsX10, w ∈ wsX1_minutesAlone := fun _ h9 => List.mem_cons_of_mem _ (List.mem_append_right _ h9)
  have hl : lv_has ls 2 [(0, .ref h), (1, .int v0)] := hl
  obtain ⟨hIa, hIb, hIc, hId, hIe, hIf, hIg, hIh, hIi, hIj⟩ := id hI
  refine lv_aload_n hx hb dX1_minutesAlone_0 rfl (lv_at hl 0 rfl) ?_
  refine lv_iconst (v := nI 0) hx hb dX1_minutesAlone_1 (by decide +kernel) ?_
  refine va_put (D := D) (ci := 1) (v := .int (nI 0)) (ty := .int) (C := RX1) (T := TX1) (N := 17) hx hb hts hin tyX1 tyX1_ok nmX1 hown hK hP hD hS 0 rfl rfl 0 (by decide) (hts (.fieldLink RX1 38 "AfternoonMeterModel" "thrown" "I") (List.mem_of_getElem? (i := 1) rfl)) (fun _ h9 => h9) rfl (by decide +kernel) rfl rfl (Nat.le_of_ble_eq_true rfl) dX1_minutesAlone_2 (fun H locs hP hD hS => ?_)
  have hP : va_P D vwCl [(h, .inr (1, [.int (nI 0), .int (nI (mSc u)), .ref (a 0), .int (nI (mNc u)), .ref (a 1), .ref (a 2), .ref (a 3), .int (nI (mBc u)), .ref (a 4), .ref (a 5), .int (nI (mRoom u)), .int (nI (mRate u)), .int (nI (mSip u)), .int (mAft u), .int (nI (mNow u)), .int (nI (mTea u)), .int (mSpl u)])), (a 0, .inl (cI, 4, .inl (mHt u))), (a 1, .inl (cI, 8, .inl (mFr u))), (a 2, .inl (cI, 8, .inl (mTo u))), (a 3, .inl (cI, 360, .inl (mCov u))), (a 4, .inl (cI, 6, .inl (mPe u))), (a 5, .inl (cI, 6, .inl (mBe u)))] H := hP
  have hD : va_D A [(h, .inr (1, [.int (nI 0), .int (nI (mSc u)), .ref (a 0), .int (nI (mNc u)), .ref (a 1), .ref (a 2), .ref (a 3), .int (nI (mBc u)), .ref (a 4), .ref (a 5), .int (nI (mRoom u)), .int (nI (mRate u)), .int (nI (mSip u)), .int (mAft u), .int (nI (mNow u)), .int (nI (mTea u)), .int (mSpl u)])), (a 0, .inl (cI, 4, .inl (mHt u))), (a 1, .inl (cI, 8, .inl (mFr u))), (a 2, .inl (cI, 8, .inl (mTo u))), (a 3, .inl (cI, 360, .inl (mCov u))), (a 4, .inl (cI, 6, .inl (mPe u))), (a 5, .inl (cI, 6, .inl (mBe u)))] := hD
  refine lv_aload_n hx hb dX1_minutesAlone_5 rfl (lv_at hl 0 rfl) ?_
  refine lv_iload_n hx hb dX1_minutesAlone_6 rfl (lv_at hl 1 rfl) ?_
  refine vp_callSi (W.runV (As := [.int v0]) (rest := []) ⟨hx, hb, hml, hown, hts⟩ (c_X1_isNap l D cI h a u (nI 0) v0 hI) (cwV 1 hts gX1_minutesAlone_X1_isNap rfl rfl rfl (by decide +kernel) ⟨Nat.le_of_ble_eq_true rfl, Nat.le_of_ble_eq_true rfl⟩) (pu_pre hK hP rfl rfl) rfl rfl hl.1 rfl (lv_room (Nat.le_of_ble_eq_true rfl)) dX1_minutesAlone_7 ⟨Nat.le_of_ble_eq_true rfl, Nat.le_of_ble_eq_true rfl⟩) (fun r hr => ?_)
  subst hr
  refine lv_if_eq (tgt := 21) hx hb dX1_minutesAlone_10 (by decide) (fun c_10 => ?_) (fun c_10 => ?_)
  · skip
    replace c_10 : (inR v0 (mNc u)) = false := bI_eq0 c_10
    refine lv_aload_n hx hb dX1_minutesAlone_21 rfl (lv_at hl 0 rfl) ?_
    refine lv_iconst (v := nI 1) hx hb dX1_minutesAlone_22 (by decide +kernel) ?_
    have hFc := va_free (wc := [(h, .inr (1, [.int (nI 0), .int (nI (mSc u)), .ref (a 0), .int (nI (mNc u)), .ref (a 1), .ref (a 2), .ref (a 3), .int (nI (mBc u)), .ref (a 4), .ref (a 5), .int (nI (mRoom u)), .int (nI (mRate u)), .int (nI (mSip u)), .int (mAft u), .int (nI (mNow u)), .int (nI (mTea u)), .int (mSpl u)])), (a 0, .inl (cI, 4, .inl (mHt u))), (a 1, .inl (cI, 8, .inl (mFr u))), (a 2, .inl (cI, 8, .inl (mTo u))), (a 3, .inl (cI, 360, .inl (mCov u))), (a 4, .inl (cI, 6, .inl (mPe u))), (a 5, .inl (cI, 6, .inl (mBe u)))]) hD hS hA [0, 1, 2, 3, 4, 5, 6] rfl
    refine va_calli (va_runV (As := [.int (nI 1)]) (rest := []) ⟨hx, hb, hml, hown, hts⟩ (c_X1_no l D cI h a u (nI 0) H.size (nI 1)) (cwV 1 hts gX1_minutesAlone_X1_no rfl rfl rfl (by decide +kernel) ⟨Nat.le_of_ble_eq_true rfl, Nat.le_of_ble_eq_true rfl⟩) ⟨wr_blind, va_recv (ci := 1) (q0 := 0) hK hP rfl rfl, fun U hU hW => ⟨rfl, by rw [hU], by rw [hU]; exact hP, va_K.moved hW.alike hK, hD.weaken (fun _ _ _ _ => trivial)⟩⟩ rfl rfl hl.1 rfl (lv_room (Nat.le_of_ble_eq_true rfl)) dX1_minutesAlone_23 ⟨Nat.le_of_ble_eq_true rfl, Nat.le_of_ble_eq_true rfl⟩) hS (fun q _ h => hFc q h) hFc (fun r w t H locs ht hvm hw hB hz1 hk1 hS => ?_)
    obtain ⟨rfl, rfl⟩ := hw
    obtain ⟨hP1, hK1, hD1⟩ := hB
    rw [ht] at hP1
    have hP : va_P D vwCl [(h, .inr (1, [.int (nI 1), .int (nI (mSc u)), .ref (a 0), .int (nI (mNc u)), .ref (a 1), .ref (a 2), .ref (a 3), .int (nI (mBc u)), .ref (a 4), .ref (a 5), .int (nI (mRoom u)), .int (nI (mRate u)), .int (nI (mSip u)), .int (mAft u), .int (nI (mNow u)), .int (nI (mTea u)), .int (mSpl u)])), (a 0, .inl (cI, 4, .inl (mHt u))), (a 1, .inl (cI, 8, .inl (mFr u))), (a 2, .inl (cI, 8, .inl (mTo u))), (a 3, .inl (cI, 360, .inl (mCov u))), (a 4, .inl (cI, 6, .inl (mPe u))), (a 5, .inl (cI, 6, .inl (mBe u)))] H := hP1
    have hD : va_D A [(h, .inr (1, [.int (nI 1), .int (nI (mSc u)), .ref (a 0), .int (nI (mNc u)), .ref (a 1), .ref (a 2), .ref (a 3), .int (nI (mBc u)), .ref (a 4), .ref (a 5), .int (nI (mRoom u)), .int (nI (mRate u)), .int (nI (mSip u)), .int (mAft u), .int (nI (mNow u)), .int (nI (mTea u)), .int (mSpl u)])), (a 0, .inl (cI, 4, .inl (mHt u))), (a 1, .inl (cI, 8, .inl (mFr u))), (a 2, .inl (cI, 8, .inl (mTo u))), (a 3, .inl (cI, 360, .inl (mCov u))), (a 4, .inl (cI, 6, .inl (mPe u))), (a 5, .inl (cI, 6, .inl (mBe u)))] := hD1.weaken (fun k q _ h => hFc q.1 h)
    have hq : (((mSc u, mNc u, mBc u, mNow u, mRoom u, mRate u, mSip u, mTea u, mSpl u, mAft u, mHt u, mFr u, mTo u, mCov u, mPe u, mBe u), (nI 1)) : MS × Int32) = ((u, kdI v0 (mNc u)) : MS × Int32) ∧ (kdI v0 (mNc u) = nI 0 → nI 0 = fAl u (tn v0)) := by exact ⟨congrArg (fun z => (u, z)) (kd_f c_10).symm, kd_n1 (kd_f c_10)⟩
    exact W.iret hx hb hr (fun t ht hW => ⟨⟨_, (((mSc u, mNc u, mBc u, mNow u, mRoom u, mRate u, mSip u, mTea u, mSpl u, mAft u, mHt u, mFr u, mTo u, mCov u, mPe u, mBe u), (nI 1)) : MS × Int32), rfl, hq, by rw [ht]; exact hP, va_K.moved hW.alike hK, hD⟩, hS.F ht⟩) hS.2.2 dX1_minutesAlone_26
  · skip
    replace c_10 : (inR v0 (mNc u)) = true := bI_ne0 c_10
    obtain ⟨np, hnp, rfl⟩ := inR_of (by omega) c_10
    refine lv_aload_n hx hb dX1_minutesAlone_13 rfl (lv_at hl 0 rfl) ?_
    refine lv_iload_n hx hb dX1_minutesAlone_14 rfl (lv_at hl 1 rfl) ?_
    refine vp_callSi (W.runV (As := [.int (nI np)]) (rest := []) ⟨hx, hb, hml, hown, hts⟩ (c_X1_alone l D cI h a u (nI 0) np hI (by omega)) (cwV 1 hts gX1_minutesAlone_X1_alone rfl rfl rfl (by decide +kernel) ⟨Nat.le_of_ble_eq_true rfl, Nat.le_of_ble_eq_true rfl⟩) (pu_pre hK hP rfl rfl) rfl rfl hl.1 rfl (lv_room (Nat.le_of_ble_eq_true rfl)) dX1_minutesAlone_15 ⟨Nat.le_of_ble_eq_true rfl, Nat.le_of_ble_eq_true rfl⟩) (fun r hr => ?_)
    subst hr
    refine lv_goto (tgt := 26) hx hb dX1_minutesAlone_18 (by decide) ?_
    have hq : (((mSc u, mNc u, mBc u, mNow u, mRoom u, mRate u, mSip u, mTea u, mSpl u, mAft u, mHt u, mFr u, mTo u, mCov u, mPe u, mBe u), nI 0) : MS × Int32) = ((u, kdI (nI np) (mNc u)) : MS × Int32) ∧ (kdI (nI np) (mNc u) = nI 0 → fAl u np = fAl u (tn (nI np))) := by exact ⟨congrArg (fun z => (u, z)) (kd_t c_10).symm, fun _ => by rw [tn_nI]⟩
    exact W.iret hx hb hr (fun t ht hW => ⟨⟨_, (((mSc u, mNc u, mBc u, mNow u, mRoom u, mRate u, mSip u, mTea u, mSpl u, mAft u, mHt u, mFr u, mTo u, mCov u, mPe u, mBe u), nI 0) : MS × Int32), rfl, hq, by rw [ht]; exact hP, va_K.moved hW.alike hK, hD⟩, hS.F ht⟩) hS.2.2 dX1_minutesAlone_26
set_option maxHeartbeats 4000000 in
set_option maxRecDepth 100000 in
theorem c_X1_ticksOf (l : Launch) (D : va_G) (cI : ClassId) (h : Nat) (a : Nat → Nat) (u : MS) (th : Int32) (sz : Nat) (v0 : Int32) (hI : Inv u) : Met l yX1_ticksOf wsX1_ticksOf ({ frames := 3, cells := 0, slots := 0, locals := 66 } : Room) (va_Pc [.ref h, .int v0] (fun U => U.heap.size = sz ∧ va_P D vwCl (pic1 cI h a u th) U.heap ∧ va_K D vwCl [(cI, .int)] U ∧ va_D (fun _ => True) (pic1 cI h a u th))) ((fun A : Nat → Prop => va_Qi (fun (r : Int32) (w : MS × Int32) => w = ((u, kdI v0 (mBc u)) : MS × Int32) ∧ (kdI v0 (mBc u) = nI 0 → r = fTk u (tn v0))) (fun (w : MS × Int32) (t : State) => va_P D vwCl (pic1 cI h a w.1 w.2) t.heap ∧ va_K D vwCl [(cI, .int)] t ∧ va_D A (pic1 cI h a w.1 w.2)) A) (va_A (pic1 cI h a u th) sz)) 0 0 (va_A (pic1 cI h a u th) sz) := by
  refine en_wr (cc := cX1_ticksOf) (maxL := 2) (ret := (some .int)) _ _ (fun A : Nat → Prop => va_Qi (fun (r : Int32) (w : MS × Int32) => w = ((u, kdI v0 (mBc u)) : MS × Int32) ∧ (kdI v0 (mBc u) = nI 0 → r = fTk u (tn v0))) (fun (w : MS × Int32) (t : State) => va_P D vwCl (pic1 cI h a w.1 w.2) t.heap ∧ va_K D vwCl [(cI, .int)] t ∧ va_D A (pic1 cI h a w.1 w.2)) A) (by decide) rfl (Nat.le_of_ble_eq_true rfl) ?_
  intro p e s m args below meth c ls A H locs hx hb hml hr hlocks hts hown hP hK hD hA hS hl
  have hown : s.vm.findClass RX1 = some m.cls := hown
  have hin : ∀ w ∈ wsX10, w ∈ wsX1_ticksOf := fun _ h9 => List.mem_cons_of_mem _ (List.mem_append_right _ h9)
  have hl : lv_has ls 2 [(0, .ref h), (1, .int v0)] := hl
  obtain ⟨hIa, hIb, hIc, hId, hIe, hIf, hIg, hIh, hIi, hIj⟩ := id hI
  refine lv_aload_n hx hb dX1_ticksOf_0 rfl (lv_at hl 0 rfl) ?_
  refine lv_iconst (v := nI 0) hx hb dX1_ticksOf_1 (by decide +kernel) ?_
  refine va_put (D := D) (ci := 1) (v := .int (nI 0)) (ty := .int) (C := RX1) (T := TX1) (N := 17) hx hb hts hin tyX1 tyX1_ok nmX1 hown hK hP hD hS 0 rfl rfl 0 (by decide) (hts (.fieldLink RX1 38 "AfternoonMeterModel" "thrown" "I") (List.mem_of_getElem? (i := 1) rfl)) (fun _ h9 => h9) rfl (by decide +kernel) rfl rfl (Nat.le_of_ble_eq_true rfl) dX1_ticksOf_2 (fun H locs hP hD hS => ?_)
  have hP : va_P D vwCl [(h, .inr (1, [.int (nI 0), .int (nI (mSc u)), .ref (a 0), .int (nI (mNc u)), .ref (a 1), .ref (a 2), .ref (a 3), .int (nI (mBc u)), .ref (a 4), .ref (a 5), .int (nI (mRoom u)), .int (nI (mRate u)), .int (nI (mSip u)), .int (mAft u), .int (nI (mNow u)), .int (nI (mTea u)), .int (mSpl u)])), (a 0, .inl (cI, 4, .inl (mHt u))), (a 1, .inl (cI, 8, .inl (mFr u))), (a 2, .inl (cI, 8, .inl (mTo u))), (a 3, .inl (cI, 360, .inl (mCov u))), (a 4, .inl (cI, 6, .inl (mPe u))), (a 5, .inl (cI, 6, .inl (mBe u)))] H := hP
  have hD : va_D A [(h, .inr (1, [.int (nI 0), .int (nI (mSc u)), .ref (a 0), .int (nI (mNc u)), .ref (a 1), .ref (a 2), .ref (a 3), .int (nI (mBc u)), .ref (a 4), .ref (a 5), .int (nI (mRoom u)), .int (nI (mRate u)), .int (nI (mSip u)), .int (mAft u), .int (nI (mNow u)), .int (nI (mTea u)), .int (mSpl u)])), (a 0, .inl (cI, 4, .inl (mHt u))), (a 1, .inl (cI, 8, .inl (mFr u))), (a 2, .inl (cI, 8, .inl (mTo u))), (a 3, .inl (cI, 360, .inl (mCov u))), (a 4, .inl (cI, 6, .inl (mPe u))), (a 5, .inl (cI, 6, .inl (mBe u)))] := hD
  refine lv_aload_n hx hb dX1_ticksOf_5 rfl (lv_at hl 0 rfl) ?_
  refine lv_iload_n hx hb dX1_ticksOf_6 rfl (lv_at hl 1 rfl) ?_
  refine vp_callSi (W.runV (As := [.int v0]) (rest := []) ⟨hx, hb, hml, hown, hts⟩ (c_X1_isBee l D cI h a u (nI 0) v0 hI) (cwV 1 hts gX1_ticksOf_X1_isBee rfl rfl rfl (by decide +kernel) ⟨Nat.le_of_ble_eq_true rfl, Nat.le_of_ble_eq_true rfl⟩) (pu_pre hK hP rfl rfl) rfl rfl hl.1 rfl (lv_room (Nat.le_of_ble_eq_true rfl)) dX1_ticksOf_7 ⟨Nat.le_of_ble_eq_true rfl, Nat.le_of_ble_eq_true rfl⟩) (fun r hr => ?_)
  subst hr
  refine lv_if_eq (tgt := 21) hx hb dX1_ticksOf_10 (by decide) (fun c_10 => ?_) (fun c_10 => ?_)
  · skip
    replace c_10 : (inR v0 (mBc u)) = false := bI_eq0 c_10
    refine lv_aload_n hx hb dX1_ticksOf_21 rfl (lv_at hl 0 rfl) ?_
    refine lv_iconst (v := nI 1) hx hb dX1_ticksOf_22 (by decide +kernel) ?_
    have hFc := va_free (wc := [(h, .inr (1, [.int (nI 0), .int (nI (mSc u)), .ref (a 0), .int (nI (mNc u)), .ref (a 1), .ref (a 2), .ref (a 3), .int (nI (mBc u)), .ref (a 4), .ref (a 5), .int (nI (mRoom u)), .int (nI (mRate u)), .int (nI (mSip u)), .int (mAft u), .int (nI (mNow u)), .int (nI (mTea u)), .int (mSpl u)])), (a 0, .inl (cI, 4, .inl (mHt u))), (a 1, .inl (cI, 8, .inl (mFr u))), (a 2, .inl (cI, 8, .inl (mTo u))), (a 3, .inl (cI, 360, .inl (mCov u))), (a 4, .inl (cI, 6, .inl (mPe u))), (a 5, .inl (cI, 6, .inl (mBe u)))]) hD hS hA [0, 1, 2, 3, 4, 5, 6] rfl
    refine va_calli (va_runV (As := [.int (nI 1)]) (rest := []) ⟨hx, hb, hml, hown, hts⟩ (c_X1_no l D cI h a u (nI 0) H.size (nI 1)) (cwV 1 hts gX1_ticksOf_X1_no rfl rfl rfl (by decide +kernel) ⟨Nat.le_of_ble_eq_true rfl, Nat.le_of_ble_eq_true rfl⟩) ⟨wr_blind, va_recv (ci := 1) (q0 := 0) hK hP rfl rfl, fun U hU hW => ⟨rfl, by rw [hU], by rw [hU]; exact hP, va_K.moved hW.alike hK, hD.weaken (fun _ _ _ _ => trivial)⟩⟩ rfl rfl hl.1 rfl (lv_room (Nat.le_of_ble_eq_true rfl)) dX1_ticksOf_23 ⟨Nat.le_of_ble_eq_true rfl, Nat.le_of_ble_eq_true rfl⟩) hS (fun q _ h => hFc q h) hFc (fun r w t H locs ht hvm hw hB hz1 hk1 hS => ?_)
    obtain ⟨rfl, rfl⟩ := hw
    obtain ⟨hP1, hK1, hD1⟩ := hB
    rw [ht] at hP1
    have hP : va_P D vwCl [(h, .inr (1, [.int (nI 1), .int (nI (mSc u)), .ref (a 0), .int (nI (mNc u)), .ref (a 1), .ref (a 2), .ref (a 3), .int (nI (mBc u)), .ref (a 4), .ref (a 5), .int (nI (mRoom u)), .int (nI (mRate u)), .int (nI (mSip u)), .int (mAft u), .int (nI (mNow u)), .int (nI (mTea u)), .int (mSpl u)])), (a 0, .inl (cI, 4, .inl (mHt u))), (a 1, .inl (cI, 8, .inl (mFr u))), (a 2, .inl (cI, 8, .inl (mTo u))), (a 3, .inl (cI, 360, .inl (mCov u))), (a 4, .inl (cI, 6, .inl (mPe u))), (a 5, .inl (cI, 6, .inl (mBe u)))] H := hP1
    have hD : va_D A [(h, .inr (1, [.int (nI 1), .int (nI (mSc u)), .ref (a 0), .int (nI (mNc u)), .ref (a 1), .ref (a 2), .ref (a 3), .int (nI (mBc u)), .ref (a 4), .ref (a 5), .int (nI (mRoom u)), .int (nI (mRate u)), .int (nI (mSip u)), .int (mAft u), .int (nI (mNow u)), .int (nI (mTea u)), .int (mSpl u)])), (a 0, .inl (cI, 4, .inl (mHt u))), (a 1, .inl (cI, 8, .inl (mFr u))), (a 2, .inl (cI, 8, .inl (mTo u))), (a 3, .inl (cI, 360, .inl (mCov u))), (a 4, .inl (cI, 6, .inl (mPe u))), (a 5, .inl (cI, 6, .inl (mBe u)))] := hD1.weaken (fun k q _ h => hFc q.1 h)
    have hq : (((mSc u, mNc u, mBc u, mNow u, mRoom u, mRate u, mSip u, mTea u, mSpl u, mAft u, mHt u, mFr u, mTo u, mCov u, mPe u, mBe u), (nI 1)) : MS × Int32) = ((u, kdI v0 (mBc u)) : MS × Int32) ∧ (kdI v0 (mBc u) = nI 0 → nI 0 = fTk u (tn v0)) := by exact ⟨congrArg (fun z => (u, z)) (kd_f c_10).symm, kd_n1 (kd_f c_10)⟩
    exact W.iret hx hb hr (fun t ht hW => ⟨⟨_, (((mSc u, mNc u, mBc u, mNow u, mRoom u, mRate u, mSip u, mTea u, mSpl u, mAft u, mHt u, mFr u, mTo u, mCov u, mPe u, mBe u), (nI 1)) : MS × Int32), rfl, hq, by rw [ht]; exact hP, va_K.moved hW.alike hK, hD⟩, hS.F ht⟩) hS.2.2 dX1_ticksOf_26
  · skip
    replace c_10 : (inR v0 (mBc u)) = true := bI_ne0 c_10
    obtain ⟨bb, hbb, rfl⟩ := inR_of (by omega) c_10
    refine lv_aload_n hx hb dX1_ticksOf_13 rfl (lv_at hl 0 rfl) ?_
    refine lv_iload_n hx hb dX1_ticksOf_14 rfl (lv_at hl 1 rfl) ?_
    refine vp_callSi (W.runV (As := [.int (nI bb)]) (rest := []) ⟨hx, hb, hml, hown, hts⟩ (c_X1_ticked l D cI h a u (nI 0) bb hI (by omega)) (cwV 1 hts gX1_ticksOf_X1_ticked rfl rfl rfl (by decide +kernel) ⟨Nat.le_of_ble_eq_true rfl, Nat.le_of_ble_eq_true rfl⟩) (pu_pre hK hP rfl rfl) rfl rfl hl.1 rfl (lv_room (Nat.le_of_ble_eq_true rfl)) dX1_ticksOf_15 ⟨Nat.le_of_ble_eq_true rfl, Nat.le_of_ble_eq_true rfl⟩) (fun r hr => ?_)
    subst hr
    refine lv_goto (tgt := 26) hx hb dX1_ticksOf_18 (by decide) ?_
    have hq : (((mSc u, mNc u, mBc u, mNow u, mRoom u, mRate u, mSip u, mTea u, mSpl u, mAft u, mHt u, mFr u, mTo u, mCov u, mPe u, mBe u), nI 0) : MS × Int32) = ((u, kdI (nI bb) (mBc u)) : MS × Int32) ∧ (kdI (nI bb) (mBc u) = nI 0 → fTk u bb = fTk u (tn (nI bb))) := by exact ⟨congrArg (fun z => (u, z)) (kd_t c_10).symm, fun _ => by rw [tn_nI]⟩
    exact W.iret hx hb hr (fun t ht hW => ⟨⟨_, (((mSc u, mNc u, mBc u, mNow u, mRoom u, mRate u, mSip u, mTea u, mSpl u, mAft u, mHt u, mFr u, mTo u, mCov u, mPe u, mBe u), nI 0) : MS × Int32), rfl, hq, by rw [ht]; exact hP, va_K.moved hW.alike hK, hD⟩, hS.F ht⟩) hS.2.2 dX1_ticksOf_26
set_option maxHeartbeats 4000000 in
set_option maxRecDepth 100000 in
theorem c_X1_measuredBy (l : Launch) (D : va_G) (cI : ClassId) (h : Nat) (a : Nat → Nat) (u : MS) (th : Int32) (sz : Nat) (v0 : Int32) (hI : Inv u) : Met l yX1_measuredBy wsX1_measuredBy ({ frames := 3, cells := 0, slots := 0, locals := 66 } : Room) (va_Pc [.ref h, .int v0] (fun U => U.heap.size = sz ∧ va_P D vwCl (pic1 cI h a u th) U.heap ∧ va_K D vwCl [(cI, .int)] U ∧ va_D (fun _ => True) (pic1 cI h a u th))) ((fun A : Nat → Prop => va_Qi (fun (r : Int32) (w : MS × Int32) => w = ((u, kdI v0 (mBc u)) : MS × Int32) ∧ (kdI v0 (mBc u) = nI 0 → r = fMe u (tn v0))) (fun (w : MS × Int32) (t : State) => va_P D vwCl (pic1 cI h a w.1 w.2) t.heap ∧ va_K D vwCl [(cI, .int)] t ∧ va_D A (pic1 cI h a w.1 w.2)) A) (va_A (pic1 cI h a u th) sz)) 0 0 (va_A (pic1 cI h a u th) sz) := by
  refine en_wr (cc := cX1_measuredBy) (maxL := 2) (ret := (some .int)) _ _ (fun A : Nat → Prop => va_Qi (fun (r : Int32) (w : MS × Int32) => w = ((u, kdI v0 (mBc u)) : MS × Int32) ∧ (kdI v0 (mBc u) = nI 0 → r = fMe u (tn v0))) (fun (w : MS × Int32) (t : State) => va_P D vwCl (pic1 cI h a w.1 w.2) t.heap ∧ va_K D vwCl [(cI, .int)] t ∧ va_D A (pic1 cI h a w.1 w.2)) A) (by decide) rfl (Nat.le_of_ble_eq_true rfl) ?_
  intro p e s m args below meth c ls A H locs hx hb hml hr hlocks hts hown hP hK hD hA hS hl
  have hown : s.vm.findClass RX1 = some m.cls := hown
  have hin : ∀ w ∈ wsX10, w ∈ wsX1_measuredBy := fun _ h9 => List.mem_cons_of_mem _ (List.mem_append_right _ h9)
  have hl : lv_has ls 2 [(0, .ref h), (1, .int v0)] := hl
  obtain ⟨hIa, hIb, hIc, hId, hIe, hIf, hIg, hIh, hIi, hIj⟩ := id hI
  refine lv_aload_n hx hb dX1_measuredBy_0 rfl (lv_at hl 0 rfl) ?_
  refine lv_iconst (v := nI 0) hx hb dX1_measuredBy_1 (by decide +kernel) ?_
  refine va_put (D := D) (ci := 1) (v := .int (nI 0)) (ty := .int) (C := RX1) (T := TX1) (N := 17) hx hb hts hin tyX1 tyX1_ok nmX1 hown hK hP hD hS 0 rfl rfl 0 (by decide) (hts (.fieldLink RX1 38 "AfternoonMeterModel" "thrown" "I") (List.mem_of_getElem? (i := 1) rfl)) (fun _ h9 => h9) rfl (by decide +kernel) rfl rfl (Nat.le_of_ble_eq_true rfl) dX1_measuredBy_2 (fun H locs hP hD hS => ?_)
  have hP : va_P D vwCl [(h, .inr (1, [.int (nI 0), .int (nI (mSc u)), .ref (a 0), .int (nI (mNc u)), .ref (a 1), .ref (a 2), .ref (a 3), .int (nI (mBc u)), .ref (a 4), .ref (a 5), .int (nI (mRoom u)), .int (nI (mRate u)), .int (nI (mSip u)), .int (mAft u), .int (nI (mNow u)), .int (nI (mTea u)), .int (mSpl u)])), (a 0, .inl (cI, 4, .inl (mHt u))), (a 1, .inl (cI, 8, .inl (mFr u))), (a 2, .inl (cI, 8, .inl (mTo u))), (a 3, .inl (cI, 360, .inl (mCov u))), (a 4, .inl (cI, 6, .inl (mPe u))), (a 5, .inl (cI, 6, .inl (mBe u)))] H := hP
  have hD : va_D A [(h, .inr (1, [.int (nI 0), .int (nI (mSc u)), .ref (a 0), .int (nI (mNc u)), .ref (a 1), .ref (a 2), .ref (a 3), .int (nI (mBc u)), .ref (a 4), .ref (a 5), .int (nI (mRoom u)), .int (nI (mRate u)), .int (nI (mSip u)), .int (mAft u), .int (nI (mNow u)), .int (nI (mTea u)), .int (mSpl u)])), (a 0, .inl (cI, 4, .inl (mHt u))), (a 1, .inl (cI, 8, .inl (mFr u))), (a 2, .inl (cI, 8, .inl (mTo u))), (a 3, .inl (cI, 360, .inl (mCov u))), (a 4, .inl (cI, 6, .inl (mPe u))), (a 5, .inl (cI, 6, .inl (mBe u)))] := hD
  refine lv_aload_n hx hb dX1_measuredBy_5 rfl (lv_at hl 0 rfl) ?_
  refine lv_iload_n hx hb dX1_measuredBy_6 rfl (lv_at hl 1 rfl) ?_
  refine vp_callSi (W.runV (As := [.int v0]) (rest := []) ⟨hx, hb, hml, hown, hts⟩ (c_X1_isBee l D cI h a u (nI 0) v0 hI) (cwV 1 hts gX1_measuredBy_X1_isBee rfl rfl rfl (by decide +kernel) ⟨Nat.le_of_ble_eq_true rfl, Nat.le_of_ble_eq_true rfl⟩) (pu_pre hK hP rfl rfl) rfl rfl hl.1 rfl (lv_room (Nat.le_of_ble_eq_true rfl)) dX1_measuredBy_7 ⟨Nat.le_of_ble_eq_true rfl, Nat.le_of_ble_eq_true rfl⟩) (fun r hr => ?_)
  subst hr
  refine lv_if_eq (tgt := 28) hx hb dX1_measuredBy_10 (by decide) (fun c_10 => ?_) (fun c_10 => ?_)
  · skip
    replace c_10 : (inR v0 (mBc u)) = false := bI_eq0 c_10
    refine lv_aload_n hx hb dX1_measuredBy_28 rfl (lv_at hl 0 rfl) ?_
    refine lv_iconst (v := nI 1) hx hb dX1_measuredBy_29 (by decide +kernel) ?_
    have hFc := va_free (wc := [(h, .inr (1, [.int (nI 0), .int (nI (mSc u)), .ref (a 0), .int (nI (mNc u)), .ref (a 1), .ref (a 2), .ref (a 3), .int (nI (mBc u)), .ref (a 4), .ref (a 5), .int (nI (mRoom u)), .int (nI (mRate u)), .int (nI (mSip u)), .int (mAft u), .int (nI (mNow u)), .int (nI (mTea u)), .int (mSpl u)])), (a 0, .inl (cI, 4, .inl (mHt u))), (a 1, .inl (cI, 8, .inl (mFr u))), (a 2, .inl (cI, 8, .inl (mTo u))), (a 3, .inl (cI, 360, .inl (mCov u))), (a 4, .inl (cI, 6, .inl (mPe u))), (a 5, .inl (cI, 6, .inl (mBe u)))]) hD hS hA [0, 1, 2, 3, 4, 5, 6] rfl
    refine va_calli (va_runV (As := [.int (nI 1)]) (rest := []) ⟨hx, hb, hml, hown, hts⟩ (c_X1_no l D cI h a u (nI 0) H.size (nI 1)) (cwV 1 hts gX1_measuredBy_X1_no rfl rfl rfl (by decide +kernel) ⟨Nat.le_of_ble_eq_true rfl, Nat.le_of_ble_eq_true rfl⟩) ⟨wr_blind, va_recv (ci := 1) (q0 := 0) hK hP rfl rfl, fun U hU hW => ⟨rfl, by rw [hU], by rw [hU]; exact hP, va_K.moved hW.alike hK, hD.weaken (fun _ _ _ _ => trivial)⟩⟩ rfl rfl hl.1 rfl (lv_room (Nat.le_of_ble_eq_true rfl)) dX1_measuredBy_30 ⟨Nat.le_of_ble_eq_true rfl, Nat.le_of_ble_eq_true rfl⟩) hS (fun q _ h => hFc q h) hFc (fun r w t H locs ht hvm hw hB hz1 hk1 hS => ?_)
    obtain ⟨rfl, rfl⟩ := hw
    obtain ⟨hP1, hK1, hD1⟩ := hB
    rw [ht] at hP1
    have hP : va_P D vwCl [(h, .inr (1, [.int (nI 1), .int (nI (mSc u)), .ref (a 0), .int (nI (mNc u)), .ref (a 1), .ref (a 2), .ref (a 3), .int (nI (mBc u)), .ref (a 4), .ref (a 5), .int (nI (mRoom u)), .int (nI (mRate u)), .int (nI (mSip u)), .int (mAft u), .int (nI (mNow u)), .int (nI (mTea u)), .int (mSpl u)])), (a 0, .inl (cI, 4, .inl (mHt u))), (a 1, .inl (cI, 8, .inl (mFr u))), (a 2, .inl (cI, 8, .inl (mTo u))), (a 3, .inl (cI, 360, .inl (mCov u))), (a 4, .inl (cI, 6, .inl (mPe u))), (a 5, .inl (cI, 6, .inl (mBe u)))] H := hP1
    have hD : va_D A [(h, .inr (1, [.int (nI 1), .int (nI (mSc u)), .ref (a 0), .int (nI (mNc u)), .ref (a 1), .ref (a 2), .ref (a 3), .int (nI (mBc u)), .ref (a 4), .ref (a 5), .int (nI (mRoom u)), .int (nI (mRate u)), .int (nI (mSip u)), .int (mAft u), .int (nI (mNow u)), .int (nI (mTea u)), .int (mSpl u)])), (a 0, .inl (cI, 4, .inl (mHt u))), (a 1, .inl (cI, 8, .inl (mFr u))), (a 2, .inl (cI, 8, .inl (mTo u))), (a 3, .inl (cI, 360, .inl (mCov u))), (a 4, .inl (cI, 6, .inl (mPe u))), (a 5, .inl (cI, 6, .inl (mBe u)))] := hD1.weaken (fun k q _ h => hFc q.1 h)
    have hq : (((mSc u, mNc u, mBc u, mNow u, mRoom u, mRate u, mSip u, mTea u, mSpl u, mAft u, mHt u, mFr u, mTo u, mCov u, mPe u, mBe u), (nI 1)) : MS × Int32) = ((u, kdI v0 (mBc u)) : MS × Int32) ∧ (kdI v0 (mBc u) = nI 0 → nI 0 = fMe u (tn v0)) := by exact ⟨congrArg (fun z => (u, z)) (kd_f c_10).symm, kd_n1 (kd_f c_10)⟩
    exact W.iret hx hb hr (fun t ht hW => ⟨⟨_, (((mSc u, mNc u, mBc u, mNow u, mRoom u, mRate u, mSip u, mTea u, mSpl u, mAft u, mHt u, mFr u, mTo u, mCov u, mPe u, mBe u), (nI 1)) : MS × Int32), rfl, hq, by rw [ht]; exact hP, va_K.moved hW.alike hK, hD⟩, hS.F ht⟩) hS.2.2 dX1_measuredBy_33
  · skip
    replace c_10 : (inR v0 (mBc u)) = true := bI_ne0 c_10
    obtain ⟨bb, hbb, rfl⟩ := inR_of (by omega) c_10
    refine lv_aload_n hx hb dX1_measuredBy_13 rfl (lv_at hl 0 rfl) ?_
    refine lv_iload_n hx hb dX1_measuredBy_14 rfl (lv_at hl 1 rfl) ?_
    refine vp_callSi (W.runV (As := [.int (nI bb)]) (rest := []) ⟨hx, hb, hml, hown, hts⟩ (c_X1_ticked l D cI h a u (nI 0) bb hI (by omega)) (cwV 1 hts gX1_measuredBy_X1_ticked rfl rfl rfl (by decide +kernel) ⟨Nat.le_of_ble_eq_true rfl, Nat.le_of_ble_eq_true rfl⟩) (pu_pre hK hP rfl rfl) rfl rfl hl.1 rfl (lv_room (Nat.le_of_ble_eq_true rfl)) dX1_measuredBy_15 ⟨Nat.le_of_ble_eq_true rfl, Nat.le_of_ble_eq_true rfl⟩) (fun r hr => ?_)
    subst hr
    refine lv_aload_n hx hb dX1_measuredBy_18 rfl (lv_at hl 0 rfl) ?_
    refine va_get (D := D) (ci := 1) (v := .ref (a 4)) (C := RX1) (T := TX1) (N := 17) hx hb hts hin hown hK hP 0 rfl rfl 8 (by decide) (hts (.fieldLink RX1 22 "AfternoonMeterModel" "period" "[I") (List.mem_of_getElem? (i := 2) rfl)) (fun _ h9 => h9) rfl dX1_measuredBy_19 ?_
    refine lv_iload_n hx hb dX1_measuredBy_22 rfl (lv_at hl 1 rfl) ?_
    refine q_iald (v := nI (pN u bb)) hx hb hK hP 5 0 rfl rfl (by omega) (by decide) ((hIf bb (by omega)).1) dX1_measuredBy_23 ?_
    obtain ⟨_, _, _, _, _⟩ := hIf bb (by omega)
    refine lv_imul hx hb dX1_measuredBy_24 ?_
    refine lv_goto (tgt := 33) hx hb dX1_measuredBy_25 (by decide) ?_
    have hq : (((mSc u, mNc u, mBc u, mNow u, mRoom u, mRate u, mSip u, mTea u, mSpl u, mAft u, mHt u, mFr u, mTo u, mCov u, mPe u, mBe u), nI 0) : MS × Int32) = ((u, kdI (nI bb) (mBc u)) : MS × Int32) ∧ (kdI (nI bb) (mBc u) = nI 0 → (fTk u bb) * (nI (pN u bb)) = fMe u (tn (nI bb))) := by exact ⟨congrArg (fun z => (u, z)) (kd_t c_10).symm, fun _ => by rw [tn_nI]; rfl⟩
    exact W.iret hx hb hr (fun t ht hW => ⟨⟨_, (((mSc u, mNc u, mBc u, mNow u, mRoom u, mRate u, mSip u, mTea u, mSpl u, mAft u, mHt u, mFr u, mTo u, mCov u, mPe u, mBe u), nI 0) : MS × Int32), rfl, hq, by rw [ht]; exact hP, va_K.moved hW.alike hK, hD⟩, hS.F ht⟩) hS.2.2 dX1_measuredBy_33
set_option maxHeartbeats 4000000 in
set_option maxRecDepth 100000 in
theorem c_X1_errorOf (l : Launch) (D : va_G) (cI : ClassId) (h : Nat) (a : Nat → Nat) (u : MS) (th : Int32) (sz : Nat) (v0 : Int32) (hI : Inv u) : Met l yX1_errorOf wsX1_errorOf ({ frames := 4, cells := 0, slots := 0, locals := 87 } : Room) (va_Pc [.ref h, .int v0] (fun U => U.heap.size = sz ∧ va_P D vwCl (pic1 cI h a u th) U.heap ∧ va_K D vwCl [(cI, .int)] U ∧ va_D (fun _ => True) (pic1 cI h a u th))) ((fun A : Nat → Prop => va_Qi (fun (r : Int32) (w : MS × Int32) => w = ((u, kdI v0 (mBc u)) : MS × Int32) ∧ (kdI v0 (mBc u) = nI 0 → r = fEr u (tn v0))) (fun (w : MS × Int32) (t : State) => va_P D vwCl (pic1 cI h a w.1 w.2) t.heap ∧ va_K D vwCl [(cI, .int)] t ∧ va_D A (pic1 cI h a w.1 w.2)) A) (va_A (pic1 cI h a u th) sz)) 0 0 (va_A (pic1 cI h a u th) sz) := by
  refine en_wr (cc := cX1_errorOf) (maxL := 2) (ret := (some .int)) _ _ (fun A : Nat → Prop => va_Qi (fun (r : Int32) (w : MS × Int32) => w = ((u, kdI v0 (mBc u)) : MS × Int32) ∧ (kdI v0 (mBc u) = nI 0 → r = fEr u (tn v0))) (fun (w : MS × Int32) (t : State) => va_P D vwCl (pic1 cI h a w.1 w.2) t.heap ∧ va_K D vwCl [(cI, .int)] t ∧ va_D A (pic1 cI h a w.1 w.2)) A) (by decide) rfl (Nat.le_of_ble_eq_true rfl) ?_
  intro p e s m args below meth c ls A H locs hx hb hml hr hlocks hts hown hP hK hD hA hS hl
  have hown : s.vm.findClass RX1 = some m.cls := hown
  have hin : ∀ w ∈ wsX10, w ∈ wsX1_errorOf := fun _ h9 => List.mem_cons_of_mem _ (List.mem_append_right _ h9)
  have hl : lv_has ls 2 [(0, .ref h), (1, .int v0)] := hl
  obtain ⟨hIa, hIb, hIc, hId, hIe, hIf, hIg, hIh, hIi, hIj⟩ := id hI
  refine lv_aload_n hx hb dX1_errorOf_0 rfl (lv_at hl 0 rfl) ?_
  refine lv_iconst (v := nI 0) hx hb dX1_errorOf_1 (by decide +kernel) ?_
  refine va_put (D := D) (ci := 1) (v := .int (nI 0)) (ty := .int) (C := RX1) (T := TX1) (N := 17) hx hb hts hin tyX1 tyX1_ok nmX1 hown hK hP hD hS 0 rfl rfl 0 (by decide) (hts (.fieldLink RX1 38 "AfternoonMeterModel" "thrown" "I") (List.mem_of_getElem? (i := 1) rfl)) (fun _ h9 => h9) rfl (by decide +kernel) rfl rfl (Nat.le_of_ble_eq_true rfl) dX1_errorOf_2 (fun H locs hP hD hS => ?_)
  have hP : va_P D vwCl [(h, .inr (1, [.int (nI 0), .int (nI (mSc u)), .ref (a 0), .int (nI (mNc u)), .ref (a 1), .ref (a 2), .ref (a 3), .int (nI (mBc u)), .ref (a 4), .ref (a 5), .int (nI (mRoom u)), .int (nI (mRate u)), .int (nI (mSip u)), .int (mAft u), .int (nI (mNow u)), .int (nI (mTea u)), .int (mSpl u)])), (a 0, .inl (cI, 4, .inl (mHt u))), (a 1, .inl (cI, 8, .inl (mFr u))), (a 2, .inl (cI, 8, .inl (mTo u))), (a 3, .inl (cI, 360, .inl (mCov u))), (a 4, .inl (cI, 6, .inl (mPe u))), (a 5, .inl (cI, 6, .inl (mBe u)))] H := hP
  have hD : va_D A [(h, .inr (1, [.int (nI 0), .int (nI (mSc u)), .ref (a 0), .int (nI (mNc u)), .ref (a 1), .ref (a 2), .ref (a 3), .int (nI (mBc u)), .ref (a 4), .ref (a 5), .int (nI (mRoom u)), .int (nI (mRate u)), .int (nI (mSip u)), .int (mAft u), .int (nI (mNow u)), .int (nI (mTea u)), .int (mSpl u)])), (a 0, .inl (cI, 4, .inl (mHt u))), (a 1, .inl (cI, 8, .inl (mFr u))), (a 2, .inl (cI, 8, .inl (mTo u))), (a 3, .inl (cI, 360, .inl (mCov u))), (a 4, .inl (cI, 6, .inl (mPe u))), (a 5, .inl (cI, 6, .inl (mBe u)))] := hD
  refine lv_aload_n hx hb dX1_errorOf_5 rfl (lv_at hl 0 rfl) ?_
  refine lv_iload_n hx hb dX1_errorOf_6 rfl (lv_at hl 1 rfl) ?_
  refine vp_callSi (W.runV (As := [.int v0]) (rest := []) ⟨hx, hb, hml, hown, hts⟩ (c_X1_isBee l D cI h a u (nI 0) v0 hI) (cwV 1 hts gX1_errorOf_X1_isBee rfl rfl rfl (by decide +kernel) ⟨Nat.le_of_ble_eq_true rfl, Nat.le_of_ble_eq_true rfl⟩) (pu_pre hK hP rfl rfl) rfl rfl hl.1 rfl (lv_room (Nat.le_of_ble_eq_true rfl)) dX1_errorOf_7 ⟨Nat.le_of_ble_eq_true rfl, Nat.le_of_ble_eq_true rfl⟩) (fun r hr => ?_)
  subst hr
  refine lv_if_eq (tgt := 21) hx hb dX1_errorOf_10 (by decide) (fun c_10 => ?_) (fun c_10 => ?_)
  · skip
    replace c_10 : (inR v0 (mBc u)) = false := bI_eq0 c_10
    refine lv_aload_n hx hb dX1_errorOf_21 rfl (lv_at hl 0 rfl) ?_
    refine lv_iconst (v := nI 1) hx hb dX1_errorOf_22 (by decide +kernel) ?_
    have hFc := va_free (wc := [(h, .inr (1, [.int (nI 0), .int (nI (mSc u)), .ref (a 0), .int (nI (mNc u)), .ref (a 1), .ref (a 2), .ref (a 3), .int (nI (mBc u)), .ref (a 4), .ref (a 5), .int (nI (mRoom u)), .int (nI (mRate u)), .int (nI (mSip u)), .int (mAft u), .int (nI (mNow u)), .int (nI (mTea u)), .int (mSpl u)])), (a 0, .inl (cI, 4, .inl (mHt u))), (a 1, .inl (cI, 8, .inl (mFr u))), (a 2, .inl (cI, 8, .inl (mTo u))), (a 3, .inl (cI, 360, .inl (mCov u))), (a 4, .inl (cI, 6, .inl (mPe u))), (a 5, .inl (cI, 6, .inl (mBe u)))]) hD hS hA [0, 1, 2, 3, 4, 5, 6] rfl
    refine va_calli (va_runV (As := [.int (nI 1)]) (rest := []) ⟨hx, hb, hml, hown, hts⟩ (c_X1_no l D cI h a u (nI 0) H.size (nI 1)) (cwV 1 hts gX1_errorOf_X1_no rfl rfl rfl (by decide +kernel) ⟨Nat.le_of_ble_eq_true rfl, Nat.le_of_ble_eq_true rfl⟩) ⟨wr_blind, va_recv (ci := 1) (q0 := 0) hK hP rfl rfl, fun U hU hW => ⟨rfl, by rw [hU], by rw [hU]; exact hP, va_K.moved hW.alike hK, hD.weaken (fun _ _ _ _ => trivial)⟩⟩ rfl rfl hl.1 rfl (lv_room (Nat.le_of_ble_eq_true rfl)) dX1_errorOf_23 ⟨Nat.le_of_ble_eq_true rfl, Nat.le_of_ble_eq_true rfl⟩) hS (fun q _ h => hFc q h) hFc (fun r w t H locs ht hvm hw hB hz1 hk1 hS => ?_)
    obtain ⟨rfl, rfl⟩ := hw
    obtain ⟨hP1, hK1, hD1⟩ := hB
    rw [ht] at hP1
    have hP : va_P D vwCl [(h, .inr (1, [.int (nI 1), .int (nI (mSc u)), .ref (a 0), .int (nI (mNc u)), .ref (a 1), .ref (a 2), .ref (a 3), .int (nI (mBc u)), .ref (a 4), .ref (a 5), .int (nI (mRoom u)), .int (nI (mRate u)), .int (nI (mSip u)), .int (mAft u), .int (nI (mNow u)), .int (nI (mTea u)), .int (mSpl u)])), (a 0, .inl (cI, 4, .inl (mHt u))), (a 1, .inl (cI, 8, .inl (mFr u))), (a 2, .inl (cI, 8, .inl (mTo u))), (a 3, .inl (cI, 360, .inl (mCov u))), (a 4, .inl (cI, 6, .inl (mPe u))), (a 5, .inl (cI, 6, .inl (mBe u)))] H := hP1
    have hD : va_D A [(h, .inr (1, [.int (nI 1), .int (nI (mSc u)), .ref (a 0), .int (nI (mNc u)), .ref (a 1), .ref (a 2), .ref (a 3), .int (nI (mBc u)), .ref (a 4), .ref (a 5), .int (nI (mRoom u)), .int (nI (mRate u)), .int (nI (mSip u)), .int (mAft u), .int (nI (mNow u)), .int (nI (mTea u)), .int (mSpl u)])), (a 0, .inl (cI, 4, .inl (mHt u))), (a 1, .inl (cI, 8, .inl (mFr u))), (a 2, .inl (cI, 8, .inl (mTo u))), (a 3, .inl (cI, 360, .inl (mCov u))), (a 4, .inl (cI, 6, .inl (mPe u))), (a 5, .inl (cI, 6, .inl (mBe u)))] := hD1.weaken (fun k q _ h => hFc q.1 h)
    have hq : (((mSc u, mNc u, mBc u, mNow u, mRoom u, mRate u, mSip u, mTea u, mSpl u, mAft u, mHt u, mFr u, mTo u, mCov u, mPe u, mBe u), (nI 1)) : MS × Int32) = ((u, kdI v0 (mBc u)) : MS × Int32) ∧ (kdI v0 (mBc u) = nI 0 → nI 0 = fEr u (tn v0)) := by exact ⟨congrArg (fun z => (u, z)) (kd_f c_10).symm, kd_n1 (kd_f c_10)⟩
    exact W.iret hx hb hr (fun t ht hW => ⟨⟨_, (((mSc u, mNc u, mBc u, mNow u, mRoom u, mRate u, mSip u, mTea u, mSpl u, mAft u, mHt u, mFr u, mTo u, mCov u, mPe u, mBe u), (nI 1)) : MS × Int32), rfl, hq, by rw [ht]; exact hP, va_K.moved hW.alike hK, hD⟩, hS.F ht⟩) hS.2.2 dX1_errorOf_26
  · skip
    replace c_10 : (inR v0 (mBc u)) = true := bI_ne0 c_10
    obtain ⟨bb, hbb, rfl⟩ := inR_of (by omega) c_10
    refine lv_aload_n hx hb dX1_errorOf_13 rfl (lv_at hl 0 rfl) ?_
    refine lv_iload_n hx hb dX1_errorOf_14 rfl (lv_at hl 1 rfl) ?_
    refine vp_callSi (W.runV (As := [.int (nI bb)]) (rest := []) ⟨hx, hb, hml, hown, hts⟩ (c_X1_error l D cI h a u (nI 0) bb hI (by omega)) (cwV 1 hts gX1_errorOf_X1_error rfl rfl rfl (by decide +kernel) ⟨Nat.le_of_ble_eq_true rfl, Nat.le_of_ble_eq_true rfl⟩) (pu_pre hK hP rfl rfl) rfl rfl hl.1 rfl (lv_room (Nat.le_of_ble_eq_true rfl)) dX1_errorOf_15 ⟨Nat.le_of_ble_eq_true rfl, Nat.le_of_ble_eq_true rfl⟩) (fun r hr => ?_)
    subst hr
    refine lv_goto (tgt := 26) hx hb dX1_errorOf_18 (by decide) ?_
    have hq : (((mSc u, mNc u, mBc u, mNow u, mRoom u, mRate u, mSip u, mTea u, mSpl u, mAft u, mHt u, mFr u, mTo u, mCov u, mPe u, mBe u), nI 0) : MS × Int32) = ((u, kdI (nI bb) (mBc u)) : MS × Int32) ∧ (kdI (nI bb) (mBc u) = nI 0 → fEr u bb = fEr u (tn (nI bb))) := by exact ⟨congrArg (fun z => (u, z)) (kd_t c_10).symm, fun _ => by rw [tn_nI]⟩
    exact W.iret hx hb hr (fun t ht hW => ⟨⟨_, (((mSc u, mNc u, mBc u, mNow u, mRoom u, mRate u, mSip u, mTea u, mSpl u, mAft u, mHt u, mFr u, mTo u, mCov u, mPe u, mBe u), nI 0) : MS × Int32), rfl, hq, by rw [ht]; exact hP, va_K.moved hW.alike hK, hD⟩, hS.F ht⟩) hS.2.2 dX1_errorOf_26
set_option maxHeartbeats 4000000 in
set_option maxRecDepth 100000 in
theorem c_X1_nextTick (l : Launch) (D : va_G) (cI : ClassId) (h : Nat) (a : Nat → Nat) (u : MS) (th : Int32) (sz : Nat) (v0 : Int32) (hI : Inv u) : Met l yX1_nextTick wsX1_nextTick ({ frames := 3, cells := 0, slots := 0, locals := 65 } : Room) (va_Pc [.ref h, .int v0] (fun U => U.heap.size = sz ∧ va_P D vwCl (pic1 cI h a u th) U.heap ∧ va_K D vwCl [(cI, .int)] U ∧ va_D (fun _ => True) (pic1 cI h a u th))) ((fun A : Nat → Prop => va_Qi (fun (r : Int32) (w : MS × Int32) => w = ((u, kdI v0 (mBc u)) : MS × Int32) ∧ (kdI v0 (mBc u) = nI 0 → r = fNx u (tn v0))) (fun (w : MS × Int32) (t : State) => va_P D vwCl (pic1 cI h a w.1 w.2) t.heap ∧ va_K D vwCl [(cI, .int)] t ∧ va_D A (pic1 cI h a w.1 w.2)) A) (va_A (pic1 cI h a u th) sz)) 0 0 (va_A (pic1 cI h a u th) sz) := by
  refine en_wr (cc := cX1_nextTick) (maxL := 2) (ret := (some .int)) _ _ (fun A : Nat → Prop => va_Qi (fun (r : Int32) (w : MS × Int32) => w = ((u, kdI v0 (mBc u)) : MS × Int32) ∧ (kdI v0 (mBc u) = nI 0 → r = fNx u (tn v0))) (fun (w : MS × Int32) (t : State) => va_P D vwCl (pic1 cI h a w.1 w.2) t.heap ∧ va_K D vwCl [(cI, .int)] t ∧ va_D A (pic1 cI h a w.1 w.2)) A) (by decide) rfl (Nat.le_of_ble_eq_true rfl) ?_
  intro p e s m args below meth c ls A H locs hx hb hml hr hlocks hts hown hP hK hD hA hS hl
  have hown : s.vm.findClass RX1 = some m.cls := hown
  have hin : ∀ w ∈ wsX10, w ∈ wsX1_nextTick := fun _ h9 => List.mem_cons_of_mem _ (List.mem_append_right _ h9)
  have hl : lv_has ls 2 [(0, .ref h), (1, .int v0)] := hl
  obtain ⟨hIa, hIb, hIc, hId, hIe, hIf, hIg, hIh, hIi, hIj⟩ := id hI
  refine lv_aload_n hx hb dX1_nextTick_0 rfl (lv_at hl 0 rfl) ?_
  refine lv_iconst (v := nI 0) hx hb dX1_nextTick_1 (by decide +kernel) ?_
  refine va_put (D := D) (ci := 1) (v := .int (nI 0)) (ty := .int) (C := RX1) (T := TX1) (N := 17) hx hb hts hin tyX1 tyX1_ok nmX1 hown hK hP hD hS 0 rfl rfl 0 (by decide) (hts (.fieldLink RX1 38 "AfternoonMeterModel" "thrown" "I") (List.mem_of_getElem? (i := 1) rfl)) (fun _ h9 => h9) rfl (by decide +kernel) rfl rfl (Nat.le_of_ble_eq_true rfl) dX1_nextTick_2 (fun H locs hP hD hS => ?_)
  have hP : va_P D vwCl [(h, .inr (1, [.int (nI 0), .int (nI (mSc u)), .ref (a 0), .int (nI (mNc u)), .ref (a 1), .ref (a 2), .ref (a 3), .int (nI (mBc u)), .ref (a 4), .ref (a 5), .int (nI (mRoom u)), .int (nI (mRate u)), .int (nI (mSip u)), .int (mAft u), .int (nI (mNow u)), .int (nI (mTea u)), .int (mSpl u)])), (a 0, .inl (cI, 4, .inl (mHt u))), (a 1, .inl (cI, 8, .inl (mFr u))), (a 2, .inl (cI, 8, .inl (mTo u))), (a 3, .inl (cI, 360, .inl (mCov u))), (a 4, .inl (cI, 6, .inl (mPe u))), (a 5, .inl (cI, 6, .inl (mBe u)))] H := hP
  have hD : va_D A [(h, .inr (1, [.int (nI 0), .int (nI (mSc u)), .ref (a 0), .int (nI (mNc u)), .ref (a 1), .ref (a 2), .ref (a 3), .int (nI (mBc u)), .ref (a 4), .ref (a 5), .int (nI (mRoom u)), .int (nI (mRate u)), .int (nI (mSip u)), .int (mAft u), .int (nI (mNow u)), .int (nI (mTea u)), .int (mSpl u)])), (a 0, .inl (cI, 4, .inl (mHt u))), (a 1, .inl (cI, 8, .inl (mFr u))), (a 2, .inl (cI, 8, .inl (mTo u))), (a 3, .inl (cI, 360, .inl (mCov u))), (a 4, .inl (cI, 6, .inl (mPe u))), (a 5, .inl (cI, 6, .inl (mBe u)))] := hD
  refine lv_aload_n hx hb dX1_nextTick_5 rfl (lv_at hl 0 rfl) ?_
  refine lv_iload_n hx hb dX1_nextTick_6 rfl (lv_at hl 1 rfl) ?_
  refine vp_callSi (W.runV (As := [.int v0]) (rest := []) ⟨hx, hb, hml, hown, hts⟩ (c_X1_isBee l D cI h a u (nI 0) v0 hI) (cwV 1 hts gX1_nextTick_X1_isBee rfl rfl rfl (by decide +kernel) ⟨Nat.le_of_ble_eq_true rfl, Nat.le_of_ble_eq_true rfl⟩) (pu_pre hK hP rfl rfl) rfl rfl hl.1 rfl (lv_room (Nat.le_of_ble_eq_true rfl)) dX1_nextTick_7 ⟨Nat.le_of_ble_eq_true rfl, Nat.le_of_ble_eq_true rfl⟩) (fun r hr => ?_)
  subst hr
  refine lv_if_eq (tgt := 21) hx hb dX1_nextTick_10 (by decide) (fun c_10 => ?_) (fun c_10 => ?_)
  · skip
    replace c_10 : (inR v0 (mBc u)) = false := bI_eq0 c_10
    refine lv_aload_n hx hb dX1_nextTick_21 rfl (lv_at hl 0 rfl) ?_
    refine lv_iconst (v := nI 1) hx hb dX1_nextTick_22 (by decide +kernel) ?_
    have hFc := va_free (wc := [(h, .inr (1, [.int (nI 0), .int (nI (mSc u)), .ref (a 0), .int (nI (mNc u)), .ref (a 1), .ref (a 2), .ref (a 3), .int (nI (mBc u)), .ref (a 4), .ref (a 5), .int (nI (mRoom u)), .int (nI (mRate u)), .int (nI (mSip u)), .int (mAft u), .int (nI (mNow u)), .int (nI (mTea u)), .int (mSpl u)])), (a 0, .inl (cI, 4, .inl (mHt u))), (a 1, .inl (cI, 8, .inl (mFr u))), (a 2, .inl (cI, 8, .inl (mTo u))), (a 3, .inl (cI, 360, .inl (mCov u))), (a 4, .inl (cI, 6, .inl (mPe u))), (a 5, .inl (cI, 6, .inl (mBe u)))]) hD hS hA [0, 1, 2, 3, 4, 5, 6] rfl
    refine va_calli (va_runV (As := [.int (nI 1)]) (rest := []) ⟨hx, hb, hml, hown, hts⟩ (c_X1_no l D cI h a u (nI 0) H.size (nI 1)) (cwV 1 hts gX1_nextTick_X1_no rfl rfl rfl (by decide +kernel) ⟨Nat.le_of_ble_eq_true rfl, Nat.le_of_ble_eq_true rfl⟩) ⟨wr_blind, va_recv (ci := 1) (q0 := 0) hK hP rfl rfl, fun U hU hW => ⟨rfl, by rw [hU], by rw [hU]; exact hP, va_K.moved hW.alike hK, hD.weaken (fun _ _ _ _ => trivial)⟩⟩ rfl rfl hl.1 rfl (lv_room (Nat.le_of_ble_eq_true rfl)) dX1_nextTick_23 ⟨Nat.le_of_ble_eq_true rfl, Nat.le_of_ble_eq_true rfl⟩) hS (fun q _ h => hFc q h) hFc (fun r w t H locs ht hvm hw hB hz1 hk1 hS => ?_)
    obtain ⟨rfl, rfl⟩ := hw
    obtain ⟨hP1, hK1, hD1⟩ := hB
    rw [ht] at hP1
    have hP : va_P D vwCl [(h, .inr (1, [.int (nI 1), .int (nI (mSc u)), .ref (a 0), .int (nI (mNc u)), .ref (a 1), .ref (a 2), .ref (a 3), .int (nI (mBc u)), .ref (a 4), .ref (a 5), .int (nI (mRoom u)), .int (nI (mRate u)), .int (nI (mSip u)), .int (mAft u), .int (nI (mNow u)), .int (nI (mTea u)), .int (mSpl u)])), (a 0, .inl (cI, 4, .inl (mHt u))), (a 1, .inl (cI, 8, .inl (mFr u))), (a 2, .inl (cI, 8, .inl (mTo u))), (a 3, .inl (cI, 360, .inl (mCov u))), (a 4, .inl (cI, 6, .inl (mPe u))), (a 5, .inl (cI, 6, .inl (mBe u)))] H := hP1
    have hD : va_D A [(h, .inr (1, [.int (nI 1), .int (nI (mSc u)), .ref (a 0), .int (nI (mNc u)), .ref (a 1), .ref (a 2), .ref (a 3), .int (nI (mBc u)), .ref (a 4), .ref (a 5), .int (nI (mRoom u)), .int (nI (mRate u)), .int (nI (mSip u)), .int (mAft u), .int (nI (mNow u)), .int (nI (mTea u)), .int (mSpl u)])), (a 0, .inl (cI, 4, .inl (mHt u))), (a 1, .inl (cI, 8, .inl (mFr u))), (a 2, .inl (cI, 8, .inl (mTo u))), (a 3, .inl (cI, 360, .inl (mCov u))), (a 4, .inl (cI, 6, .inl (mPe u))), (a 5, .inl (cI, 6, .inl (mBe u)))] := hD1.weaken (fun k q _ h => hFc q.1 h)
    have hq : (((mSc u, mNc u, mBc u, mNow u, mRoom u, mRate u, mSip u, mTea u, mSpl u, mAft u, mHt u, mFr u, mTo u, mCov u, mPe u, mBe u), (nI 1)) : MS × Int32) = ((u, kdI v0 (mBc u)) : MS × Int32) ∧ (kdI v0 (mBc u) = nI 0 → nI 0 = fNx u (tn v0)) := by exact ⟨congrArg (fun z => (u, z)) (kd_f c_10).symm, kd_n1 (kd_f c_10)⟩
    exact W.iret hx hb hr (fun t ht hW => ⟨⟨_, (((mSc u, mNc u, mBc u, mNow u, mRoom u, mRate u, mSip u, mTea u, mSpl u, mAft u, mHt u, mFr u, mTo u, mCov u, mPe u, mBe u), (nI 1)) : MS × Int32), rfl, hq, by rw [ht]; exact hP, va_K.moved hW.alike hK, hD⟩, hS.F ht⟩) hS.2.2 dX1_nextTick_26
  · skip
    replace c_10 : (inR v0 (mBc u)) = true := bI_ne0 c_10
    obtain ⟨bb, hbb, rfl⟩ := inR_of (by omega) c_10
    refine lv_aload_n hx hb dX1_nextTick_13 rfl (lv_at hl 0 rfl) ?_
    refine lv_iload_n hx hb dX1_nextTick_14 rfl (lv_at hl 1 rfl) ?_
    refine vp_callSi (W.runV (As := [.int (nI bb)]) (rest := []) ⟨hx, hb, hml, hown, hts⟩ (c_X1_next l D cI h a u (nI 0) bb hI (by omega)) (cwV 1 hts gX1_nextTick_X1_next rfl rfl rfl (by decide +kernel) ⟨Nat.le_of_ble_eq_true rfl, Nat.le_of_ble_eq_true rfl⟩) (pu_pre hK hP rfl rfl) rfl rfl hl.1 rfl (lv_room (Nat.le_of_ble_eq_true rfl)) dX1_nextTick_15 ⟨Nat.le_of_ble_eq_true rfl, Nat.le_of_ble_eq_true rfl⟩) (fun r hr => ?_)
    subst hr
    refine lv_goto (tgt := 26) hx hb dX1_nextTick_18 (by decide) ?_
    have hq : (((mSc u, mNc u, mBc u, mNow u, mRoom u, mRate u, mSip u, mTea u, mSpl u, mAft u, mHt u, mFr u, mTo u, mCov u, mPe u, mBe u), nI 0) : MS × Int32) = ((u, kdI (nI bb) (mBc u)) : MS × Int32) ∧ (kdI (nI bb) (mBc u) = nI 0 → fNx u bb = fNx u (tn (nI bb))) := by exact ⟨congrArg (fun z => (u, z)) (kd_t c_10).symm, fun _ => by rw [tn_nI]⟩
    exact W.iret hx hb hr (fun t ht hW => ⟨⟨_, (((mSc u, mNc u, mBc u, mNow u, mRoom u, mRate u, mSip u, mTea u, mSpl u, mAft u, mHt u, mFr u, mTo u, mCov u, mPe u, mBe u), nI 0) : MS × Int32), rfl, hq, by rw [ht]; exact hP, va_K.moved hW.alike hK, hD⟩, hS.F ht⟩) hS.2.2 dX1_nextTick_26
set_option maxHeartbeats 4000000 in
set_option maxRecDepth 100000 in
theorem c_X1_isAsleep (l : Launch) (D : va_G) (cI : ClassId) (h : Nat) (a : Nat → Nat) (u : MS) (th : Int32) (sz : Nat) (v0 : Int32) (hI : Inv u) : Met l yX1_isAsleep wsX1_isAsleep ({ frames := 2, cells := 0, slots := 0, locals := 42 } : Room) (va_Pc [.ref h, .int v0] (fun U => U.heap.size = sz ∧ va_P D vwCl (pic1 cI h a u th) U.heap ∧ va_K D vwCl [(cI, .int)] U ∧ va_D (fun _ => True) (pic1 cI h a u th))) ((fun A : Nat → Prop => va_Qi (fun (r : Int32) (w : MS × Int32) => w = ((u, kdI v0 360) : MS × Int32) ∧ (kdI v0 360 = nI 0 → r = bI (decide (0 < cN u (tn v0))))) (fun (w : MS × Int32) (t : State) => va_P D vwCl (pic1 cI h a w.1 w.2) t.heap ∧ va_K D vwCl [(cI, .int)] t ∧ va_D A (pic1 cI h a w.1 w.2)) A) (va_A (pic1 cI h a u th) sz)) 0 0 (va_A (pic1 cI h a u th) sz) := by
  refine en_wr (cc := cX1_isAsleep) (maxL := 2) (ret := (some .boolean)) _ _ (fun A : Nat → Prop => va_Qi (fun (r : Int32) (w : MS × Int32) => w = ((u, kdI v0 360) : MS × Int32) ∧ (kdI v0 360 = nI 0 → r = bI (decide (0 < cN u (tn v0))))) (fun (w : MS × Int32) (t : State) => va_P D vwCl (pic1 cI h a w.1 w.2) t.heap ∧ va_K D vwCl [(cI, .int)] t ∧ va_D A (pic1 cI h a w.1 w.2)) A) (by decide) rfl (Nat.le_of_ble_eq_true rfl) ?_
  intro p e s m args below meth c ls A H locs hx hb hml hr hlocks hts hown hP hK hD hA hS hl
  have hown : s.vm.findClass RX1 = some m.cls := hown
  have hin : ∀ w ∈ wsX10, w ∈ wsX1_isAsleep := fun _ h9 => List.mem_cons_of_mem _ (List.mem_append_right _ h9)
  have hl : lv_has ls 2 [(0, .ref h), (1, .int v0)] := hl
  obtain ⟨hIa, hIb, hIc, hId, hIe, hIf, hIg, hIh, hIi, hIj⟩ := id hI
  refine lv_aload_n hx hb dX1_isAsleep_0 rfl (lv_at hl 0 rfl) ?_
  refine lv_iload_n hx hb dX1_isAsleep_1 rfl (lv_at hl 1 rfl) ?_
  refine vp_callSi (W.runS (As := [.int v0]) (rest := [.ref h]) ⟨hx, hb, hml, hown, hts⟩ (c_X1_isMinute l v0) (va_cwS 1 hts gX1_isAsleep_X1_isMinute rfl rfl rfl (by decide +kernel) ⟨Nat.le_of_ble_eq_true rfl, Nat.le_of_ble_eq_true rfl⟩) preEq rfl rfl hl.1 rfl (lv_room (Nat.le_of_ble_eq_true rfl)) dX1_isAsleep_2 ⟨Nat.le_of_ble_eq_true rfl, Nat.le_of_ble_eq_true rfl⟩) (fun r hr => ?_)
  subst hr
  refine lv_if_eq (tgt := 12) hx hb dX1_isAsleep_5 (by decide) (fun c_5 => ?_) (fun c_5 => ?_)
  · skip
    replace c_5 : (inR v0 360) = false := bI_eq0 c_5
    refine lv_iconst (v := nI 1) hx hb dX1_isAsleep_12 (by decide +kernel) ?_
    refine va_put (D := D) (ci := 1) (v := .int (nI 1)) (ty := .int) (C := RX1) (T := TX1) (N := 17) hx hb hts hin tyX1 tyX1_ok nmX1 hown hK hP hD hS 0 rfl rfl 0 (by decide) (hts (.fieldLink RX1 38 "AfternoonMeterModel" "thrown" "I") (List.mem_of_getElem? (i := 1) rfl)) (fun _ h9 => h9) rfl (by decide +kernel) rfl rfl (Nat.le_of_ble_eq_true rfl) dX1_isAsleep_13 (fun H locs hP hD hS => ?_)
    have hP : va_P D vwCl [(h, .inr (1, [.int (nI 1), .int (nI (mSc u)), .ref (a 0), .int (nI (mNc u)), .ref (a 1), .ref (a 2), .ref (a 3), .int (nI (mBc u)), .ref (a 4), .ref (a 5), .int (nI (mRoom u)), .int (nI (mRate u)), .int (nI (mSip u)), .int (mAft u), .int (nI (mNow u)), .int (nI (mTea u)), .int (mSpl u)])), (a 0, .inl (cI, 4, .inl (mHt u))), (a 1, .inl (cI, 8, .inl (mFr u))), (a 2, .inl (cI, 8, .inl (mTo u))), (a 3, .inl (cI, 360, .inl (mCov u))), (a 4, .inl (cI, 6, .inl (mPe u))), (a 5, .inl (cI, 6, .inl (mBe u)))] H := hP
    have hD : va_D A [(h, .inr (1, [.int (nI 1), .int (nI (mSc u)), .ref (a 0), .int (nI (mNc u)), .ref (a 1), .ref (a 2), .ref (a 3), .int (nI (mBc u)), .ref (a 4), .ref (a 5), .int (nI (mRoom u)), .int (nI (mRate u)), .int (nI (mSip u)), .int (mAft u), .int (nI (mNow u)), .int (nI (mTea u)), .int (mSpl u)])), (a 0, .inl (cI, 4, .inl (mHt u))), (a 1, .inl (cI, 8, .inl (mFr u))), (a 2, .inl (cI, 8, .inl (mTo u))), (a 3, .inl (cI, 360, .inl (mCov u))), (a 4, .inl (cI, 6, .inl (mPe u))), (a 5, .inl (cI, 6, .inl (mBe u)))] := hD
    refine lv_aload_n hx hb dX1_isAsleep_16 rfl (lv_at hl 0 rfl) ?_
    refine va_get (D := D) (ci := 1) (v := .int (nI 1)) (C := RX1) (T := TX1) (N := 17) hx hb hts hin hown hK hP 0 rfl rfl 0 (by decide) (hts (.fieldLink RX1 38 "AfternoonMeterModel" "thrown" "I") (List.mem_of_getElem? (i := 1) rfl)) (fun _ h9 => h9) rfl dX1_isAsleep_17 ?_
    refine lv_if_ne (tgt := 35) hx hb dX1_isAsleep_20 (by decide) (fun c_20 => ?_) (fun c_20 => ?_)
    · skip
      replace c_20 : 1 ≠ 0 := neN c_20
      refine lv_iconst (v := nI 0) hx hb dX1_isAsleep_35 (by decide +kernel) ?_
      have hq : (((mSc u, mNc u, mBc u, mNow u, mRoom u, mRate u, mSip u, mTea u, mSpl u, mAft u, mHt u, mFr u, mTo u, mCov u, mPe u, mBe u), nI 1) : MS × Int32) = ((u, kdI v0 360) : MS × Int32) ∧ (kdI v0 360 = nI 0 → nI 0 = bI (decide (0 < cN u (tn v0)))) := by exact ⟨congrArg (fun z => (u, z)) (kd_f c_5).symm, kd_n1 (kd_f c_5)⟩
      exact W.zret (ty := .boolean) hx hb hr (by decide +kernel) (fun t ht hW => ⟨⟨_, (((mSc u, mNc u, mBc u, mNow u, mRoom u, mRate u, mSip u, mTea u, mSpl u, mAft u, mHt u, mFr u, mTo u, mCov u, mPe u, mBe u), nI 1) : MS × Int32), rfl, hq, by rw [ht]; exact hP, va_K.moved hW.alike hK, hD⟩, hS.F ht⟩) hS.2.2 dX1_isAsleep_36
    · skip
      replace c_20 : 1 = 0 := eN c_20
      exact (by omega : False).elim
  · skip
    replace c_5 : (inR v0 360) = true := bI_ne0 c_5
    obtain ⟨tt, ht, rfl⟩ := inR_of (by omega) c_5
    refine lv_iconst (v := nI 0) hx hb dX1_isAsleep_8 (by decide +kernel) ?_
    refine lv_goto (tgt := 13) hx hb dX1_isAsleep_9 (by decide) ?_
    refine va_put (D := D) (ci := 1) (v := .int (nI 0)) (ty := .int) (C := RX1) (T := TX1) (N := 17) hx hb hts hin tyX1 tyX1_ok nmX1 hown hK hP hD hS 0 rfl rfl 0 (by decide) (hts (.fieldLink RX1 38 "AfternoonMeterModel" "thrown" "I") (List.mem_of_getElem? (i := 1) rfl)) (fun _ h9 => h9) rfl (by decide +kernel) rfl rfl (Nat.le_of_ble_eq_true rfl) dX1_isAsleep_13 (fun H locs hP hD hS => ?_)
    have hP : va_P D vwCl [(h, .inr (1, [.int (nI 0), .int (nI (mSc u)), .ref (a 0), .int (nI (mNc u)), .ref (a 1), .ref (a 2), .ref (a 3), .int (nI (mBc u)), .ref (a 4), .ref (a 5), .int (nI (mRoom u)), .int (nI (mRate u)), .int (nI (mSip u)), .int (mAft u), .int (nI (mNow u)), .int (nI (mTea u)), .int (mSpl u)])), (a 0, .inl (cI, 4, .inl (mHt u))), (a 1, .inl (cI, 8, .inl (mFr u))), (a 2, .inl (cI, 8, .inl (mTo u))), (a 3, .inl (cI, 360, .inl (mCov u))), (a 4, .inl (cI, 6, .inl (mPe u))), (a 5, .inl (cI, 6, .inl (mBe u)))] H := hP
    have hD : va_D A [(h, .inr (1, [.int (nI 0), .int (nI (mSc u)), .ref (a 0), .int (nI (mNc u)), .ref (a 1), .ref (a 2), .ref (a 3), .int (nI (mBc u)), .ref (a 4), .ref (a 5), .int (nI (mRoom u)), .int (nI (mRate u)), .int (nI (mSip u)), .int (mAft u), .int (nI (mNow u)), .int (nI (mTea u)), .int (mSpl u)])), (a 0, .inl (cI, 4, .inl (mHt u))), (a 1, .inl (cI, 8, .inl (mFr u))), (a 2, .inl (cI, 8, .inl (mTo u))), (a 3, .inl (cI, 360, .inl (mCov u))), (a 4, .inl (cI, 6, .inl (mPe u))), (a 5, .inl (cI, 6, .inl (mBe u)))] := hD
    refine lv_aload_n hx hb dX1_isAsleep_16 rfl (lv_at hl 0 rfl) ?_
    refine va_get (D := D) (ci := 1) (v := .int (nI 0)) (C := RX1) (T := TX1) (N := 17) hx hb hts hin hown hK hP 0 rfl rfl 0 (by decide) (hts (.fieldLink RX1 38 "AfternoonMeterModel" "thrown" "I") (List.mem_of_getElem? (i := 1) rfl)) (fun _ h9 => h9) rfl dX1_isAsleep_17 ?_
    refine lv_if_ne (tgt := 35) hx hb dX1_isAsleep_20 (by decide) (fun c_20 => ?_) (fun c_20 => ?_)
    · skip
      replace c_20 : 0 ≠ 0 := neN c_20
      exact (by omega : False).elim
    · skip
      replace c_20 : 0 = 0 := eN c_20
      refine lv_aload_n hx hb dX1_isAsleep_23 rfl (lv_at hl 0 rfl) ?_
      refine lv_iload_n hx hb dX1_isAsleep_24 rfl (lv_at hl 1 rfl) ?_
      refine vp_callSi (W.runV (As := [.int (nI tt)]) (rest := []) ⟨hx, hb, hml, hown, hts⟩ (c_X1_isAwake l D cI h a u (nI 0) tt hI (by omega)) (cwV 1 hts gX1_isAsleep_X1_isAwake rfl rfl rfl (by decide +kernel) ⟨Nat.le_of_ble_eq_true rfl, Nat.le_of_ble_eq_true rfl⟩) (pu_pre hK hP rfl rfl) rfl rfl hl.1 rfl (lv_room (Nat.le_of_ble_eq_true rfl)) dX1_isAsleep_25 ⟨Nat.le_of_ble_eq_true rfl, Nat.le_of_ble_eq_true rfl⟩) (fun r hr => ?_)
      subst hr
      refine lv_if_ne (tgt := 35) hx hb dX1_isAsleep_28 (by decide) (fun c_28 => ?_) (fun c_28 => ?_)
      · skip
        replace c_28 : (awB u tt) = true := bI_ne0 c_28
        refine lv_iconst (v := nI 0) hx hb dX1_isAsleep_35 (by decide +kernel) ?_
        have hq : (((mSc u, mNc u, mBc u, mNow u, mRoom u, mRate u, mSip u, mTea u, mSpl u, mAft u, mHt u, mFr u, mTo u, mCov u, mPe u, mBe u), nI 0) : MS × Int32) = ((u, kdI (nI tt) 360) : MS × Int32) ∧ (kdI (nI tt) 360 = nI 0 → nI 0 = bI (decide (0 < cN u (tn (nI tt))))) := by exact ⟨congrArg (fun z => (u, z)) (kd_t c_5).symm, fun _ => by rw [tn_nI, show decide (0 < cN u tt) = false from decide_eq_false (by rw [of_decide_eq_true c_28]; exact Nat.lt_irrefl 0)]; rfl⟩
        exact W.zret (ty := .boolean) hx hb hr (by decide +kernel) (fun t ht hW => ⟨⟨_, (((mSc u, mNc u, mBc u, mNow u, mRoom u, mRate u, mSip u, mTea u, mSpl u, mAft u, mHt u, mFr u, mTo u, mCov u, mPe u, mBe u), nI 0) : MS × Int32), rfl, hq, by rw [ht]; exact hP, va_K.moved hW.alike hK, hD⟩, hS.F ht⟩) hS.2.2 dX1_isAsleep_36
      · skip
        replace c_28 : (awB u tt) = false := bI_eq0 c_28
        refine lv_iconst (v := nI 1) hx hb dX1_isAsleep_31 (by decide +kernel) ?_
        refine lv_goto (tgt := 36) hx hb dX1_isAsleep_32 (by decide) ?_
        have hq : (((mSc u, mNc u, mBc u, mNow u, mRoom u, mRate u, mSip u, mTea u, mSpl u, mAft u, mHt u, mFr u, mTo u, mCov u, mPe u, mBe u), nI 0) : MS × Int32) = ((u, kdI (nI tt) 360) : MS × Int32) ∧ (kdI (nI tt) 360 = nI 0 → nI 1 = bI (decide (0 < cN u (tn (nI tt))))) := by exact ⟨congrArg (fun z => (u, z)) (kd_t c_5).symm, fun _ => by rw [tn_nI, show decide (0 < cN u tt) = true from decide_eq_true (Nat.pos_of_ne_zero (of_decide_eq_false c_28))]; rfl⟩
        exact W.zret (ty := .boolean) hx hb hr (by decide +kernel) (fun t ht hW => ⟨⟨_, (((mSc u, mNc u, mBc u, mNow u, mRoom u, mRate u, mSip u, mTea u, mSpl u, mAft u, mHt u, mFr u, mTo u, mCov u, mPe u, mBe u), nI 0) : MS × Int32), rfl, hq, by rw [ht]; exact hP, va_K.moved hW.alike hK, hD⟩, hS.F ht⟩) hS.2.2 dX1_isAsleep_36
set_option maxHeartbeats 4000000 in
set_option maxRecDepth 100000 in
theorem c_X1_allShadows (l : Launch) (D : va_G) (cI : ClassId) (h : Nat) (a : Nat → Nat) (u : MS) (th : Int32) (sz : Nat) (v0 : Int32) (hI : Inv u) : Met l yX1_allShadows wsX1_allShadows ({ frames := 2, cells := 0, slots := 0, locals := 42 } : Room) (va_Pc [.ref h, .int v0] (fun U => U.heap.size = sz ∧ va_P D vwCl (pic1 cI h a u th) U.heap ∧ va_K D vwCl [(cI, .int)] U ∧ va_D (fun _ => True) (pic1 cI h a u th))) ((fun A : Nat → Prop => va_Qi (fun (r : Int32) (w : MS × Int32) => w = ((u, kdI v0 360) : MS × Int32) ∧ (kdI v0 360 = nI 0 → r = fSum u (tn v0))) (fun (w : MS × Int32) (t : State) => va_P D vwCl (pic1 cI h a w.1 w.2) t.heap ∧ va_K D vwCl [(cI, .int)] t ∧ va_D A (pic1 cI h a w.1 w.2)) A) (va_A (pic1 cI h a u th) sz)) 0 0 (va_A (pic1 cI h a u th) sz) := by
  refine en_wr (cc := cX1_allShadows) (maxL := 4) (ret := (some .int)) _ _ (fun A : Nat → Prop => va_Qi (fun (r : Int32) (w : MS × Int32) => w = ((u, kdI v0 360) : MS × Int32) ∧ (kdI v0 360 = nI 0 → r = fSum u (tn v0))) (fun (w : MS × Int32) (t : State) => va_P D vwCl (pic1 cI h a w.1 w.2) t.heap ∧ va_K D vwCl [(cI, .int)] t ∧ va_D A (pic1 cI h a w.1 w.2)) A) (by decide) rfl (Nat.le_of_ble_eq_true rfl) ?_
  intro p e s m args below meth c ls A H locs hx hb hml hr hlocks hts hown hP hK hD hA hS hl
  have hown : s.vm.findClass RX1 = some m.cls := hown
  have hin : ∀ w ∈ wsX10, w ∈ wsX1_allShadows := fun _ h9 => List.mem_cons_of_mem _ (List.mem_append_right _ h9)
  have hl : lv_has ls 4 [(0, .ref h), (1, .int v0)] := hl
  obtain ⟨hIa, hIb, hIc, hId, hIe, hIf, hIg, hIh, hIi, hIj⟩ := id hI
  refine lv_aload_n hx hb dX1_allShadows_0 rfl (lv_at hl 0 rfl) ?_
  refine lv_iconst (v := nI 0) hx hb dX1_allShadows_1 (by decide +kernel) ?_
  refine va_put (D := D) (ci := 1) (v := .int (nI 0)) (ty := .int) (C := RX1) (T := TX1) (N := 17) hx hb hts hin tyX1 tyX1_ok nmX1 hown hK hP hD hS 0 rfl rfl 0 (by decide) (hts (.fieldLink RX1 38 "AfternoonMeterModel" "thrown" "I") (List.mem_of_getElem? (i := 1) rfl)) (fun _ h9 => h9) rfl (by decide +kernel) rfl rfl (Nat.le_of_ble_eq_true rfl) dX1_allShadows_2 (fun H locs hP hD hS => ?_)
  have hP : va_P D vwCl [(h, .inr (1, [.int (nI 0), .int (nI (mSc u)), .ref (a 0), .int (nI (mNc u)), .ref (a 1), .ref (a 2), .ref (a 3), .int (nI (mBc u)), .ref (a 4), .ref (a 5), .int (nI (mRoom u)), .int (nI (mRate u)), .int (nI (mSip u)), .int (mAft u), .int (nI (mNow u)), .int (nI (mTea u)), .int (mSpl u)])), (a 0, .inl (cI, 4, .inl (mHt u))), (a 1, .inl (cI, 8, .inl (mFr u))), (a 2, .inl (cI, 8, .inl (mTo u))), (a 3, .inl (cI, 360, .inl (mCov u))), (a 4, .inl (cI, 6, .inl (mPe u))), (a 5, .inl (cI, 6, .inl (mBe u)))] H := hP
  have hD : va_D A [(h, .inr (1, [.int (nI 0), .int (nI (mSc u)), .ref (a 0), .int (nI (mNc u)), .ref (a 1), .ref (a 2), .ref (a 3), .int (nI (mBc u)), .ref (a 4), .ref (a 5), .int (nI (mRoom u)), .int (nI (mRate u)), .int (nI (mSip u)), .int (mAft u), .int (nI (mNow u)), .int (nI (mTea u)), .int (mSpl u)])), (a 0, .inl (cI, 4, .inl (mHt u))), (a 1, .inl (cI, 8, .inl (mFr u))), (a 2, .inl (cI, 8, .inl (mTo u))), (a 3, .inl (cI, 360, .inl (mCov u))), (a 4, .inl (cI, 6, .inl (mPe u))), (a 5, .inl (cI, 6, .inl (mBe u)))] := hD
  refine lv_iload_n hx hb dX1_allShadows_5 rfl (lv_at hl 1 rfl) ?_
  refine vp_callSi (W.runS (As := [.int v0]) (rest := []) ⟨hx, hb, hml, hown, hts⟩ (c_X1_isMinute l v0) (va_cwS 1 hts gX1_allShadows_X1_isMinute rfl rfl rfl (by decide +kernel) ⟨Nat.le_of_ble_eq_true rfl, Nat.le_of_ble_eq_true rfl⟩) preEq rfl rfl hl.1 rfl (lv_room (Nat.le_of_ble_eq_true rfl)) dX1_allShadows_6 ⟨Nat.le_of_ble_eq_true rfl, Nat.le_of_ble_eq_true rfl⟩) (fun r hr => ?_)
  subst hr
  refine lv_if_ne (tgt := 18) hx hb dX1_allShadows_9 (by decide) (fun c_9 => ?_) (fun c_9 => ?_)
  · skip
    replace c_9 : (inR v0 360) = true := bI_ne0 c_9
    obtain ⟨tt, ht, rfl⟩ := inR_of (by omega) c_9
    refine lv_iconst (v := nI 0) hx hb dX1_allShadows_18 (by decide +kernel) ?_
    refine lv_istore_n (lv' := [(2, .int (nI 0)), (0, .ref h), (1, .int (nI tt))]) hx hb dX1_allShadows_19 rfl hl (by decide) rfl (fun ls hl => ?_)
    refine lv_iconst (v := nI 0) hx hb dX1_allShadows_20 (by decide +kernel) ?_
    refine lv_istore_n (lv' := [(3, .int (nI 0)), (2, .int (nI 0)), (0, .ref h), (1, .int (nI tt))]) hx hb dX1_allShadows_21 rfl hl (by decide) rfl (fun ls hl => ?_)
    have lp22 : ∀ (n k : Nat), k + n = mSc u → ∀ (X : Int32), X = fz (shF u tt) k (nI 0) → ∀ (ls : Array Slot), lv_has ls 4 [(0, .ref h), (1, .int (nI tt)), (2, .int X), (3, .int (nI k))] → W p l e ({ frames := 2, cells := 0, slots := 0, locals := 42 } : Room) s m args below meth c H locs 0 0 (MQ below ((fun A : Nat → Prop => va_Qi (fun (r : Int32) (w : MS × Int32) => w = ((u, kdI (nI tt) 360) : MS × Int32) ∧ (kdI (nI tt) 360 = nI 0 → r = fSum u (tn (nI tt)))) (fun (w : MS × Int32) (t : State) => va_P D vwCl (pic1 cI h a w.1 w.2) t.heap ∧ va_K D vwCl [(cI, .int)] t ∧ va_D A (pic1 cI h a w.1 w.2)) A) A) args s 0 0 A) (F0 m 22 ls []) := by
      intro n
      induction n with
      | zero =>
        intro k hk X eX ls hl
        have ek : k = mSc u := by omega
        refine lv_iload_n hx hb dX1_allShadows_22 rfl (lv_at hl 3 rfl) ?_
        refine lv_aload_n hx hb dX1_allShadows_23 rfl (lv_at hl 0 rfl) ?_
        refine va_get (D := D) (ci := 1) (v := .int (nI (mSc u))) (C := RX1) (T := TX1) (N := 17) hx hb hts hin hown hK hP 0 rfl rfl 1 (by decide) (hts (.fieldLink RX1 41 "AfternoonMeterModel" "sticks" "I") (List.mem_of_getElem? (i := 2) rfl)) (fun _ h9 => h9) rfl dX1_allShadows_24 ?_
        refine lv_icmp_ge (tgt := 45) hx hb dX1_allShadows_27 (by decide) (fun c_27 => ?_) (fun c_27 => ?_)
        · skip
          replace c_27 : (mSc u) ≤ k := leN c_27
          refine lv_iload_n hx hb dX1_allShadows_45 rfl (lv_at hl 2 rfl) ?_
          have hq : (((mSc u, mNc u, mBc u, mNow u, mRoom u, mRate u, mSip u, mTea u, mSpl u, mAft u, mHt u, mFr u, mTo u, mCov u, mPe u, mBe u), nI 0) : MS × Int32) = ((u, kdI (nI tt) 360) : MS × Int32) ∧ (kdI (nI tt) 360 = nI 0 → X = fSum u (tn (nI tt))) := by exact ⟨congrArg (fun z => (u, z)) (kd_t c_9).symm, fun _ => by rw [tn_nI, eX, ek]; rfl⟩
          exact W.iret hx hb hr (fun t ht hW => ⟨⟨_, (((mSc u, mNc u, mBc u, mNow u, mRoom u, mRate u, mSip u, mTea u, mSpl u, mAft u, mHt u, mFr u, mTo u, mCov u, mPe u, mBe u), nI 0) : MS × Int32), rfl, hq, by rw [ht]; exact hP, va_K.moved hW.alike hK, hD⟩, hS.F ht⟩) hS.2.2 dX1_allShadows_46
        · skip
          replace c_27 : k < (mSc u) := nleN c_27
          exact (by omega : False).elim
      | succ n ih =>
        intro k hk X eX ls hl
        refine lv_iload_n hx hb dX1_allShadows_22 rfl (lv_at hl 3 rfl) ?_
        refine lv_aload_n hx hb dX1_allShadows_23 rfl (lv_at hl 0 rfl) ?_
        refine va_get (D := D) (ci := 1) (v := .int (nI (mSc u))) (C := RX1) (T := TX1) (N := 17) hx hb hts hin hown hK hP 0 rfl rfl 1 (by decide) (hts (.fieldLink RX1 41 "AfternoonMeterModel" "sticks" "I") (List.mem_of_getElem? (i := 2) rfl)) (fun _ h9 => h9) rfl dX1_allShadows_24 ?_
        refine lv_icmp_ge (tgt := 45) hx hb dX1_allShadows_27 (by decide) (fun c_27 => ?_) (fun c_27 => ?_)
        · skip
          replace c_27 : (mSc u) ≤ k := leN c_27
          exact (by omega : False).elim
        · skip
          replace c_27 : k < (mSc u) := nleN c_27
          refine lv_iload_n hx hb dX1_allShadows_30 rfl (lv_at hl 2 rfl) ?_
          refine lv_aload_n hx hb dX1_allShadows_31 rfl (lv_at hl 0 rfl) ?_
          refine lv_iload_n hx hb dX1_allShadows_32 rfl (lv_at hl 3 rfl) ?_
          refine lv_iload_n hx hb dX1_allShadows_33 rfl (lv_at hl 1 rfl) ?_
          refine vp_callSi (W.runV (As := [.int (nI k), .int (nI tt)]) (rest := [.int X]) ⟨hx, hb, hml, hown, hts⟩ (c_X1_shadow l D cI h a u (nI 0) k tt (by omega)) (cwV 2 hts gX1_allShadows_X1_shadow rfl rfl rfl (by decide +kernel) ⟨Nat.le_of_ble_eq_true rfl, Nat.le_of_ble_eq_true rfl⟩) (pu_pre hK hP rfl rfl) rfl rfl hl.1 rfl (lv_room (Nat.le_of_ble_eq_true rfl)) dX1_allShadows_34 ⟨Nat.le_of_ble_eq_true rfl, Nat.le_of_ble_eq_true rfl⟩) (fun r hr => ?_)
          subst hr
          refine lv_iadd hx hb dX1_allShadows_37 ?_
          refine lv_istore_n (lv' := [(2, .int (X + (fShad u k tt))), (0, .ref h), (1, .int (nI tt)), (3, .int (nI k))]) hx hb dX1_allShadows_38 rfl hl (by decide) rfl (fun ls hl => ?_)
          refine lv_iinc (v := nI (k + 1)) (lv' := [(3, .int (nI (k + 1))), (2, .int (X + (fShad u k tt))), (0, .ref h), (1, .int (nI tt))]) hx hb dX1_allShadows_39 hl (k := 3) rfl (nI_i1 _) (by decide) rfl (fun ls hl => ?_)
          refine lv_goto (tgt := 22) hx hb dX1_allShadows_42 (by decide) ?_
          exact ih (k + 1) (by omega) (X + (fShad u k tt)) (by subst eX; rfl) _ (lv_sub hl [2, 3, 1, 0] rfl)
    exact lp22 _ 0 (Nat.zero_add _) (nI 0) (by rfl) _ (lv_sub hl [2, 3, 1, 0] rfl)
  · skip
    replace c_9 : (inR v0 360) = false := bI_eq0 c_9
    refine lv_aload_n hx hb dX1_allShadows_12 rfl (lv_at hl 0 rfl) ?_
    refine lv_iconst (v := nI 1) hx hb dX1_allShadows_13 (by decide +kernel) ?_
    have hFc := va_free (wc := [(h, .inr (1, [.int (nI 0), .int (nI (mSc u)), .ref (a 0), .int (nI (mNc u)), .ref (a 1), .ref (a 2), .ref (a 3), .int (nI (mBc u)), .ref (a 4), .ref (a 5), .int (nI (mRoom u)), .int (nI (mRate u)), .int (nI (mSip u)), .int (mAft u), .int (nI (mNow u)), .int (nI (mTea u)), .int (mSpl u)])), (a 0, .inl (cI, 4, .inl (mHt u))), (a 1, .inl (cI, 8, .inl (mFr u))), (a 2, .inl (cI, 8, .inl (mTo u))), (a 3, .inl (cI, 360, .inl (mCov u))), (a 4, .inl (cI, 6, .inl (mPe u))), (a 5, .inl (cI, 6, .inl (mBe u)))]) hD hS hA [0, 1, 2, 3, 4, 5, 6] rfl
    refine va_calli (va_runV (As := [.int (nI 1)]) (rest := []) ⟨hx, hb, hml, hown, hts⟩ (c_X1_no l D cI h a u (nI 0) H.size (nI 1)) (cwV 1 hts gX1_allShadows_X1_no rfl rfl rfl (by decide +kernel) ⟨Nat.le_of_ble_eq_true rfl, Nat.le_of_ble_eq_true rfl⟩) ⟨wr_blind, va_recv (ci := 1) (q0 := 0) hK hP rfl rfl, fun U hU hW => ⟨rfl, by rw [hU], by rw [hU]; exact hP, va_K.moved hW.alike hK, hD.weaken (fun _ _ _ _ => trivial)⟩⟩ rfl rfl hl.1 rfl (lv_room (Nat.le_of_ble_eq_true rfl)) dX1_allShadows_14 ⟨Nat.le_of_ble_eq_true rfl, Nat.le_of_ble_eq_true rfl⟩) hS (fun q _ h => hFc q h) hFc (fun r w t H locs ht hvm hw hB hz1 hk1 hS => ?_)
    obtain ⟨rfl, rfl⟩ := hw
    obtain ⟨hP1, hK1, hD1⟩ := hB
    rw [ht] at hP1
    have hP : va_P D vwCl [(h, .inr (1, [.int (nI 1), .int (nI (mSc u)), .ref (a 0), .int (nI (mNc u)), .ref (a 1), .ref (a 2), .ref (a 3), .int (nI (mBc u)), .ref (a 4), .ref (a 5), .int (nI (mRoom u)), .int (nI (mRate u)), .int (nI (mSip u)), .int (mAft u), .int (nI (mNow u)), .int (nI (mTea u)), .int (mSpl u)])), (a 0, .inl (cI, 4, .inl (mHt u))), (a 1, .inl (cI, 8, .inl (mFr u))), (a 2, .inl (cI, 8, .inl (mTo u))), (a 3, .inl (cI, 360, .inl (mCov u))), (a 4, .inl (cI, 6, .inl (mPe u))), (a 5, .inl (cI, 6, .inl (mBe u)))] H := hP1
    have hD : va_D A [(h, .inr (1, [.int (nI 1), .int (nI (mSc u)), .ref (a 0), .int (nI (mNc u)), .ref (a 1), .ref (a 2), .ref (a 3), .int (nI (mBc u)), .ref (a 4), .ref (a 5), .int (nI (mRoom u)), .int (nI (mRate u)), .int (nI (mSip u)), .int (mAft u), .int (nI (mNow u)), .int (nI (mTea u)), .int (mSpl u)])), (a 0, .inl (cI, 4, .inl (mHt u))), (a 1, .inl (cI, 8, .inl (mFr u))), (a 2, .inl (cI, 8, .inl (mTo u))), (a 3, .inl (cI, 360, .inl (mCov u))), (a 4, .inl (cI, 6, .inl (mPe u))), (a 5, .inl (cI, 6, .inl (mBe u)))] := hD1.weaken (fun k q _ h => hFc q.1 h)
    have hq : (((mSc u, mNc u, mBc u, mNow u, mRoom u, mRate u, mSip u, mTea u, mSpl u, mAft u, mHt u, mFr u, mTo u, mCov u, mPe u, mBe u), (nI 1)) : MS × Int32) = ((u, kdI v0 360) : MS × Int32) ∧ (kdI v0 360 = nI 0 → nI 0 = fSum u (tn v0)) := by exact ⟨congrArg (fun z => (u, z)) (kd_f c_9).symm, kd_n1 (kd_f c_9)⟩
    exact W.iret hx hb hr (fun t ht hW => ⟨⟨_, (((mSc u, mNc u, mBc u, mNow u, mRoom u, mRate u, mSip u, mTea u, mSpl u, mAft u, mHt u, mFr u, mTo u, mCov u, mPe u, mBe u), (nI 1)) : MS × Int32), rfl, hq, by rw [ht]; exact hP, va_K.moved hW.alike hK, hD⟩, hS.F ht⟩) hS.2.2 dX1_allShadows_17
set_option maxHeartbeats 4000000 in
set_option maxRecDepth 100000 in
theorem c_X1_minuteOfShadow (l : Launch) (D : va_G) (cI : ClassId) (h : Nat) (a : Nat → Nat) (u : MS) (th : Int32) (sz : Nat) (v0 : Int32) (len : Int32) (hI : Inv u) : Met l yX1_minuteOfShadow wsX1_minuteOfShadow ({ frames := 2, cells := 0, slots := 0, locals := 43 } : Room) (va_Pc [.ref h, .int v0, .int len] (fun U => U.heap.size = sz ∧ va_P D vwCl (pic1 cI h a u th) U.heap ∧ va_K D vwCl [(cI, .int)] U ∧ va_D (fun _ => True) (pic1 cI h a u th))) ((fun A : Nat → Prop => va_Qi (fun (r : Int32) (w : MS × Int32) => w = ((u, kdI v0 (mSc u)) : MS × Int32) ∧ (kdI v0 (mSc u) = nI 0 → r = fMoS u (tn v0) len)) (fun (w : MS × Int32) (t : State) => va_P D vwCl (pic1 cI h a w.1 w.2) t.heap ∧ va_K D vwCl [(cI, .int)] t ∧ va_D A (pic1 cI h a w.1 w.2)) A) (va_A (pic1 cI h a u th) sz)) 0 0 (va_A (pic1 cI h a u th) sz) := by
  refine en_wr (cc := cX1_minuteOfShadow) (maxL := 4) (ret := (some .int)) _ _ (fun A : Nat → Prop => va_Qi (fun (r : Int32) (w : MS × Int32) => w = ((u, kdI v0 (mSc u)) : MS × Int32) ∧ (kdI v0 (mSc u) = nI 0 → r = fMoS u (tn v0) len)) (fun (w : MS × Int32) (t : State) => va_P D vwCl (pic1 cI h a w.1 w.2) t.heap ∧ va_K D vwCl [(cI, .int)] t ∧ va_D A (pic1 cI h a w.1 w.2)) A) (by decide) rfl (Nat.le_of_ble_eq_true rfl) ?_
  intro p e s m args below meth c ls A H locs hx hb hml hr hlocks hts hown hP hK hD hA hS hl
  have hown : s.vm.findClass RX1 = some m.cls := hown
  have hin : ∀ w ∈ wsX10, w ∈ wsX1_minuteOfShadow := fun _ h9 => List.mem_cons_of_mem _ (List.mem_append_right _ h9)
  have hl : lv_has ls 4 [(0, .ref h), (1, .int v0), (2, .int len)] := hl
  obtain ⟨hIa, hIb, hIc, hId, hIe, hIf, hIg, hIh, hIi, hIj⟩ := id hI
  refine lv_aload_n hx hb dX1_minuteOfShadow_0 rfl (lv_at hl 0 rfl) ?_
  refine lv_iconst (v := nI 0) hx hb dX1_minuteOfShadow_1 (by decide +kernel) ?_
  refine va_put (D := D) (ci := 1) (v := .int (nI 0)) (ty := .int) (C := RX1) (T := TX1) (N := 17) hx hb hts hin tyX1 tyX1_ok nmX1 hown hK hP hD hS 0 rfl rfl 0 (by decide) (hts (.fieldLink RX1 38 "AfternoonMeterModel" "thrown" "I") (List.mem_of_getElem? (i := 1) rfl)) (fun _ h9 => h9) rfl (by decide +kernel) rfl rfl (Nat.le_of_ble_eq_true rfl) dX1_minuteOfShadow_2 (fun H locs hP hD hS => ?_)
  have hP : va_P D vwCl [(h, .inr (1, [.int (nI 0), .int (nI (mSc u)), .ref (a 0), .int (nI (mNc u)), .ref (a 1), .ref (a 2), .ref (a 3), .int (nI (mBc u)), .ref (a 4), .ref (a 5), .int (nI (mRoom u)), .int (nI (mRate u)), .int (nI (mSip u)), .int (mAft u), .int (nI (mNow u)), .int (nI (mTea u)), .int (mSpl u)])), (a 0, .inl (cI, 4, .inl (mHt u))), (a 1, .inl (cI, 8, .inl (mFr u))), (a 2, .inl (cI, 8, .inl (mTo u))), (a 3, .inl (cI, 360, .inl (mCov u))), (a 4, .inl (cI, 6, .inl (mPe u))), (a 5, .inl (cI, 6, .inl (mBe u)))] H := hP
  have hD : va_D A [(h, .inr (1, [.int (nI 0), .int (nI (mSc u)), .ref (a 0), .int (nI (mNc u)), .ref (a 1), .ref (a 2), .ref (a 3), .int (nI (mBc u)), .ref (a 4), .ref (a 5), .int (nI (mRoom u)), .int (nI (mRate u)), .int (nI (mSip u)), .int (mAft u), .int (nI (mNow u)), .int (nI (mTea u)), .int (mSpl u)])), (a 0, .inl (cI, 4, .inl (mHt u))), (a 1, .inl (cI, 8, .inl (mFr u))), (a 2, .inl (cI, 8, .inl (mTo u))), (a 3, .inl (cI, 360, .inl (mCov u))), (a 4, .inl (cI, 6, .inl (mPe u))), (a 5, .inl (cI, 6, .inl (mBe u)))] := hD
  refine lv_aload_n hx hb dX1_minuteOfShadow_5 rfl (lv_at hl 0 rfl) ?_
  refine lv_iload_n hx hb dX1_minuteOfShadow_6 rfl (lv_at hl 1 rfl) ?_
  refine vp_callSi (W.runV (As := [.int v0]) (rest := []) ⟨hx, hb, hml, hown, hts⟩ (c_X1_isStick l D cI h a u (nI 0) v0 hI) (cwV 1 hts gX1_minuteOfShadow_X1_isStick rfl rfl rfl (by decide +kernel) ⟨Nat.le_of_ble_eq_true rfl, Nat.le_of_ble_eq_true rfl⟩) (pu_pre hK hP rfl rfl) rfl rfl hl.1 rfl (lv_room (Nat.le_of_ble_eq_true rfl)) dX1_minuteOfShadow_7 ⟨Nat.le_of_ble_eq_true rfl, Nat.le_of_ble_eq_true rfl⟩) (fun r hr => ?_)
  subst hr
  refine lv_if_ne (tgt := 19) hx hb dX1_minuteOfShadow_10 (by decide) (fun c_10 => ?_) (fun c_10 => ?_)
  · skip
    replace c_10 : (inR v0 (mSc u)) = true := bI_ne0 c_10
    obtain ⟨sk, hsk, rfl⟩ := inR_of (by omega) c_10
    refine lv_iconst (v := nI 0) hx hb dX1_minuteOfShadow_19 (by decide +kernel) ?_
    refine lv_istore_n (lv' := [(3, .int (nI 0)), (0, .ref h), (1, .int (nI sk)), (2, .int len)]) hx hb dX1_minuteOfShadow_20 rfl hl (by decide) rfl (fun ls hl => ?_)
    have lp21 : ∀ (n k : Nat), k + n = 360 → fMoS u sk len = fd (msB u sk len) n k → ∀ (ls : Array Slot), lv_has ls 4 [(0, .ref h), (1, .int (nI sk)), (2, .int len), (3, .int (nI k))] → W p l e ({ frames := 2, cells := 0, slots := 0, locals := 43 } : Room) s m args below meth c H locs 0 0 (MQ below ((fun A : Nat → Prop => va_Qi (fun (r : Int32) (w : MS × Int32) => w = ((u, kdI (nI sk) (mSc u)) : MS × Int32) ∧ (kdI (nI sk) (mSc u) = nI 0 → r = fMoS u (tn (nI sk)) len)) (fun (w : MS × Int32) (t : State) => va_P D vwCl (pic1 cI h a w.1 w.2) t.heap ∧ va_K D vwCl [(cI, .int)] t ∧ va_D A (pic1 cI h a w.1 w.2)) A) A) args s 0 0 A) (F0 m 21 ls []) := by
      intro n
      induction n with
      | zero =>
        intro k hk hq0 ls hl
        refine lv_iload_n hx hb dX1_minuteOfShadow_21 rfl (lv_at hl 3 rfl) ?_
        refine lv_sipush (v := nI 360) hx hb dX1_minuteOfShadow_22 (by decide +kernel) ?_
        refine lv_icmp_ge (tgt := 46) hx hb dX1_minuteOfShadow_25 (by decide) (fun c_25 => ?_) (fun c_25 => ?_)
        · skip
          replace c_25 : 360 ≤ k := leN c_25
          refine lv_iconst (v := (-1)) hx hb dX1_minuteOfShadow_46 (by decide +kernel) ?_
          have hq : (((mSc u, mNc u, mBc u, mNow u, mRoom u, mRate u, mSip u, mTea u, mSpl u, mAft u, mHt u, mFr u, mTo u, mCov u, mPe u, mBe u), nI 0) : MS × Int32) = ((u, kdI (nI sk) (mSc u)) : MS × Int32) ∧ (kdI (nI sk) (mSc u) = nI 0 → (-1) = fMoS u (tn (nI sk)) len) := by exact ⟨congrArg (fun z => (u, z)) (kd_t c_10).symm, fun _ => by rw [tn_nI, hq0]; rfl⟩
          exact W.iret hx hb hr (fun t ht hW => ⟨⟨_, (((mSc u, mNc u, mBc u, mNow u, mRoom u, mRate u, mSip u, mTea u, mSpl u, mAft u, mHt u, mFr u, mTo u, mCov u, mPe u, mBe u), nI 0) : MS × Int32), rfl, hq, by rw [ht]; exact hP, va_K.moved hW.alike hK, hD⟩, hS.F ht⟩) hS.2.2 dX1_minuteOfShadow_47
        · skip
          replace c_25 : k < 360 := nleN c_25
          exact (by omega : False).elim
      | succ n ih =>
        intro k hk hq0 ls hl
        refine lv_iload_n hx hb dX1_minuteOfShadow_21 rfl (lv_at hl 3 rfl) ?_
        refine lv_sipush (v := nI 360) hx hb dX1_minuteOfShadow_22 (by decide +kernel) ?_
        refine lv_icmp_ge (tgt := 46) hx hb dX1_minuteOfShadow_25 (by decide) (fun c_25 => ?_) (fun c_25 => ?_)
        · skip
          replace c_25 : 360 ≤ k := leN c_25
          exact (by omega : False).elim
        · skip
          replace c_25 : k < 360 := nleN c_25
          refine lv_aload_n hx hb dX1_minuteOfShadow_28 rfl (lv_at hl 0 rfl) ?_
          refine lv_iload_n hx hb dX1_minuteOfShadow_29 rfl (lv_at hl 1 rfl) ?_
          refine lv_iload_n hx hb dX1_minuteOfShadow_30 rfl (lv_at hl 3 rfl) ?_
          refine vp_callSi (W.runV (As := [.int (nI sk), .int (nI k)]) (rest := []) ⟨hx, hb, hml, hown, hts⟩ (c_X1_shadow l D cI h a u (nI 0) sk k (by omega)) (cwV 2 hts gX1_minuteOfShadow_X1_shadow rfl rfl rfl (by decide +kernel) ⟨Nat.le_of_ble_eq_true rfl, Nat.le_of_ble_eq_true rfl⟩) (pu_pre hK hP rfl rfl) rfl rfl hl.1 rfl (lv_room (Nat.le_of_ble_eq_true rfl)) dX1_minuteOfShadow_31 ⟨Nat.le_of_ble_eq_true rfl, Nat.le_of_ble_eq_true rfl⟩) (fun r hr => ?_)
          subst hr
          refine lv_iload_n hx hb dX1_minuteOfShadow_34 rfl (lv_at hl 2 rfl) ?_
          refine lv_icmp_lt (tgt := 40) hx hb dX1_minuteOfShadow_35 (by decide) (fun c_35 => ?_) (fun c_35 => ?_)
          · skip
            refine lv_iinc (v := nI (k + 1)) (lv' := [(3, .int (nI (k + 1))), (0, .ref h), (1, .int (nI sk)), (2, .int len)]) hx hb dX1_minuteOfShadow_40 hl (k := 3) rfl (nI_i1 _) (by decide) rfl (fun ls hl => ?_)
            refine lv_goto (tgt := 21) hx hb dX1_minuteOfShadow_43 (by decide) ?_
            exact ih (k + 1) (by omega) (by rw [hq0, fd_miss (decide_eq_false (Int32.not_le.mpr c_35))]) _ (lv_sub hl [1, 2, 3, 0] rfl)
          · skip
            refine lv_iload_n hx hb dX1_minuteOfShadow_38 rfl (lv_at hl 3 rfl) ?_
            have hq : (((mSc u, mNc u, mBc u, mNow u, mRoom u, mRate u, mSip u, mTea u, mSpl u, mAft u, mHt u, mFr u, mTo u, mCov u, mPe u, mBe u), nI 0) : MS × Int32) = ((u, kdI (nI sk) (mSc u)) : MS × Int32) ∧ (kdI (nI sk) (mSc u) = nI 0 → nI k = fMoS u (tn (nI sk)) len) := by exact ⟨congrArg (fun z => (u, z)) (kd_t c_10).symm, fun _ => by rw [tn_nI, hq0, fd_hit (decide_eq_true (leI c_35))]⟩
            exact W.iret hx hb hr (fun t ht hW => ⟨⟨_, (((mSc u, mNc u, mBc u, mNow u, mRoom u, mRate u, mSip u, mTea u, mSpl u, mAft u, mHt u, mFr u, mTo u, mCov u, mPe u, mBe u), nI 0) : MS × Int32), rfl, hq, by rw [ht]; exact hP, va_K.moved hW.alike hK, hD⟩, hS.F ht⟩) hS.2.2 dX1_minuteOfShadow_39
    exact lp21 _ 0 (Nat.zero_add _) (by rfl) _ (lv_sub hl [1, 2, 3, 0] rfl)
  · skip
    replace c_10 : (inR v0 (mSc u)) = false := bI_eq0 c_10
    refine lv_aload_n hx hb dX1_minuteOfShadow_13 rfl (lv_at hl 0 rfl) ?_
    refine lv_iconst (v := nI 1) hx hb dX1_minuteOfShadow_14 (by decide +kernel) ?_
    have hFc := va_free (wc := [(h, .inr (1, [.int (nI 0), .int (nI (mSc u)), .ref (a 0), .int (nI (mNc u)), .ref (a 1), .ref (a 2), .ref (a 3), .int (nI (mBc u)), .ref (a 4), .ref (a 5), .int (nI (mRoom u)), .int (nI (mRate u)), .int (nI (mSip u)), .int (mAft u), .int (nI (mNow u)), .int (nI (mTea u)), .int (mSpl u)])), (a 0, .inl (cI, 4, .inl (mHt u))), (a 1, .inl (cI, 8, .inl (mFr u))), (a 2, .inl (cI, 8, .inl (mTo u))), (a 3, .inl (cI, 360, .inl (mCov u))), (a 4, .inl (cI, 6, .inl (mPe u))), (a 5, .inl (cI, 6, .inl (mBe u)))]) hD hS hA [0, 1, 2, 3, 4, 5, 6] rfl
    refine va_calli (va_runV (As := [.int (nI 1)]) (rest := []) ⟨hx, hb, hml, hown, hts⟩ (c_X1_no l D cI h a u (nI 0) H.size (nI 1)) (cwV 1 hts gX1_minuteOfShadow_X1_no rfl rfl rfl (by decide +kernel) ⟨Nat.le_of_ble_eq_true rfl, Nat.le_of_ble_eq_true rfl⟩) ⟨wr_blind, va_recv (ci := 1) (q0 := 0) hK hP rfl rfl, fun U hU hW => ⟨rfl, by rw [hU], by rw [hU]; exact hP, va_K.moved hW.alike hK, hD.weaken (fun _ _ _ _ => trivial)⟩⟩ rfl rfl hl.1 rfl (lv_room (Nat.le_of_ble_eq_true rfl)) dX1_minuteOfShadow_15 ⟨Nat.le_of_ble_eq_true rfl, Nat.le_of_ble_eq_true rfl⟩) hS (fun q _ h => hFc q h) hFc (fun r w t H locs ht hvm hw hB hz1 hk1 hS => ?_)
    obtain ⟨rfl, rfl⟩ := hw
    obtain ⟨hP1, hK1, hD1⟩ := hB
    rw [ht] at hP1
    have hP : va_P D vwCl [(h, .inr (1, [.int (nI 1), .int (nI (mSc u)), .ref (a 0), .int (nI (mNc u)), .ref (a 1), .ref (a 2), .ref (a 3), .int (nI (mBc u)), .ref (a 4), .ref (a 5), .int (nI (mRoom u)), .int (nI (mRate u)), .int (nI (mSip u)), .int (mAft u), .int (nI (mNow u)), .int (nI (mTea u)), .int (mSpl u)])), (a 0, .inl (cI, 4, .inl (mHt u))), (a 1, .inl (cI, 8, .inl (mFr u))), (a 2, .inl (cI, 8, .inl (mTo u))), (a 3, .inl (cI, 360, .inl (mCov u))), (a 4, .inl (cI, 6, .inl (mPe u))), (a 5, .inl (cI, 6, .inl (mBe u)))] H := hP1
    have hD : va_D A [(h, .inr (1, [.int (nI 1), .int (nI (mSc u)), .ref (a 0), .int (nI (mNc u)), .ref (a 1), .ref (a 2), .ref (a 3), .int (nI (mBc u)), .ref (a 4), .ref (a 5), .int (nI (mRoom u)), .int (nI (mRate u)), .int (nI (mSip u)), .int (mAft u), .int (nI (mNow u)), .int (nI (mTea u)), .int (mSpl u)])), (a 0, .inl (cI, 4, .inl (mHt u))), (a 1, .inl (cI, 8, .inl (mFr u))), (a 2, .inl (cI, 8, .inl (mTo u))), (a 3, .inl (cI, 360, .inl (mCov u))), (a 4, .inl (cI, 6, .inl (mPe u))), (a 5, .inl (cI, 6, .inl (mBe u)))] := hD1.weaken (fun k q _ h => hFc q.1 h)
    have hq : (((mSc u, mNc u, mBc u, mNow u, mRoom u, mRate u, mSip u, mTea u, mSpl u, mAft u, mHt u, mFr u, mTo u, mCov u, mPe u, mBe u), (nI 1)) : MS × Int32) = ((u, kdI v0 (mSc u)) : MS × Int32) ∧ (kdI v0 (mSc u) = nI 0 → nI 0 = fMoS u (tn v0) len) := by exact ⟨congrArg (fun z => (u, z)) (kd_f c_10).symm, kd_n1 (kd_f c_10)⟩
    exact W.iret hx hb hr (fun t ht hW => ⟨⟨_, (((mSc u, mNc u, mBc u, mNow u, mRoom u, mRate u, mSip u, mTea u, mSpl u, mAft u, mHt u, mFr u, mTo u, mCov u, mPe u, mBe u), (nI 1)) : MS × Int32), rfl, hq, by rw [ht]; exact hP, va_K.moved hW.alike hK, hD⟩, hS.F ht⟩) hS.2.2 dX1_minuteOfShadow_18
set_option maxHeartbeats 4000000 in
set_option maxRecDepth 100000 in
theorem c_X1_shadowAt (l : Launch) (D : va_G) (cI : ClassId) (h : Nat) (a : Nat → Nat) (u : MS) (th : Int32) (sz : Nat) (v0 : Int32) (v1 : Int32) (hI : Inv u) : Met l yX1_shadowAt wsX1_shadowAt ({ frames := 2, cells := 0, slots := 0, locals := 43 } : Room) (va_Pc [.ref h, .int v0, .int v1] (fun U => U.heap.size = sz ∧ va_P D vwCl (pic1 cI h a u th) U.heap ∧ va_K D vwCl [(cI, .int)] U ∧ va_D (fun _ => True) (pic1 cI h a u th))) ((fun A : Nat → Prop => va_Qi (fun (r : Int32) (w : MS × Int32) => w = ((u, kdShad u v0 v1) : MS × Int32) ∧ (kdShad u v0 v1 = nI 0 → r = fShad u (tn v0) (tn v1))) (fun (w : MS × Int32) (t : State) => va_P D vwCl (pic1 cI h a w.1 w.2) t.heap ∧ va_K D vwCl [(cI, .int)] t ∧ va_D A (pic1 cI h a w.1 w.2)) A) (va_A (pic1 cI h a u th) sz)) 0 0 (va_A (pic1 cI h a u th) sz) := by
  refine en_wr (cc := cX1_shadowAt) (maxL := 3) (ret := (some .int)) _ _ (fun A : Nat → Prop => va_Qi (fun (r : Int32) (w : MS × Int32) => w = ((u, kdShad u v0 v1) : MS × Int32) ∧ (kdShad u v0 v1 = nI 0 → r = fShad u (tn v0) (tn v1))) (fun (w : MS × Int32) (t : State) => va_P D vwCl (pic1 cI h a w.1 w.2) t.heap ∧ va_K D vwCl [(cI, .int)] t ∧ va_D A (pic1 cI h a w.1 w.2)) A) (by decide) rfl (Nat.le_of_ble_eq_true rfl) ?_
  intro p e s m args below meth c ls A H locs hx hb hml hr hlocks hts hown hP hK hD hA hS hl
  have hown : s.vm.findClass RX1 = some m.cls := hown
  have hin : ∀ w ∈ wsX10, w ∈ wsX1_shadowAt := fun _ h9 => List.mem_cons_of_mem _ (List.mem_append_right _ h9)
  have hl : lv_has ls 3 [(0, .ref h), (1, .int v0), (2, .int v1)] := hl
  obtain ⟨hIa, hIb, hIc, hId, hIe, hIf, hIg, hIh, hIi, hIj⟩ := id hI
  refine lv_aload_n hx hb dX1_shadowAt_0 rfl (lv_at hl 0 rfl) ?_
  refine lv_iconst (v := nI 0) hx hb dX1_shadowAt_1 (by decide +kernel) ?_
  refine va_put (D := D) (ci := 1) (v := .int (nI 0)) (ty := .int) (C := RX1) (T := TX1) (N := 17) hx hb hts hin tyX1 tyX1_ok nmX1 hown hK hP hD hS 0 rfl rfl 0 (by decide) (hts (.fieldLink RX1 38 "AfternoonMeterModel" "thrown" "I") (List.mem_of_getElem? (i := 1) rfl)) (fun _ h9 => h9) rfl (by decide +kernel) rfl rfl (Nat.le_of_ble_eq_true rfl) dX1_shadowAt_2 (fun H locs hP hD hS => ?_)
  have hP : va_P D vwCl [(h, .inr (1, [.int (nI 0), .int (nI (mSc u)), .ref (a 0), .int (nI (mNc u)), .ref (a 1), .ref (a 2), .ref (a 3), .int (nI (mBc u)), .ref (a 4), .ref (a 5), .int (nI (mRoom u)), .int (nI (mRate u)), .int (nI (mSip u)), .int (mAft u), .int (nI (mNow u)), .int (nI (mTea u)), .int (mSpl u)])), (a 0, .inl (cI, 4, .inl (mHt u))), (a 1, .inl (cI, 8, .inl (mFr u))), (a 2, .inl (cI, 8, .inl (mTo u))), (a 3, .inl (cI, 360, .inl (mCov u))), (a 4, .inl (cI, 6, .inl (mPe u))), (a 5, .inl (cI, 6, .inl (mBe u)))] H := hP
  have hD : va_D A [(h, .inr (1, [.int (nI 0), .int (nI (mSc u)), .ref (a 0), .int (nI (mNc u)), .ref (a 1), .ref (a 2), .ref (a 3), .int (nI (mBc u)), .ref (a 4), .ref (a 5), .int (nI (mRoom u)), .int (nI (mRate u)), .int (nI (mSip u)), .int (mAft u), .int (nI (mNow u)), .int (nI (mTea u)), .int (mSpl u)])), (a 0, .inl (cI, 4, .inl (mHt u))), (a 1, .inl (cI, 8, .inl (mFr u))), (a 2, .inl (cI, 8, .inl (mTo u))), (a 3, .inl (cI, 360, .inl (mCov u))), (a 4, .inl (cI, 6, .inl (mPe u))), (a 5, .inl (cI, 6, .inl (mBe u)))] := hD
  refine lv_aload_n hx hb dX1_shadowAt_5 rfl (lv_at hl 0 rfl) ?_
  refine lv_iload_n hx hb dX1_shadowAt_6 rfl (lv_at hl 1 rfl) ?_
  refine vp_callSi (W.runV (As := [.int v0]) (rest := []) ⟨hx, hb, hml, hown, hts⟩ (c_X1_isStick l D cI h a u (nI 0) v0 hI) (cwV 1 hts gX1_shadowAt_X1_isStick rfl rfl rfl (by decide +kernel) ⟨Nat.le_of_ble_eq_true rfl, Nat.le_of_ble_eq_true rfl⟩) (pu_pre hK hP rfl rfl) rfl rfl hl.1 rfl (lv_room (Nat.le_of_ble_eq_true rfl)) dX1_shadowAt_7 ⟨Nat.le_of_ble_eq_true rfl, Nat.le_of_ble_eq_true rfl⟩) (fun r hr => ?_)
  subst hr
  refine lv_if_ne (tgt := 19) hx hb dX1_shadowAt_10 (by decide) (fun c_10 => ?_) (fun c_10 => ?_)
  · skip
    replace c_10 : (inR v0 (mSc u)) = true := bI_ne0 c_10
    obtain ⟨sk, hsk, rfl⟩ := inR_of (by omega) c_10
    refine lv_iload_n hx hb dX1_shadowAt_19 rfl (lv_at hl 2 rfl) ?_
    refine vp_callSi (W.runS (As := [.int v1]) (rest := []) ⟨hx, hb, hml, hown, hts⟩ (c_X1_isMinute l v1) (va_cwS 1 hts gX1_shadowAt_X1_isMinute rfl rfl rfl (by decide +kernel) ⟨Nat.le_of_ble_eq_true rfl, Nat.le_of_ble_eq_true rfl⟩) preEq rfl rfl hl.1 rfl (lv_room (Nat.le_of_ble_eq_true rfl)) dX1_shadowAt_20 ⟨Nat.le_of_ble_eq_true rfl, Nat.le_of_ble_eq_true rfl⟩) (fun r hr => ?_)
    subst hr
    refine lv_if_eq (tgt := 35) hx hb dX1_shadowAt_23 (by decide) (fun c_23 => ?_) (fun c_23 => ?_)
    · skip
      replace c_23 : (inR v1 360) = false := bI_eq0 c_23
      refine lv_aload_n hx hb dX1_shadowAt_35 rfl (lv_at hl 0 rfl) ?_
      refine lv_iconst (v := nI 2) hx hb dX1_shadowAt_36 (by decide +kernel) ?_
      have hFc := va_free (wc := [(h, .inr (1, [.int (nI 0), .int (nI (mSc u)), .ref (a 0), .int (nI (mNc u)), .ref (a 1), .ref (a 2), .ref (a 3), .int (nI (mBc u)), .ref (a 4), .ref (a 5), .int (nI (mRoom u)), .int (nI (mRate u)), .int (nI (mSip u)), .int (mAft u), .int (nI (mNow u)), .int (nI (mTea u)), .int (mSpl u)])), (a 0, .inl (cI, 4, .inl (mHt u))), (a 1, .inl (cI, 8, .inl (mFr u))), (a 2, .inl (cI, 8, .inl (mTo u))), (a 3, .inl (cI, 360, .inl (mCov u))), (a 4, .inl (cI, 6, .inl (mPe u))), (a 5, .inl (cI, 6, .inl (mBe u)))]) hD hS hA [0, 1, 2, 3, 4, 5, 6] rfl
      refine va_calli (va_runV (As := [.int (nI 2)]) (rest := []) ⟨hx, hb, hml, hown, hts⟩ (c_X1_no l D cI h a u (nI 0) H.size (nI 2)) (cwV 1 hts gX1_shadowAt_X1_no rfl rfl rfl (by decide +kernel) ⟨Nat.le_of_ble_eq_true rfl, Nat.le_of_ble_eq_true rfl⟩) ⟨wr_blind, va_recv (ci := 1) (q0 := 0) hK hP rfl rfl, fun U hU hW => ⟨rfl, by rw [hU], by rw [hU]; exact hP, va_K.moved hW.alike hK, hD.weaken (fun _ _ _ _ => trivial)⟩⟩ rfl rfl hl.1 rfl (lv_room (Nat.le_of_ble_eq_true rfl)) dX1_shadowAt_37 ⟨Nat.le_of_ble_eq_true rfl, Nat.le_of_ble_eq_true rfl⟩) hS (fun q _ h => hFc q h) hFc (fun r w t H locs ht hvm hw hB hz1 hk1 hS => ?_)
      obtain ⟨rfl, rfl⟩ := hw
      obtain ⟨hP1, hK1, hD1⟩ := hB
      rw [ht] at hP1
      have hP : va_P D vwCl [(h, .inr (1, [.int (nI 2), .int (nI (mSc u)), .ref (a 0), .int (nI (mNc u)), .ref (a 1), .ref (a 2), .ref (a 3), .int (nI (mBc u)), .ref (a 4), .ref (a 5), .int (nI (mRoom u)), .int (nI (mRate u)), .int (nI (mSip u)), .int (mAft u), .int (nI (mNow u)), .int (nI (mTea u)), .int (mSpl u)])), (a 0, .inl (cI, 4, .inl (mHt u))), (a 1, .inl (cI, 8, .inl (mFr u))), (a 2, .inl (cI, 8, .inl (mTo u))), (a 3, .inl (cI, 360, .inl (mCov u))), (a 4, .inl (cI, 6, .inl (mPe u))), (a 5, .inl (cI, 6, .inl (mBe u)))] H := hP1
      have hD : va_D A [(h, .inr (1, [.int (nI 2), .int (nI (mSc u)), .ref (a 0), .int (nI (mNc u)), .ref (a 1), .ref (a 2), .ref (a 3), .int (nI (mBc u)), .ref (a 4), .ref (a 5), .int (nI (mRoom u)), .int (nI (mRate u)), .int (nI (mSip u)), .int (mAft u), .int (nI (mNow u)), .int (nI (mTea u)), .int (mSpl u)])), (a 0, .inl (cI, 4, .inl (mHt u))), (a 1, .inl (cI, 8, .inl (mFr u))), (a 2, .inl (cI, 8, .inl (mTo u))), (a 3, .inl (cI, 360, .inl (mCov u))), (a 4, .inl (cI, 6, .inl (mPe u))), (a 5, .inl (cI, 6, .inl (mBe u)))] := hD1.weaken (fun k q _ h => hFc q.1 h)
      have hq : (((mSc u, mNc u, mBc u, mNow u, mRoom u, mRate u, mSip u, mTea u, mSpl u, mAft u, mHt u, mFr u, mTo u, mCov u, mPe u, mBe u), (nI 2)) : MS × Int32) = ((u, kdShad u (nI sk) v1) : MS × Int32) ∧ (kdShad u (nI sk) v1 = nI 0 → nI 0 = fShad u (tn (nI sk)) (tn v1)) := by exact ⟨congrArg (fun z => (u, z)) ((kd_t c_10).trans (kd_f c_23)).symm, kd_n2 ((kd_t c_10).trans (kd_f c_23))⟩
      exact W.iret hx hb hr (fun t ht hW => ⟨⟨_, (((mSc u, mNc u, mBc u, mNow u, mRoom u, mRate u, mSip u, mTea u, mSpl u, mAft u, mHt u, mFr u, mTo u, mCov u, mPe u, mBe u), (nI 2)) : MS × Int32), rfl, hq, by rw [ht]; exact hP, va_K.moved hW.alike hK, hD⟩, hS.F ht⟩) hS.2.2 dX1_shadowAt_40
    · skip
      replace c_23 : (inR v1 360) = true := bI_ne0 c_23
      obtain ⟨tt, ht, rfl⟩ := inR_of (by omega) c_23
      refine lv_aload_n hx hb dX1_shadowAt_26 rfl (lv_at hl 0 rfl) ?_
      refine lv_iload_n hx hb dX1_shadowAt_27 rfl (lv_at hl 1 rfl) ?_
      refine lv_iload_n hx hb dX1_shadowAt_28 rfl (lv_at hl 2 rfl) ?_
      refine vp_callSi (W.runV (As := [.int (nI sk), .int (nI tt)]) (rest := []) ⟨hx, hb, hml, hown, hts⟩ (c_X1_shadow l D cI h a u (nI 0) sk tt (by omega)) (cwV 2 hts gX1_shadowAt_X1_shadow rfl rfl rfl (by decide +kernel) ⟨Nat.le_of_ble_eq_true rfl, Nat.le_of_ble_eq_true rfl⟩) (pu_pre hK hP rfl rfl) rfl rfl hl.1 rfl (lv_room (Nat.le_of_ble_eq_true rfl)) dX1_shadowAt_29 ⟨Nat.le_of_ble_eq_true rfl, Nat.le_of_ble_eq_true rfl⟩) (fun r hr => ?_)
      subst hr
      refine lv_goto (tgt := 40) hx hb dX1_shadowAt_32 (by decide) ?_
      have hq : (((mSc u, mNc u, mBc u, mNow u, mRoom u, mRate u, mSip u, mTea u, mSpl u, mAft u, mHt u, mFr u, mTo u, mCov u, mPe u, mBe u), nI 0) : MS × Int32) = ((u, kdShad u (nI sk) (nI tt)) : MS × Int32) ∧ (kdShad u (nI sk) (nI tt) = nI 0 → fShad u sk tt = fShad u (tn (nI sk)) (tn (nI tt))) := by exact ⟨congrArg (fun z => (u, z)) ((kd_t c_10).trans (kd_t c_23)).symm, fun _ => by rw [tn_nI, tn_nI]⟩
      exact W.iret hx hb hr (fun t ht hW => ⟨⟨_, (((mSc u, mNc u, mBc u, mNow u, mRoom u, mRate u, mSip u, mTea u, mSpl u, mAft u, mHt u, mFr u, mTo u, mCov u, mPe u, mBe u), nI 0) : MS × Int32), rfl, hq, by rw [ht]; exact hP, va_K.moved hW.alike hK, hD⟩, hS.F ht⟩) hS.2.2 dX1_shadowAt_40
  · skip
    replace c_10 : (inR v0 (mSc u)) = false := bI_eq0 c_10
    refine lv_aload_n hx hb dX1_shadowAt_13 rfl (lv_at hl 0 rfl) ?_
    refine lv_iconst (v := nI 1) hx hb dX1_shadowAt_14 (by decide +kernel) ?_
    have hFc := va_free (wc := [(h, .inr (1, [.int (nI 0), .int (nI (mSc u)), .ref (a 0), .int (nI (mNc u)), .ref (a 1), .ref (a 2), .ref (a 3), .int (nI (mBc u)), .ref (a 4), .ref (a 5), .int (nI (mRoom u)), .int (nI (mRate u)), .int (nI (mSip u)), .int (mAft u), .int (nI (mNow u)), .int (nI (mTea u)), .int (mSpl u)])), (a 0, .inl (cI, 4, .inl (mHt u))), (a 1, .inl (cI, 8, .inl (mFr u))), (a 2, .inl (cI, 8, .inl (mTo u))), (a 3, .inl (cI, 360, .inl (mCov u))), (a 4, .inl (cI, 6, .inl (mPe u))), (a 5, .inl (cI, 6, .inl (mBe u)))]) hD hS hA [0, 1, 2, 3, 4, 5, 6] rfl
    refine va_calli (va_runV (As := [.int (nI 1)]) (rest := []) ⟨hx, hb, hml, hown, hts⟩ (c_X1_no l D cI h a u (nI 0) H.size (nI 1)) (cwV 1 hts gX1_shadowAt_X1_no rfl rfl rfl (by decide +kernel) ⟨Nat.le_of_ble_eq_true rfl, Nat.le_of_ble_eq_true rfl⟩) ⟨wr_blind, va_recv (ci := 1) (q0 := 0) hK hP rfl rfl, fun U hU hW => ⟨rfl, by rw [hU], by rw [hU]; exact hP, va_K.moved hW.alike hK, hD.weaken (fun _ _ _ _ => trivial)⟩⟩ rfl rfl hl.1 rfl (lv_room (Nat.le_of_ble_eq_true rfl)) dX1_shadowAt_15 ⟨Nat.le_of_ble_eq_true rfl, Nat.le_of_ble_eq_true rfl⟩) hS (fun q _ h => hFc q h) hFc (fun r w t H locs ht hvm hw hB hz1 hk1 hS => ?_)
    obtain ⟨rfl, rfl⟩ := hw
    obtain ⟨hP1, hK1, hD1⟩ := hB
    rw [ht] at hP1
    have hP : va_P D vwCl [(h, .inr (1, [.int (nI 1), .int (nI (mSc u)), .ref (a 0), .int (nI (mNc u)), .ref (a 1), .ref (a 2), .ref (a 3), .int (nI (mBc u)), .ref (a 4), .ref (a 5), .int (nI (mRoom u)), .int (nI (mRate u)), .int (nI (mSip u)), .int (mAft u), .int (nI (mNow u)), .int (nI (mTea u)), .int (mSpl u)])), (a 0, .inl (cI, 4, .inl (mHt u))), (a 1, .inl (cI, 8, .inl (mFr u))), (a 2, .inl (cI, 8, .inl (mTo u))), (a 3, .inl (cI, 360, .inl (mCov u))), (a 4, .inl (cI, 6, .inl (mPe u))), (a 5, .inl (cI, 6, .inl (mBe u)))] H := hP1
    have hD : va_D A [(h, .inr (1, [.int (nI 1), .int (nI (mSc u)), .ref (a 0), .int (nI (mNc u)), .ref (a 1), .ref (a 2), .ref (a 3), .int (nI (mBc u)), .ref (a 4), .ref (a 5), .int (nI (mRoom u)), .int (nI (mRate u)), .int (nI (mSip u)), .int (mAft u), .int (nI (mNow u)), .int (nI (mTea u)), .int (mSpl u)])), (a 0, .inl (cI, 4, .inl (mHt u))), (a 1, .inl (cI, 8, .inl (mFr u))), (a 2, .inl (cI, 8, .inl (mTo u))), (a 3, .inl (cI, 360, .inl (mCov u))), (a 4, .inl (cI, 6, .inl (mPe u))), (a 5, .inl (cI, 6, .inl (mBe u)))] := hD1.weaken (fun k q _ h => hFc q.1 h)
    have hq : (((mSc u, mNc u, mBc u, mNow u, mRoom u, mRate u, mSip u, mTea u, mSpl u, mAft u, mHt u, mFr u, mTo u, mCov u, mPe u, mBe u), (nI 1)) : MS × Int32) = ((u, kdShad u v0 v1) : MS × Int32) ∧ (kdShad u v0 v1 = nI 0 → nI 0 = fShad u (tn v0) (tn v1)) := by exact ⟨congrArg (fun z => (u, z)) (kd_f c_10).symm, kd_n1 (kd_f c_10)⟩
    exact W.iret hx hb hr (fun t ht hW => ⟨⟨_, (((mSc u, mNc u, mBc u, mNow u, mRoom u, mRate u, mSip u, mTea u, mSpl u, mAft u, mHt u, mFr u, mTo u, mCov u, mPe u, mBe u), (nI 1)) : MS × Int32), rfl, hq, by rw [ht]; exact hP, va_K.moved hW.alike hK, hD⟩, hS.F ht⟩) hS.2.2 dX1_shadowAt_18
set_option maxHeartbeats 4000000 in
set_option maxRecDepth 100000 in
theorem c_X1_meanLastShadow (l : Launch) (D : va_G) (cI : ClassId) (h : Nat) (a : Nat → Nat) (u : MS) (th : Int32) (sz : Nat) (hI : Inv u) : Met l yX1_meanLastShadow wsX1_meanLastShadow ({ frames := 1, cells := 0, slots := 0, locals := 22 } : Room) (va_Pc [.ref h] (fun U => U.heap.size = sz ∧ va_P D vwCl (pic1 cI h a u th) U.heap ∧ va_K D vwCl [(cI, .int)] U ∧ va_D (fun _ => True) (pic1 cI h a u th))) ((fun A : Nat → Prop => va_Qd (fun (r : UInt64) (w : MS × Int32) => r = fMean u ∧ w = ((mSc u, mNc u, mBc u, mNow u, mRoom u, mRate u, mSip u, mTea u, mSpl u, mAft u, mHt u, mFr u, mTo u, mCov u, mPe u, mBe u), nI 0)) (fun (w : MS × Int32) (t : State) => va_P D vwCl (pic1 cI h a w.1 w.2) t.heap ∧ va_K D vwCl [(cI, .int)] t ∧ va_D A (pic1 cI h a w.1 w.2)) A) (va_A (pic1 cI h a u th) sz)) 0 0 (va_A (pic1 cI h a u th) sz) := by
  refine en_wr (cc := cX1_meanLastShadow) (maxL := 3) (ret := (some .double)) _ _ (fun A : Nat → Prop => va_Qd (fun (r : UInt64) (w : MS × Int32) => r = fMean u ∧ w = ((mSc u, mNc u, mBc u, mNow u, mRoom u, mRate u, mSip u, mTea u, mSpl u, mAft u, mHt u, mFr u, mTo u, mCov u, mPe u, mBe u), nI 0)) (fun (w : MS × Int32) (t : State) => va_P D vwCl (pic1 cI h a w.1 w.2) t.heap ∧ va_K D vwCl [(cI, .int)] t ∧ va_D A (pic1 cI h a w.1 w.2)) A) (by decide) rfl (Nat.le_of_ble_eq_true rfl) ?_
  intro p e s m args below meth c ls A H locs hx hb hml hr hlocks hts hown hP hK hD hA hS hl
  have hown : s.vm.findClass RX1 = some m.cls := hown
  have hin : ∀ w ∈ wsX10, w ∈ wsX1_meanLastShadow := fun _ h9 => List.mem_cons_of_mem _ (List.mem_append_right _ h9)
  have hl : lv_has ls 3 [(0, .ref h)] := hl
  obtain ⟨hIa, hIb, hIc, hId, hIe, hIf, hIg, hIh, hIi, hIj⟩ := id hI
  refine lv_aload_n hx hb dX1_meanLastShadow_0 rfl (lv_at hl 0 rfl) ?_
  refine lv_iconst (v := nI 0) hx hb dX1_meanLastShadow_1 (by decide +kernel) ?_
  refine va_put (D := D) (ci := 1) (v := .int (nI 0)) (ty := .int) (C := RX1) (T := TX1) (N := 17) hx hb hts hin tyX1 tyX1_ok nmX1 hown hK hP hD hS 0 rfl rfl 0 (by decide) (hts (.fieldLink RX1 38 "AfternoonMeterModel" "thrown" "I") (List.mem_of_getElem? (i := 1) rfl)) (fun _ h9 => h9) rfl (by decide +kernel) rfl rfl (Nat.le_of_ble_eq_true rfl) dX1_meanLastShadow_2 (fun H locs hP hD hS => ?_)
  have hP : va_P D vwCl [(h, .inr (1, [.int (nI 0), .int (nI (mSc u)), .ref (a 0), .int (nI (mNc u)), .ref (a 1), .ref (a 2), .ref (a 3), .int (nI (mBc u)), .ref (a 4), .ref (a 5), .int (nI (mRoom u)), .int (nI (mRate u)), .int (nI (mSip u)), .int (mAft u), .int (nI (mNow u)), .int (nI (mTea u)), .int (mSpl u)])), (a 0, .inl (cI, 4, .inl (mHt u))), (a 1, .inl (cI, 8, .inl (mFr u))), (a 2, .inl (cI, 8, .inl (mTo u))), (a 3, .inl (cI, 360, .inl (mCov u))), (a 4, .inl (cI, 6, .inl (mPe u))), (a 5, .inl (cI, 6, .inl (mBe u)))] H := hP
  have hD : va_D A [(h, .inr (1, [.int (nI 0), .int (nI (mSc u)), .ref (a 0), .int (nI (mNc u)), .ref (a 1), .ref (a 2), .ref (a 3), .int (nI (mBc u)), .ref (a 4), .ref (a 5), .int (nI (mRoom u)), .int (nI (mRate u)), .int (nI (mSip u)), .int (mAft u), .int (nI (mNow u)), .int (nI (mTea u)), .int (mSpl u)])), (a 0, .inl (cI, 4, .inl (mHt u))), (a 1, .inl (cI, 8, .inl (mFr u))), (a 2, .inl (cI, 8, .inl (mTo u))), (a 3, .inl (cI, 360, .inl (mCov u))), (a 4, .inl (cI, 6, .inl (mPe u))), (a 5, .inl (cI, 6, .inl (mBe u)))] := hD
  refine lv_iconst (v := nI 0) hx hb dX1_meanLastShadow_5 (by decide +kernel) ?_
  refine lv_istore_n (lv' := [(1, .int (nI 0)), (0, .ref h)]) hx hb dX1_meanLastShadow_6 rfl hl (by decide) rfl (fun ls hl => ?_)
  refine lv_iconst (v := nI 0) hx hb dX1_meanLastShadow_7 (by decide +kernel) ?_
  refine lv_istore_n (lv' := [(2, .int (nI 0)), (1, .int (nI 0)), (0, .ref h)]) hx hb dX1_meanLastShadow_8 rfl hl (by decide) rfl (fun ls hl => ?_)
  have lp9 : ∀ (n k : Nat), k + n = mSc u → ∀ (X : Int32), X = fz (shF u 359) k (nI 0) → ∀ (ls : Array Slot), lv_has ls 3 [(0, .ref h), (1, .int X), (2, .int (nI k))] → W p l e ({ frames := 1, cells := 0, slots := 0, locals := 22 } : Room) s m args below meth c H locs 0 0 (MQ below ((fun A : Nat → Prop => va_Qd (fun (r : UInt64) (w : MS × Int32) => r = fMean u ∧ w = ((mSc u, mNc u, mBc u, mNow u, mRoom u, mRate u, mSip u, mTea u, mSpl u, mAft u, mHt u, mFr u, mTo u, mCov u, mPe u, mBe u), nI 0)) (fun (w : MS × Int32) (t : State) => va_P D vwCl (pic1 cI h a w.1 w.2) t.heap ∧ va_K D vwCl [(cI, .int)] t ∧ va_D A (pic1 cI h a w.1 w.2)) A) A) args s 0 0 A) (F0 m 9 ls []) := by
    intro n
    induction n with
    | zero =>
      intro k hk X eX ls hl
      have ek : k = mSc u := by omega
      have ex9 : X = fSum u 359 := by rw [eX, ek]; rfl
      subst ex9
      refine lv_iload_n hx hb dX1_meanLastShadow_9 rfl (lv_at hl 2 rfl) ?_
      refine lv_aload_n hx hb dX1_meanLastShadow_10 rfl (lv_at hl 0 rfl) ?_
      refine va_get (D := D) (ci := 1) (v := .int (nI (mSc u))) (C := RX1) (T := TX1) (N := 17) hx hb hts hin hown hK hP 0 rfl rfl 1 (by decide) (hts (.fieldLink RX1 41 "AfternoonMeterModel" "sticks" "I") (List.mem_of_getElem? (i := 2) rfl)) (fun _ h9 => h9) rfl dX1_meanLastShadow_11 ?_
      refine lv_icmp_ge (tgt := 34) hx hb dX1_meanLastShadow_14 (by decide) (fun c_14 => ?_) (fun c_14 => ?_)
      · skip
        replace c_14 : (mSc u) ≤ k := leN c_14
        refine lv_aload_n hx hb dX1_meanLastShadow_34 rfl (lv_at hl 0 rfl) ?_
        refine va_get (D := D) (ci := 1) (v := .int (nI (mSc u))) (C := RX1) (T := TX1) (N := 17) hx hb hts hin hown hK hP 0 rfl rfl 1 (by decide) (hts (.fieldLink RX1 41 "AfternoonMeterModel" "sticks" "I") (List.mem_of_getElem? (i := 2) rfl)) (fun _ h9 => h9) rfl dX1_meanLastShadow_35 ?_
        refine lv_if_ne (tgt := 45) hx hb dX1_meanLastShadow_38 (by decide) (fun c_38 => ?_) (fun c_38 => ?_)
        · skip
          replace c_38 : (mSc u) ≠ 0 := neN c_38
          refine lv_iload_n hx hb dX1_meanLastShadow_45 rfl (lv_at hl 1 rfl) ?_
          refine lv_i2d hx hb dX1_meanLastShadow_46 ?_
          refine lv_aload_n hx hb dX1_meanLastShadow_47 rfl (lv_at hl 0 rfl) ?_
          refine va_get (D := D) (ci := 1) (v := .int (nI (mSc u))) (C := RX1) (T := TX1) (N := 17) hx hb hts hin hown hK hP 0 rfl rfl 1 (by decide) (hts (.fieldLink RX1 41 "AfternoonMeterModel" "sticks" "I") (List.mem_of_getElem? (i := 2) rfl)) (fun _ h9 => h9) rfl dX1_meanLastShadow_48 ?_
          refine lv_i2d hx hb dX1_meanLastShadow_51 ?_
          refine lv_ddiv hx hb dX1_meanLastShadow_52 (mean_ok hI c_38) ?_
          have hq : FP.ddiv (FP.i2d (fSum u 359)) (FP.i2d (nI (mSc u))) = fMean u ∧ (((mSc u, mNc u, mBc u, mNow u, mRoom u, mRate u, mSip u, mTea u, mSpl u, mAft u, mHt u, mFr u, mTo u, mCov u, mPe u, mBe u), nI 0) : MS × Int32) = ((mSc u, mNc u, mBc u, mNow u, mRoom u, mRate u, mSip u, mTea u, mSpl u, mAft u, mHt u, mFr u, mTo u, mCov u, mPe u, mBe u), nI 0) := by exact ⟨by rw [fMean, if_neg c_38], rfl⟩
          exact W.dret hx hb hr (fun t ht hW => ⟨⟨_, (((mSc u, mNc u, mBc u, mNow u, mRoom u, mRate u, mSip u, mTea u, mSpl u, mAft u, mHt u, mFr u, mTo u, mCov u, mPe u, mBe u), nI 0) : MS × Int32), rfl, hq, by rw [ht]; exact hP, va_K.moved hW.alike hK, hD⟩, hS.F ht⟩) hS.2.2 dX1_meanLastShadow_53
        · skip
          replace c_38 : (mSc u) = 0 := eN c_38
          refine lv_dconst0 hx hb dX1_meanLastShadow_41 ?_
          refine lv_goto (tgt := 53) hx hb dX1_meanLastShadow_42 (by decide) ?_
          have hq : FP.dconst0 = fMean u ∧ (((mSc u, mNc u, mBc u, mNow u, mRoom u, mRate u, mSip u, mTea u, mSpl u, mAft u, mHt u, mFr u, mTo u, mCov u, mPe u, mBe u), nI 0) : MS × Int32) = ((mSc u, mNc u, mBc u, mNow u, mRoom u, mRate u, mSip u, mTea u, mSpl u, mAft u, mHt u, mFr u, mTo u, mCov u, mPe u, mBe u), nI 0) := by exact ⟨by rw [fMean, if_pos c_38], rfl⟩
          exact W.dret hx hb hr (fun t ht hW => ⟨⟨_, (((mSc u, mNc u, mBc u, mNow u, mRoom u, mRate u, mSip u, mTea u, mSpl u, mAft u, mHt u, mFr u, mTo u, mCov u, mPe u, mBe u), nI 0) : MS × Int32), rfl, hq, by rw [ht]; exact hP, va_K.moved hW.alike hK, hD⟩, hS.F ht⟩) hS.2.2 dX1_meanLastShadow_53
      · skip
        replace c_14 : k < (mSc u) := nleN c_14
        exact (by omega : False).elim
    | succ n ih =>
      intro k hk X eX ls hl
      refine lv_iload_n hx hb dX1_meanLastShadow_9 rfl (lv_at hl 2 rfl) ?_
      refine lv_aload_n hx hb dX1_meanLastShadow_10 rfl (lv_at hl 0 rfl) ?_
      refine va_get (D := D) (ci := 1) (v := .int (nI (mSc u))) (C := RX1) (T := TX1) (N := 17) hx hb hts hin hown hK hP 0 rfl rfl 1 (by decide) (hts (.fieldLink RX1 41 "AfternoonMeterModel" "sticks" "I") (List.mem_of_getElem? (i := 2) rfl)) (fun _ h9 => h9) rfl dX1_meanLastShadow_11 ?_
      refine lv_icmp_ge (tgt := 34) hx hb dX1_meanLastShadow_14 (by decide) (fun c_14 => ?_) (fun c_14 => ?_)
      · skip
        replace c_14 : (mSc u) ≤ k := leN c_14
        exact (by omega : False).elim
      · skip
        replace c_14 : k < (mSc u) := nleN c_14
        refine lv_iload_n hx hb dX1_meanLastShadow_17 rfl (lv_at hl 1 rfl) ?_
        refine lv_aload_n hx hb dX1_meanLastShadow_18 rfl (lv_at hl 0 rfl) ?_
        refine lv_iload_n hx hb dX1_meanLastShadow_19 rfl (lv_at hl 2 rfl) ?_
        refine lv_sipush (v := nI 359) hx hb dX1_meanLastShadow_20 (by decide +kernel) ?_
        refine vp_callSi (W.runV (As := [.int (nI k), .int (nI 359)]) (rest := [.int X]) ⟨hx, hb, hml, hown, hts⟩ (c_X1_shadow l D cI h a u (nI 0) k 359 (by omega)) (cwV 2 hts gX1_meanLastShadow_X1_shadow rfl rfl rfl (by decide +kernel) ⟨Nat.le_of_ble_eq_true rfl, Nat.le_of_ble_eq_true rfl⟩) (pu_pre hK hP rfl rfl) rfl rfl hl.1 rfl (lv_room (Nat.le_of_ble_eq_true rfl)) dX1_meanLastShadow_23 ⟨Nat.le_of_ble_eq_true rfl, Nat.le_of_ble_eq_true rfl⟩) (fun r hr => ?_)
        subst hr
        refine lv_iadd hx hb dX1_meanLastShadow_26 ?_
        refine lv_istore_n (lv' := [(1, .int (X + (fShad u k 359))), (0, .ref h), (2, .int (nI k))]) hx hb dX1_meanLastShadow_27 rfl hl (by decide) rfl (fun ls hl => ?_)
        refine lv_iinc (v := nI (k + 1)) (lv' := [(2, .int (nI (k + 1))), (1, .int (X + (fShad u k 359))), (0, .ref h)]) hx hb dX1_meanLastShadow_28 hl (k := 2) rfl (nI_i1 _) (by decide) rfl (fun ls hl => ?_)
        refine lv_goto (tgt := 9) hx hb dX1_meanLastShadow_31 (by decide) ?_
        exact ih (k + 1) (by omega) (X + (fShad u k 359)) (by subst eX; rfl) _ (lv_sub hl [2, 1, 0] rfl)
  exact lp9 _ 0 (Nat.zero_add _) (nI 0) (by rfl) _ (lv_sub hl [2, 1, 0] rfl)
