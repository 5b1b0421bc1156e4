set_option maxHeartbeats 4000000 in
set_option maxRecDepth 100000 in
theorem c_X0_changeCover (l : Launch) (D : va_G) (cI : ClassId) (h : Nat) (a : Nat → Nat) (u : MS) (on : Nat → Int32) (sz : Nat) (np : Nat) (by0 : Int32) (x0 : Nat) (y0 : Nat) (h8 : np < 8) (hf1 : mFr u np = nI x0) (hf2 : mTo u np = nI y0) (hf3 : x0 ≤ 360) (hf4 : y0 ≤ 360) : Met l yX0_changeCover wsX0_changeCover ({ frames := 1, cells := 0, slots := 0, locals := 22 } : Room) (va_Pc [.ref h, .int (nI np), .int by0] (fun U => U.heap.size = sz ∧ va_P D vwCl (pic0 cI h a u on) U.heap ∧ va_K D vwCl [(cI, .int)] U ∧ va_D (fun _ => True) (pic0 cI h a u on))) ((fun A : Nat → Prop => va_Qv (fun w : MS × (Nat → Int32) => w = ((mSc u, mNc u, mBc u, mNow u, mRoom u, mRate u, mSip u, mTea u, mSpl u, mAft u, mHt u, mFr u, mTo u, ccv (mCov u) x0 y0 by0 360, mPe u, mBe u), on)) (fun (w : MS × (Nat → Int32)) (t : State) => va_P D vwCl (pic0 cI h a w.1 w.2) t.heap ∧ va_K D vwCl [(cI, .int)] t ∧ va_D A (pic0 cI h a w.1 w.2)) A) (va_A (pic0 cI h a u on) sz)) 0 0 (va_A (pic0 cI h a u on) sz) := by
  refine en_wr (cc := cX0_changeCover) (maxL := 4) (ret := none) _ _ (fun A : Nat → Prop => va_Qv (fun w : MS × (Nat → Int32) => w = ((mSc u, mNc u, mBc u, mNow u, mRoom u, mRate u, mSip u, mTea u, mSpl u, mAft u, mHt u, mFr u, mTo u, ccv (mCov u) x0 y0 by0 360, mPe u, mBe u), on)) (fun (w : MS × (Nat → Int32)) (t : State) => va_P D vwCl (pic0 cI h a w.1 w.2) t.heap ∧ va_K D vwCl [(cI, .int)] t ∧ va_D A (pic0 cI h a w.1 w.2)) A) (by decide) rfl (Nat.le_of_ble_eq_true rfl) ?_
  intro p e s m args below meth c ls A H locs hx hb hml hr hlocks hts hown hP hK hD hA hS hl
  have hown : s.vm.findClass RX0 = some m.cls := hown
  have hin : ∀ w ∈ wsX00, w ∈ wsX0_changeCover := fun _ h9 => List.mem_cons_of_mem _ (List.mem_append_right _ h9)
  have hl : lv_has ls 4 [(0, .ref h), (1, .int (nI np)), (2, .int by0)] := hl
  refine lv_iconst (v := nI 0) hx hb dX0_changeCover_0 (by decide +kernel) ?_
  refine lv_istore_n (lv' := [(3, .int (nI 0)), (0, .ref h), (1, .int (nI np)), (2, .int by0)]) hx hb dX0_changeCover_1 rfl hl (by decide) rfl (fun ls hl => ?_)
  have lp2 : ∀ (n k : Nat), k + n = 360 → ∀ (Z : Nat → Int32), Z = ccv (mCov u) x0 y0 by0 k → ∀ (H : Heap) (locs : List Loc), va_P D vwCl [(h, .inr (0, [.ref (a 0), .int (nI (mSc u)), .ref (a 1), .ref (a 2), .int (nI (mNc u)), .ref (a 3), .ref (a 4), .ref (a 5), .int (nI (mBc u)), .ref (a 6), .int (nI (mRoom u)), .int (nI (mRate u)), .int (nI (mSip u)), .int (nI (mTea u)), .int (mSpl u), .int (nI (mNow u)), .int (mAft u)])), (a 0, .inl (cI, 4, .inl (mHt u))), (a 1, .inl (cI, 8, .inl (mFr u))), (a 2, .inl (cI, 8, .inl (mTo u))), (a 3, .inl (cI, 360, .inl Z)), (a 4, .inl (cI, 6, .inl (mPe u))), (a 5, .inl (cI, 6, .inl (mBe u))), (a 6, .inl (cI, 360, .inl on))] H → va_D A [(h, .inr (0, [.ref (a 0), .int (nI (mSc u)), .ref (a 1), .ref (a 2), .int (nI (mNc u)), .ref (a 3), .ref (a 4), .ref (a 5), .int (nI (mBc u)), .ref (a 6), .int (nI (mRoom u)), .int (nI (mRate u)), .int (nI (mSip u)), .int (nI (mTea u)), .int (mSpl u), .int (nI (mNow u)), .int (mAft u)])), (a 0, .inl (cI, 4, .inl (mHt u))), (a 1, .inl (cI, 8, .inl (mFr u))), (a 2, .inl (cI, 8, .inl (mTo u))), (a 3, .inl (cI, 360, .inl Z)), (a 4, .inl (cI, 6, .inl (mPe u))), (a 5, .inl (cI, 6, .inl (mBe u))), (a 6, .inl (cI, 360, .inl on))] → va_S A s.heap H locs → ∀ (ls : Array Slot), lv_has ls 4 [(0, .ref h), (1, .int (nI np)), (2, .int by0), (3, .int (nI k))] → W p l e ({ frames := 1, cells := 0, slots := 0, locals := 22 } : Room) s m args below meth c H locs 0 0 (MQ below ((fun A : Nat → Prop => va_Qv (fun w : MS × (Nat → Int32) => w = ((mSc u, mNc u, mBc u, mNow u, mRoom u, mRate u, mSip u, mTea u, mSpl u, mAft u, mHt u, mFr u, mTo u, ccv (mCov u) x0 y0 by0 360, mPe u, mBe u), on)) (fun (w : MS × (Nat → Int32)) (t : State) => va_P D vwCl (pic0 cI h a w.1 w.2) t.heap ∧ va_K D vwCl [(cI, .int)] t ∧ va_D A (pic0 cI h a w.1 w.2)) A) A) args s 0 0 A) (F0 m 2 ls []) := by
    intro n
    induction n with
    | zero =>
      intro k hk Z eZ H locs hP hD hS ls hl
      have ek : k = 360 := by omega
      refine lv_iload_n hx hb dX0_changeCover_2 rfl (lv_at hl 3 rfl) ?_
      refine lv_sipush (v := nI 360) hx hb dX0_changeCover_3 (by decide +kernel) ?_
      refine lv_icmp_ge (tgt := 34) hx hb dX0_changeCover_6 (by decide) (fun c_6 => ?_) (fun c_6 => ?_)
      · skip
        replace c_6 : 360 ≤ k := leN c_6
        have hq : (((mSc u, mNc u, mBc u, mNow u, mRoom u, mRate u, mSip u, mTea u, mSpl u, mAft u, mHt u, mFr u, mTo u, Z, mPe u, mBe u), on) : MS × (Nat → Int32)) = ((mSc u, mNc u, mBc u, mNow u, mRoom u, mRate u, mSip u, mTea u, mSpl u, mAft u, mHt u, mFr u, mTo u, ccv (mCov u) x0 y0 by0 360, mPe u, mBe u), on) := by rw [eZ, ek]
        exact W.vret hx hb hr (fun t ht hW => ⟨⟨(((mSc u, mNc u, mBc u, mNow u, mRoom u, mRate u, mSip u, mTea u, mSpl u, mAft u, mHt u, mFr u, mTo u, Z, mPe u, mBe u), on) : MS × (Nat → Int32)), rfl, hq, by rw [ht]; exact hP, va_K.moved hW.alike hK, hD⟩, hS.F ht⟩) hS.2.2 dX0_changeCover_34
      · skip
        replace c_6 : k < 360 := nleN c_6
        exact (by omega : False).elim
    | succ n ih =>
      intro k hk Z eZ H locs hP hD hS ls hl
      refine lv_iload_n hx hb dX0_changeCover_2 rfl (lv_at hl 3 rfl) ?_
      refine lv_sipush (v := nI 360) hx hb dX0_changeCover_3 (by decide +kernel) ?_
      refine lv_icmp_ge (tgt := 34) hx hb dX0_changeCover_6 (by decide) (fun c_6 => ?_) (fun c_6 => ?_)
      · skip
        replace c_6 : 360 ≤ k := leN c_6
        exact (by omega : False).elim
      · skip
        replace c_6 : k < 360 := nleN c_6
        refine lv_aload_n hx hb dX0_changeCover_9 rfl (lv_at hl 0 rfl) ?_
        refine lv_iload_n hx hb dX0_changeCover_10 rfl (lv_at hl 1 rfl) ?_
        refine lv_iload_n hx hb dX0_changeCover_11 rfl (lv_at hl 3 rfl) ?_
        refine vp_callSi (W.runV (As := [.int (nI np), .int (nI k)]) (rest := []) ⟨hx, hb, hml, hown, hts⟩ (c_X0_covers l D cI h a (mSc u, mNc u, mBc u, mNow u, mRoom u, mRate u, mSip u, mTea u, mSpl u, mAft u, mHt u, mFr u, mTo u, Z, mPe u, mBe u) on np k x0 y0 (by omega) hf1 hf2 (by omega) (by omega) (by omega)) (cwV 2 hts gX0_changeCover_X0_covers rfl rfl rfl (by decide +kernel) ⟨Nat.le_of_ble_eq_true rfl, Nat.le_of_ble_eq_true rfl⟩) (pu_pre hK hP rfl rfl) rfl rfl hl.1 rfl (lv_room (Nat.le_of_ble_eq_true rfl)) dX0_changeCover_12 ⟨Nat.le_of_ble_eq_true rfl, Nat.le_of_ble_eq_true rfl⟩) (fun r hr => ?_)
        subst hr
        refine lv_if_eq (tgt := 28) hx hb dX0_changeCover_15 (by decide) (fun c_15 => ?_) (fun c_15 => ?_)
        · skip
          replace c_15 : (cv2 x0 y0 k) = false := bI_eq0 c_15
          refine lv_iinc (v := nI (k + 1)) (lv' := [(3, .int (nI (k + 1))), (0, .ref h), (1, .int (nI np)), (2, .int by0)]) hx hb dX0_changeCover_28 hl (k := 3) rfl (nI_i1 _) (by decide) rfl (fun ls hl => ?_)
          refine lv_goto (tgt := 2) hx hb dX0_changeCover_31 (by decide) ?_
          exact ih (k + 1) (by omega) Z (by subst eZ; exact ccv_f c_15) H locs hP hD hS _ (lv_sub hl [1, 2, 3, 0] rfl)
        · skip
          replace c_15 : (cv2 x0 y0 k) = true := bI_ne0 c_15
          refine lv_aload_n hx hb dX0_changeCover_18 rfl (lv_at hl 0 rfl) ?_
          refine va_get (D := D) (ci := 0) (v := .ref (a 3)) (C := RX0) (T := TX0) (N := 17) hx hb hts hin hown hK hP 0 rfl rfl 5 (by decide) (hts (.fieldLink RX0 19 "AfternoonMeter" "napsOver" "[I") (List.mem_of_getElem? (i := 1) rfl)) (fun _ h9 => h9) rfl dX0_changeCover_19 ?_
          refine lv_iload_n hx hb dX0_changeCover_22 rfl (lv_at hl 3 rfl) ?_
          refine lv_dup2_11 hx hb dX0_changeCover_23 rfl rfl ?_
          refine q_iald (v := Z k) hx hb hK hP 4 0 rfl rfl (by omega) (by decide) (rfl) dX0_changeCover_24 ?_
          refine lv_iload_n hx hb dX0_changeCover_25 rfl (lv_at hl 2 rfl) ?_
          refine lv_iadd hx hb dX0_changeCover_26 ?_
          refine q_iast hx hb hK hP hD hS 4 0 rfl rfl (by omega) (by decide) dX0_changeCover_27 (fun H locs hP hD hS => ?_)
          have hP : va_P D vwCl [(h, .inr (0, [.ref (a 0), .int (nI (mSc u)), .ref (a 1), .ref (a 2), .int (nI (mNc u)), .ref (a 3), .ref (a 4), .ref (a 5), .int (nI (mBc u)), .ref (a 6), .int (nI (mRoom u)), .int (nI (mRate u)), .int (nI (mSip u)), .int (nI (mTea u)), .int (mSpl u), .int (nI (mNow u)), .int (mAft u)])), (a 0, .inl (cI, 4, .inl (mHt u))), (a 1, .inl (cI, 8, .inl (mFr u))), (a 2, .inl (cI, 8, .inl (mTo u))), (a 3, .inl (cI, 360, .inl (upd Z k ((Z k) + by0)))), (a 4, .inl (cI, 6, .inl (mPe u))), (a 5, .inl (cI, 6, .inl (mBe u))), (a 6, .inl (cI, 360, .inl on))] H := hP
          have hD : va_D A [(h, .inr (0, [.ref (a 0), .int (nI (mSc u)), .ref (a 1), .ref (a 2), .int (nI (mNc u)), .ref (a 3), .ref (a 4), .ref (a 5), .int (nI (mBc u)), .ref (a 6), .int (nI (mRoom u)), .int (nI (mRate u)), .int (nI (mSip u)), .int (nI (mTea u)), .int (mSpl u), .int (nI (mNow u)), .int (mAft u)])), (a 0, .inl (cI, 4, .inl (mHt u))), (a 1, .inl (cI, 8, .inl (mFr u))), (a 2, .inl (cI, 8, .inl (mTo u))), (a 3, .inl (cI, 360, .inl (upd Z k ((Z k) + by0)))), (a 4, .inl (cI, 6, .inl (mPe u))), (a 5, .inl (cI, 6, .inl (mBe u))), (a 6, .inl (cI, 360, .inl on))] := hD
          refine lv_iinc (v := nI (k + 1)) (lv' := [(3, .int (nI (k + 1))), (0, .ref h), (1, .int (nI np)), (2, .int by0)]) hx hb dX0_changeCover_28 hl (k := 3) rfl (nI_i1 _) (by decide) rfl (fun ls hl => ?_)
          refine lv_goto (tgt := 2) hx hb dX0_changeCover_31 (by decide) ?_
          exact ih (k + 1) (by omega) (upd Z k ((Z k) + by0)) (by subst eZ; exact ccv_t c_15) H locs hP hD hS _ (lv_sub hl [1, 2, 3, 0] rfl)
  exact lp2 _ 0 (Nat.zero_add _) (mCov u) (by exact ccv_0) _ _ hP hD hS _ (lv_sub hl [1, 2, 3, 0] rfl)
set_option maxHeartbeats 4000000 in
set_option maxRecDepth 100000 in
theorem c_X0_pourInto (l : Launch) (D : va_G) (cI : ClassId) (h : Nat) (a : Nat → Nat) (u : MS) (on : Nat → Int32) (sz : Nat) (cc0 : Nat) (hrm : mRoom u ≤ 1000) (hc9 : cc0 ≤ 1000) : Met l yX0_pourInto wsX0_pourInto ({ frames := 2, cells := 0, slots := 0, locals := 34 } : Room) (va_Pc [.ref h, .int (nI cc0)] (fun U => U.heap.size = sz ∧ va_P D vwCl (pic0 cI h a u on) U.heap ∧ va_K D vwCl [(cI, .int)] U ∧ va_D (fun _ => True) (pic0 cI h a u on))) ((fun A : Nat → Prop => va_Qi (fun (r : Int32) (w : MS × (Nat → Int32)) => r = nI (cc0 - mRoom u) ∧ w = ((mSc u, mNc u, mBc u, mNow u, mRoom u, mRate u, mSip u, cc0 - (cc0 - (mRoom u)), (mSpl u) + nI (cc0 - (mRoom u)), mAft u, mHt u, mFr u, mTo u, mCov u, mPe u, mBe u), on)) (fun (w : MS × (Nat → Int32)) (t : State) => va_P D vwCl (pic0 cI h a w.1 w.2) t.heap ∧ va_K D vwCl [(cI, .int)] t ∧ va_D A (pic0 cI h a w.1 w.2)) A) (va_A (pic0 cI h a u on) sz)) 0 0 (va_A (pic0 cI h a u on) sz) := by
  refine en_wr (cc := cX0_pourInto) (maxL := 3) (ret := (some .int)) _ _ (fun A : Nat → Prop => va_Qi (fun (r : Int32) (w : MS × (Nat → Int32)) => r = nI (cc0 - mRoom u) ∧ w = ((mSc u, mNc u, mBc u, mNow u, mRoom u, mRate u, mSip u, cc0 - (cc0 - (mRoom u)), (mSpl u) + nI (cc0 - (mRoom u)), mAft u, mHt u, mFr u, mTo u, mCov u, mPe u, mBe u), on)) (fun (w : MS × (Nat → Int32)) (t : State) => va_P D vwCl (pic0 cI h a w.1 w.2) t.heap ∧ va_K D vwCl [(cI, .int)] t ∧ va_D A (pic0 cI h a w.1 w.2)) A) (by decide) rfl (Nat.le_of_ble_eq_true rfl) ?_
  intro p e s m args below meth c ls A H locs hx hb hml hr hlocks hts hown hP hK hD hA hS hl
  have hown : s.vm.findClass RX0 = some m.cls := hown
  have hin : ∀ w ∈ wsX00, w ∈ wsX0_pourInto := fun _ h9 => List.mem_cons_of_mem _ (List.mem_append_right _ h9)
  have hl : lv_has ls 3 [(0, .ref h), (1, .int (nI cc0))] := hl
  refine lv_aload_n hx hb dX0_pourInto_0 rfl (lv_at hl 0 rfl) ?_
  refine lv_iload_n hx hb dX0_pourInto_1 rfl (lv_at hl 1 rfl) ?_
  refine vp_callSi (W.runV (As := [.int (nI cc0)]) (rest := []) ⟨hx, hb, hml, hown, hts⟩ (c_X0_excess l D cI h a u on cc0 (by omega) (by omega)) (cwV 1 hts gX0_pourInto_X0_excess rfl rfl rfl (by decide +kernel) ⟨Nat.le_of_ble_eq_true rfl, Nat.le_of_ble_eq_true rfl⟩) (pu_pre hK hP rfl rfl) rfl rfl hl.1 rfl (lv_room (Nat.le_of_ble_eq_true rfl)) dX0_pourInto_2 ⟨Nat.le_of_ble_eq_true rfl, Nat.le_of_ble_eq_true rfl⟩) (fun r hr => ?_)
  subst hr
  refine lv_istore_n (lv' := [(2, .int (nI (cc0 - mRoom u))), (0, .ref h), (1, .int (nI cc0))]) hx hb dX0_pourInto_5 rfl hl (by decide) rfl (fun ls hl => ?_)
  refine lv_aload_n hx hb dX0_pourInto_6 rfl (lv_at hl 1 rfl) ?_
  refine lv_iload_n hx hb dX0_pourInto_7 rfl (lv_at hl 2 rfl) ?_
  refine lv_iload_n hx hb dX0_pourInto_8 rfl (lv_at hl 0 rfl) ?_
  refine q_isubN hx hb (by omega) dX0_pourInto_9 ?_
  refine va_put (D := D) (ci := 0) (v := .int (nI (cc0 - (cc0 - mRoom u)))) (ty := .int) (C := RX0) (T := TX0) (N := 17) hx hb hts hin tyX0 tyX0_ok nmX0 hown hK hP hD hS 0 rfl rfl 13 (by decide) (hts (.fieldLink RX0 88 "AfternoonMeter" "inCup" "I") (List.mem_of_getElem? (i := 1) rfl)) (fun _ h9 => h9) rfl (by decide +kernel) rfl rfl (Nat.le_of_ble_eq_true rfl) dX0_pourInto_10 (fun H locs hP hD hS => ?_)
  have hP : va_P D vwCl [(h, .inr (0, [.ref (a 0), .int (nI (mSc u)), .ref (a 1), .ref (a 2), .int (nI (mNc u)), .ref (a 3), .ref (a 4), .ref (a 5), .int (nI (mBc u)), .ref (a 6), .int (nI (mRoom u)), .int (nI (mRate u)), .int (nI (mSip u)), .int (nI (cc0 - (cc0 - mRoom u))), .int (mSpl u), .int (nI (mNow u)), .int (mAft u)])), (a 0, .inl (cI, 4, .inl (mHt u))), (a 1, .inl (cI, 8, .inl (mFr u))), (a 2, .inl (cI, 8, .inl (mTo u))), (a 3, .inl (cI, 360, .inl (mCov u))), (a 4, .inl (cI, 6, .inl (mPe u))), (a 5, .inl (cI, 6, .inl (mBe u))), (a 6, .inl (cI, 360, .inl on))] H := hP
  have hD : va_D A [(h, .inr (0, [.ref (a 0), .int (nI (mSc u)), .ref (a 1), .ref (a 2), .int (nI (mNc u)), .ref (a 3), .ref (a 4), .ref (a 5), .int (nI (mBc u)), .ref (a 6), .int (nI (mRoom u)), .int (nI (mRate u)), .int (nI (mSip u)), .int (nI (cc0 - (cc0 - mRoom u))), .int (mSpl u), .int (nI (mNow u)), .int (mAft u)])), (a 0, .inl (cI, 4, .inl (mHt u))), (a 1, .inl (cI, 8, .inl (mFr u))), (a 2, .inl (cI, 8, .inl (mTo u))), (a 3, .inl (cI, 360, .inl (mCov u))), (a 4, .inl (cI, 6, .inl (mPe u))), (a 5, .inl (cI, 6, .inl (mBe u))), (a 6, .inl (cI, 360, .inl on))] := hD
  refine lv_aload_n hx hb dX0_pourInto_13 rfl (lv_at hl 1 rfl) ?_
  refine lv_dup hx hb dX0_pourInto_14 rfl ?_
  refine va_get (D := D) (ci := 0) (v := .int (mSpl u)) (C := RX0) (T := TX0) (N := 17) hx hb hts hin hown hK hP 0 rfl rfl 14 (by decide) (hts (.fieldLink RX0 106 "AfternoonMeter" "ranOver" "I") (List.mem_of_getElem? (i := 2) rfl)) (fun _ h9 => h9) rfl dX0_pourInto_15 ?_
  refine lv_iload_n hx hb dX0_pourInto_18 rfl (lv_at hl 0 rfl) ?_
  refine lv_iadd hx hb dX0_pourInto_19 ?_
  refine va_put (D := D) (ci := 0) (v := .int ((mSpl u) + (nI (cc0 - mRoom u)))) (ty := .int) (C := RX0) (T := TX0) (N := 17) hx hb hts hin tyX0 tyX0_ok nmX0 hown hK hP hD hS 0 rfl rfl 14 (by decide) (hts (.fieldLink RX0 106 "AfternoonMeter" "ranOver" "I") (List.mem_of_getElem? (i := 2) rfl)) (fun _ h9 => h9) rfl (by decide +kernel) rfl rfl (Nat.le_of_ble_eq_true rfl) dX0_pourInto_20 (fun H locs hP hD hS => ?_)
  have hP : va_P D vwCl [(h, .inr (0, [.ref (a 0), .int (nI (mSc u)), .ref (a 1), .ref (a 2), .int (nI (mNc u)), .ref (a 3), .ref (a 4), .ref (a 5), .int (nI (mBc u)), .ref (a 6), .int (nI (mRoom u)), .int (nI (mRate u)), .int (nI (mSip u)), .int (nI (cc0 - (cc0 - mRoom u))), .int ((mSpl u) + (nI (cc0 - mRoom u))), .int (nI (mNow u)), .int (mAft u)])), (a 0, .inl (cI, 4, .inl (mHt u))), (a 1, .inl (cI, 8, .inl (mFr u))), (a 2, .inl (cI, 8, .inl (mTo u))), (a 3, .inl (cI, 360, .inl (mCov u))), (a 4, .inl (cI, 6, .inl (mPe u))), (a 5, .inl (cI, 6, .inl (mBe u))), (a 6, .inl (cI, 360, .inl on))] H := hP
  have hD : va_D A [(h, .inr (0, [.ref (a 0), .int (nI (mSc u)), .ref (a 1), .ref (a 2), .int (nI (mNc u)), .ref (a 3), .ref (a 4), .ref (a 5), .int (nI (mBc u)), .ref (a 6), .int (nI (mRoom u)), .int (nI (mRate u)), .int (nI (mSip u)), .int (nI (cc0 - (cc0 - mRoom u))), .int ((mSpl u) + (nI (cc0 - mRoom u))), .int (nI (mNow u)), .int (mAft u)])), (a 0, .inl (cI, 4, .inl (mHt u))), (a 1, .inl (cI, 8, .inl (mFr u))), (a 2, .inl (cI, 8, .inl (mTo u))), (a 3, .inl (cI, 360, .inl (mCov u))), (a 4, .inl (cI, 6, .inl (mPe u))), (a 5, .inl (cI, 6, .inl (mBe u))), (a 6, .inl (cI, 360, .inl on))] := hD
  refine lv_iload_n hx hb dX0_pourInto_23 rfl (lv_at hl 0 rfl) ?_
  have hq : nI (cc0 - mRoom u) = nI (cc0 - mRoom u) ∧ (((mSc u, mNc u, mBc u, mNow u, mRoom u, mRate u, mSip u, cc0 - (cc0 - mRoom u), (mSpl u) + (nI (cc0 - mRoom u)), mAft u, mHt u, mFr u, mTo u, mCov u, mPe u, mBe u), on) : MS × (Nat → Int32)) = ((mSc u, mNc u, mBc u, mNow u, mRoom u, mRate u, mSip u, cc0 - (cc0 - (mRoom u)), (mSpl u) + nI (cc0 - (mRoom u)), mAft u, mHt u, mFr u, mTo u, mCov u, mPe u, mBe u), on) := by exact ⟨rfl, rfl⟩
  exact W.iret hx hb hr (fun t ht hW => ⟨⟨_, (((mSc u, mNc u, mBc u, mNow u, mRoom u, mRate u, mSip u, cc0 - (cc0 - mRoom u), (mSpl u) + (nI (cc0 - mRoom u)), mAft u, mHt u, mFr u, mTo u, mCov u, mPe u, mBe u), on) : MS × (Nat → Int32)), rfl, hq, by rw [ht]; exact hP, va_K.moved hW.alike hK, hD⟩, hS.F ht⟩) hS.2.2 dX0_pourInto_24
set_option maxHeartbeats 4000000 in
set_option maxRecDepth 100000 in
theorem c_X0_begin (l : Launch) (D : va_G) (cI : ClassId) (h : Nat) (a : Nat → Nat) (u : MS) (on : Nat → Int32) (sz : Nat) : Met l yX0_begin wsX0_begin ({ frames := 0, cells := 0, slots := 0, locals := 0 } : Room) (va_Pc [.ref h] (fun U => U.heap.size = sz ∧ va_P D vwCl (pic0 cI h a u on) U.heap ∧ va_K D vwCl [(cI, .int)] U ∧ va_D (fun _ => True) (pic0 cI h a u on))) ((fun A : Nat → Prop => va_Qi (fun (r : Int32) (w : MS × (Nat → Int32)) => r = mAft u + nI 1 ∧ w = ((mSc u, mNc u, mBc u, 0, mRoom u, mRate u, mSip u, 0, nI 0, mAft u + nI 1, mHt u, mFr u, mTo u, mCov u, mPe u, mBe u), on)) (fun (w : MS × (Nat → Int32)) (t : State) => va_P D vwCl (pic0 cI h a w.1 w.2) t.heap ∧ va_K D vwCl [(cI, .int)] t ∧ va_D A (pic0 cI h a w.1 w.2)) A) (va_A (pic0 cI h a u on) sz)) 0 0 (va_A (pic0 cI h a u on) sz) := by
  refine en_wr (cc := cX0_begin) (maxL := 1) (ret := (some .int)) _ _ (fun A : Nat → Prop => va_Qi (fun (r : Int32) (w : MS × (Nat → Int32)) => r = mAft u + nI 1 ∧ w = ((mSc u, mNc u, mBc u, 0, mRoom u, mRate u, mSip u, 0, nI 0, mAft u + nI 1, mHt u, mFr u, mTo u, mCov u, mPe u, mBe u), on)) (fun (w : MS × (Nat → Int32)) (t : State) => va_P D vwCl (pic0 cI h a w.1 w.2) t.heap ∧ va_K D vwCl [(cI, .int)] t ∧ va_D A (pic0 cI h a w.1 w.2)) A) (by decide) rfl (Nat.le_of_ble_eq_true rfl) ?_
  intro p e s m args below meth c ls A H locs hx hb hml hr hlocks hts hown hP hK hD hA hS hl
  have hown : s.vm.findClass RX0 = some m.cls := hown
  have hin : ∀ w ∈ wsX00, w ∈ wsX0_begin := fun _ h9 => List.mem_cons_of_mem _ (List.mem_append_right _ h9)
  have hl : lv_has ls 1 [(0, .ref h)] := hl
  refine lv_aload_n hx hb dX0_begin_0 rfl (lv_at hl 0 rfl) ?_
  refine lv_iconst (v := nI 0) hx hb dX0_begin_1 (by decide +kernel) ?_
  refine va_put (D := D) (ci := 0) (v := .int (nI 0)) (ty := .int) (C := RX0) (T := TX0) (N := 17) hx hb hts hin tyX0 tyX0_ok nmX0 hown hK hP hD hS 0 rfl rfl 15 (by decide) (hts (.fieldLink RX0 97 "AfternoonMeter" "now" "I") (List.mem_of_getElem? (i := 1) rfl)) (fun _ h9 => h9) rfl (by decide +kernel) rfl rfl (Nat.le_of_ble_eq_true rfl) dX0_begin_2 (fun H locs hP hD hS => ?_)
  have hP : va_P D vwCl [(h, .inr (0, [.ref (a 0), .int (nI (mSc u)), .ref (a 1), .ref (a 2), .int (nI (mNc u)), .ref (a 3), .ref (a 4), .ref (a 5), .int (nI (mBc u)), .ref (a 6), .int (nI (mRoom u)), .int (nI (mRate u)), .int (nI (mSip u)), .int (nI (mTea u)), .int (mSpl u), .int (nI 0), .int (mAft u)])), (a 0, .inl (cI, 4, .inl (mHt u))), (a 1, .inl (cI, 8, .inl (mFr u))), (a 2, .inl (cI, 8, .inl (mTo u))), (a 3, .inl (cI, 360, .inl (mCov u))), (a 4, .inl (cI, 6, .inl (mPe u))), (a 5, .inl (cI, 6, .inl (mBe u))), (a 6, .inl (cI, 360, .inl on))] H := hP
  have hD : va_D A [(h, .inr (0, [.ref (a 0), .int (nI (mSc u)), .ref (a 1), .ref (a 2), .int (nI (mNc u)), .ref (a 3), .ref (a 4), .ref (a 5), .int (nI (mBc u)), .ref (a 6), .int (nI (mRoom u)), .int (nI (mRate u)), .int (nI (mSip u)), .int (nI (mTea u)), .int (mSpl u), .int (nI 0), .int (mAft u)])), (a 0, .inl (cI, 4, .inl (mHt u))), (a 1, .inl (cI, 8, .inl (mFr u))), (a 2, .inl (cI, 8, .inl (mTo u))), (a 3, .inl (cI, 360, .inl (mCov u))), (a 4, .inl (cI, 6, .inl (mPe u))), (a 5, .inl (cI, 6, .inl (mBe u))), (a 6, .inl (cI, 360, .inl on))] := hD
  refine lv_aload_n hx hb dX0_begin_5 rfl (lv_at hl 0 rfl) ?_
  refine lv_iconst (v := nI 0) hx hb dX0_begin_6 (by decide +kernel) ?_
  refine va_put (D := D) (ci := 0) (v := .int (nI 0)) (ty := .int) (C := RX0) (T := TX0) (N := 17) hx hb hts hin tyX0 tyX0_ok nmX0 hown hK hP hD hS 0 rfl rfl 13 (by decide) (hts (.fieldLink RX0 88 "AfternoonMeter" "inCup" "I") (List.mem_of_getElem? (i := 2) rfl)) (fun _ h9 => h9) rfl (by decide +kernel) rfl rfl (Nat.le_of_ble_eq_true rfl) dX0_begin_7 (fun H locs hP hD hS => ?_)
  have hP : va_P D vwCl [(h, .inr (0, [.ref (a 0), .int (nI (mSc u)), .ref (a 1), .ref (a 2), .int (nI (mNc u)), .ref (a 3), .ref (a 4), .ref (a 5), .int (nI (mBc u)), .ref (a 6), .int (nI (mRoom u)), .int (nI (mRate u)), .int (nI (mSip u)), .int (nI 0), .int (mSpl u), .int (nI 0), .int (mAft u)])), (a 0, .inl (cI, 4, .inl (mHt u))), (a 1, .inl (cI, 8, .inl (mFr u))), (a 2, .inl (cI, 8, .inl (mTo u))), (a 3, .inl (cI, 360, .inl (mCov u))), (a 4, .inl (cI, 6, .inl (mPe u))), (a 5, .inl (cI, 6, .inl (mBe u))), (a 6, .inl (cI, 360, .inl on))] H := hP
  have hD : va_D A [(h, .inr (0, [.ref (a 0), .int (nI (mSc u)), .ref (a 1), .ref (a 2), .int (nI (mNc u)), .ref (a 3), .ref (a 4), .ref (a 5), .int (nI (mBc u)), .ref (a 6), .int (nI (mRoom u)), .int (nI (mRate u)), .int (nI (mSip u)), .int (nI 0), .int (mSpl u), .int (nI 0), .int (mAft u)])), (a 0, .inl (cI, 4, .inl (mHt u))), (a 1, .inl (cI, 8, .inl (mFr u))), (a 2, .inl (cI, 8, .inl (mTo u))), (a 3, .inl (cI, 360, .inl (mCov u))), (a 4, .inl (cI, 6, .inl (mPe u))), (a 5, .inl (cI, 6, .inl (mBe u))), (a 6, .inl (cI, 360, .inl on))] := hD
  refine lv_aload_n hx hb dX0_begin_10 rfl (lv_at hl 0 rfl) ?_
  refine lv_iconst (v := nI 0) hx hb dX0_begin_11 (by decide +kernel) ?_
  refine va_put (D := D) (ci := 0) (v := .int (nI 0)) (ty := .int) (C := RX0) (T := TX0) (N := 17) hx hb hts hin tyX0 tyX0_ok nmX0 hown hK hP hD hS 0 rfl rfl 14 (by decide) (hts (.fieldLink RX0 106 "AfternoonMeter" "ranOver" "I") (List.mem_of_getElem? (i := 3) rfl)) (fun _ h9 => h9) rfl (by decide +kernel) rfl rfl (Nat.le_of_ble_eq_true rfl) dX0_begin_12 (fun H locs hP hD hS => ?_)
  have hP : va_P D vwCl [(h, .inr (0, [.ref (a 0), .int (nI (mSc u)), .ref (a 1), .ref (a 2), .int (nI (mNc u)), .ref (a 3), .ref (a 4), .ref (a 5), .int (nI (mBc u)), .ref (a 6), .int (nI (mRoom u)), .int (nI (mRate u)), .int (nI (mSip u)), .int (nI 0), .int (nI 0), .int (nI 0), .int (mAft u)])), (a 0, .inl (cI, 4, .inl (mHt u))), (a 1, .inl (cI, 8, .inl (mFr u))), (a 2, .inl (cI, 8, .inl (mTo u))), (a 3, .inl (cI, 360, .inl (mCov u))), (a 4, .inl (cI, 6, .inl (mPe u))), (a 5, .inl (cI, 6, .inl (mBe u))), (a 6, .inl (cI, 360, .inl on))] H := hP
  have hD : va_D A [(h, .inr (0, [.ref (a 0), .int (nI (mSc u)), .ref (a 1), .ref (a 2), .int (nI (mNc u)), .ref (a 3), .ref (a 4), .ref (a 5), .int (nI (mBc u)), .ref (a 6), .int (nI (mRoom u)), .int (nI (mRate u)), .int (nI (mSip u)), .int (nI 0), .int (nI 0), .int (nI 0), .int (mAft u)])), (a 0, .inl (cI, 4, .inl (mHt u))), (a 1, .inl (cI, 8, .inl (mFr u))), (a 2, .inl (cI, 8, .inl (mTo u))), (a 3, .inl (cI, 360, .inl (mCov u))), (a 4, .inl (cI, 6, .inl (mPe u))), (a 5, .inl (cI, 6, .inl (mBe u))), (a 6, .inl (cI, 360, .inl on))] := hD
  refine lv_aload_n hx hb dX0_begin_15 rfl (lv_at hl 0 rfl) ?_
  refine lv_dup hx hb dX0_begin_16 rfl ?_
  refine va_get (D := D) (ci := 0) (v := .int (mAft u)) (C := RX0) (T := TX0) (N := 17) hx hb hts hin hown hK hP 0 rfl rfl 16 (by decide) (hts (.fieldLink RX0 109 "AfternoonMeter" "afternoonNumber" "I") (List.mem_of_getElem? (i := 4) rfl)) (fun _ h9 => h9) rfl dX0_begin_17 ?_
  refine lv_iconst (v := nI 1) hx hb dX0_begin_20 (by decide +kernel) ?_
  refine lv_iadd hx hb dX0_begin_21 ?_
  refine va_put (D := D) (ci := 0) (v := .int ((mAft u) + (nI 1))) (ty := .int) (C := RX0) (T := TX0) (N := 17) hx hb hts hin tyX0 tyX0_ok nmX0 hown hK hP hD hS 0 rfl rfl 16 (by decide) (hts (.fieldLink RX0 109 "AfternoonMeter" "afternoonNumber" "I") (List.mem_of_getElem? (i := 4) rfl)) (fun _ h9 => h9) rfl (by decide +kernel) rfl rfl (Nat.le_of_ble_eq_true rfl) dX0_begin_22 (fun H locs hP hD hS => ?_)
  have hP : va_P D vwCl [(h, .inr (0, [.ref (a 0), .int (nI (mSc u)), .ref (a 1), .ref (a 2), .int (nI (mNc u)), .ref (a 3), .ref (a 4), .ref (a 5), .int (nI (mBc u)), .ref (a 6), .int (nI (mRoom u)), .int (nI (mRate u)), .int (nI (mSip u)), .int (nI 0), .int (nI 0), .int (nI 0), .int ((mAft u) + (nI 1))])), (a 0, .inl (cI, 4, .inl (mHt u))), (a 1, .inl (cI, 8, .inl (mFr u))), (a 2, .inl (cI, 8, .inl (mTo u))), (a 3, .inl (cI, 360, .inl (mCov u))), (a 4, .inl (cI, 6, .inl (mPe u))), (a 5, .inl (cI, 6, .inl (mBe u))), (a 6, .inl (cI, 360, .inl on))] H := hP
  have hD : va_D A [(h, .inr (0, [.ref (a 0), .int (nI (mSc u)), .ref (a 1), .ref (a 2), .int (nI (mNc u)), .ref (a 3), .ref (a 4), .ref (a 5), .int (nI (mBc u)), .ref (a 6), .int (nI (mRoom u)), .int (nI (mRate u)), .int (nI (mSip u)), .int (nI 0), .int (nI 0), .int (nI 0), .int ((mAft u) + (nI 1))])), (a 0, .inl (cI, 4, .inl (mHt u))), (a 1, .inl (cI, 8, .inl (mFr u))), (a 2, .inl (cI, 8, .inl (mTo u))), (a 3, .inl (cI, 360, .inl (mCov u))), (a 4, .inl (cI, 6, .inl (mPe u))), (a 5, .inl (cI, 6, .inl (mBe u))), (a 6, .inl (cI, 360, .inl on))] := hD
  refine lv_aload_n hx hb dX0_begin_25 rfl (lv_at hl 0 rfl) ?_
  refine va_get (D := D) (ci := 0) (v := .int ((mAft u) + (nI 1))) (C := RX0) (T := TX0) (N := 17) hx hb hts hin hown hK hP 0 rfl rfl 16 (by decide) (hts (.fieldLink RX0 109 "AfternoonMeter" "afternoonNumber" "I") (List.mem_of_getElem? (i := 4) rfl)) (fun _ h9 => h9) rfl dX0_begin_26 ?_
  have hq : (mAft u) + (nI 1) = mAft u + nI 1 ∧ (((mSc u, mNc u, mBc u, 0, mRoom u, mRate u, mSip u, 0, nI 0, (mAft u) + (nI 1), mHt u, mFr u, mTo u, mCov u, mPe u, mBe u), on) : MS × (Nat → Int32)) = ((mSc u, mNc u, mBc u, 0, mRoom u, mRate u, mSip u, 0, nI 0, mAft u + nI 1, mHt u, mFr u, mTo u, mCov u, mPe u, mBe u), on) := by exact ⟨rfl, rfl⟩
  exact W.iret hx hb hr (fun t ht hW => ⟨⟨_, (((mSc u, mNc u, mBc u, 0, mRoom u, mRate u, mSip u, 0, nI 0, (mAft u) + (nI 1), mHt u, mFr u, mTo u, mCov u, mPe u, mBe u), on) : MS × (Nat → Int32)), rfl, hq, by rw [ht]; exact hP, va_K.moved hW.alike hK, hD⟩, hS.F ht⟩) hS.2.2 dX0_begin_29
set_option maxHeartbeats 4000000 in
set_option maxRecDepth 100000 in
theorem c_X0_addStick (l : Launch) (D : va_G) (cI : ClassId) (h : Nat) (a : Nat → Nat) (u : MS) (on : Nat → Int32) (sz : Nat) (pp : Nat) (hI : Inv u) (hp : 1 ≤ pp ∧ pp ≤ 30) (hs4 : mSc u < 4) : Met l yX0_addStick wsX0_addStick ({ frames := 0, cells := 0, slots := 0, locals := 0 } : Room) (va_Pc [.ref h, .int (nI pp)] (fun U => U.heap.size = sz ∧ va_P D vwCl (pic0 cI h a u on) U.heap ∧ va_K D vwCl [(cI, .int)] U ∧ va_D (fun _ => True) (pic0 cI h a u on))) ((fun A : Nat → Prop => va_Qi (fun (r : Int32) (w : MS × (Nat → Int32)) => r = nI (mSc u) ∧ w = ((mSc u + 1, mNc u, mBc u, mNow u, mRoom u, mRate u, mSip u, mTea u, mSpl u, mAft u, upd (mHt u) (mSc u) (nI pp), mFr u, mTo u, mCov u, mPe u, mBe u), on)) (fun (w : MS × (Nat → Int32)) (t : State) => va_P D vwCl (pic0 cI h a w.1 w.2) t.heap ∧ va_K D vwCl [(cI, .int)] t ∧ va_D A (pic0 cI h a w.1 w.2)) A) (va_A (pic0 cI h a u on) sz)) 0 0 (va_A (pic0 cI h a u on) sz) := by
  refine en_wr (cc := cX0_addStick) (maxL := 3) (ret := (some .int)) _ _ (fun A : Nat → Prop => va_Qi (fun (r : Int32) (w : MS × (Nat → Int32)) => r = nI (mSc u) ∧ w = ((mSc u + 1, mNc u, mBc u, mNow u, mRoom u, mRate u, mSip u, mTea u, mSpl u, mAft u, upd (mHt u) (mSc u) (nI pp), mFr u, mTo u, mCov u, mPe u, mBe u), on)) (fun (w : MS × (Nat → Int32)) (t : State) => va_P D vwCl (pic0 cI h a w.1 w.2) t.heap ∧ va_K D vwCl [(cI, .int)] t ∧ va_D A (pic0 cI h a w.1 w.2)) A) (by decide) rfl (Nat.le_of_ble_eq_true rfl) ?_
  intro p e s m args below meth c ls A H locs hx hb hml hr hlocks hts hown hP hK hD hA hS hl
  have hown : s.vm.findClass RX0 = some m.cls := hown
  have hin : ∀ w ∈ wsX00, w ∈ wsX0_addStick := fun _ h9 => List.mem_cons_of_mem _ (List.mem_append_left _ (List.mem_append_left _ (List.mem_append_right _ h9)))
  have hl : lv_has ls 3 [(0, .ref h), (1, .int (nI pp))] := hl
  obtain ⟨hIa, hIb, hIc, hId, hIe, hIf, hIg, hIh, hIi, hIj⟩ := id hI
  refine lv_iload_n hx hb dX0_addStick_0 rfl (lv_at hl 1 rfl) ?_
  refine lv_iconst (v := nI 1) hx hb dX0_addStick_1 (by decide +kernel) ?_
  refine lv_icmp_lt (tgt := 11) hx hb dX0_addStick_2 (by decide) (fun c_2 => ?_) (fun c_2 => ?_)
  · skip
    replace c_2 : pp < 1 := ltN c_2
    exact (by omega : False).elim
  · skip
    replace c_2 : 1 ≤ pp := nltN c_2
    refine lv_iload_n hx hb dX0_addStick_5 rfl (lv_at hl 1 rfl) ?_
    refine lv_bipush (v := nI 30) hx hb dX0_addStick_6 (by decide +kernel) ?_
    refine lv_icmp_le (tgt := 21) hx hb dX0_addStick_8 (by decide) (fun c_8 => ?_) (fun c_8 => ?_)
    · skip
      replace c_8 : pp ≤ 30 := leN c_8
      refine lv_aload_n hx hb dX0_addStick_21 rfl (lv_at hl 0 rfl) ?_
      refine va_get (D := D) (ci := 0) (v := .int (nI (mSc u))) (C := RX0) (T := TX0) (N := 17) hx hb hts hin hown hK hP 0 rfl rfl 1 (by decide) (hts (.fieldLink RX0 48 "AfternoonMeter" "stickCount" "I") (List.mem_of_getElem? (i := 5) rfl)) (fun _ h9 => h9) rfl dX0_addStick_22 ?_
      refine lv_iconst (v := nI 4) hx hb dX0_addStick_25 (by decide +kernel) ?_
      refine lv_icmp_lt (tgt := 39) hx hb dX0_addStick_26 (by decide) (fun c_26 => ?_) (fun c_26 => ?_)
      · skip
        replace c_26 : (mSc u) < 4 := ltN c_26
        refine lv_aload_n hx hb dX0_addStick_39 rfl (lv_at hl 0 rfl) ?_
        refine va_get (D := D) (ci := 0) (v := .int (nI (mSc u))) (C := RX0) (T := TX0) (N := 17) hx hb hts hin hown hK hP 0 rfl rfl 1 (by decide) (hts (.fieldLink RX0 48 "AfternoonMeter" "stickCount" "I") (List.mem_of_getElem? (i := 5) rfl)) (fun _ h9 => h9) rfl dX0_addStick_40 ?_
        refine lv_istore_n (lv' := [(2, .int (nI (mSc u))), (0, .ref h), (1, .int (nI pp))]) hx hb dX0_addStick_43 rfl hl (by decide) rfl (fun ls hl => ?_)
        refine lv_aload_n hx hb dX0_addStick_44 rfl (lv_at hl 1 rfl) ?_
        refine va_get (D := D) (ci := 0) (v := .ref (a 0)) (C := RX0) (T := TX0) (N := 17) hx hb hts hin hown hK hP 0 rfl rfl 0 (by decide) (hts (.fieldLink RX0 9 "AfternoonMeter" "heights" "[I") (List.mem_of_getElem? (i := 6) rfl)) (fun _ h9 => h9) rfl dX0_addStick_45 ?_
        refine lv_iload_n hx hb dX0_addStick_48 rfl (lv_at hl 0 rfl) ?_
        refine lv_iload_n hx hb dX0_addStick_49 rfl (lv_at hl 2 rfl) ?_
        refine q_iast hx hb hK hP hD hS 1 0 rfl rfl (by omega) (by decide) dX0_addStick_50 (fun H locs hP hD hS => ?_)
        have hP : va_P D vwCl [(h, .inr (0, [.ref (a 0), .int (nI (mSc u)), .ref (a 1), .ref (a 2), .int (nI (mNc u)), .ref (a 3), .ref (a 4), .ref (a 5), .int (nI (mBc u)), .ref (a 6), .int (nI (mRoom u)), .int (nI (mRate u)), .int (nI (mSip u)), .int (nI (mTea u)), .int (mSpl u), .int (nI (mNow u)), .int (mAft u)])), (a 0, .inl (cI, 4, .inl (upd (mHt u) (mSc u) (nI pp)))), (a 1, .inl (cI, 8, .inl (mFr u))), (a 2, .inl (cI, 8, .inl (mTo u))), (a 3, .inl (cI, 360, .inl (mCov u))), (a 4, .inl (cI, 6, .inl (mPe u))), (a 5, .inl (cI, 6, .inl (mBe u))), (a 6, .inl (cI, 360, .inl on))] H := hP
        have hD : va_D A [(h, .inr (0, [.ref (a 0), .int (nI (mSc u)), .ref (a 1), .ref (a 2), .int (nI (mNc u)), .ref (a 3), .ref (a 4), .ref (a 5), .int (nI (mBc u)), .ref (a 6), .int (nI (mRoom u)), .int (nI (mRate u)), .int (nI (mSip u)), .int (nI (mTea u)), .int (mSpl u), .int (nI (mNow u)), .int (mAft u)])), (a 0, .inl (cI, 4, .inl (upd (mHt u) (mSc u) (nI pp)))), (a 1, .inl (cI, 8, .inl (mFr u))), (a 2, .inl (cI, 8, .inl (mTo u))), (a 3, .inl (cI, 360, .inl (mCov u))), (a 4, .inl (cI, 6, .inl (mPe u))), (a 5, .inl (cI, 6, .inl (mBe u))), (a 6, .inl (cI, 360, .inl on))] := hD
        refine lv_aload_n hx hb dX0_addStick_51 rfl (lv_at hl 1 rfl) ?_
        refine lv_dup hx hb dX0_addStick_52 rfl ?_
        refine va_get (D := D) (ci := 0) (v := .int (nI (mSc u))) (C := RX0) (T := TX0) (N := 17) hx hb hts hin hown hK hP 0 rfl rfl 1 (by decide) (hts (.fieldLink RX0 48 "AfternoonMeter" "stickCount" "I") (List.mem_of_getElem? (i := 5) rfl)) (fun _ h9 => h9) rfl dX0_addStick_53 ?_
        refine lv_iconst (v := nI 1) hx hb dX0_addStick_56 (by decide +kernel) ?_
        refine q_iaddN hx hb dX0_addStick_57 ?_
        refine va_put (D := D) (ci := 0) (v := .int (nI ((mSc u) + 1))) (ty := .int) (C := RX0) (T := TX0) (N := 17) hx hb hts hin tyX0 tyX0_ok nmX0 hown hK hP hD hS 0 rfl rfl 1 (by decide) (hts (.fieldLink RX0 48 "AfternoonMeter" "stickCount" "I") (List.mem_of_getElem? (i := 5) rfl)) (fun _ h9 => h9) rfl (by decide +kernel) rfl rfl (Nat.le_of_ble_eq_true rfl) dX0_addStick_58 (fun H locs hP hD hS => ?_)
        have hP : va_P D vwCl [(h, .inr (0, [.ref (a 0), .int (nI ((mSc u) + 1)), .ref (a 1), .ref (a 2), .int (nI (mNc u)), .ref (a 3), .ref (a 4), .ref (a 5), .int (nI (mBc u)), .ref (a 6), .int (nI (mRoom u)), .int (nI (mRate u)), .int (nI (mSip u)), .int (nI (mTea u)), .int (mSpl u), .int (nI (mNow u)), .int (mAft u)])), (a 0, .inl (cI, 4, .inl (upd (mHt u) (mSc u) (nI pp)))), (a 1, .inl (cI, 8, .inl (mFr u))), (a 2, .inl (cI, 8, .inl (mTo u))), (a 3, .inl (cI, 360, .inl (mCov u))), (a 4, .inl (cI, 6, .inl (mPe u))), (a 5, .inl (cI, 6, .inl (mBe u))), (a 6, .inl (cI, 360, .inl on))] H := hP
        have hD : va_D A [(h, .inr (0, [.ref (a 0), .int (nI ((mSc u) + 1)), .ref (a 1), .ref (a 2), .int (nI (mNc u)), .ref (a 3), .ref (a 4), .ref (a 5), .int (nI (mBc u)), .ref (a 6), .int (nI (mRoom u)), .int (nI (mRate u)), .int (nI (mSip u)), .int (nI (mTea u)), .int (mSpl u), .int (nI (mNow u)), .int (mAft u)])), (a 0, .inl (cI, 4, .inl (upd (mHt u) (mSc u) (nI pp)))), (a 1, .inl (cI, 8, .inl (mFr u))), (a 2, .inl (cI, 8, .inl (mTo u))), (a 3, .inl (cI, 360, .inl (mCov u))), (a 4, .inl (cI, 6, .inl (mPe u))), (a 5, .inl (cI, 6, .inl (mBe u))), (a 6, .inl (cI, 360, .inl on))] := hD
        refine lv_iload_n hx hb dX0_addStick_61 rfl (lv_at hl 0 rfl) ?_
        have hq : nI (mSc u) = nI (mSc u) ∧ ((((mSc u) + 1, mNc u, mBc u, mNow u, mRoom u, mRate u, mSip u, mTea u, mSpl u, mAft u, upd (mHt u) (mSc u) (nI pp), mFr u, mTo u, mCov u, mPe u, mBe u), on) : MS × (Nat → Int32)) = ((mSc u + 1, mNc u, mBc u, mNow u, mRoom u, mRate u, mSip u, mTea u, mSpl u, mAft u, upd (mHt u) (mSc u) (nI pp), mFr u, mTo u, mCov u, mPe u, mBe u), on) := by exact ⟨rfl, rfl⟩
        exact W.iret hx hb hr (fun t ht hW => ⟨⟨_, ((((mSc u) + 1, mNc u, mBc u, mNow u, mRoom u, mRate u, mSip u, mTea u, mSpl u, mAft u, upd (mHt u) (mSc u) (nI pp), mFr u, mTo u, mCov u, mPe u, mBe u), on) : MS × (Nat → Int32)), rfl, hq, by rw [ht]; exact hP, va_K.moved hW.alike hK, hD⟩, hS.F ht⟩) hS.2.2 dX0_addStick_62
      · skip
        replace c_26 : 4 ≤ (mSc u) := nltN c_26
        exact (by omega : False).elim
    · skip
      replace c_8 : 30 < pp := nleN c_8
      exact (by omega : False).elim
set_option maxHeartbeats 4000000 in
set_option maxRecDepth 100000 in
theorem c_X0_addNap (l : Launch) (D : va_G) (cI : ClassId) (h : Nat) (a : Nat → Nat) (u : MS) (on : Nat → Int32) (sz : Nat) (pp : Nat) (qq : Nat) (hI : Inv u) (hp : pp < qq ∧ qq ≤ 360) (hs8 : mNc u < 8) : Met l yX0_addNap wsX0_addNap ({ frames := 2, cells := 0, slots := 0, locals := 45 } : Room) (va_Pc [.ref h, .int (nI pp), .int (nI qq)] (fun U => U.heap.size = sz ∧ va_P D vwCl (pic0 cI h a u on) U.heap ∧ va_K D vwCl [(cI, .int)] U ∧ va_D (fun _ => True) (pic0 cI h a u on))) ((fun A : Nat → Prop => va_Qi (fun (r : Int32) (w : MS × (Nat → Int32)) => r = nI (mNc u) ∧ w = ((mSc u, mNc u + 1, mBc u, mNow u, mRoom u, mRate u, mSip u, mTea u, mSpl u, mAft u, mHt u, upd (mFr u) (mNc u) (nI pp), upd (mTo u) (mNc u) (nI qq), ccv (mCov u) pp qq (nI 1) 360, mPe u, mBe u), on)) (fun (w : MS × (Nat → Int32)) (t : State) => va_P D vwCl (pic0 cI h a w.1 w.2) t.heap ∧ va_K D vwCl [(cI, .int)] t ∧ va_D A (pic0 cI h a w.1 w.2)) A) (va_A (pic0 cI h a u on) sz)) 0 0 (va_A (pic0 cI h a u on) sz) := by
  refine en_wr (cc := cX0_addNap) (maxL := 4) (ret := (some .int)) _ _ (fun A : Nat → Prop => va_Qi (fun (r : Int32) (w : MS × (Nat → Int32)) => r = nI (mNc u) ∧ w = ((mSc u, mNc u + 1, mBc u, mNow u, mRoom u, mRate u, mSip u, mTea u, mSpl u, mAft u, mHt u, upd (mFr u) (mNc u) (nI pp), upd (mTo u) (mNc u) (nI qq), ccv (mCov u) pp qq (nI 1) 360, mPe u, mBe u), on)) (fun (w : MS × (Nat → Int32)) (t : State) => va_P D vwCl (pic0 cI h a w.1 w.2) t.heap ∧ va_K D vwCl [(cI, .int)] t ∧ va_D A (pic0 cI h a w.1 w.2)) A) (by decide) rfl (Nat.le_of_ble_eq_true rfl) ?_
  intro p e s m args below meth c ls A H locs hx hb hml hr hlocks hts hown hP hK hD hA hS hl
  have hown : s.vm.findClass RX0 = some m.cls := hown
  have hin : ∀ w ∈ wsX00, w ∈ wsX0_addNap := fun _ h9 => List.mem_cons_of_mem _ (List.mem_append_left _ (List.mem_append_left _ (List.mem_append_right _ h9)))
  have hl : lv_has ls 4 [(0, .ref h), (1, .int (nI pp)), (2, .int (nI qq))] := hl
  obtain ⟨hIa, hIb, hIc, hId, hIe, hIf, hIg, hIh, hIi, hIj⟩ := id hI
  refine lv_iload_n hx hb dX0_addNap_0 rfl (lv_at hl 1 rfl) ?_
  refine lv_if_lt (tgt := 16) hx hb dX0_addNap_1 (by decide) (fun c_1 => ?_) (fun c_1 => ?_)
  · skip
    replace c_1 : pp < 0 := ltN c_1
    exact (by omega : False).elim
  · skip
    replace c_1 : 0 ≤ pp := nltN c_1
    refine lv_iload_n hx hb dX0_addNap_4 rfl (lv_at hl 2 rfl) ?_
    refine lv_sipush (v := nI 360) hx hb dX0_addNap_5 (by decide +kernel) ?_
    refine lv_icmp_gt (tgt := 16) hx hb dX0_addNap_8 (by decide) (fun c_8 => ?_) (fun c_8 => ?_)
    · skip
      replace c_8 : 360 < qq := ltN c_8
      exact (by omega : False).elim
    · skip
      replace c_8 : qq ≤ 360 := nltN c_8
      refine lv_iload_n hx hb dX0_addNap_11 rfl (lv_at hl 2 rfl) ?_
      refine lv_iload_n hx hb dX0_addNap_12 rfl (lv_at hl 1 rfl) ?_
      refine lv_icmp_gt (tgt := 26) hx hb dX0_addNap_13 (by decide) (fun c_13 => ?_) (fun c_13 => ?_)
      · skip
        replace c_13 : pp < qq := ltN c_13
        refine lv_aload_n hx hb dX0_addNap_26 rfl (lv_at hl 0 rfl) ?_
        refine va_get (D := D) (ci := 0) (v := .int (nI (mNc u))) (C := RX0) (T := TX0) (N := 17) hx hb hts hin hown hK hP 0 rfl rfl 4 (by decide) (hts (.fieldLink RX0 58 "AfternoonMeter" "napCount" "I") (List.mem_of_getElem? (i := 5) rfl)) (fun _ h9 => h9) rfl dX0_addNap_27 ?_
        refine lv_bipush (v := nI 8) hx hb dX0_addNap_30 (by decide +kernel) ?_
        refine lv_icmp_lt (tgt := 45) hx hb dX0_addNap_32 (by decide) (fun c_32 => ?_) (fun c_32 => ?_)
        · skip
          replace c_32 : (mNc u) < 8 := ltN c_32
          refine lv_aload_n hx hb dX0_addNap_45 rfl (lv_at hl 0 rfl) ?_
          refine va_get (D := D) (ci := 0) (v := .int (nI (mNc u))) (C := RX0) (T := TX0) (N := 17) hx hb hts hin hown hK hP 0 rfl rfl 4 (by decide) (hts (.fieldLink RX0 58 "AfternoonMeter" "napCount" "I") (List.mem_of_getElem? (i := 5) rfl)) (fun _ h9 => h9) rfl dX0_addNap_46 ?_
          refine lv_istore_n (lv' := [(3, .int (nI (mNc u))), (0, .ref h), (1, .int (nI pp)), (2, .int (nI qq))]) hx hb dX0_addNap_49 rfl hl (by decide) rfl (fun ls hl => ?_)
          refine lv_aload_n hx hb dX0_addNap_50 rfl (lv_at hl 1 rfl) ?_
          refine va_get (D := D) (ci := 0) (v := .ref (a 1)) (C := RX0) (T := TX0) (N := 17) hx hb hts hin hown hK hP 0 rfl rfl 2 (by decide) (hts (.fieldLink RX0 13 "AfternoonMeter" "napStarts" "[I") (List.mem_of_getElem? (i := 6) rfl)) (fun _ h9 => h9) rfl dX0_addNap_51 ?_
          refine lv_iload_n hx hb dX0_addNap_54 rfl (lv_at hl 0 rfl) ?_
          refine lv_iload_n hx hb dX0_addNap_55 rfl (lv_at hl 2 rfl) ?_
          refine q_iast hx hb hK hP hD hS 2 0 rfl rfl (by omega) (by decide) dX0_addNap_56 (fun H locs hP hD hS => ?_)
          have hP : va_P D vwCl [(h, .inr (0, [.ref (a 0), .int (nI (mSc u)), .ref (a 1), .ref (a 2), .int (nI (mNc u)), .ref (a 3), .ref (a 4), .ref (a 5), .int (nI (mBc u)), .ref (a 6), .int (nI (mRoom u)), .int (nI (mRate u)), .int (nI (mSip u)), .int (nI (mTea u)), .int (mSpl u), .int (nI (mNow u)), .int (mAft u)])), (a 0, .inl (cI, 4, .inl (mHt u))), (a 1, .inl (cI, 8, .inl (upd (mFr u) (mNc u) (nI pp)))), (a 2, .inl (cI, 8, .inl (mTo u))), (a 3, .inl (cI, 360, .inl (mCov u))), (a 4, .inl (cI, 6, .inl (mPe u))), (a 5, .inl (cI, 6, .inl (mBe u))), (a 6, .inl (cI, 360, .inl on))] H := hP
          have hD : va_D A [(h, .inr (0, [.ref (a 0), .int (nI (mSc u)), .ref (a 1), .ref (a 2), .int (nI (mNc u)), .ref (a 3), .ref (a 4), .ref (a 5), .int (nI (mBc u)), .ref (a 6), .int (nI (mRoom u)), .int (nI (mRate u)), .int (nI (mSip u)), .int (nI (mTea u)), .int (mSpl u), .int (nI (mNow u)), .int (mAft u)])), (a 0, .inl (cI, 4, .inl (mHt u))), (a 1, .inl (cI, 8, .inl (upd (mFr u) (mNc u) (nI pp)))), (a 2, .inl (cI, 8, .inl (mTo u))), (a 3, .inl (cI, 360, .inl (mCov u))), (a 4, .inl (cI, 6, .inl (mPe u))), (a 5, .inl (cI, 6, .inl (mBe u))), (a 6, .inl (cI, 360, .inl on))] := hD
          refine lv_aload_n hx hb dX0_addNap_57 rfl (lv_at hl 1 rfl) ?_
          refine va_get (D := D) (ci := 0) (v := .ref (a 2)) (C := RX0) (T := TX0) (N := 17) hx hb hts hin hown hK hP 0 rfl rfl 3 (by decide) (hts (.fieldLink RX0 16 "AfternoonMeter" "napEnds" "[I") (List.mem_of_getElem? (i := 7) rfl)) (fun _ h9 => h9) rfl dX0_addNap_58 ?_
          refine lv_iload_n hx hb dX0_addNap_61 rfl (lv_at hl 0 rfl) ?_
          refine lv_iload_n hx hb dX0_addNap_62 rfl (lv_at hl 3 rfl) ?_
          refine q_iast hx hb hK hP hD hS 3 0 rfl rfl (by omega) (by decide) dX0_addNap_63 (fun H locs hP hD hS => ?_)
          have hP : va_P D vwCl [(h, .inr (0, [.ref (a 0), .int (nI (mSc u)), .ref (a 1), .ref (a 2), .int (nI (mNc u)), .ref (a 3), .ref (a 4), .ref (a 5), .int (nI (mBc u)), .ref (a 6), .int (nI (mRoom u)), .int (nI (mRate u)), .int (nI (mSip u)), .int (nI (mTea u)), .int (mSpl u), .int (nI (mNow u)), .int (mAft u)])), (a 0, .inl (cI, 4, .inl (mHt u))), (a 1, .inl (cI, 8, .inl (upd (mFr u) (mNc u) (nI pp)))), (a 2, .inl (cI, 8, .inl (upd (mTo u) (mNc u) (nI qq)))), (a 3, .inl (cI, 360, .inl (mCov u))), (a 4, .inl (cI, 6, .inl (mPe u))), (a 5, .inl (cI, 6, .inl (mBe u))), (a 6, .inl (cI, 360, .inl on))] H := hP
          have hD : va_D A [(h, .inr (0, [.ref (a 0), .int (nI (mSc u)), .ref (a 1), .ref (a 2), .int (nI (mNc u)), .ref (a 3), .ref (a 4), .ref (a 5), .int (nI (mBc u)), .ref (a 6), .int (nI (mRoom u)), .int (nI (mRate u)), .int (nI (mSip u)), .int (nI (mTea u)), .int (mSpl u), .int (nI (mNow u)), .int (mAft u)])), (a 0, .inl (cI, 4, .inl (mHt u))), (a 1, .inl (cI, 8, .inl (upd (mFr u) (mNc u) (nI pp)))), (a 2, .inl (cI, 8, .inl (upd (mTo u) (mNc u) (nI qq)))), (a 3, .inl (cI, 360, .inl (mCov u))), (a 4, .inl (cI, 6, .inl (mPe u))), (a 5, .inl (cI, 6, .inl (mBe u))), (a 6, .inl (cI, 360, .inl on))] := hD
          refine lv_aload_n hx hb dX0_addNap_64 rfl (lv_at hl 1 rfl) ?_
          refine lv_dup hx hb dX0_addNap_65 rfl ?_
          refine va_get (D := D) (ci := 0) (v := .int (nI (mNc u))) (C := RX0) (T := TX0) (N := 17) hx hb hts hin hown hK hP 0 rfl rfl 4 (by decide) (hts (.fieldLink RX0 58 "AfternoonMeter" "napCount" "I") (List.mem_of_getElem? (i := 5) rfl)) (fun _ h9 => h9) rfl dX0_addNap_66 ?_
          refine lv_iconst (v := nI 1) hx hb dX0_addNap_69 (by decide +kernel) ?_
          refine q_iaddN hx hb dX0_addNap_70 ?_
          refine va_put (D := D) (ci := 0) (v := .int (nI ((mNc u) + 1))) (ty := .int) (C := RX0) (T := TX0) (N := 17) hx hb hts hin tyX0 tyX0_ok nmX0 hown hK hP hD hS 0 rfl rfl 4 (by decide) (hts (.fieldLink RX0 58 "AfternoonMeter" "napCount" "I") (List.mem_of_getElem? (i := 5) rfl)) (fun _ h9 => h9) rfl (by decide +kernel) rfl rfl (Nat.le_of_ble_eq_true rfl) dX0_addNap_71 (fun H locs hP hD hS => ?_)
          have hP : va_P D vwCl [(h, .inr (0, [.ref (a 0), .int (nI (mSc u)), .ref (a 1), .ref (a 2), .int (nI ((mNc u) + 1)), .ref (a 3), .ref (a 4), .ref (a 5), .int (nI (mBc u)), .ref (a 6), .int (nI (mRoom u)), .int (nI (mRate u)), .int (nI (mSip u)), .int (nI (mTea u)), .int (mSpl u), .int (nI (mNow u)), .int (mAft u)])), (a 0, .inl (cI, 4, .inl (mHt u))), (a 1, .inl (cI, 8, .inl (upd (mFr u) (mNc u) (nI pp)))), (a 2, .inl (cI, 8, .inl (upd (mTo u) (mNc u) (nI qq)))), (a 3, .inl (cI, 360, .inl (mCov u))), (a 4, .inl (cI, 6, .inl (mPe u))), (a 5, .inl (cI, 6, .inl (mBe u))), (a 6, .inl (cI, 360, .inl on))] H := hP
          have hD : va_D A [(h, .inr (0, [.ref (a 0), .int (nI (mSc u)), .ref (a 1), .ref (a 2), .int (nI ((mNc u) + 1)), .ref (a 3), .ref (a 4), .ref (a 5), .int (nI (mBc u)), .ref (a 6), .int (nI (mRoom u)), .int (nI (mRate u)), .int (nI (mSip u)), .int (nI (mTea u)), .int (mSpl u), .int (nI (mNow u)), .int (mAft u)])), (a 0, .inl (cI, 4, .inl (mHt u))), (a 1, .inl (cI, 8, .inl (upd (mFr u) (mNc u) (nI pp)))), (a 2, .inl (cI, 8, .inl (upd (mTo u) (mNc u) (nI qq)))), (a 3, .inl (cI, 360, .inl (mCov u))), (a 4, .inl (cI, 6, .inl (mPe u))), (a 5, .inl (cI, 6, .inl (mBe u))), (a 6, .inl (cI, 360, .inl on))] := hD
          refine lv_aload_n hx hb dX0_addNap_74 rfl (lv_at hl 1 rfl) ?_
          refine lv_iload_n hx hb dX0_addNap_75 rfl (lv_at hl 0 rfl) ?_
          refine lv_iconst (v := nI 1) hx hb dX0_addNap_76 (by decide +kernel) ?_
          have hFc := va_free (wc := [(h, .inr (0, [.ref (a 0), .int (nI (mSc u)), .ref (a 1), .ref (a 2), .int (nI ((mNc u) + 1)), .ref (a 3), .ref (a 4), .ref (a 5), .int (nI (mBc u)), .ref (a 6), .int (nI (mRoom u)), .int (nI (mRate u)), .int (nI (mSip u)), .int (nI (mTea u)), .int (mSpl u), .int (nI (mNow u)), .int (mAft u)])), (a 0, .inl (cI, 4, .inl (mHt u))), (a 1, .inl (cI, 8, .inl (upd (mFr u) (mNc u) (nI pp)))), (a 2, .inl (cI, 8, .inl (upd (mTo u) (mNc u) (nI qq)))), (a 3, .inl (cI, 360, .inl (mCov u))), (a 4, .inl (cI, 6, .inl (mPe u))), (a 5, .inl (cI, 6, .inl (mBe u))), (a 6, .inl (cI, 360, .inl on))]) hD hS hA [0, 1, 2, 3, 4, 5, 6, 7] rfl
          refine va_callv (va_runV (As := [.int (nI (mNc u)), .int (nI 1)]) (rest := []) ⟨hx, hb, hml, hown, hts⟩ (c_X0_changeCover l D cI h a (mSc u, (mNc u) + 1, mBc u, mNow u, mRoom u, mRate u, mSip u, mTea u, mSpl u, mAft u, mHt u, upd (mFr u) (mNc u) (nI pp), upd (mTo u) (mNc u) (nI qq), mCov u, mPe u, mBe u) on H.size (mNc u) (nI 1) pp qq (by omega) pk_us pk_us (by omega) (by omega)) (cwV 2 hts gX0_addNap_X0_changeCover rfl rfl rfl (by decide +kernel) ⟨Nat.le_of_ble_eq_true rfl, Nat.le_of_ble_eq_true rfl⟩) ⟨wr_blind, va_recv (ci := 0) (q0 := 0) hK hP rfl rfl, fun U hU hW => ⟨rfl, by rw [hU], by rw [hU]; exact hP, va_K.moved hW.alike hK, hD.weaken (fun _ _ _ _ => trivial)⟩⟩ rfl rfl hl.1 rfl (lv_room (Nat.le_of_ble_eq_true rfl)) dX0_addNap_77 ⟨Nat.le_of_ble_eq_true rfl, Nat.le_of_ble_eq_true rfl⟩) hS (fun q _ h => hFc q h) hFc (fun w t H locs ht hvm hw hB hz1 hk1 hS => ?_)
          subst hw
          obtain ⟨hP1, hK1, hD1⟩ := hB
          rw [ht] at hP1
          have hP : va_P D vwCl [(h, .inr (0, [.ref (a 0), .int (nI (mSc u)), .ref (a 1), .ref (a 2), .int (nI ((mNc u) + 1)), .ref (a 3), .ref (a 4), .ref (a 5), .int (nI (mBc u)), .ref (a 6), .int (nI (mRoom u)), .int (nI (mRate u)), .int (nI (mSip u)), .int (nI (mTea u)), .int (mSpl u), .int (nI (mNow u)), .int (mAft u)])), (a 0, .inl (cI, 4, .inl (mHt u))), (a 1, .inl (cI, 8, .inl (upd (mFr u) (mNc u) (nI pp)))), (a 2, .inl (cI, 8, .inl (upd (mTo u) (mNc u) (nI qq)))), (a 3, .inl (cI, 360, .inl (ccv (mCov u) pp qq (nI 1) 360))), (a 4, .inl (cI, 6, .inl (mPe u))), (a 5, .inl (cI, 6, .inl (mBe u))), (a 6, .inl (cI, 360, .inl on))] H := hP1
          have hD : va_D A [(h, .inr (0, [.ref (a 0), .int (nI (mSc u)), .ref (a 1), .ref (a 2), .int (nI ((mNc u) + 1)), .ref (a 3), .ref (a 4), .ref (a 5), .int (nI (mBc u)), .ref (a 6), .int (nI (mRoom u)), .int (nI (mRate u)), .int (nI (mSip u)), .int (nI (mTea u)), .int (mSpl u), .int (nI (mNow u)), .int (mAft u)])), (a 0, .inl (cI, 4, .inl (mHt u))), (a 1, .inl (cI, 8, .inl (upd (mFr u) (mNc u) (nI pp)))), (a 2, .inl (cI, 8, .inl (upd (mTo u) (mNc u) (nI qq)))), (a 3, .inl (cI, 360, .inl (ccv (mCov u) pp qq (nI 1) 360))), (a 4, .inl (cI, 6, .inl (mPe u))), (a 5, .inl (cI, 6, .inl (mBe u))), (a 6, .inl (cI, 360, .inl on))] := hD1.weaken (fun k q _ h => hFc q.1 h)
          refine lv_iload_n hx hb dX0_addNap_80 rfl (lv_at hl 0 rfl) ?_
          have hq : nI (mNc u) = nI (mNc u) ∧ (((mSc u, (mNc u) + 1, mBc u, mNow u, mRoom u, mRate u, mSip u, mTea u, mSpl u, mAft u, mHt u, upd (mFr u) (mNc u) (nI pp), upd (mTo u) (mNc u) (nI qq), ccv (mCov u) pp qq (nI 1) 360, mPe u, mBe u), on) : MS × (Nat → Int32)) = ((mSc u, mNc u + 1, mBc u, mNow u, mRoom u, mRate u, mSip u, mTea u, mSpl u, mAft u, mHt u, upd (mFr u) (mNc u) (nI pp), upd (mTo u) (mNc u) (nI qq), ccv (mCov u) pp qq (nI 1) 360, mPe u, mBe u), on) := by exact ⟨rfl, rfl⟩
          exact W.iret hx hb hr (fun t ht hW => ⟨⟨_, (((mSc u, (mNc u) + 1, mBc u, mNow u, mRoom u, mRate u, mSip u, mTea u, mSpl u, mAft u, mHt u, upd (mFr u) (mNc u) (nI pp), upd (mTo u) (mNc u) (nI qq), ccv (mCov u) pp qq (nI 1) 360, mPe u, mBe u), on) : MS × (Nat → Int32)), rfl, hq, by rw [ht]; exact hP, va_K.moved hW.alike hK, hD⟩, hS.F ht⟩) hS.2.2 dX0_addNap_81
        · skip
          replace c_32 : 8 ≤ (mNc u) := nltN c_32
          exact (by omega : False).elim
      · skip
        replace c_13 : qq ≤ pp := nltN c_13
        exact (by omega : False).elim
set_option maxHeartbeats 4000000 in
set_option maxRecDepth 100000 in
theorem c_X0_giveUp (l : Launch) (D : va_G) (cI : ClassId) (h : Nat) (a : Nat → Nat) (u : MS) (on : Nat → Int32) (sz : Nat) (np : Nat) (hI : Inv u) (hnp : np < mNc u) : Met l yX0_giveUp wsX0_giveUp ({ frames := 2, cells := 0, slots := 0, locals := 45 } : Room) (va_Pc [.ref h, .int (nI np)] (fun U => U.heap.size = sz ∧ va_P D vwCl (pic0 cI h a u on) U.heap ∧ va_K D vwCl [(cI, .int)] U ∧ va_D (fun _ => True) (pic0 cI h a u on))) ((fun A : Nat → Prop => va_Qi (fun (r : Int32) (w : MS × (Nat → Int32)) => r = nI (mNc u - 1) ∧ w = ((mSc u, mNc u - 1, mBc u, mNow u, mRoom u, mRate u, mSip u, mTea u, mSpl u, mAft u, mHt u, shl (mFr u) np (mNc u - 1 - np), shl (mTo u) np (mNc u - 1 - np), ccv (mCov u) (aN u np) (bN u np) (-1) 360, mPe u, mBe u), on)) (fun (w : MS × (Nat → Int32)) (t : State) => va_P D vwCl (pic0 cI h a w.1 w.2) t.heap ∧ va_K D vwCl [(cI, .int)] t ∧ va_D A (pic0 cI h a w.1 w.2)) A) (va_A (pic0 cI h a u on) sz)) 0 0 (va_A (pic0 cI h a u on) sz) := by
  refine en_wr (cc := cX0_giveUp) (maxL := 3) (ret := (some .int)) _ _ (fun A : Nat → Prop => va_Qi (fun (r : Int32) (w : MS × (Nat → Int32)) => r = nI (mNc u - 1) ∧ w = ((mSc u, mNc u - 1, mBc u, mNow u, mRoom u, mRate u, mSip u, mTea u, mSpl u, mAft u, mHt u, shl (mFr u) np (mNc u - 1 - np), shl (mTo u) np (mNc u - 1 - np), ccv (mCov u) (aN u np) (bN u np) (-1) 360, mPe u, mBe u), on)) (fun (w : MS × (Nat → Int32)) (t : State) => va_P D vwCl (pic0 cI h a w.1 w.2) t.heap ∧ va_K D vwCl [(cI, .int)] t ∧ va_D A (pic0 cI h a w.1 w.2)) A) (by decide) rfl (Nat.le_of_ble_eq_true rfl) ?_
  intro p e s m args below meth c ls A H locs hx hb hml hr hlocks hts hown hP hK hD hA hS hl
  have hown : s.vm.findClass RX0 = some m.cls := hown
  have hin : ∀ w ∈ wsX00, w ∈ wsX0_giveUp := fun _ h9 => List.mem_cons_of_mem _ (List.mem_append_left _ (List.mem_append_right _ h9))
  have hl : lv_has ls 3 [(0, .ref h), (1, .int (nI np))] := hl
  obtain ⟨hIa, hIb, hIc, hId, hIe, hIf, hIg, hIh, hIi, hIj⟩ := id hI
  obtain ⟨hp1, hp2, hp3, hp4⟩ := hIg np hnp
  refine lv_aload_n hx hb dX0_giveUp_0 rfl (lv_at hl 0 rfl) ?_
  refine lv_iload_n hx hb dX0_giveUp_1 rfl (lv_at hl 1 rfl) ?_
  refine va_csv (W.runV (As := [.int (nI np)]) (rest := []) ⟨hx, hb, hml, hown, hts⟩ (c_X0_checkNap l D cI h a u on np hI (by omega)) (cwV 1 hts gX0_giveUp_X0_checkNap rfl rfl rfl (by decide +kernel) ⟨Nat.le_of_ble_eq_true rfl, Nat.le_of_ble_eq_true rfl⟩) (pu_pre hK hP rfl rfl) rfl rfl hl.1 rfl (lv_room (Nat.le_of_ble_eq_true rfl)) dX0_giveUp_2 ⟨Nat.le_of_ble_eq_true rfl, Nat.le_of_ble_eq_true rfl⟩) (fun _ => ?_)
  refine lv_aload_n hx hb dX0_giveUp_5 rfl (lv_at hl 0 rfl) ?_
  refine lv_iload_n hx hb dX0_giveUp_6 rfl (lv_at hl 1 rfl) ?_
  refine lv_iconst (v := (-1)) hx hb dX0_giveUp_7 (by decide +kernel) ?_
  have hFc := va_free (wc := [(h, .inr (0, [.ref (a 0), .int (nI (mSc u)), .ref (a 1), .ref (a 2), .int (nI (mNc u)), .ref (a 3), .ref (a 4), .ref (a 5), .int (nI (mBc u)), .ref (a 6), .int (nI (mRoom u)), .int (nI (mRate u)), .int (nI (mSip u)), .int (nI (mTea u)), .int (mSpl u), .int (nI (mNow u)), .int (mAft u)])), (a 0, .inl (cI, 4, .inl (mHt u))), (a 1, .inl (cI, 8, .inl (mFr u))), (a 2, .inl (cI, 8, .inl (mTo u))), (a 3, .inl (cI, 360, .inl (mCov u))), (a 4, .inl (cI, 6, .inl (mPe u))), (a 5, .inl (cI, 6, .inl (mBe u))), (a 6, .inl (cI, 360, .inl on))]) hD hS hA [0, 1, 2, 3, 4, 5, 6, 7] rfl
  refine va_callv (va_runV (As := [.int (nI np), .int (-1)]) (rest := []) ⟨hx, hb, hml, hown, hts⟩ (c_X0_changeCover l D cI h a u on H.size np (-1) (aN u np) (bN u np) (by omega) hp1 hp2 (by omega) (by omega)) (cwV 2 hts gX0_giveUp_X0_changeCover rfl rfl rfl (by decide +kernel) ⟨Nat.le_of_ble_eq_true rfl, Nat.le_of_ble_eq_true rfl⟩) ⟨wr_blind, va_recv (ci := 0) (q0 := 0) hK hP rfl rfl, fun U hU hW => ⟨rfl, by rw [hU], by rw [hU]; exact hP, va_K.moved hW.alike hK, hD.weaken (fun _ _ _ _ => trivial)⟩⟩ rfl rfl hl.1 rfl (lv_room (Nat.le_of_ble_eq_true rfl)) dX0_giveUp_8 ⟨Nat.le_of_ble_eq_true rfl, Nat.le_of_ble_eq_true rfl⟩) hS (fun q _ h => hFc q h) hFc (fun w t H locs ht hvm hw hB hz1 hk1 hS => ?_)
  subst hw
  obtain ⟨hP1, hK1, hD1⟩ := hB
  rw [ht] at hP1
  have hP : va_P D vwCl [(h, .inr (0, [.ref (a 0), .int (nI (mSc u)), .ref (a 1), .ref (a 2), .int (nI (mNc u)), .ref (a 3), .ref (a 4), .ref (a 5), .int (nI (mBc u)), .ref (a 6), .int (nI (mRoom u)), .int (nI (mRate u)), .int (nI (mSip u)), .int (nI (mTea u)), .int (mSpl u), .int (nI (mNow u)), .int (mAft u)])), (a 0, .inl (cI, 4, .inl (mHt u))), (a 1, .inl (cI, 8, .inl (mFr u))), (a 2, .inl (cI, 8, .inl (mTo u))), (a 3, .inl (cI, 360, .inl (ccv (mCov u) (aN u np) (bN u np) (-1) 360))), (a 4, .inl (cI, 6, .inl (mPe u))), (a 5, .inl (cI, 6, .inl (mBe u))), (a 6, .inl (cI, 360, .inl on))] H := hP1
  have hD : va_D A [(h, .inr (0, [.ref (a 0), .int (nI (mSc u)), .ref (a 1), .ref (a 2), .int (nI (mNc u)), .ref (a 3), .ref (a 4), .ref (a 5), .int (nI (mBc u)), .ref (a 6), .int (nI (mRoom u)), .int (nI (mRate u)), .int (nI (mSip u)), .int (nI (mTea u)), .int (mSpl u), .int (nI (mNow u)), .int (mAft u)])), (a 0, .inl (cI, 4, .inl (mHt u))), (a 1, .inl (cI, 8, .inl (mFr u))), (a 2, .inl (cI, 8, .inl (mTo u))), (a 3, .inl (cI, 360, .inl (ccv (mCov u) (aN u np) (bN u np) (-1) 360))), (a 4, .inl (cI, 6, .inl (mPe u))), (a 5, .inl (cI, 6, .inl (mBe u))), (a 6, .inl (cI, 360, .inl on))] := hD1.weaken (fun k q _ h => hFc q.1 h)
  refine lv_aload_n hx hb dX0_giveUp_11 rfl (lv_at hl 0 rfl) ?_
  refine lv_dup hx hb dX0_giveUp_12 rfl ?_
  refine va_get (D := D) (ci := 0) (v := .int (nI (mNc u))) (C := RX0) (T := TX0) (N := 17) hx hb hts hin hown hK hP 0 rfl rfl 4 (by decide) (hts (.fieldLink RX0 58 "AfternoonMeter" "napCount" "I") (List.mem_of_getElem? (i := 1) rfl)) (fun _ h9 => h9) rfl dX0_giveUp_13 ?_
  refine lv_iconst (v := nI 1) hx hb dX0_giveUp_16 (by decide +kernel) ?_
  refine q_isubN hx hb (by omega) dX0_giveUp_17 ?_
  refine va_put (D := D) (ci := 0) (v := .int (nI ((mNc u) - 1))) (ty := .int) (C := RX0) (T := TX0) (N := 17) hx hb hts hin tyX0 tyX0_ok nmX0 hown hK hP hD hS 0 rfl rfl 4 (by decide) (hts (.fieldLink RX0 58 "AfternoonMeter" "napCount" "I") (List.mem_of_getElem? (i := 1) rfl)) (fun _ h9 => h9) rfl (by decide +kernel) rfl rfl (Nat.le_of_ble_eq_true rfl) dX0_giveUp_18 (fun H locs hP hD hS => ?_)
  have hP : va_P D vwCl [(h, .inr (0, [.ref (a 0), .int (nI (mSc u)), .ref (a 1), .ref (a 2), .int (nI ((mNc u) - 1)), .ref (a 3), .ref (a 4), .ref (a 5), .int (nI (mBc u)), .ref (a 6), .int (nI (mRoom u)), .int (nI (mRate u)), .int (nI (mSip u)), .int (nI (mTea u)), .int (mSpl u), .int (nI (mNow u)), .int (mAft u)])), (a 0, .inl (cI, 4, .inl (mHt u))), (a 1, .inl (cI, 8, .inl (mFr u))), (a 2, .inl (cI, 8, .inl (mTo u))), (a 3, .inl (cI, 360, .inl (ccv (mCov u) (aN u np) (bN u np) (-1) 360))), (a 4, .inl (cI, 6, .inl (mPe u))), (a 5, .inl (cI, 6, .inl (mBe u))), (a 6, .inl (cI, 360, .inl on))] H := hP
  have hD : va_D A [(h, .inr (0, [.ref (a 0), .int (nI (mSc u)), .ref (a 1), .ref (a 2), .int (nI ((mNc u) - 1)), .ref (a 3), .ref (a 4), .ref (a 5), .int (nI (mBc u)), .ref (a 6), .int (nI (mRoom u)), .int (nI (mRate u)), .int (nI (mSip u)), .int (nI (mTea u)), .int (mSpl u), .int (nI (mNow u)), .int (mAft u)])), (a 0, .inl (cI, 4, .inl (mHt u))), (a 1, .inl (cI, 8, .inl (mFr u))), (a 2, .inl (cI, 8, .inl (mTo u))), (a 3, .inl (cI, 360, .inl (ccv (mCov u) (aN u np) (bN u np) (-1) 360))), (a 4, .inl (cI, 6, .inl (mPe u))), (a 5, .inl (cI, 6, .inl (mBe u))), (a 6, .inl (cI, 360, .inl on))] := hD
  refine lv_iload_n hx hb dX0_giveUp_21 rfl (lv_at hl 1 rfl) ?_
  refine lv_istore_n (lv' := [(2, .int (nI np)), (0, .ref h), (1, .int (nI np))]) hx hb dX0_giveUp_22 rfl hl (by decide) rfl (fun ls hl => ?_)
  have lp23 : ∀ (n k : Nat), k + n = mNc u - 1 - np → ∀ (F : Nat → Int32), F = shl (mFr u) np k → ∀ (G : Nat → Int32), G = shl (mTo u) np k → ∀ (H : Heap) (locs : List Loc), va_P D vwCl [(h, .inr (0, [.ref (a 0), .int (nI (mSc u)), .ref (a 1), .ref (a 2), .int (nI ((mNc u) - 1)), .ref (a 3), .ref (a 4), .ref (a 5), .int (nI (mBc u)), .ref (a 6), .int (nI (mRoom u)), .int (nI (mRate u)), .int (nI (mSip u)), .int (nI (mTea u)), .int (mSpl u), .int (nI (mNow u)), .int (mAft u)])), (a 0, .inl (cI, 4, .inl (mHt u))), (a 1, .inl (cI, 8, .inl F)), (a 2, .inl (cI, 8, .inl G)), (a 3, .inl (cI, 360, .inl (ccv (mCov u) (aN u np) (bN u np) (-1) 360))), (a 4, .inl (cI, 6, .inl (mPe u))), (a 5, .inl (cI, 6, .inl (mBe u))), (a 6, .inl (cI, 360, .inl on))] H → va_D A [(h, .inr (0, [.ref (a 0), .int (nI (mSc u)), .ref (a 1), .ref (a 2), .int (nI ((mNc u) - 1)), .ref (a 3), .ref (a 4), .ref (a 5), .int (nI (mBc u)), .ref (a 6), .int (nI (mRoom u)), .int (nI (mRate u)), .int (nI (mSip u)), .int (nI (mTea u)), .int (mSpl u), .int (nI (mNow u)), .int (mAft u)])), (a 0, .inl (cI, 4, .inl (mHt u))), (a 1, .inl (cI, 8, .inl F)), (a 2, .inl (cI, 8, .inl G)), (a 3, .inl (cI, 360, .inl (ccv (mCov u) (aN u np) (bN u np) (-1) 360))), (a 4, .inl (cI, 6, .inl (mPe u))), (a 5, .inl (cI, 6, .inl (mBe u))), (a 6, .inl (cI, 360, .inl on))] → va_S A s.heap H locs → ∀ (ls : Array Slot), lv_has ls 3 [(0, .ref h), (1, .int (nI np)), (2, .int (nI (np + k)))] → W p l e ({ frames := 2, cells := 0, slots := 0, locals := 45 } : Room) s m args below meth c H locs 0 0 (MQ below ((fun A : Nat → Prop => va_Qi (fun (r : Int32) (w : MS × (Nat → Int32)) => r = nI (mNc u - 1) ∧ w = ((mSc u, mNc u - 1, mBc u, mNow u, mRoom u, mRate u, mSip u, mTea u, mSpl u, mAft u, mHt u, shl (mFr u) np (mNc u - 1 - np), shl (mTo u) np (mNc u - 1 - np), ccv (mCov u) (aN u np) (bN u np) (-1) 360, mPe u, mBe u), on)) (fun (w : MS × (Nat → Int32)) (t : State) => va_P D vwCl (pic0 cI h a w.1 w.2) t.heap ∧ va_K D vwCl [(cI, .int)] t ∧ va_D A (pic0 cI h a w.1 w.2)) A) A) args s 0 0 A) (F0 m 23 ls []) := by
    intro n
    induction n with
    | zero =>
      intro k hk F eF G eG H locs hP hD hS ls hl
      have ek : k = mNc u - 1 - np := by omega
      refine lv_iload_n hx hb dX0_giveUp_23 rfl (lv_at hl 2 rfl) ?_
      refine lv_aload_n hx hb dX0_giveUp_24 rfl (lv_at hl 0 rfl) ?_
      refine va_get (D := D) (ci := 0) (v := .int (nI ((mNc u) - 1))) (C := RX0) (T := TX0) (N := 17) hx hb hts hin hown hK hP 0 rfl rfl 4 (by decide) (hts (.fieldLink RX0 58 "AfternoonMeter" "napCount" "I") (List.mem_of_getElem? (i := 1) rfl)) (fun _ h9 => h9) rfl dX0_giveUp_25 ?_
      refine lv_icmp_ge (tgt := 65) hx hb dX0_giveUp_28 (by decide) (fun c_28 => ?_) (fun c_28 => ?_)
      · skip
        replace c_28 : ((mNc u) - 1) ≤ (np + k) := leN c_28
        refine lv_aload_n hx hb dX0_giveUp_65 rfl (lv_at hl 0 rfl) ?_
        refine va_get (D := D) (ci := 0) (v := .int (nI ((mNc u) - 1))) (C := RX0) (T := TX0) (N := 17) hx hb hts hin hown hK hP 0 rfl rfl 4 (by decide) (hts (.fieldLink RX0 58 "AfternoonMeter" "napCount" "I") (List.mem_of_getElem? (i := 1) rfl)) (fun _ h9 => h9) rfl dX0_giveUp_66 ?_
        have hq : nI ((mNc u) - 1) = nI (mNc u - 1) ∧ (((mSc u, (mNc u) - 1, mBc u, mNow u, mRoom u, mRate u, mSip u, mTea u, mSpl u, mAft u, mHt u, F, G, ccv (mCov u) (aN u np) (bN u np) (-1) 360, mPe u, mBe u), on) : MS × (Nat → Int32)) = ((mSc u, mNc u - 1, mBc u, mNow u, mRoom u, mRate u, mSip u, mTea u, mSpl u, mAft u, mHt u, shl (mFr u) np (mNc u - 1 - np), shl (mTo u) np (mNc u - 1 - np), ccv (mCov u) (aN u np) (bN u np) (-1) 360, mPe u, mBe u), on) := by rw [eF, eG, ek]; exact ⟨rfl, rfl⟩
        exact W.iret hx hb hr (fun t ht hW => ⟨⟨_, (((mSc u, (mNc u) - 1, mBc u, mNow u, mRoom u, mRate u, mSip u, mTea u, mSpl u, mAft u, mHt u, F, G, ccv (mCov u) (aN u np) (bN u np) (-1) 360, mPe u, mBe u), on) : MS × (Nat → Int32)), rfl, hq, by rw [ht]; exact hP, va_K.moved hW.alike hK, hD⟩, hS.F ht⟩) hS.2.2 dX0_giveUp_69
      · skip
        replace c_28 : (np + k) < ((mNc u) - 1) := nleN c_28
        exact (by omega : False).elim
    | succ n ih =>
      intro k hk F eF G eG H locs hP hD hS ls hl
      refine lv_iload_n hx hb dX0_giveUp_23 rfl (lv_at hl 2 rfl) ?_
      refine lv_aload_n hx hb dX0_giveUp_24 rfl (lv_at hl 0 rfl) ?_
      refine va_get (D := D) (ci := 0) (v := .int (nI ((mNc u) - 1))) (C := RX0) (T := TX0) (N := 17) hx hb hts hin hown hK hP 0 rfl rfl 4 (by decide) (hts (.fieldLink RX0 58 "AfternoonMeter" "napCount" "I") (List.mem_of_getElem? (i := 1) rfl)) (fun _ h9 => h9) rfl dX0_giveUp_25 ?_
      refine lv_icmp_ge (tgt := 65) hx hb dX0_giveUp_28 (by decide) (fun c_28 => ?_) (fun c_28 => ?_)
      · skip
        replace c_28 : ((mNc u) - 1) ≤ (np + k) := leN c_28
        exact (by omega : False).elim
      · skip
        replace c_28 : (np + k) < ((mNc u) - 1) := nleN c_28
        refine lv_aload_n hx hb dX0_giveUp_31 rfl (lv_at hl 0 rfl) ?_
        refine va_get (D := D) (ci := 0) (v := .ref (a 1)) (C := RX0) (T := TX0) (N := 17) hx hb hts hin hown hK hP 0 rfl rfl 2 (by decide) (hts (.fieldLink RX0 13 "AfternoonMeter" "napStarts" "[I") (List.mem_of_getElem? (i := 2) rfl)) (fun _ h9 => h9) rfl dX0_giveUp_32 ?_
        refine lv_iload_n hx hb dX0_giveUp_35 rfl (lv_at hl 2 rfl) ?_
        refine lv_aload_n hx hb dX0_giveUp_36 rfl (lv_at hl 0 rfl) ?_
        refine va_get (D := D) (ci := 0) (v := .ref (a 1)) (C := RX0) (T := TX0) (N := 17) hx hb hts hin hown hK hP 0 rfl rfl 2 (by decide) (hts (.fieldLink RX0 13 "AfternoonMeter" "napStarts" "[I") (List.mem_of_getElem? (i := 2) rfl)) (fun _ h9 => h9) rfl dX0_giveUp_37 ?_
        refine lv_iload_n hx hb dX0_giveUp_40 rfl (lv_at hl 2 rfl) ?_
        refine lv_iconst (v := nI 1) hx hb dX0_giveUp_41 (by decide +kernel) ?_
        refine q_iaddN hx hb dX0_giveUp_42 ?_
        refine q_iald (v := F ((np + k) + 1)) hx hb hK hP 2 0 rfl rfl (by omega) (by decide) (rfl) dX0_giveUp_43 ?_
        refine q_iast hx hb hK hP hD hS 2 0 rfl rfl (by omega) (by decide) dX0_giveUp_44 (fun H locs hP hD hS => ?_)
        have hP : va_P D vwCl [(h, .inr (0, [.ref (a 0), .int (nI (mSc u)), .ref (a 1), .ref (a 2), .int (nI ((mNc u) - 1)), .ref (a 3), .ref (a 4), .ref (a 5), .int (nI (mBc u)), .ref (a 6), .int (nI (mRoom u)), .int (nI (mRate u)), .int (nI (mSip u)), .int (nI (mTea u)), .int (mSpl u), .int (nI (mNow u)), .int (mAft u)])), (a 0, .inl (cI, 4, .inl (mHt u))), (a 1, .inl (cI, 8, .inl (upd F (np + k) (F ((np + k) + 1))))), (a 2, .inl (cI, 8, .inl G)), (a 3, .inl (cI, 360, .inl (ccv (mCov u) (aN u np) (bN u np) (-1) 360))), (a 4, .inl (cI, 6, .inl (mPe u))), (a 5, .inl (cI, 6, .inl (mBe u))), (a 6, .inl (cI, 360, .inl on))] H := hP
        have hD : va_D A [(h, .inr (0, [.ref (a 0), .int (nI (mSc u)), .ref (a 1), .ref (a 2), .int (nI ((mNc u) - 1)), .ref (a 3), .ref (a 4), .ref (a 5), .int (nI (mBc u)), .ref (a 6), .int (nI (mRoom u)), .int (nI (mRate u)), .int (nI (mSip u)), .int (nI (mTea u)), .int (mSpl u), .int (nI (mNow u)), .int (mAft u)])), (a 0, .inl (cI, 4, .inl (mHt u))), (a 1, .inl (cI, 8, .inl (upd F (np + k) (F ((np + k) + 1))))), (a 2, .inl (cI, 8, .inl G)), (a 3, .inl (cI, 360, .inl (ccv (mCov u) (aN u np) (bN u np) (-1) 360))), (a 4, .inl (cI, 6, .inl (mPe u))), (a 5, .inl (cI, 6, .inl (mBe u))), (a 6, .inl (cI, 360, .inl on))] := hD
        refine lv_aload_n hx hb dX0_giveUp_45 rfl (lv_at hl 0 rfl) ?_
        refine va_get (D := D) (ci := 0) (v := .ref (a 2)) (C := RX0) (T := TX0) (N := 17) hx hb hts hin hown hK hP 0 rfl rfl 3 (by decide) (hts (.fieldLink RX0 16 "AfternoonMeter" "napEnds" "[I") (List.mem_of_getElem? (i := 3) rfl)) (fun _ h9 => h9) rfl dX0_giveUp_46 ?_
        refine lv_iload_n hx hb dX0_giveUp_49 rfl (lv_at hl 2 rfl) ?_
        refine lv_aload_n hx hb dX0_giveUp_50 rfl (lv_at hl 0 rfl) ?_
        refine va_get (D := D) (ci := 0) (v := .ref (a 2)) (C := RX0) (T := TX0) (N := 17) hx hb hts hin hown hK hP 0 rfl rfl 3 (by decide) (hts (.fieldLink RX0 16 "AfternoonMeter" "napEnds" "[I") (List.mem_of_getElem? (i := 3) rfl)) (fun _ h9 => h9) rfl dX0_giveUp_51 ?_
        refine lv_iload_n hx hb dX0_giveUp_54 rfl (lv_at hl 2 rfl) ?_
        refine lv_iconst (v := nI 1) hx hb dX0_giveUp_55 (by decide +kernel) ?_
        refine q_iaddN hx hb dX0_giveUp_56 ?_
        refine q_iald (v := G ((np + k) + 1)) hx hb hK hP 3 0 rfl rfl (by omega) (by decide) (rfl) dX0_giveUp_57 ?_
        refine q_iast hx hb hK hP hD hS 3 0 rfl rfl (by omega) (by decide) dX0_giveUp_58 (fun H locs hP hD hS => ?_)
        have hP : va_P D vwCl [(h, .inr (0, [.ref (a 0), .int (nI (mSc u)), .ref (a 1), .ref (a 2), .int (nI ((mNc u) - 1)), .ref (a 3), .ref (a 4), .ref (a 5), .int (nI (mBc u)), .ref (a 6), .int (nI (mRoom u)), .int (nI (mRate u)), .int (nI (mSip u)), .int (nI (mTea u)), .int (mSpl u), .int (nI (mNow u)), .int (mAft u)])), (a 0, .inl (cI, 4, .inl (mHt u))), (a 1, .inl (cI, 8, .inl (upd F (np + k) (F ((np + k) + 1))))), (a 2, .inl (cI, 8, .inl (upd G (np + k) (G ((np + k) + 1))))), (a 3, .inl (cI, 360, .inl (ccv (mCov u) (aN u np) (bN u np) (-1) 360))), (a 4, .inl (cI, 6, .inl (mPe u))), (a 5, .inl (cI, 6, .inl (mBe u))), (a 6, .inl (cI, 360, .inl on))] H := hP
        have hD : va_D A [(h, .inr (0, [.ref (a 0), .int (nI (mSc u)), .ref (a 1), .ref (a 2), .int (nI ((mNc u) - 1)), .ref (a 3), .ref (a 4), .ref (a 5), .int (nI (mBc u)), .ref (a 6), .int (nI (mRoom u)), .int (nI (mRate u)), .int (nI (mSip u)), .int (nI (mTea u)), .int (mSpl u), .int (nI (mNow u)), .int (mAft u)])), (a 0, .inl (cI, 4, .inl (mHt u))), (a 1, .inl (cI, 8, .inl (upd F (np + k) (F ((np + k) + 1))))), (a 2, .inl (cI, 8, .inl (upd G (np + k) (G ((np + k) + 1))))), (a 3, .inl (cI, 360, .inl (ccv (mCov u) (aN u np) (bN u np) (-1) 360))), (a 4, .inl (cI, 6, .inl (mPe u))), (a 5, .inl (cI, 6, .inl (mBe u))), (a 6, .inl (cI, 360, .inl on))] := hD
        refine lv_iinc (v := nI (np + k + 1)) (lv' := [(2, .int (nI (np + k + 1))), (0, .ref h), (1, .int (nI np))]) hx hb dX0_giveUp_59 hl (k := 2) rfl (nI_i1 _) (by decide) rfl (fun ls hl => ?_)
        refine lv_goto (tgt := 23) hx hb dX0_giveUp_62 (by decide) ?_
        exact ih (k + 1) (by omega) (upd F (np + k) (F ((np + k) + 1))) (by subst eF; exact shl_s) (upd G (np + k) (G ((np + k) + 1))) (by subst eG; exact shl_s) H locs hP hD hS _ (lv_sub hl [1, 2, 0] rfl)
  exact lp23 _ 0 (Nat.zero_add _) (mFr u) (by exact shl_0) (mTo u) (by exact shl_0) _ _ hP hD hS _ (lv_sub hl [1, 2, 0] rfl)
set_option maxHeartbeats 4000000 in
set_option maxRecDepth 100000 in
theorem c_X0_addBee (l : Launch) (D : va_G) (cI : ClassId) (h : Nat) (a : Nat → Nat) (u : MS) (on : Nat → Int32) (sz : Nat) (pp : Nat) (qq : Nat) (hI : Inv u) (hp : 2 ≤ pp ∧ pp ≤ 30 ∧ qq < pp) (hs6 : mBc u < 6) : Met l yX0_addBee wsX0_addBee ({ frames := 1, cells := 0, slots := 0, locals := 23 } : Room) (va_Pc [.ref h, .int (nI pp), .int (nI qq)] (fun U => U.heap.size = sz ∧ va_P D vwCl (pic0 cI h a u on) U.heap ∧ va_K D vwCl [(cI, .int)] U ∧ va_D (fun _ => True) (pic0 cI h a u on))) ((fun A : Nat → Prop => va_Qi (fun (r : Int32) (w : MS × (Nat → Int32)) => r = nI (mBc u) ∧ w = ((mSc u, mNc u, mBc u + 1, mNow u, mRoom u, mRate u, mSip u, mTea u, mSpl u, mAft u, mHt u, mFr u, mTo u, mCov u, upd (mPe u) (mBc u) (nI pp), upd (mBe u) (mBc u) (nI qq)), obv on pp qq 360)) (fun (w : MS × (Nat → Int32)) (t : State) => va_P D vwCl (pic0 cI h a w.1 w.2) t.heap ∧ va_K D vwCl [(cI, .int)] t ∧ va_D A (pic0 cI h a w.1 w.2)) A) (va_A (pic0 cI h a u on) sz)) 0 0 (va_A (pic0 cI h a u on) sz) := by
  refine en_wr (cc := cX0_addBee) (maxL := 5) (ret := (some .int)) _ _ (fun A : Nat → Prop => va_Qi (fun (r : Int32) (w : MS × (Nat → Int32)) => r = nI (mBc u) ∧ w = ((mSc u, mNc u, mBc u + 1, mNow u, mRoom u, mRate u, mSip u, mTea u, mSpl u, mAft u, mHt u, mFr u, mTo u, mCov u, upd (mPe u) (mBc u) (nI pp), upd (mBe u) (mBc u) (nI qq)), obv on pp qq 360)) (fun (w : MS × (Nat → Int32)) (t : State) => va_P D vwCl (pic0 cI h a w.1 w.2) t.heap ∧ va_K D vwCl [(cI, .int)] t ∧ va_D A (pic0 cI h a w.1 w.2)) A) (by decide) rfl (Nat.le_of_ble_eq_true rfl) ?_
  intro p e s m args below meth c ls A H locs hx hb hml hr hlocks hts hown hP hK hD hA hS hl
  have hown : s.vm.findClass RX0 = some m.cls := hown
  have hin : ∀ w ∈ wsX00, w ∈ wsX0_addBee := fun _ h9 => List.mem_cons_of_mem _ (List.mem_append_left _ (List.mem_append_left _ (List.mem_append_right _ h9)))
  have hl : lv_has ls 5 [(0, .ref h), (1, .int (nI pp)), (2, .int (nI qq))] := hl
  obtain ⟨hIa, hIb, hIc, hId, hIe, hIf, hIg, hIh, hIi, hIj⟩ := id hI
  refine lv_iload_n hx hb dX0_addBee_0 rfl (lv_at hl 1 rfl) ?_
  refine lv_iconst (v := nI 2) hx hb dX0_addBee_1 (by decide +kernel) ?_
  refine lv_icmp_lt (tgt := 20) hx hb dX0_addBee_2 (by decide) (fun c_2 => ?_) (fun c_2 => ?_)
  · skip
    replace c_2 : pp < 2 := ltN c_2
    exact (by omega : False).elim
  · skip
    replace c_2 : 2 ≤ pp := nltN c_2
    refine lv_iload_n hx hb dX0_addBee_5 rfl (lv_at hl 1 rfl) ?_
    refine lv_bipush (v := nI 30) hx hb dX0_addBee_6 (by decide +kernel) ?_
    refine lv_icmp_gt (tgt := 20) hx hb dX0_addBee_8 (by decide) (fun c_8 => ?_) (fun c_8 => ?_)
    · skip
      replace c_8 : 30 < pp := ltN c_8
      exact (by omega : False).elim
    · skip
      replace c_8 : pp ≤ 30 := nltN c_8
      refine lv_iload_n hx hb dX0_addBee_11 rfl (lv_at hl 2 rfl) ?_
      refine lv_if_lt (tgt := 20) hx hb dX0_addBee_12 (by decide) (fun c_12 => ?_) (fun c_12 => ?_)
      · skip
        replace c_12 : qq < 0 := ltN c_12
        exact (by omega : False).elim
      · skip
        replace c_12 : 0 ≤ qq := nltN c_12
        refine lv_iload_n hx hb dX0_addBee_15 rfl (lv_at hl 2 rfl) ?_
        refine lv_iload_n hx hb dX0_addBee_16 rfl (lv_at hl 1 rfl) ?_
        refine lv_icmp_lt (tgt := 30) hx hb dX0_addBee_17 (by decide) (fun c_17 => ?_) (fun c_17 => ?_)
        · skip
          replace c_17 : qq < pp := ltN c_17
          refine lv_aload_n hx hb dX0_addBee_30 rfl (lv_at hl 0 rfl) ?_
          refine va_get (D := D) (ci := 0) (v := .int (nI (mBc u))) (C := RX0) (T := TX0) (N := 17) hx hb hts hin hown hK hP 0 rfl rfl 8 (by decide) (hts (.fieldLink RX0 73 "AfternoonMeter" "beeCount" "I") (List.mem_of_getElem? (i := 5) rfl)) (fun _ h9 => h9) rfl dX0_addBee_31 ?_
          refine lv_bipush (v := nI 6) hx hb dX0_addBee_34 (by decide +kernel) ?_
          refine lv_icmp_lt (tgt := 49) hx hb dX0_addBee_36 (by decide) (fun c_36 => ?_) (fun c_36 => ?_)
          · skip
            replace c_36 : (mBc u) < 6 := ltN c_36
            refine lv_aload_n hx hb dX0_addBee_49 rfl (lv_at hl 0 rfl) ?_
            refine va_get (D := D) (ci := 0) (v := .int (nI (mBc u))) (C := RX0) (T := TX0) (N := 17) hx hb hts hin hown hK hP 0 rfl rfl 8 (by decide) (hts (.fieldLink RX0 73 "AfternoonMeter" "beeCount" "I") (List.mem_of_getElem? (i := 5) rfl)) (fun _ h9 => h9) rfl dX0_addBee_50 ?_
            refine lv_istore_n (lv' := [(3, .int (nI (mBc u))), (0, .ref h), (1, .int (nI pp)), (2, .int (nI qq))]) hx hb dX0_addBee_53 rfl hl (by decide) rfl (fun ls hl => ?_)
            refine lv_aload_n hx hb dX0_addBee_54 rfl (lv_at hl 1 rfl) ?_
            refine va_get (D := D) (ci := 0) (v := .ref (a 4)) (C := RX0) (T := TX0) (N := 17) hx hb hts hin hown hK hP 0 rfl rfl 6 (by decide) (hts (.fieldLink RX0 22 "AfternoonMeter" "periods" "[I") (List.mem_of_getElem? (i := 6) rfl)) (fun _ h9 => h9) rfl dX0_addBee_55 ?_
            refine lv_iload_n hx hb dX0_addBee_58 rfl (lv_at hl 0 rfl) ?_
            refine lv_iload_n hx hb dX0_addBee_59 rfl (lv_at hl 2 rfl) ?_
            refine q_iast hx hb hK hP hD hS 5 0 rfl rfl (by omega) (by decide) dX0_addBee_60 (fun H locs hP hD hS => ?_)
            have hP : va_P D vwCl [(h, .inr (0, [.ref (a 0), .int (nI (mSc u)), .ref (a 1), .ref (a 2), .int (nI (mNc u)), .ref (a 3), .ref (a 4), .ref (a 5), .int (nI (mBc u)), .ref (a 6), .int (nI (mRoom u)), .int (nI (mRate u)), .int (nI (mSip u)), .int (nI (mTea u)), .int (mSpl u), .int (nI (mNow u)), .int (mAft u)])), (a 0, .inl (cI, 4, .inl (mHt u))), (a 1, .inl (cI, 8, .inl (mFr u))), (a 2, .inl (cI, 8, .inl (mTo u))), (a 3, .inl (cI, 360, .inl (mCov u))), (a 4, .inl (cI, 6, .inl (upd (mPe u) (mBc u) (nI pp)))), (a 5, .inl (cI, 6, .inl (mBe u))), (a 6, .inl (cI, 360, .inl on))] H := hP
            have hD : va_D A [(h, .inr (0, [.ref (a 0), .int (nI (mSc u)), .ref (a 1), .ref (a 2), .int (nI (mNc u)), .ref (a 3), .ref (a 4), .ref (a 5), .int (nI (mBc u)), .ref (a 6), .int (nI (mRoom u)), .int (nI (mRate u)), .int (nI (mSip u)), .int (nI (mTea u)), .int (mSpl u), .int (nI (mNow u)), .int (mAft u)])), (a 0, .inl (cI, 4, .inl (mHt u))), (a 1, .inl (cI, 8, .inl (mFr u))), (a 2, .inl (cI, 8, .inl (mTo u))), (a 3, .inl (cI, 360, .inl (mCov u))), (a 4, .inl (cI, 6, .inl (upd (mPe u) (mBc u) (nI pp)))), (a 5, .inl (cI, 6, .inl (mBe u))), (a 6, .inl (cI, 360, .inl on))] := hD
            refine lv_aload_n hx hb dX0_addBee_61 rfl (lv_at hl 1 rfl) ?_
            refine va_get (D := D) (ci := 0) (v := .ref (a 5)) (C := RX0) (T := TX0) (N := 17) hx hb hts hin hown hK hP 0 rfl rfl 7 (by decide) (hts (.fieldLink RX0 25 "AfternoonMeter" "beats" "[I") (List.mem_of_getElem? (i := 7) rfl)) (fun _ h9 => h9) rfl dX0_addBee_62 ?_
            refine lv_iload_n hx hb dX0_addBee_65 rfl (lv_at hl 0 rfl) ?_
            refine lv_iload_n hx hb dX0_addBee_66 rfl (lv_at hl 3 rfl) ?_
            refine q_iast hx hb hK hP hD hS 6 0 rfl rfl (by omega) (by decide) dX0_addBee_67 (fun H locs hP hD hS => ?_)
            have hP : va_P D vwCl [(h, .inr (0, [.ref (a 0), .int (nI (mSc u)), .ref (a 1), .ref (a 2), .int (nI (mNc u)), .ref (a 3), .ref (a 4), .ref (a 5), .int (nI (mBc u)), .ref (a 6), .int (nI (mRoom u)), .int (nI (mRate u)), .int (nI (mSip u)), .int (nI (mTea u)), .int (mSpl u), .int (nI (mNow u)), .int (mAft u)])), (a 0, .inl (cI, 4, .inl (mHt u))), (a 1, .inl (cI, 8, .inl (mFr u))), (a 2, .inl (cI, 8, .inl (mTo u))), (a 3, .inl (cI, 360, .inl (mCov u))), (a 4, .inl (cI, 6, .inl (upd (mPe u) (mBc u) (nI pp)))), (a 5, .inl (cI, 6, .inl (upd (mBe u) (mBc u) (nI qq)))), (a 6, .inl (cI, 360, .inl on))] H := hP
            have hD : va_D A [(h, .inr (0, [.ref (a 0), .int (nI (mSc u)), .ref (a 1), .ref (a 2), .int (nI (mNc u)), .ref (a 3), .ref (a 4), .ref (a 5), .int (nI (mBc u)), .ref (a 6), .int (nI (mRoom u)), .int (nI (mRate u)), .int (nI (mSip u)), .int (nI (mTea u)), .int (mSpl u), .int (nI (mNow u)), .int (mAft u)])), (a 0, .inl (cI, 4, .inl (mHt u))), (a 1, .inl (cI, 8, .inl (mFr u))), (a 2, .inl (cI, 8, .inl (mTo u))), (a 3, .inl (cI, 360, .inl (mCov u))), (a 4, .inl (cI, 6, .inl (upd (mPe u) (mBc u) (nI pp)))), (a 5, .inl (cI, 6, .inl (upd (mBe u) (mBc u) (nI qq)))), (a 6, .inl (cI, 360, .inl on))] := hD
            refine lv_aload_n hx hb dX0_addBee_68 rfl (lv_at hl 1 rfl) ?_
            refine lv_dup hx hb dX0_addBee_69 rfl ?_
            refine va_get (D := D) (ci := 0) (v := .int (nI (mBc u))) (C := RX0) (T := TX0) (N := 17) hx hb hts hin hown hK hP 0 rfl rfl 8 (by decide) (hts (.fieldLink RX0 73 "AfternoonMeter" "beeCount" "I") (List.mem_of_getElem? (i := 5) rfl)) (fun _ h9 => h9) rfl dX0_addBee_70 ?_
            refine lv_iconst (v := nI 1) hx hb dX0_addBee_73 (by decide +kernel) ?_
            refine q_iaddN hx hb dX0_addBee_74 ?_
            refine va_put (D := D) (ci := 0) (v := .int (nI ((mBc u) + 1))) (ty := .int) (C := RX0) (T := TX0) (N := 17) hx hb hts hin tyX0 tyX0_ok nmX0 hown hK hP hD hS 0 rfl rfl 8 (by decide) (hts (.fieldLink RX0 73 "AfternoonMeter" "beeCount" "I") (List.mem_of_getElem? (i := 5) rfl)) (fun _ h9 => h9) rfl (by decide +kernel) rfl rfl (Nat.le_of_ble_eq_true rfl) dX0_addBee_75 (fun H locs hP hD hS => ?_)
            have hP : va_P D vwCl [(h, .inr (0, [.ref (a 0), .int (nI (mSc u)), .ref (a 1), .ref (a 2), .int (nI (mNc u)), .ref (a 3), .ref (a 4), .ref (a 5), .int (nI ((mBc u) + 1)), .ref (a 6), .int (nI (mRoom u)), .int (nI (mRate u)), .int (nI (mSip u)), .int (nI (mTea u)), .int (mSpl u), .int (nI (mNow u)), .int (mAft u)])), (a 0, .inl (cI, 4, .inl (mHt u))), (a 1, .inl (cI, 8, .inl (mFr u))), (a 2, .inl (cI, 8, .inl (mTo u))), (a 3, .inl (cI, 360, .inl (mCov u))), (a 4, .inl (cI, 6, .inl (upd (mPe u) (mBc u) (nI pp)))), (a 5, .inl (cI, 6, .inl (upd (mBe u) (mBc u) (nI qq)))), (a 6, .inl (cI, 360, .inl on))] H := hP
            have hD : va_D A [(h, .inr (0, [.ref (a 0), .int (nI (mSc u)), .ref (a 1), .ref (a 2), .int (nI (mNc u)), .ref (a 3), .ref (a 4), .ref (a 5), .int (nI ((mBc u) + 1)), .ref (a 6), .int (nI (mRoom u)), .int (nI (mRate u)), .int (nI (mSip u)), .int (nI (mTea u)), .int (mSpl u), .int (nI (mNow u)), .int (mAft u)])), (a 0, .inl (cI, 4, .inl (mHt u))), (a 1, .inl (cI, 8, .inl (mFr u))), (a 2, .inl (cI, 8, .inl (mTo u))), (a 3, .inl (cI, 360, .inl (mCov u))), (a 4, .inl (cI, 6, .inl (upd (mPe u) (mBc u) (nI pp)))), (a 5, .inl (cI, 6, .inl (upd (mBe u) (mBc u) (nI qq)))), (a 6, .inl (cI, 360, .inl on))] := hD
            refine lv_iconst (v := nI 0) hx hb dX0_addBee_78 (by decide +kernel) ?_
            refine lv_istore (lv' := [(4, .int (nI 0)), (3, .int (nI (mBc u))), (0, .ref h), (1, .int (nI pp)), (2, .int (nI qq))]) hx hb dX0_addBee_79 hl (by decide) rfl (fun ls hl => ?_)
            have lp81 : ∀ (n k : Nat), k + n = 360 → ∀ (Z : Nat → Int32), Z = obv on pp qq k → ∀ (H : Heap) (locs : List Loc), va_P D vwCl [(h, .inr (0, [.ref (a 0), .int (nI (mSc u)), .ref (a 1), .ref (a 2), .int (nI (mNc u)), .ref (a 3), .ref (a 4), .ref (a 5), .int (nI ((mBc u) + 1)), .ref (a 6), .int (nI (mRoom u)), .int (nI (mRate u)), .int (nI (mSip u)), .int (nI (mTea u)), .int (mSpl u), .int (nI (mNow u)), .int (mAft u)])), (a 0, .inl (cI, 4, .inl (mHt u))), (a 1, .inl (cI, 8, .inl (mFr u))), (a 2, .inl (cI, 8, .inl (mTo u))), (a 3, .inl (cI, 360, .inl (mCov u))), (a 4, .inl (cI, 6, .inl (upd (mPe u) (mBc u) (nI pp)))), (a 5, .inl (cI, 6, .inl (upd (mBe u) (mBc u) (nI qq)))), (a 6, .inl (cI, 360, .inl Z))] H → va_D A [(h, .inr (0, [.ref (a 0), .int (nI (mSc u)), .ref (a 1), .ref (a 2), .int (nI (mNc u)), .ref (a 3), .ref (a 4), .ref (a 5), .int (nI ((mBc u) + 1)), .ref (a 6), .int (nI (mRoom u)), .int (nI (mRate u)), .int (nI (mSip u)), .int (nI (mTea u)), .int (mSpl u), .int (nI (mNow u)), .int (mAft u)])), (a 0, .inl (cI, 4, .inl (mHt u))), (a 1, .inl (cI, 8, .inl (mFr u))), (a 2, .inl (cI, 8, .inl (mTo u))), (a 3, .inl (cI, 360, .inl (mCov u))), (a 4, .inl (cI, 6, .inl (upd (mPe u) (mBc u) (nI pp)))), (a 5, .inl (cI, 6, .inl (upd (mBe u) (mBc u) (nI qq)))), (a 6, .inl (cI, 360, .inl Z))] → va_S A s.heap H locs → ∀ (ls : Array Slot), lv_has ls 5 [(0, .ref h), (1, .int (nI pp)), (2, .int (nI qq)), (3, .int (nI (mBc u))), (4, .int (nI k))] → W p l e ({ frames := 1, cells := 0, slots := 0, locals := 23 } : Room) s m args below meth c H locs 0 0 (MQ below ((fun A : Nat → Prop => va_Qi (fun (r : Int32) (w : MS × (Nat → Int32)) => r = nI (mBc u) ∧ w = ((mSc u, mNc u, mBc u + 1, mNow u, mRoom u, mRate u, mSip u, mTea u, mSpl u, mAft u, mHt u, mFr u, mTo u, mCov u, upd (mPe u) (mBc u) (nI pp), upd (mBe u) (mBc u) (nI qq)), obv on pp qq 360)) (fun (w : MS × (Nat → Int32)) (t : State) => va_P D vwCl (pic0 cI h a w.1 w.2) t.heap ∧ va_K D vwCl [(cI, .int)] t ∧ va_D A (pic0 cI h a w.1 w.2)) A) A) args s 0 0 A) (F0 m 81 ls []) := by
              intro n
              induction n with
              | zero =>
                intro k hk Z eZ H locs hP hD hS ls hl
                have ek : k = 360 := by omega
                refine lv_iload hx hb dX0_addBee_81 (lv_at hl 4 rfl) ?_
                refine lv_sipush (v := nI 360) hx hb dX0_addBee_83 (by decide +kernel) ?_
                refine lv_icmp_ge (tgt := 116) hx hb dX0_addBee_86 (by decide) (fun c_86 => ?_) (fun c_86 => ?_)
                · skip
                  replace c_86 : 360 ≤ k := leN c_86
                  refine lv_iload_n hx hb dX0_addBee_116 rfl (lv_at hl 3 rfl) ?_
                  have hq : nI (mBc u) = nI (mBc u) ∧ (((mSc u, mNc u, (mBc u) + 1, mNow u, mRoom u, mRate u, mSip u, mTea u, mSpl u, mAft u, mHt u, mFr u, mTo u, mCov u, upd (mPe u) (mBc u) (nI pp), upd (mBe u) (mBc u) (nI qq)), Z) : MS × (Nat → Int32)) = ((mSc u, mNc u, mBc u + 1, mNow u, mRoom u, mRate u, mSip u, mTea u, mSpl u, mAft u, mHt u, mFr u, mTo u, mCov u, upd (mPe u) (mBc u) (nI pp), upd (mBe u) (mBc u) (nI qq)), obv on pp qq 360) := by rw [eZ, ek]; exact ⟨rfl, rfl⟩
                  exact W.iret hx hb hr (fun t ht hW => ⟨⟨_, (((mSc u, mNc u, (mBc u) + 1, mNow u, mRoom u, mRate u, mSip u, mTea u, mSpl u, mAft u, mHt u, mFr u, mTo u, mCov u, upd (mPe u) (mBc u) (nI pp), upd (mBe u) (mBc u) (nI qq)), Z) : MS × (Nat → Int32)), rfl, hq, by rw [ht]; exact hP, va_K.moved hW.alike hK, hD⟩, hS.F ht⟩) hS.2.2 dX0_addBee_117
                · skip
                  replace c_86 : k < 360 := nleN c_86
                  exact (by omega : False).elim
              | succ n ih =>
                intro k hk Z eZ H locs hP hD hS ls hl
                refine lv_iload hx hb dX0_addBee_81 (lv_at hl 4 rfl) ?_
                refine lv_sipush (v := nI 360) hx hb dX0_addBee_83 (by decide +kernel) ?_
                refine lv_icmp_ge (tgt := 116) hx hb dX0_addBee_86 (by decide) (fun c_86 => ?_) (fun c_86 => ?_)
                · skip
                  replace c_86 : 360 ≤ k := leN c_86
                  exact (by omega : False).elim
                · skip
                  replace c_86 : k < 360 := nleN c_86
                  refine lv_aload_n hx hb dX0_addBee_89 rfl (lv_at hl 0 rfl) ?_
                  refine lv_iload_n hx hb dX0_addBee_90 rfl (lv_at hl 3 rfl) ?_
                  refine lv_iload hx hb dX0_addBee_91 (lv_at hl 4 rfl) ?_
                  refine vp_callSi (W.runV (As := [.int (nI (mBc u)), .int (nI k)]) (rest := []) ⟨hx, hb, hml, hown, hts⟩ (c_X0_hasBeatIn l D cI h a (mSc u, mNc u, (mBc u) + 1, mNow u, mRoom u, mRate u, mSip u, mTea u, mSpl u, mAft u, mHt u, mFr u, mTo u, mCov u, upd (mPe u) (mBc u) (nI pp), upd (mBe u) (mBc u) (nI qq)) Z (mBc u) k pp qq (by omega) pk_us pk_us (by omega) (by omega) (by omega)) (cwV 2 hts gX0_addBee_X0_hasBeatIn rfl rfl rfl (by decide +kernel) ⟨Nat.le_of_ble_eq_true rfl, Nat.le_of_ble_eq_true rfl⟩) (pu_pre hK hP rfl rfl) rfl rfl hl.1 rfl (lv_room (Nat.le_of_ble_eq_true rfl)) dX0_addBee_93 ⟨Nat.le_of_ble_eq_true rfl, Nat.le_of_ble_eq_true rfl⟩) (fun r hr => ?_)
                  subst hr
                  refine lv_if_eq (tgt := 110) hx hb dX0_addBee_96 (by decide) (fun c_96 => ?_) (fun c_96 => ?_)
                  · skip
                    replace c_96 : (ht2 pp qq k) = false := bI_eq0 c_96
                    refine lv_iinc (v := nI (k + 1)) (lv' := [(4, .int (nI (k + 1))), (0, .ref h), (1, .int (nI pp)), (2, .int (nI qq)), (3, .int (nI (mBc u)))]) hx hb dX0_addBee_110 hl (k := 4) rfl (nI_i1 _) (by decide) rfl (fun ls hl => ?_)
                    refine lv_goto (tgt := 81) hx hb dX0_addBee_113 (by decide) ?_
                    exact ih (k + 1) (by omega) Z (by subst eZ; exact obv_f c_96) H locs hP hD hS _ (lv_sub hl [1, 2, 3, 4, 0] rfl)
                  · skip
                    replace c_96 : (ht2 pp qq k) = true := bI_ne0 c_96
                    refine lv_aload_n hx hb dX0_addBee_99 rfl (lv_at hl 0 rfl) ?_
                    refine va_get (D := D) (ci := 0) (v := .ref (a 6)) (C := RX0) (T := TX0) (N := 17) hx hb hts hin hown hK hP 0 rfl rfl 9 (by decide) (hts (.fieldLink RX0 28 "AfternoonMeter" "beesOn" "[I") (List.mem_of_getElem? (i := 8) rfl)) (fun _ h9 => h9) rfl dX0_addBee_100 ?_
                    refine lv_iload hx hb dX0_addBee_103 (lv_at hl 4 rfl) ?_
                    refine lv_dup2_11 hx hb dX0_addBee_105 rfl rfl ?_
                    refine q_iald (v := Z k) hx hb hK hP 7 0 rfl rfl (by omega) (by decide) (rfl) dX0_addBee_106 ?_
                    refine lv_iconst (v := nI 1) hx hb dX0_addBee_107 (by decide +kernel) ?_
                    refine lv_iadd hx hb dX0_addBee_108 ?_
                    refine q_iast hx hb hK hP hD hS 7 0 rfl rfl (by omega) (by decide) dX0_addBee_109 (fun H locs hP hD hS => ?_)
                    have hP : va_P D vwCl [(h, .inr (0, [.ref (a 0), .int (nI (mSc u)), .ref (a 1), .ref (a 2), .int (nI (mNc u)), .ref (a 3), .ref (a 4), .ref (a 5), .int (nI ((mBc u) + 1)), .ref (a 6), .int (nI (mRoom u)), .int (nI (mRate u)), .int (nI (mSip u)), .int (nI (mTea u)), .int (mSpl u), .int (nI (mNow u)), .int (mAft u)])), (a 0, .inl (cI, 4, .inl (mHt u))), (a 1, .inl (cI, 8, .inl (mFr u))), (a 2, .inl (cI, 8, .inl (mTo u))), (a 3, .inl (cI, 360, .inl (mCov u))), (a 4, .inl (cI, 6, .inl (upd (mPe u) (mBc u) (nI pp)))), (a 5, .inl (cI, 6, .inl (upd (mBe u) (mBc u) (nI qq)))), (a 6, .inl (cI, 360, .inl (upd Z k ((Z k) + (nI 1)))))] H := hP
                    have hD : va_D A [(h, .inr (0, [.ref (a 0), .int (nI (mSc u)), .ref (a 1), .ref (a 2), .int (nI (mNc u)), .ref (a 3), .ref (a 4), .ref (a 5), .int (nI ((mBc u) + 1)), .ref (a 6), .int (nI (mRoom u)), .int (nI (mRate u)), .int (nI (mSip u)), .int (nI (mTea u)), .int (mSpl u), .int (nI (mNow u)), .int (mAft u)])), (a 0, .inl (cI, 4, .inl (mHt u))), (a 1, .inl (cI, 8, .inl (mFr u))), (a 2, .inl (cI, 8, .inl (mTo u))), (a 3, .inl (cI, 360, .inl (mCov u))), (a 4, .inl (cI, 6, .inl (upd (mPe u) (mBc u) (nI pp)))), (a 5, .inl (cI, 6, .inl (upd (mBe u) (mBc u) (nI qq)))), (a 6, .inl (cI, 360, .inl (upd Z k ((Z k) + (nI 1)))))] := hD
                    refine lv_iinc (v := nI (k + 1)) (lv' := [(4, .int (nI (k + 1))), (0, .ref h), (1, .int (nI pp)), (2, .int (nI qq)), (3, .int (nI (mBc u)))]) hx hb dX0_addBee_110 hl (k := 4) rfl (nI_i1 _) (by decide) rfl (fun ls hl => ?_)
                    refine lv_goto (tgt := 81) hx hb dX0_addBee_113 (by decide) ?_
                    exact ih (k + 1) (by omega) (upd Z k ((Z k) + (nI 1))) (by subst eZ; exact obv_t c_96) H locs hP hD hS _ (lv_sub hl [1, 2, 3, 4, 0] rfl)
            exact lp81 _ 0 (Nat.zero_add _) on (by exact obv_0) _ _ hP hD hS _ (lv_sub hl [2, 3, 4, 1, 0] rfl)
          · skip
            replace c_36 : 6 ≤ (mBc u) := nltN c_36
            exact (by omega : False).elim
        · skip
          replace c_17 : pp ≤ qq := nltN c_17
          exact (by omega : False).elim
set_option maxHeartbeats 4000000 in
set_option maxRecDepth 100000 in
theorem c_X0_setTea (l : Launch) (D : va_G) (cI : ClassId) (h : Nat) (a : Nat → Nat) (u : MS) (on : Nat → Int32) (sz : Nat) (p1 : Nat) (p2 : Nat) (p3 : Nat) (hI : Inv u) (hp : 1 ≤ p1 ∧ p1 ≤ 50 ∧ p2 ≤ 9 ∧ p3 ≤ 9) : Met l yX0_setTea wsX0_setTea ({ frames := 3, cells := 0, slots := 0, locals := 56 } : Room) (va_Pc [.ref h, .int (nI p1), .int (nI p2), .int (nI p3)] (fun U => U.heap.size = sz ∧ va_P D vwCl (pic0 cI h a u on) U.heap ∧ va_K D vwCl [(cI, .int)] U ∧ va_D (fun _ => True) (pic0 cI h a u on))) ((fun A : Nat → Prop => va_Qi (fun (r : Int32) (w : MS × (Nat → Int32)) => r = nI (mTea u - p1) ∧ w = ((mSc u, mNc u, mBc u, mNow u, p1, p2, p3, mTea u - (mTea u - p1), mSpl u + nI (mTea u - p1), mAft u, mHt u, mFr u, mTo u, mCov u, mPe u, mBe u), on)) (fun (w : MS × (Nat → Int32)) (t : State) => va_P D vwCl (pic0 cI h a w.1 w.2) t.heap ∧ va_K D vwCl [(cI, .int)] t ∧ va_D A (pic0 cI h a w.1 w.2)) A) (va_A (pic0 cI h a u on) sz)) 0 0 (va_A (pic0 cI h a u on) sz) := by
  refine en_wr (cc := cX0_setTea) (maxL := 4) (ret := (some .int)) _ _ (fun A : Nat → Prop => va_Qi (fun (r : Int32) (w : MS × (Nat → Int32)) => r = nI (mTea u - p1) ∧ w = ((mSc u, mNc u, mBc u, mNow u, p1, p2, p3, mTea u - (mTea u - p1), mSpl u + nI (mTea u - p1), mAft u, mHt u, mFr u, mTo u, mCov u, mPe u, mBe u), on)) (fun (w : MS × (Nat → Int32)) (t : State) => va_P D vwCl (pic0 cI h a w.1 w.2) t.heap ∧ va_K D vwCl [(cI, .int)] t ∧ va_D A (pic0 cI h a w.1 w.2)) A) (by decide) rfl (Nat.le_of_ble_eq_true rfl) ?_
  intro p e s m args below meth c ls A H locs hx hb hml hr hlocks hts hown hP hK hD hA hS hl
  have hown : s.vm.findClass RX0 = some m.cls := hown
  have hin : ∀ w ∈ wsX00, w ∈ wsX0_setTea := fun _ h9 => List.mem_cons_of_mem _ (List.mem_append_left _ (List.mem_append_right _ h9))
  have hl : lv_has ls 4 [(0, .ref h), (1, .int (nI p1)), (2, .int (nI p2)), (3, .int (nI p3))] := hl
  obtain ⟨hIa, hIb, hIc, hId, hIe, hIf, hIg, hIh, hIi, hIj⟩ := id hI
  refine lv_iload_n hx hb dX0_setTea_0 rfl (lv_at hl 1 rfl) ?_
  refine lv_iconst (v := nI 1) hx hb dX0_setTea_1 (by decide +kernel) ?_
  refine lv_icmp_lt (tgt := 11) hx hb dX0_setTea_2 (by decide) (fun c_2 => ?_) (fun c_2 => ?_)
  · skip
    replace c_2 : p1 < 1 := ltN c_2
    exact (by omega : False).elim
  · skip
    replace c_2 : 1 ≤ p1 := nltN c_2
    refine lv_iload_n hx hb dX0_setTea_5 rfl (lv_at hl 1 rfl) ?_
    refine lv_bipush (v := nI 50) hx hb dX0_setTea_6 (by decide +kernel) ?_
    refine lv_icmp_le (tgt := 21) hx hb dX0_setTea_8 (by decide) (fun c_8 => ?_) (fun c_8 => ?_)
    · skip
      replace c_8 : p1 ≤ 50 := leN c_8
      refine lv_iload_n hx hb dX0_setTea_21 rfl (lv_at hl 2 rfl) ?_
      refine lv_if_lt (tgt := 31) hx hb dX0_setTea_22 (by decide) (fun c_22 => ?_) (fun c_22 => ?_)
      · skip
        replace c_22 : p2 < 0 := ltN c_22
        exact (by omega : False).elim
      · skip
        replace c_22 : 0 ≤ p2 := nltN c_22
        refine lv_iload_n hx hb dX0_setTea_25 rfl (lv_at hl 2 rfl) ?_
        refine lv_bipush (v := nI 9) hx hb dX0_setTea_26 (by decide +kernel) ?_
        refine lv_icmp_le (tgt := 41) hx hb dX0_setTea_28 (by decide) (fun c_28 => ?_) (fun c_28 => ?_)
        · skip
          replace c_28 : p2 ≤ 9 := leN c_28
          refine lv_iload_n hx hb dX0_setTea_41 rfl (lv_at hl 3 rfl) ?_
          refine lv_if_lt (tgt := 51) hx hb dX0_setTea_42 (by decide) (fun c_42 => ?_) (fun c_42 => ?_)
          · skip
            replace c_42 : p3 < 0 := ltN c_42
            exact (by omega : False).elim
          · skip
            replace c_42 : 0 ≤ p3 := nltN c_42
            refine lv_iload_n hx hb dX0_setTea_45 rfl (lv_at hl 3 rfl) ?_
            refine lv_bipush (v := nI 9) hx hb dX0_setTea_46 (by decide +kernel) ?_
            refine lv_icmp_le (tgt := 61) hx hb dX0_setTea_48 (by decide) (fun c_48 => ?_) (fun c_48 => ?_)
            · skip
              replace c_48 : p3 ≤ 9 := leN c_48
              refine lv_aload_n hx hb dX0_setTea_61 rfl (lv_at hl 0 rfl) ?_
              refine lv_iload_n hx hb dX0_setTea_62 rfl (lv_at hl 1 rfl) ?_
              refine va_put (D := D) (ci := 0) (v := .int (nI p1)) (ty := .int) (C := RX0) (T := TX0) (N := 17) hx hb hts hin tyX0 tyX0_ok nmX0 hown hK hP hD hS 0 rfl rfl 10 (by decide) (hts (.fieldLink RX0 31 "AfternoonMeter" "room" "I") (List.mem_of_getElem? (i := 3) rfl)) (fun _ h9 => h9) rfl (by decide +kernel) rfl rfl (Nat.le_of_ble_eq_true rfl) dX0_setTea_63 (fun H locs hP hD hS => ?_)
              have hP : va_P D vwCl [(h, .inr (0, [.ref (a 0), .int (nI (mSc u)), .ref (a 1), .ref (a 2), .int (nI (mNc u)), .ref (a 3), .ref (a 4), .ref (a 5), .int (nI (mBc u)), .ref (a 6), .int (nI p1), .int (nI (mRate u)), .int (nI (mSip u)), .int (nI (mTea u)), .int (mSpl u), .int (nI (mNow u)), .int (mAft u)])), (a 0, .inl (cI, 4, .inl (mHt u))), (a 1, .inl (cI, 8, .inl (mFr u))), (a 2, .inl (cI, 8, .inl (mTo u))), (a 3, .inl (cI, 360, .inl (mCov u))), (a 4, .inl (cI, 6, .inl (mPe u))), (a 5, .inl (cI, 6, .inl (mBe u))), (a 6, .inl (cI, 360, .inl on))] H := hP
              have hD : va_D A [(h, .inr (0, [.ref (a 0), .int (nI (mSc u)), .ref (a 1), .ref (a 2), .int (nI (mNc u)), .ref (a 3), .ref (a 4), .ref (a 5), .int (nI (mBc u)), .ref (a 6), .int (nI p1), .int (nI (mRate u)), .int (nI (mSip u)), .int (nI (mTea u)), .int (mSpl u), .int (nI (mNow u)), .int (mAft u)])), (a 0, .inl (cI, 4, .inl (mHt u))), (a 1, .inl (cI, 8, .inl (mFr u))), (a 2, .inl (cI, 8, .inl (mTo u))), (a 3, .inl (cI, 360, .inl (mCov u))), (a 4, .inl (cI, 6, .inl (mPe u))), (a 5, .inl (cI, 6, .inl (mBe u))), (a 6, .inl (cI, 360, .inl on))] := hD
              refine lv_aload_n hx hb dX0_setTea_66 rfl (lv_at hl 0 rfl) ?_
              refine lv_iload_n hx hb dX0_setTea_67 rfl (lv_at hl 2 rfl) ?_
              refine va_put (D := D) (ci := 0) (v := .int (nI p2)) (ty := .int) (C := RX0) (T := TX0) (N := 17) hx hb hts hin tyX0 tyX0_ok nmX0 hown hK hP hD hS 0 rfl rfl 11 (by decide) (hts (.fieldLink RX0 35 "AfternoonMeter" "rate" "I") (List.mem_of_getElem? (i := 4) rfl)) (fun _ h9 => h9) rfl (by decide +kernel) rfl rfl (Nat.le_of_ble_eq_true rfl) dX0_setTea_68 (fun H locs hP hD hS => ?_)
              have hP : va_P D vwCl [(h, .inr (0, [.ref (a 0), .int (nI (mSc u)), .ref (a 1), .ref (a 2), .int (nI (mNc u)), .ref (a 3), .ref (a 4), .ref (a 5), .int (nI (mBc u)), .ref (a 6), .int (nI p1), .int (nI p2), .int (nI (mSip u)), .int (nI (mTea u)), .int (mSpl u), .int (nI (mNow u)), .int (mAft u)])), (a 0, .inl (cI, 4, .inl (mHt u))), (a 1, .inl (cI, 8, .inl (mFr u))), (a 2, .inl (cI, 8, .inl (mTo u))), (a 3, .inl (cI, 360, .inl (mCov u))), (a 4, .inl (cI, 6, .inl (mPe u))), (a 5, .inl (cI, 6, .inl (mBe u))), (a 6, .inl (cI, 360, .inl on))] H := hP
              have hD : va_D A [(h, .inr (0, [.ref (a 0), .int (nI (mSc u)), .ref (a 1), .ref (a 2), .int (nI (mNc u)), .ref (a 3), .ref (a 4), .ref (a 5), .int (nI (mBc u)), .ref (a 6), .int (nI p1), .int (nI p2), .int (nI (mSip u)), .int (nI (mTea u)), .int (mSpl u), .int (nI (mNow u)), .int (mAft u)])), (a 0, .inl (cI, 4, .inl (mHt u))), (a 1, .inl (cI, 8, .inl (mFr u))), (a 2, .inl (cI, 8, .inl (mTo u))), (a 3, .inl (cI, 360, .inl (mCov u))), (a 4, .inl (cI, 6, .inl (mPe u))), (a 5, .inl (cI, 6, .inl (mBe u))), (a 6, .inl (cI, 360, .inl on))] := hD
              refine lv_aload_n hx hb dX0_setTea_71 rfl (lv_at hl 0 rfl) ?_
              refine lv_iload_n hx hb dX0_setTea_72 rfl (lv_at hl 3 rfl) ?_
              refine va_put (D := D) (ci := 0) (v := .int (nI p3)) (ty := .int) (C := RX0) (T := TX0) (N := 17) hx hb hts hin tyX0 tyX0_ok nmX0 hown hK hP hD hS 0 rfl rfl 12 (by decide) (hts (.fieldLink RX0 38 "AfternoonMeter" "sip" "I") (List.mem_of_getElem? (i := 5) rfl)) (fun _ h9 => h9) rfl (by decide +kernel) rfl rfl (Nat.le_of_ble_eq_true rfl) dX0_setTea_73 (fun H locs hP hD hS => ?_)
              have hP : va_P D vwCl [(h, .inr (0, [.ref (a 0), .int (nI (mSc u)), .ref (a 1), .ref (a 2), .int (nI (mNc u)), .ref (a 3), .ref (a 4), .ref (a 5), .int (nI (mBc u)), .ref (a 6), .int (nI p1), .int (nI p2), .int (nI p3), .int (nI (mTea u)), .int (mSpl u), .int (nI (mNow u)), .int (mAft u)])), (a 0, .inl (cI, 4, .inl (mHt u))), (a 1, .inl (cI, 8, .inl (mFr u))), (a 2, .inl (cI, 8, .inl (mTo u))), (a 3, .inl (cI, 360, .inl (mCov u))), (a 4, .inl (cI, 6, .inl (mPe u))), (a 5, .inl (cI, 6, .inl (mBe u))), (a 6, .inl (cI, 360, .inl on))] H := hP
              have hD : va_D A [(h, .inr (0, [.ref (a 0), .int (nI (mSc u)), .ref (a 1), .ref (a 2), .int (nI (mNc u)), .ref (a 3), .ref (a 4), .ref (a 5), .int (nI (mBc u)), .ref (a 6), .int (nI p1), .int (nI p2), .int (nI p3), .int (nI (mTea u)), .int (mSpl u), .int (nI (mNow u)), .int (mAft u)])), (a 0, .inl (cI, 4, .inl (mHt u))), (a 1, .inl (cI, 8, .inl (mFr u))), (a 2, .inl (cI, 8, .inl (mTo u))), (a 3, .inl (cI, 360, .inl (mCov u))), (a 4, .inl (cI, 6, .inl (mPe u))), (a 5, .inl (cI, 6, .inl (mBe u))), (a 6, .inl (cI, 360, .inl on))] := hD
              refine lv_aload_n hx hb dX0_setTea_76 rfl (lv_at hl 0 rfl) ?_
              refine lv_aload_n hx hb dX0_setTea_77 rfl (lv_at hl 0 rfl) ?_
              refine va_get (D := D) (ci := 0) (v := .int (nI (mTea u))) (C := RX0) (T := TX0) (N := 17) hx hb hts hin hown hK hP 0 rfl rfl 13 (by decide) (hts (.fieldLink RX0 88 "AfternoonMeter" "inCup" "I") (List.mem_of_getElem? (i := 6) rfl)) (fun _ h9 => h9) rfl dX0_setTea_78 ?_
              have hFc := va_free (wc := [(h, .inr (0, [.ref (a 0), .int (nI (mSc u)), .ref (a 1), .ref (a 2), .int (nI (mNc u)), .ref (a 3), .ref (a 4), .ref (a 5), .int (nI (mBc u)), .ref (a 6), .int (nI p1), .int (nI p2), .int (nI p3), .int (nI (mTea u)), .int (mSpl u), .int (nI (mNow u)), .int (mAft u)])), (a 0, .inl (cI, 4, .inl (mHt u))), (a 1, .inl (cI, 8, .inl (mFr u))), (a 2, .inl (cI, 8, .inl (mTo u))), (a 3, .inl (cI, 360, .inl (mCov u))), (a 4, .inl (cI, 6, .inl (mPe u))), (a 5, .inl (cI, 6, .inl (mBe u))), (a 6, .inl (cI, 360, .inl on))]) hD hS hA [0, 1, 2, 3, 4, 5, 6, 7] rfl
              refine va_calli (va_runV (As := [.int (nI (mTea u))]) (rest := []) ⟨hx, hb, hml, hown, hts⟩ (c_X0_pourInto l D cI h a (mSc u, mNc u, mBc u, mNow u, p1, p2, p3, mTea u, mSpl u, mAft u, mHt u, mFr u, mTo u, mCov u, mPe u, mBe u) on H.size (mTea u) (show p1 ≤ 1000 by omega) (by omega)) (cwV 1 hts gX0_setTea_X0_pourInto rfl rfl rfl (by decide +kernel) ⟨Nat.le_of_ble_eq_true rfl, Nat.le_of_ble_eq_true rfl⟩) ⟨wr_blind, va_recv (ci := 0) (q0 := 0) hK hP rfl rfl, fun U hU hW => ⟨rfl, by rw [hU], by rw [hU]; exact hP, va_K.moved hW.alike hK, hD.weaken (fun _ _ _ _ => trivial)⟩⟩ rfl rfl hl.1 rfl (lv_room (Nat.le_of_ble_eq_true rfl)) dX0_setTea_81 ⟨Nat.le_of_ble_eq_true rfl, Nat.le_of_ble_eq_true rfl⟩) hS (fun q _ h => hFc q h) hFc (fun r w t H locs ht hvm hw hB hz1 hk1 hS => ?_)
              obtain ⟨rfl, rfl⟩ := hw
              obtain ⟨hP1, hK1, hD1⟩ := hB
              rw [ht] at hP1
              have hP : va_P D vwCl [(h, .inr (0, [.ref (a 0), .int (nI (mSc u)), .ref (a 1), .ref (a 2), .int (nI (mNc u)), .ref (a 3), .ref (a 4), .ref (a 5), .int (nI (mBc u)), .ref (a 6), .int (nI p1), .int (nI p2), .int (nI p3), .int (nI ((mTea u) - ((mTea u) - p1))), .int ((mSpl u) + nI ((mTea u) - p1)), .int (nI (mNow u)), .int (mAft u)])), (a 0, .inl (cI, 4, .inl (mHt u))), (a 1, .inl (cI, 8, .inl (mFr u))), (a 2, .inl (cI, 8, .inl (mTo u))), (a 3, .inl (cI, 360, .inl (mCov u))), (a 4, .inl (cI, 6, .inl (mPe u))), (a 5, .inl (cI, 6, .inl (mBe u))), (a 6, .inl (cI, 360, .inl on))] H := hP1
              have hD : va_D A [(h, .inr (0, [.ref (a 0), .int (nI (mSc u)), .ref (a 1), .ref (a 2), .int (nI (mNc u)), .ref (a 3), .ref (a 4), .ref (a 5), .int (nI (mBc u)), .ref (a 6), .int (nI p1), .int (nI p2), .int (nI p3), .int (nI ((mTea u) - ((mTea u) - p1))), .int ((mSpl u) + nI ((mTea u) - p1)), .int (nI (mNow u)), .int (mAft u)])), (a 0, .inl (cI, 4, .inl (mHt u))), (a 1, .inl (cI, 8, .inl (mFr u))), (a 2, .inl (cI, 8, .inl (mTo u))), (a 3, .inl (cI, 360, .inl (mCov u))), (a 4, .inl (cI, 6, .inl (mPe u))), (a 5, .inl (cI, 6, .inl (mBe u))), (a 6, .inl (cI, 360, .inl on))] := hD1.weaken (fun k q _ h => hFc q.1 h)
              have hq : nI (mTea u - p1) = nI (mTea u - p1) ∧ (((mSc u, mNc u, mBc u, mNow u, p1, p2, p3, (mTea u) - ((mTea u) - p1), (mSpl u) + nI ((mTea u) - p1), mAft u, mHt u, mFr u, mTo u, mCov u, mPe u, mBe u), on) : MS × (Nat → Int32)) = ((mSc u, mNc u, mBc u, mNow u, p1, p2, p3, mTea u - (mTea u - p1), mSpl u + nI (mTea u - p1), mAft u, mHt u, mFr u, mTo u, mCov u, mPe u, mBe u), on) := by exact ⟨rfl, rfl⟩
              exact W.iret hx hb hr (fun t ht hW => ⟨⟨_, (((mSc u, mNc u, mBc u, mNow u, p1, p2, p3, (mTea u) - ((mTea u) - p1), (mSpl u) + nI ((mTea u) - p1), mAft u, mHt u, mFr u, mTo u, mCov u, mPe u, mBe u), on) : MS × (Nat → Int32)), rfl, hq, by rw [ht]; exact hP, va_K.moved hW.alike hK, hD⟩, hS.F ht⟩) hS.2.2 dX0_setTea_84
            · skip
              replace c_48 : 9 < p3 := nleN c_48
              exact (by omega : False).elim
        · skip
          replace c_28 : 9 < p2 := nleN c_28
          exact (by omega : False).elim
    · skip
      replace c_8 : 50 < p1 := nleN c_8
      exact (by omega : False).elim
set_option maxHeartbeats 4000000 in
set_option maxRecDepth 100000 in
theorem c_X0_pass (l : Launch) (D : va_G) (cI : ClassId) (h : Nat) (a : Nat → Nat) (u : MS) (on : Nat → Int32) (sz : Nat) (mm : Nat) (hI : Inv u) (hO : InvO u on) (hp : 1 ≤ mm ∧ mNow u + mm ≤ 360) : Met l yX0_pass wsX0_pass ({ frames := 3, cells := 0, slots := 0, locals := 56 } : Room) (va_Pc [.ref h, .int (nI mm)] (fun U => U.heap.size = sz ∧ va_P D vwCl (pic0 cI h a u on) U.heap ∧ va_K D vwCl [(cI, .int)] U ∧ va_D (fun _ => True) (pic0 cI h a u on))) ((fun A : Nat → Prop => va_Qi (fun (r : Int32) (w : MS × (Nat → Int32)) => r = (psS u mm).1 ∧ w = ((mSc u, mNc u, mBc u, mNow u + mm, mRoom u, mRate u, mSip u, (psS u mm).2, mSpl u + (psS u mm).1, mAft u, mHt u, mFr u, mTo u, mCov u, mPe u, mBe u), on)) (fun (w : MS × (Nat → Int32)) (t : State) => va_P D vwCl (pic0 cI h a w.1 w.2) t.heap ∧ va_K D vwCl [(cI, .int)] t ∧ va_D A (pic0 cI h a w.1 w.2)) A) (va_A (pic0 cI h a u on) sz)) 0 0 (va_A (pic0 cI h a u on) sz) := by
  refine en_wr (cc := cX0_pass) (maxL := 4) (ret := (some .int)) _ _ (fun A : Nat → Prop => va_Qi (fun (r : Int32) (w : MS × (Nat → Int32)) => r = (psS u mm).1 ∧ w = ((mSc u, mNc u, mBc u, mNow u + mm, mRoom u, mRate u, mSip u, (psS u mm).2, mSpl u + (psS u mm).1, mAft u, mHt u, mFr u, mTo u, mCov u, mPe u, mBe u), on)) (fun (w : MS × (Nat → Int32)) (t : State) => va_P D vwCl (pic0 cI h a w.1 w.2) t.heap ∧ va_K D vwCl [(cI, .int)] t ∧ va_D A (pic0 cI h a w.1 w.2)) A) (by decide) rfl (Nat.le_of_ble_eq_true rfl) ?_
  intro p e s m args below meth c ls A H locs hx hb hml hr hlocks hts hown hP hK hD hA hS hl
  have hown : s.vm.findClass RX0 = some m.cls := hown
  have hin : ∀ w ∈ wsX00, w ∈ wsX0_pass := fun _ h9 => List.mem_cons_of_mem _ (List.mem_append_left _ (List.mem_append_left _ (List.mem_append_right _ h9)))
  have hl : lv_has ls 4 [(0, .ref h), (1, .int (nI mm))] := hl
  obtain ⟨hIa, hIb, hIc, hId, hIe, hIf, hIg, hIh, hIi, hIj⟩ := id hI
  refine lv_iload_n hx hb dX0_pass_0 rfl (lv_at hl 1 rfl) ?_
  refine lv_iconst (v := nI 1) hx hb dX0_pass_1 (by decide +kernel) ?_
  refine lv_icmp_lt (tgt := 12) hx hb dX0_pass_2 (by decide) (fun c_2 => ?_) (fun c_2 => ?_)
  · skip
    replace c_2 : mm < 1 := ltN c_2
    exact (by omega : False).elim
  · skip
    replace c_2 : 1 ≤ mm := nltN c_2
    refine lv_iload_n hx hb dX0_pass_5 rfl (lv_at hl 1 rfl) ?_
    refine lv_sipush (v := nI 360) hx hb dX0_pass_6 (by decide +kernel) ?_
    refine lv_icmp_le (tgt := 22) hx hb dX0_pass_9 (by decide) (fun c_9 => ?_) (fun c_9 => ?_)
    · skip
      replace c_9 : mm ≤ 360 := leN c_9
      refine lv_iload_n hx hb dX0_pass_22 rfl (lv_at hl 1 rfl) ?_
      refine lv_sipush (v := nI 360) hx hb dX0_pass_23 (by decide +kernel) ?_
      refine lv_aload_n hx hb dX0_pass_26 rfl (lv_at hl 0 rfl) ?_
      refine va_get (D := D) (ci := 0) (v := .int (nI (mNow u))) (C := RX0) (T := TX0) (N := 17) hx hb hts hin hown hK hP 0 rfl rfl 15 (by decide) (hts (.fieldLink RX0 97 "AfternoonMeter" "now" "I") (List.mem_of_getElem? (i := 5) rfl)) (fun _ h9 => h9) rfl dX0_pass_27 ?_
      refine q_isubN hx hb (by omega) dX0_pass_30 ?_
      refine lv_icmp_le (tgt := 44) hx hb dX0_pass_31 (by decide) (fun c_31 => ?_) (fun c_31 => ?_)
      · skip
        replace c_31 : mm ≤ (360 - (mNow u)) := leN c_31
        refine lv_iconst (v := nI 0) hx hb dX0_pass_44 (by decide +kernel) ?_
        refine lv_istore_n (lv' := [(2, .int (nI 0)), (0, .ref h), (1, .int (nI mm))]) hx hb dX0_pass_45 rfl hl (by decide) rfl (fun ls hl => ?_)
        refine lv_aload_n hx hb dX0_pass_46 rfl (lv_at hl 1 rfl) ?_
        refine va_get (D := D) (ci := 0) (v := .int (nI (mNow u))) (C := RX0) (T := TX0) (N := 17) hx hb hts hin hown hK hP 0 rfl rfl 15 (by decide) (hts (.fieldLink RX0 97 "AfternoonMeter" "now" "I") (List.mem_of_getElem? (i := 5) rfl)) (fun _ h9 => h9) rfl dX0_pass_47 ?_
        refine lv_iload_n hx hb dX0_pass_50 rfl (lv_at hl 2 rfl) ?_
        refine q_iaddN hx hb dX0_pass_51 ?_
        refine lv_istore_n (lv' := [(3, .int (nI ((mNow u) + mm))), (2, .int (nI 0)), (0, .ref h), (1, .int (nI mm))]) hx hb dX0_pass_52 rfl hl (by decide) rfl (fun ls hl => ?_)
        have lp53 : ∀ (n k : Nat), k + n = mm → ∀ (X : Int32), X = (psS u k).1 → ∀ (Y : Nat), Y = (psS u k).2 → ∀ (Z : Int32), Z = mSpl u + (psS u k).1 → ∀ (T : Nat), T = mNow u + k → Y ≤ mRoom u → ∀ (H : Heap) (locs : List Loc), va_P D vwCl [(h, .inr (0, [.ref (a 0), .int (nI (mSc u)), .ref (a 1), .ref (a 2), .int (nI (mNc u)), .ref (a 3), .ref (a 4), .ref (a 5), .int (nI (mBc u)), .ref (a 6), .int (nI (mRoom u)), .int (nI (mRate u)), .int (nI (mSip u)), .int (nI Y), .int Z, .int (nI T), .int (mAft u)])), (a 0, .inl (cI, 4, .inl (mHt u))), (a 1, .inl (cI, 8, .inl (mFr u))), (a 2, .inl (cI, 8, .inl (mTo u))), (a 3, .inl (cI, 360, .inl (mCov u))), (a 4, .inl (cI, 6, .inl (mPe u))), (a 5, .inl (cI, 6, .inl (mBe u))), (a 6, .inl (cI, 360, .inl on))] H → va_D A [(h, .inr (0, [.ref (a 0), .int (nI (mSc u)), .ref (a 1), .ref (a 2), .int (nI (mNc u)), .ref (a 3), .ref (a 4), .ref (a 5), .int (nI (mBc u)), .ref (a 6), .int (nI (mRoom u)), .int (nI (mRate u)), .int (nI (mSip u)), .int (nI Y), .int Z, .int (nI T), .int (mAft u)])), (a 0, .inl (cI, 4, .inl (mHt u))), (a 1, .inl (cI, 8, .inl (mFr u))), (a 2, .inl (cI, 8, .inl (mTo u))), (a 3, .inl (cI, 360, .inl (mCov u))), (a 4, .inl (cI, 6, .inl (mPe u))), (a 5, .inl (cI, 6, .inl (mBe u))), (a 6, .inl (cI, 360, .inl on))] → va_S A s.heap H locs → ∀ (ls : Array Slot), lv_has ls 4 [(0, .ref h), (1, .int (nI mm)), (2, .int X), (3, .int (nI ((mNow u) + mm)))] → W p l e ({ frames := 3, cells := 0, slots := 0, locals := 56 } : Room) s m args below meth c H locs 0 0 (MQ below ((fun A : Nat → Prop => va_Qi (fun (r : Int32) (w : MS × (Nat → Int32)) => r = (psS u mm).1 ∧ w = ((mSc u, mNc u, mBc u, mNow u + mm, mRoom u, mRate u, mSip u, (psS u mm).2, mSpl u + (psS u mm).1, mAft u, mHt u, mFr u, mTo u, mCov u, mPe u, mBe u), on)) (fun (w : MS × (Nat → Int32)) (t : State) => va_P D vwCl (pic0 cI h a w.1 w.2) t.heap ∧ va_K D vwCl [(cI, .int)] t ∧ va_D A (pic0 cI h a w.1 w.2)) A) A) args s 0 0 A) (F0 m 53 ls []) := by
          intro n
          induction n with
          | zero =>
            intro k hk X eX Y eY Z eZ T eT hY H locs hP hD hS ls hl
            have ek : k = mm := by omega
            refine lv_aload_n hx hb dX0_pass_53 rfl (lv_at hl 0 rfl) ?_
            refine va_get (D := D) (ci := 0) (v := .int (nI T)) (C := RX0) (T := TX0) (N := 17) hx hb hts hin hown hK hP 0 rfl rfl 15 (by decide) (hts (.fieldLink RX0 97 "AfternoonMeter" "now" "I") (List.mem_of_getElem? (i := 5) rfl)) (fun _ h9 => h9) rfl dX0_pass_54 ?_
            refine lv_iload_n hx hb dX0_pass_57 rfl (lv_at hl 3 rfl) ?_
            refine lv_icmp_ge (tgt := 97) hx hb dX0_pass_58 (by decide) (fun c_58 => ?_) (fun c_58 => ?_)
            · skip
              replace c_58 : ((mNow u) + mm) ≤ T := leN c_58
              refine lv_iload_n hx hb dX0_pass_97 rfl (lv_at hl 2 rfl) ?_
              have hq : X = (psS u mm).1 ∧ (((mSc u, mNc u, mBc u, T, mRoom u, mRate u, mSip u, Y, Z, mAft u, mHt u, mFr u, mTo u, mCov u, mPe u, mBe u), on) : MS × (Nat → Int32)) = ((mSc u, mNc u, mBc u, mNow u + mm, mRoom u, mRate u, mSip u, (psS u mm).2, mSpl u + (psS u mm).1, mAft u, mHt u, mFr u, mTo u, mCov u, mPe u, mBe u), on) := by rw [eX, eY, eZ, eT, ek]; exact ⟨rfl, rfl⟩
              exact W.iret hx hb hr (fun t ht hW => ⟨⟨_, (((mSc u, mNc u, mBc u, T, mRoom u, mRate u, mSip u, Y, Z, mAft u, mHt u, mFr u, mTo u, mCov u, mPe u, mBe u), on) : MS × (Nat → Int32)), rfl, hq, by rw [ht]; exact hP, va_K.moved hW.alike hK, hD⟩, hS.F ht⟩) hS.2.2 dX0_pass_98
            · skip
              replace c_58 : T < ((mNow u) + mm) := nleN c_58
              exact (by omega : False).elim
          | succ n ih =>
            intro k hk X eX Y eY Z eZ T eT hY H locs hP hD hS ls hl
            refine lv_aload_n hx hb dX0_pass_53 rfl (lv_at hl 0 rfl) ?_
            refine va_get (D := D) (ci := 0) (v := .int (nI T)) (C := RX0) (T := TX0) (N := 17) hx hb hts hin hown hK hP 0 rfl rfl 15 (by decide) (hts (.fieldLink RX0 97 "AfternoonMeter" "now" "I") (List.mem_of_getElem? (i := 5) rfl)) (fun _ h9 => h9) rfl dX0_pass_54 ?_
            refine lv_iload_n hx hb dX0_pass_57 rfl (lv_at hl 3 rfl) ?_
            refine lv_icmp_ge (tgt := 97) hx hb dX0_pass_58 (by decide) (fun c_58 => ?_) (fun c_58 => ?_)
            · skip
              replace c_58 : ((mNow u) + mm) ≤ T := leN c_58
              exact (by omega : False).elim
            · skip
              replace c_58 : T < ((mNow u) + mm) := nleN c_58
              refine lv_iload_n hx hb dX0_pass_61 rfl (lv_at hl 2 rfl) ?_
              refine lv_aload_n hx hb dX0_pass_62 rfl (lv_at hl 0 rfl) ?_
              refine lv_aload_n hx hb dX0_pass_63 rfl (lv_at hl 0 rfl) ?_
              refine lv_aload_n hx hb dX0_pass_64 rfl (lv_at hl 0 rfl) ?_
              refine va_get (D := D) (ci := 0) (v := .int (nI T)) (C := RX0) (T := TX0) (N := 17) hx hb hts hin hown hK hP 0 rfl rfl 15 (by decide) (hts (.fieldLink RX0 97 "AfternoonMeter" "now" "I") (List.mem_of_getElem? (i := 5) rfl)) (fun _ h9 => h9) rfl dX0_pass_65 ?_
              refine lv_aload_n hx hb dX0_pass_68 rfl (lv_at hl 0 rfl) ?_
              refine va_get (D := D) (ci := 0) (v := .int (nI Y)) (C := RX0) (T := TX0) (N := 17) hx hb hts hin hown hK hP 0 rfl rfl 13 (by decide) (hts (.fieldLink RX0 88 "AfternoonMeter" "inCup" "I") (List.mem_of_getElem? (i := 6) rfl)) (fun _ h9 => h9) rfl dX0_pass_69 ?_
              refine lv_aload_n hx hb dX0_pass_72 rfl (lv_at hl 0 rfl) ?_
              refine va_get (D := D) (ci := 0) (v := .int (nI (mRate u))) (C := RX0) (T := TX0) (N := 17) hx hb hts hin hown hK hP 0 rfl rfl 11 (by decide) (hts (.fieldLink RX0 35 "AfternoonMeter" "rate" "I") (List.mem_of_getElem? (i := 7) rfl)) (fun _ h9 => h9) rfl dX0_pass_73 ?_
              refine vp_callSi (W.runV (As := [.int (nI T), .int (nI Y), .int (nI (mRate u))]) (rest := [.ref h, .int X]) ⟨hx, hb, hml, hown, hts⟩ (c_X0_contentAfter l D cI h a (mSc u, mNc u, mBc u, T, mRoom u, mRate u, mSip u, Y, Z, mAft u, mHt u, mFr u, mTo u, mCov u, mPe u, mBe u) on T Y (mRate u) (inv_pt hI (by omega) (by omega)) hO (by omega) (by omega) (by omega)) (cwV 3 hts gX0_pass_X0_contentAfter rfl rfl rfl (by decide +kernel) ⟨Nat.le_of_ble_eq_true rfl, Nat.le_of_ble_eq_true rfl⟩) (pu_pre hK hP rfl rfl) rfl rfl hl.1 rfl (lv_room (Nat.le_of_ble_eq_true rfl)) dX0_pass_76 ⟨Nat.le_of_ble_eq_true rfl, Nat.le_of_ble_eq_true rfl⟩) (fun r hr => ?_)
              subst hr
              have hca := cAf_le u T Y (mRate u)
              have hFc := va_free (wc := [(h, .inr (0, [.ref (a 0), .int (nI (mSc u)), .ref (a 1), .ref (a 2), .int (nI (mNc u)), .ref (a 3), .ref (a 4), .ref (a 5), .int (nI (mBc u)), .ref (a 6), .int (nI (mRoom u)), .int (nI (mRate u)), .int (nI (mSip u)), .int (nI Y), .int Z, .int (nI T), .int (mAft u)])), (a 0, .inl (cI, 4, .inl (mHt u))), (a 1, .inl (cI, 8, .inl (mFr u))), (a 2, .inl (cI, 8, .inl (mTo u))), (a 3, .inl (cI, 360, .inl (mCov u))), (a 4, .inl (cI, 6, .inl (mPe u))), (a 5, .inl (cI, 6, .inl (mBe u))), (a 6, .inl (cI, 360, .inl on))]) hD hS hA [0, 1, 2, 3, 4, 5, 6, 7] rfl
              refine va_calli (va_runV (As := [.int (nI (cAf u T Y (mRate u)))]) (rest := [.int X]) ⟨hx, hb, hml, hown, hts⟩ (c_X0_pourInto l D cI h a (mSc u, mNc u, mBc u, T, mRoom u, mRate u, mSip u, Y, Z, mAft u, mHt u, mFr u, mTo u, mCov u, mPe u, mBe u) on H.size (cAf u T Y (mRate u)) (show mRoom u ≤ 1000 by omega) (by omega)) (cwV 1 hts gX0_pass_X0_pourInto rfl rfl rfl (by decide +kernel) ⟨Nat.le_of_ble_eq_true rfl, Nat.le_of_ble_eq_true rfl⟩) ⟨wr_blind, va_recv (ci := 0) (q0 := 0) hK hP rfl rfl, fun U hU hW => ⟨rfl, by rw [hU], by rw [hU]; exact hP, va_K.moved hW.alike hK, hD.weaken (fun _ _ _ _ => trivial)⟩⟩ rfl rfl hl.1 rfl (lv_room (Nat.le_of_ble_eq_true rfl)) dX0_pass_79 ⟨Nat.le_of_ble_eq_true rfl, Nat.le_of_ble_eq_true rfl⟩) hS (fun q _ h => hFc q h) hFc (fun r w t H locs ht hvm hw hB hz1 hk1 hS => ?_)
              obtain ⟨rfl, rfl⟩ := hw
              obtain ⟨hP1, hK1, hD1⟩ := hB
              rw [ht] at hP1
              have hP : va_P D vwCl [(h, .inr (0, [.ref (a 0), .int (nI (mSc u)), .ref (a 1), .ref (a 2), .int (nI (mNc u)), .ref (a 3), .ref (a 4), .ref (a 5), .int (nI (mBc u)), .ref (a 6), .int (nI (mRoom u)), .int (nI (mRate u)), .int (nI (mSip u)), .int (nI ((cAf u T Y (mRate u)) - ((cAf u T Y (mRate u)) - (mRoom u)))), .int (Z + nI ((cAf u T Y (mRate u)) - (mRoom u))), .int (nI T), .int (mAft u)])), (a 0, .inl (cI, 4, .inl (mHt u))), (a 1, .inl (cI, 8, .inl (mFr u))), (a 2, .inl (cI, 8, .inl (mTo u))), (a 3, .inl (cI, 360, .inl (mCov u))), (a 4, .inl (cI, 6, .inl (mPe u))), (a 5, .inl (cI, 6, .inl (mBe u))), (a 6, .inl (cI, 360, .inl on))] H := hP1
              have hD : va_D A [(h, .inr (0, [.ref (a 0), .int (nI (mSc u)), .ref (a 1), .ref (a 2), .int (nI (mNc u)), .ref (a 3), .ref (a 4), .ref (a 5), .int (nI (mBc u)), .ref (a 6), .int (nI (mRoom u)), .int (nI (mRate u)), .int (nI (mSip u)), .int (nI ((cAf u T Y (mRate u)) - ((cAf u T Y (mRate u)) - (mRoom u)))), .int (Z + nI ((cAf u T Y (mRate u)) - (mRoom u))), .int (nI T), .int (mAft u)])), (a 0, .inl (cI, 4, .inl (mHt u))), (a 1, .inl (cI, 8, .inl (mFr u))), (a 2, .inl (cI, 8, .inl (mTo u))), (a 3, .inl (cI, 360, .inl (mCov u))), (a 4, .inl (cI, 6, .inl (mPe u))), (a 5, .inl (cI, 6, .inl (mBe u))), (a 6, .inl (cI, 360, .inl on))] := hD1.weaken (fun k q _ h => hFc q.1 h)
              refine lv_iadd hx hb dX0_pass_82 ?_
              refine lv_istore_n (lv' := [(2, .int (X + (nI (cAf u T Y (mRate u) - mRoom u)))), (0, .ref h), (1, .int (nI mm)), (3, .int (nI ((mNow u) + mm)))]) hx hb dX0_pass_83 rfl hl (by decide) rfl (fun ls hl => ?_)
              refine lv_aload_n hx hb dX0_pass_84 rfl (lv_at hl 1 rfl) ?_
              refine lv_dup hx hb dX0_pass_85 rfl ?_
              refine va_get (D := D) (ci := 0) (v := .int (nI T)) (C := RX0) (T := TX0) (N := 17) hx hb hts hin hown hK hP 0 rfl rfl 15 (by decide) (hts (.fieldLink RX0 97 "AfternoonMeter" "now" "I") (List.mem_of_getElem? (i := 5) rfl)) (fun _ h9 => h9) rfl dX0_pass_86 ?_
              refine lv_iconst (v := nI 1) hx hb dX0_pass_89 (by decide +kernel) ?_
              refine q_iaddN hx hb dX0_pass_90 ?_
              refine va_put (D := D) (ci := 0) (v := .int (nI (T + 1))) (ty := .int) (C := RX0) (T := TX0) (N := 17) hx hb hts hin tyX0 tyX0_ok nmX0 hown hK hP hD hS 0 rfl rfl 15 (by decide) (hts (.fieldLink RX0 97 "AfternoonMeter" "now" "I") (List.mem_of_getElem? (i := 5) rfl)) (fun _ h9 => h9) rfl (by decide +kernel) rfl rfl (Nat.le_of_ble_eq_true rfl) dX0_pass_91 (fun H locs hP hD hS => ?_)
              have hP : va_P D vwCl [(h, .inr (0, [.ref (a 0), .int (nI (mSc u)), .ref (a 1), .ref (a 2), .int (nI (mNc u)), .ref (a 3), .ref (a 4), .ref (a 5), .int (nI (mBc u)), .ref (a 6), .int (nI (mRoom u)), .int (nI (mRate u)), .int (nI (mSip u)), .int (nI ((cAf u T Y (mRate u)) - ((cAf u T Y (mRate u)) - (mRoom u)))), .int (Z + nI ((cAf u T Y (mRate u)) - (mRoom u))), .int (nI (T + 1)), .int (mAft u)])), (a 0, .inl (cI, 4, .inl (mHt u))), (a 1, .inl (cI, 8, .inl (mFr u))), (a 2, .inl (cI, 8, .inl (mTo u))), (a 3, .inl (cI, 360, .inl (mCov u))), (a 4, .inl (cI, 6, .inl (mPe u))), (a 5, .inl (cI, 6, .inl (mBe u))), (a 6, .inl (cI, 360, .inl on))] H := hP
              have hD : va_D A [(h, .inr (0, [.ref (a 0), .int (nI (mSc u)), .ref (a 1), .ref (a 2), .int (nI (mNc u)), .ref (a 3), .ref (a 4), .ref (a 5), .int (nI (mBc u)), .ref (a 6), .int (nI (mRoom u)), .int (nI (mRate u)), .int (nI (mSip u)), .int (nI ((cAf u T Y (mRate u)) - ((cAf u T Y (mRate u)) - (mRoom u)))), .int (Z + nI ((cAf u T Y (mRate u)) - (mRoom u))), .int (nI (T + 1)), .int (mAft u)])), (a 0, .inl (cI, 4, .inl (mHt u))), (a 1, .inl (cI, 8, .inl (mFr u))), (a 2, .inl (cI, 8, .inl (mTo u))), (a 3, .inl (cI, 360, .inl (mCov u))), (a 4, .inl (cI, 6, .inl (mPe u))), (a 5, .inl (cI, 6, .inl (mBe u))), (a 6, .inl (cI, 360, .inl on))] := hD
              refine lv_goto (tgt := 53) hx hb dX0_pass_94 (by decide) ?_
              exact ih (k + 1) (by omega) (X + (nI (cAf u T Y (mRate u) - mRoom u))) (by subst eX eY eT; rfl) ((cAf u T Y (mRate u)) - ((cAf u T Y (mRate u)) - (mRoom u))) (by subst eX eY eT; rfl) (Z + nI ((cAf u T Y (mRate u)) - (mRoom u))) (by subst eX eY eT eZ; exact Int32.add_assoc _ _ _) (T + 1) (by subst eT; rfl) (by omega) H locs hP hD hS _ (lv_sub hl [1, 2, 0, 3] rfl)
        exact lp53 _ 0 (Nat.zero_add _) (nI 0) (by rfl) (mTea u) (by rfl) (mSpl u) (by exact (Int32.add_zero _).symm) (mNow u) (by rfl) (by omega) _ _ hP hD hS _ (lv_sub hl [2, 3, 1, 0] rfl)
      · skip
        replace c_31 : (360 - (mNow u)) < mm := nleN c_31
        exact (by omega : False).elim
    · skip
      replace c_9 : 360 < mm := nleN c_9
      exact (by omega : False).elim
