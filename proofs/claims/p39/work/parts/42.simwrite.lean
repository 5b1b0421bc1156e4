set_option maxHeartbeats 4000000 in
set_option maxRecDepth 100000 in
theorem c_X1_pass (l : Launch) (D : va_G) (cI cR : ClassId) (h : Nat) (a nr br : Nat → Nat) (u : MS) (sz : Nat) (hI : InvN u) (hNm : NM (fun q => q = h) a nr br u) (ht : mNow u < 360) (htr : mTea u ≤ mRoom u) (hrm : mRoom u ≤ 50 ∧ mRate u ≤ 9 ∧ mSip u ≤ 9) : Met l yX1_pass wsX1_pass ({ frames := 2, cells := 0, slots := 0, locals := 46 } : Room) (va_Pc [.ref h] (fun U => U.heap.size = sz ∧ va_P D vwCl (picS h a u) U.heap ∧ RO cI cR a nr br u U.heap ∧ va_K D vwCl (tyR cI cR) U)) ((fun A : Nat → Prop => va_Qi (fun (r : Int32) (w : MS) => r = nI (cAf u (mNow u) (mTea u) (mRate u) - mRoom u) ∧ w = (mSc u, mNc u, mBc u, mNow u + 1, mRoom u, mRate u, mSip u, cAf u (mNow u) (mTea u) (mRate u) - (cAf u (mNow u) (mTea u) (mRate u) - (mRoom u)), (mSpl u) + nI (cAf u (mNow u) (mTea u) (mRate u) - (mRoom u)), mAft u, mHt u, mFr u, mTo u, mCov u, mPe u, mBe u)) (fun (w : MS) (t : State) => va_P D vwCl (picS h a w) t.heap) A) (va_A (picS h a u) sz)) 0 0 (va_A (picS h a u) sz) := by
  refine en_ws (cc := cX1_pass) (maxL := 3) (ret := (some .int)) hNm _ (fun A : Nat → Prop => va_Qi (fun (r : Int32) (w : MS) => r = nI (cAf u (mNow u) (mTea u) (mRate u) - mRoom u) ∧ w = (mSc u, mNc u, mBc u, mNow u + 1, mRoom u, mRate u, mSip u, cAf u (mNow u) (mTea u) (mRate u) - (cAf u (mNow u) (mTea u) (mRate u) - (mRoom u)), (mSpl u) + nI (cAf u (mNow u) (mTea u) (mRate u) - (mRoom u)), mAft u, mHt u, mFr u, mTo u, mCov u, mPe u, mBe u)) (fun (w : MS) (t : State) => va_P D vwCl (picS h a w) t.heap) A) (by decide) rfl (Nat.le_of_ble_eq_true rfl) ?_
  intro p e s m args below meth c ls A H locs hx hb hml hr hlocks hts hown hsz hRk hP hK hD hA hS hl
  have hown : s.vm.findClass RX1 = some m.cls := hown
  have hin : ∀ w ∈ wsX10, w ∈ wsX1_pass := fun _ h9 => List.mem_cons_of_mem _ (List.mem_append_right _ h9)
  have hl : lv_has ls 3 [(0, .ref h)] := hl
  have hR := hRk _ _ hS
  obtain ⟨hIa, hIb, hIc, hId, hIf, hIg, hIi⟩ := id hI
  refine lv_iconst (v := nI 0) hx hb dX1_pass_0 (by decide +kernel) ?_
  refine lv_istore_n (lv' := [(1, .int (nI 0)), (0, .ref h)]) hx hb dX1_pass_1 rfl hl (by decide) rfl (fun ls hl => ?_)
  refine lv_aload_n hx hb dX1_pass_2 rfl (lv_at hl 1 rfl) ?_
  refine lv_aload_n hx hb dX1_pass_3 rfl (lv_at hl 1 rfl) ?_
  refine va_get (D := D) (ci := 1) (v := .int (nI (mNow u))) (C := RX1) (T := TX1) (N := 10) hx hb hts hin hown hK hP 0 rfl rfl 7 (by decide) (hts (.fieldLink RX1 39 "AfternoonMeterLaw$Sim" "minute" "I") (List.mem_of_getElem? (i := 1) rfl)) (fun _ h9 => h9) rfl dX1_pass_4 ?_
  refine lv_iconst (v := (-1)) hx hb dX1_pass_7 (by decide +kernel) ?_
  refine vp_callSi (W.runV (As := [.int (nI (mNow u)), .int (-1)]) (rest := []) ⟨hx, hb, hml, hown, hts⟩ (c_X1_napsAt l D cI cR h a nr br u (mNow u) (-1) hI (by omega)) (cwV 2 hts gX1_pass_X1_napsAt rfl rfl rfl (by decide +kernel) ⟨Nat.le_of_ble_eq_true rfl, Nat.le_of_ble_eq_true rfl⟩) (pr_pre hK hP hR rfl rfl) rfl rfl hl.1 rfl (lv_room (Nat.le_of_ble_eq_true rfl)) dX1_pass_8 ⟨Nat.le_of_ble_eq_true rfl, Nat.le_of_ble_eq_true rfl⟩) (fun r hr => ?_)
  subst hr
  rw [cB_m1 hIb]
  have hcn := cN_le u (mNow u)
  refine lv_if_ne (tgt := 129) hx hb dX1_pass_11 (by decide) (fun c_11 => ?_) (fun c_11 => ?_)
  · skip
    replace c_11 : (cN u (mNow u)) ≠ 0 := neN c_11
    refine lv_aload_n hx hb dX1_pass_129 rfl (lv_at hl 1 rfl) ?_
    refine lv_dup hx hb dX1_pass_130 rfl ?_
    refine va_get (D := D) (ci := 1) (v := .int (nI (mNow u))) (C := RX1) (T := TX1) (N := 10) hx hb hts hin hown hK hP 0 rfl rfl 7 (by decide) (hts (.fieldLink RX1 39 "AfternoonMeterLaw$Sim" "minute" "I") (List.mem_of_getElem? (i := 1) rfl)) (fun _ h9 => h9) rfl dX1_pass_131 ?_
    refine lv_iconst (v := nI 1) hx hb dX1_pass_134 (by decide +kernel) ?_
    refine q_iaddN hx hb dX1_pass_135 ?_
    refine va_put (D := D) (ci := 1) (v := .int (nI ((mNow u) + 1))) (ty := .int) (C := RX1) (T := TX1) (N := 10) hx hb hts hin tyX1 tyX1_ok nmX1 hown hK hP hD hS 0 rfl rfl 7 (by decide) (hts (.fieldLink RX1 39 "AfternoonMeterLaw$Sim" "minute" "I") (List.mem_of_getElem? (i := 1) rfl)) (fun _ h9 => h9) rfl (by decide +kernel) rfl rfl (Nat.le_of_ble_eq_true rfl) dX1_pass_136 (fun H locs hP hD hS => ?_)
    have hP : va_P D vwCl [(h, .inr (1, [.ref (a 0), .ref (a 1), .ref (a 2), .int (nI (mRoom u)), .int (nI (mRate u)), .int (nI (mSip u)), .int (mAft u), .int (nI ((mNow u) + 1)), .int (nI (mTea u)), .int (mSpl u)]))] H := hP
    have hD : va_D A [(h, .inr (1, [.ref (a 0), .ref (a 1), .ref (a 2), .int (nI (mRoom u)), .int (nI (mRate u)), .int (nI (mSip u)), .int (mAft u), .int (nI ((mNow u) + 1)), .int (nI (mTea u)), .int (mSpl u)]))] := hD
    have hR := hRk _ _ hS
    refine lv_iload_n hx hb dX1_pass_139 rfl (lv_at hl 0 rfl) ?_
    have hq : nI 0 = nI (cAf u (mNow u) (mTea u) (mRate u) - mRoom u) ∧ ((mSc u, mNc u, mBc u, (mNow u) + 1, mRoom u, mRate u, mSip u, mTea u, mSpl u, mAft u, mHt u, mFr u, mTo u, mCov u, mPe u, mBe u) : MS) = (mSc u, mNc u, mBc u, mNow u + 1, mRoom u, mRate u, mSip u, cAf u (mNow u) (mTea u) (mRate u) - (cAf u (mNow u) (mTea u) (mRate u) - (mRoom u)), (mSpl u) + nI (cAf u (mNow u) (mTea u) (mRate u) - (mRoom u)), mAft u, mHt u, mFr u, mTo u, mCov u, mPe u, mBe u) := by obtain ⟨e1, e2⟩ := pass_sl c_11 htr; exact ⟨by rw [e2], by rw [e2, e1, Nat.sub_zero, show nI 0 = 0 from rfl, Int32.add_zero]⟩
    exact W.iret hx hb hr (fun t ht hW => ⟨⟨_, ((mSc u, mNc u, mBc u, (mNow u) + 1, mRoom u, mRate u, mSip u, mTea u, mSpl u, mAft u, mHt u, mFr u, mTo u, mCov u, mPe u, mBe u) : MS), rfl, hq, P_at ht hP⟩, hS.F ht⟩) hS.2.2 dX1_pass_140
  · skip
    replace c_11 : (cN u (mNow u)) = 0 := eN c_11
    refine lv_aload_n hx hb dX1_pass_14 rfl (lv_at hl 1 rfl) ?_
    refine lv_dup hx hb dX1_pass_15 rfl ?_
    refine va_get (D := D) (ci := 1) (v := .int (nI (mTea u))) (C := RX1) (T := TX1) (N := 10) hx hb hts hin hown hK hP 0 rfl rfl 8 (by decide) (hts (.fieldLink RX1 42 "AfternoonMeterLaw$Sim" "tea" "I") (List.mem_of_getElem? (i := 2) rfl)) (fun _ h9 => h9) rfl dX1_pass_16 ?_
    refine lv_aload_n hx hb dX1_pass_19 rfl (lv_at hl 1 rfl) ?_
    refine va_get (D := D) (ci := 1) (v := .int (nI (mRate u))) (C := RX1) (T := TX1) (N := 10) hx hb hts hin hown hK hP 0 rfl rfl 4 (by decide) (hts (.fieldLink RX1 25 "AfternoonMeterLaw$Sim" "rate" "I") (List.mem_of_getElem? (i := 3) rfl)) (fun _ h9 => h9) rfl dX1_pass_20 ?_
    refine q_iaddN hx hb dX1_pass_23 ?_
    refine va_put (D := D) (ci := 1) (v := .int (nI ((mTea u) + (mRate u)))) (ty := .int) (C := RX1) (T := TX1) (N := 10) hx hb hts hin tyX1 tyX1_ok nmX1 hown hK hP hD hS 0 rfl rfl 8 (by decide) (hts (.fieldLink RX1 42 "AfternoonMeterLaw$Sim" "tea" "I") (List.mem_of_getElem? (i := 2) rfl)) (fun _ h9 => h9) rfl (by decide +kernel) rfl rfl (Nat.le_of_ble_eq_true rfl) dX1_pass_24 (fun H locs hP hD hS => ?_)
    have hP : va_P D vwCl [(h, .inr (1, [.ref (a 0), .ref (a 1), .ref (a 2), .int (nI (mRoom u)), .int (nI (mRate u)), .int (nI (mSip u)), .int (mAft u), .int (nI (mNow u)), .int (nI ((mTea u) + (mRate u))), .int (mSpl u)]))] H := hP
    have hD : va_D A [(h, .inr (1, [.ref (a 0), .ref (a 1), .ref (a 2), .int (nI (mRoom u)), .int (nI (mRate u)), .int (nI (mSip u)), .int (mAft u), .int (nI (mNow u)), .int (nI ((mTea u) + (mRate u))), .int (mSpl u)]))] := hD
    have hR := hRk _ _ hS
    refine lv_iconst (v := nI 0) hx hb dX1_pass_27 (by decide +kernel) ?_
    refine lv_istore_n (lv' := [(2, .int (nI 0)), (1, .int (nI 0)), (0, .ref h)]) hx hb dX1_pass_28 rfl hl (by decide) rfl (fun ls hl => ?_)
    have lp29 : ∀ (n k : Nat), k + n = mBc u → ∀ (Y : Nat), Y = mTea u + mRate u - mSip u * ct (fun b => htB u b (mNow u)) k → Y ≤ 100 → ∀ (H : Heap) (locs : List Loc), va_P D vwCl [(h, .inr (1, [.ref (a 0), .ref (a 1), .ref (a 2), .int (nI (mRoom u)), .int (nI (mRate u)), .int (nI (mSip u)), .int (mAft u), .int (nI (mNow u)), .int (nI Y), .int (mSpl u)]))] H → va_D A [(h, .inr (1, [.ref (a 0), .ref (a 1), .ref (a 2), .int (nI (mRoom u)), .int (nI (mRate u)), .int (nI (mSip u)), .int (mAft u), .int (nI (mNow u)), .int (nI Y), .int (mSpl u)]))] → va_S A s.heap H locs → ∀ (ls : Array Slot), lv_has ls 3 [(0, .ref h), (1, .int (nI 0)), (2, .int (nI k))] → W p l e ({ frames := 2, cells := 0, slots := 0, locals := 46 } : Room) s m args below meth c H locs 0 0 (MQ below ((fun A : Nat → Prop => va_Qi (fun (r : Int32) (w : MS) => r = nI (cAf u (mNow u) (mTea u) (mRate u) - mRoom u) ∧ w = (mSc u, mNc u, mBc u, mNow u + 1, mRoom u, mRate u, mSip u, cAf u (mNow u) (mTea u) (mRate u) - (cAf u (mNow u) (mTea u) (mRate u) - (mRoom u)), (mSpl u) + nI (cAf u (mNow u) (mTea u) (mRate u) - (mRoom u)), mAft u, mHt u, mFr u, mTo u, mCov u, mPe u, mBe u)) (fun (w : MS) (t : State) => va_P D vwCl (picS h a w) t.heap) A) A) args s 0 0 A) (F0 m 29 ls []) := by
      intro n
      induction n with
      | zero =>
        intro k hk Y hY hYb H locs hP hD hS ls hl
        have hR := hRk _ _ hS
        have ek : k = mBc u := by omega
        have hYc : Y = cAf u (mNow u) (mTea u) (mRate u) := by rw [hY, ek]; exact (if_pos c_11).symm
        refine lv_iload_n hx hb dX1_pass_29 rfl (lv_at hl 2 rfl) ?_
        refine lv_aload_n hx hb dX1_pass_30 rfl (lv_at hl 0 rfl) ?_
        refine va_get (D := D) (ci := 1) (v := .ref (a 2)) (C := RX1) (T := TX1) (N := 10) hx hb hts hin hown hK hP 0 rfl rfl 2 (by decide) (hts (.fieldLink RX1 18 "AfternoonMeterLaw$Sim" "bees" "[[I") (List.mem_of_getElem? (i := 4) rfl)) (fun _ h9 => h9) rfl dX1_pass_31 ?_
        refine va_alen (ws := [(a 2, .inl (cR, mBc u, .inr (.inr (.inr (.inr (rfs br))))))]) (v := nI (mBc u)) hx hb hK (P_one hR.2.2.1) 0 1 rfl rfl rfl dX1_pass_34 ?_
        refine lv_icmp_ge (tgt := 84) hx hb dX1_pass_35 (by decide) (fun c_35 => ?_) (fun c_35 => ?_)
        · skip
          replace c_35 : (mBc u) ≤ k := leN c_35
          refine lv_aload_n hx hb dX1_pass_84 rfl (lv_at hl 0 rfl) ?_
          refine va_get (D := D) (ci := 1) (v := .int (nI Y)) (C := RX1) (T := TX1) (N := 10) hx hb hts hin hown hK hP 0 rfl rfl 8 (by decide) (hts (.fieldLink RX1 42 "AfternoonMeterLaw$Sim" "tea" "I") (List.mem_of_getElem? (i := 2) rfl)) (fun _ h9 => h9) rfl dX1_pass_85 ?_
          refine lv_aload_n hx hb dX1_pass_88 rfl (lv_at hl 0 rfl) ?_
          refine va_get (D := D) (ci := 1) (v := .int (nI (mRoom u))) (C := RX1) (T := TX1) (N := 10) hx hb hts hin hown hK hP 0 rfl rfl 3 (by decide) (hts (.fieldLink RX1 21 "AfternoonMeterLaw$Sim" "room" "I") (List.mem_of_getElem? (i := 6) rfl)) (fun _ h9 => h9) rfl dX1_pass_89 ?_
          refine lv_icmp_le (tgt := 107) hx hb dX1_pass_92 (by decide) (fun c_92 => ?_) (fun c_92 => ?_)
          · skip
            replace c_92 : Y ≤ (mRoom u) := leN c_92
            refine lv_iconst (v := nI 0) hx hb dX1_pass_107 (by decide +kernel) ?_
            refine lv_istore_n (lv' := [(1, .int (nI 0)), (0, .ref h), (2, .int (nI k))]) hx hb dX1_pass_108 rfl hl (by decide) rfl (fun ls hl => ?_)
            refine lv_aload_n hx hb dX1_pass_109 rfl (lv_at hl 1 rfl) ?_
            refine lv_dup hx hb dX1_pass_110 rfl ?_
            refine va_get (D := D) (ci := 1) (v := .int (nI Y)) (C := RX1) (T := TX1) (N := 10) hx hb hts hin hown hK hP 0 rfl rfl 8 (by decide) (hts (.fieldLink RX1 42 "AfternoonMeterLaw$Sim" "tea" "I") (List.mem_of_getElem? (i := 2) rfl)) (fun _ h9 => h9) rfl dX1_pass_111 ?_
            refine lv_iload_n hx hb dX1_pass_114 rfl (lv_at hl 0 rfl) ?_
            refine q_isubN hx hb (by omega) dX1_pass_115 ?_
            refine va_put (D := D) (ci := 1) (v := .int (nI (Y - 0))) (ty := .int) (C := RX1) (T := TX1) (N := 10) hx hb hts hin tyX1 tyX1_ok nmX1 hown hK hP hD hS 0 rfl rfl 8 (by decide) (hts (.fieldLink RX1 42 "AfternoonMeterLaw$Sim" "tea" "I") (List.mem_of_getElem? (i := 2) rfl)) (fun _ h9 => h9) rfl (by decide +kernel) rfl rfl (Nat.le_of_ble_eq_true rfl) dX1_pass_116 (fun H locs hP hD hS => ?_)
            have hP : va_P D vwCl [(h, .inr (1, [.ref (a 0), .ref (a 1), .ref (a 2), .int (nI (mRoom u)), .int (nI (mRate u)), .int (nI (mSip u)), .int (mAft u), .int (nI (mNow u)), .int (nI (Y - 0)), .int (mSpl u)]))] H := hP
            have hD : va_D A [(h, .inr (1, [.ref (a 0), .ref (a 1), .ref (a 2), .int (nI (mRoom u)), .int (nI (mRate u)), .int (nI (mSip u)), .int (mAft u), .int (nI (mNow u)), .int (nI (Y - 0)), .int (mSpl u)]))] := hD
            have hR := hRk _ _ hS
            refine lv_aload_n hx hb dX1_pass_119 rfl (lv_at hl 1 rfl) ?_
            refine lv_dup hx hb dX1_pass_120 rfl ?_
            refine va_get (D := D) (ci := 1) (v := .int (mSpl u)) (C := RX1) (T := TX1) (N := 10) hx hb hts hin hown hK hP 0 rfl rfl 9 (by decide) (hts (.fieldLink RX1 45 "AfternoonMeterLaw$Sim" "spilt" "I") (List.mem_of_getElem? (i := 7) rfl)) (fun _ h9 => h9) rfl dX1_pass_121 ?_
            refine lv_iload_n hx hb dX1_pass_124 rfl (lv_at hl 0 rfl) ?_
            refine lv_iadd hx hb dX1_pass_125 ?_
            refine va_put (D := D) (ci := 1) (v := .int ((mSpl u) + (nI 0))) (ty := .int) (C := RX1) (T := TX1) (N := 10) hx hb hts hin tyX1 tyX1_ok nmX1 hown hK hP hD hS 0 rfl rfl 9 (by decide) (hts (.fieldLink RX1 45 "AfternoonMeterLaw$Sim" "spilt" "I") (List.mem_of_getElem? (i := 7) rfl)) (fun _ h9 => h9) rfl (by decide +kernel) rfl rfl (Nat.le_of_ble_eq_true rfl) dX1_pass_126 (fun H locs hP hD hS => ?_)
            have hP : va_P D vwCl [(h, .inr (1, [.ref (a 0), .ref (a 1), .ref (a 2), .int (nI (mRoom u)), .int (nI (mRate u)), .int (nI (mSip u)), .int (mAft u), .int (nI (mNow u)), .int (nI (Y - 0)), .int ((mSpl u) + (nI 0))]))] H := hP
            have hD : va_D A [(h, .inr (1, [.ref (a 0), .ref (a 1), .ref (a 2), .int (nI (mRoom u)), .int (nI (mRate u)), .int (nI (mSip u)), .int (mAft u), .int (nI (mNow u)), .int (nI (Y - 0)), .int ((mSpl u) + (nI 0))]))] := hD
            have hR := hRk _ _ hS
            refine lv_aload_n hx hb dX1_pass_129 rfl (lv_at hl 1 rfl) ?_
            refine lv_dup hx hb dX1_pass_130 rfl ?_
            refine va_get (D := D) (ci := 1) (v := .int (nI (mNow u))) (C := RX1) (T := TX1) (N := 10) hx hb hts hin hown hK hP 0 rfl rfl 7 (by decide) (hts (.fieldLink RX1 39 "AfternoonMeterLaw$Sim" "minute" "I") (List.mem_of_getElem? (i := 1) rfl)) (fun _ h9 => h9) rfl dX1_pass_131 ?_
            refine lv_iconst (v := nI 1) hx hb dX1_pass_134 (by decide +kernel) ?_
            refine q_iaddN hx hb dX1_pass_135 ?_
            refine va_put (D := D) (ci := 1) (v := .int (nI ((mNow u) + 1))) (ty := .int) (C := RX1) (T := TX1) (N := 10) hx hb hts hin tyX1 tyX1_ok nmX1 hown hK hP hD hS 0 rfl rfl 7 (by decide) (hts (.fieldLink RX1 39 "AfternoonMeterLaw$Sim" "minute" "I") (List.mem_of_getElem? (i := 1) rfl)) (fun _ h9 => h9) rfl (by decide +kernel) rfl rfl (Nat.le_of_ble_eq_true rfl) dX1_pass_136 (fun H locs hP hD hS => ?_)
            have hP : va_P D vwCl [(h, .inr (1, [.ref (a 0), .ref (a 1), .ref (a 2), .int (nI (mRoom u)), .int (nI (mRate u)), .int (nI (mSip u)), .int (mAft u), .int (nI ((mNow u) + 1)), .int (nI (Y - 0)), .int ((mSpl u) + (nI 0))]))] H := hP
            have hD : va_D A [(h, .inr (1, [.ref (a 0), .ref (a 1), .ref (a 2), .int (nI (mRoom u)), .int (nI (mRate u)), .int (nI (mSip u)), .int (mAft u), .int (nI ((mNow u) + 1)), .int (nI (Y - 0)), .int ((mSpl u) + (nI 0))]))] := hD
            have hR := hRk _ _ hS
            refine lv_iload_n hx hb dX1_pass_139 rfl (lv_at hl 0 rfl) ?_
            have hq : nI 0 = nI (cAf u (mNow u) (mTea u) (mRate u) - mRoom u) ∧ ((mSc u, mNc u, mBc u, (mNow u) + 1, mRoom u, mRate u, mSip u, Y - 0, (mSpl u) + (nI 0), mAft u, mHt u, mFr u, mTo u, mCov u, mPe u, mBe u) : MS) = (mSc u, mNc u, mBc u, mNow u + 1, mRoom u, mRate u, mSip u, cAf u (mNow u) (mTea u) (mRate u) - (cAf u (mNow u) (mTea u) (mRate u) - (mRoom u)), (mSpl u) + nI (cAf u (mNow u) (mTea u) (mRate u) - (mRoom u)), mAft u, mHt u, mFr u, mTo u, mCov u, mPe u, mBe u) := by exact ⟨by rw [← hYc, Nat.sub_eq_zero_of_le c_92], by rw [← hYc, Nat.sub_eq_zero_of_le c_92]⟩
            exact W.iret hx hb hr (fun t ht hW => ⟨⟨_, ((mSc u, mNc u, mBc u, (mNow u) + 1, mRoom u, mRate u, mSip u, Y - 0, (mSpl u) + (nI 0), mAft u, mHt u, mFr u, mTo u, mCov u, mPe u, mBe u) : MS), rfl, hq, P_at ht hP⟩, hS.F ht⟩) hS.2.2 dX1_pass_140
          · skip
            replace c_92 : (mRoom u) < Y := nleN c_92
            refine lv_aload_n hx hb dX1_pass_95 rfl (lv_at hl 0 rfl) ?_
            refine va_get (D := D) (ci := 1) (v := .int (nI Y)) (C := RX1) (T := TX1) (N := 10) hx hb hts hin hown hK hP 0 rfl rfl 8 (by decide) (hts (.fieldLink RX1 42 "AfternoonMeterLaw$Sim" "tea" "I") (List.mem_of_getElem? (i := 2) rfl)) (fun _ h9 => h9) rfl dX1_pass_96 ?_
            refine lv_aload_n hx hb dX1_pass_99 rfl (lv_at hl 0 rfl) ?_
            refine va_get (D := D) (ci := 1) (v := .int (nI (mRoom u))) (C := RX1) (T := TX1) (N := 10) hx hb hts hin hown hK hP 0 rfl rfl 3 (by decide) (hts (.fieldLink RX1 21 "AfternoonMeterLaw$Sim" "room" "I") (List.mem_of_getElem? (i := 6) rfl)) (fun _ h9 => h9) rfl dX1_pass_100 ?_
            refine q_isubN hx hb (by omega) dX1_pass_103 ?_
            refine lv_goto (tgt := 108) hx hb dX1_pass_104 (by decide) ?_
            refine lv_istore_n (lv' := [(1, .int (nI (Y - (mRoom u)))), (0, .ref h), (2, .int (nI k))]) hx hb dX1_pass_108 rfl hl (by decide) rfl (fun ls hl => ?_)
            refine lv_aload_n hx hb dX1_pass_109 rfl (lv_at hl 1 rfl) ?_
            refine lv_dup hx hb dX1_pass_110 rfl ?_
            refine va_get (D := D) (ci := 1) (v := .int (nI Y)) (C := RX1) (T := TX1) (N := 10) hx hb hts hin hown hK hP 0 rfl rfl 8 (by decide) (hts (.fieldLink RX1 42 "AfternoonMeterLaw$Sim" "tea" "I") (List.mem_of_getElem? (i := 2) rfl)) (fun _ h9 => h9) rfl dX1_pass_111 ?_
            refine lv_iload_n hx hb dX1_pass_114 rfl (lv_at hl 0 rfl) ?_
            refine q_isubN hx hb (by omega) dX1_pass_115 ?_
            refine va_put (D := D) (ci := 1) (v := .int (nI (Y - (Y - (mRoom u))))) (ty := .int) (C := RX1) (T := TX1) (N := 10) hx hb hts hin tyX1 tyX1_ok nmX1 hown hK hP hD hS 0 rfl rfl 8 (by decide) (hts (.fieldLink RX1 42 "AfternoonMeterLaw$Sim" "tea" "I") (List.mem_of_getElem? (i := 2) rfl)) (fun _ h9 => h9) rfl (by decide +kernel) rfl rfl (Nat.le_of_ble_eq_true rfl) dX1_pass_116 (fun H locs hP hD hS => ?_)
            have hP : va_P D vwCl [(h, .inr (1, [.ref (a 0), .ref (a 1), .ref (a 2), .int (nI (mRoom u)), .int (nI (mRate u)), .int (nI (mSip u)), .int (mAft u), .int (nI (mNow u)), .int (nI (Y - (Y - (mRoom u)))), .int (mSpl u)]))] H := hP
            have hD : va_D A [(h, .inr (1, [.ref (a 0), .ref (a 1), .ref (a 2), .int (nI (mRoom u)), .int (nI (mRate u)), .int (nI (mSip u)), .int (mAft u), .int (nI (mNow u)), .int (nI (Y - (Y - (mRoom u)))), .int (mSpl u)]))] := hD
            have hR := hRk _ _ hS
            refine lv_aload_n hx hb dX1_pass_119 rfl (lv_at hl 1 rfl) ?_
            refine lv_dup hx hb dX1_pass_120 rfl ?_
            refine va_get (D := D) (ci := 1) (v := .int (mSpl u)) (C := RX1) (T := TX1) (N := 10) hx hb hts hin hown hK hP 0 rfl rfl 9 (by decide) (hts (.fieldLink RX1 45 "AfternoonMeterLaw$Sim" "spilt" "I") (List.mem_of_getElem? (i := 7) rfl)) (fun _ h9 => h9) rfl dX1_pass_121 ?_
            refine lv_iload_n hx hb dX1_pass_124 rfl (lv_at hl 0 rfl) ?_
            refine lv_iadd hx hb dX1_pass_125 ?_
            refine va_put (D := D) (ci := 1) (v := .int ((mSpl u) + (nI (Y - (mRoom u))))) (ty := .int) (C := RX1) (T := TX1) (N := 10) hx hb hts hin tyX1 tyX1_ok nmX1 hown hK hP hD hS 0 rfl rfl 9 (by decide) (hts (.fieldLink RX1 45 "AfternoonMeterLaw$Sim" "spilt" "I") (List.mem_of_getElem? (i := 7) rfl)) (fun _ h9 => h9) rfl (by decide +kernel) rfl rfl (Nat.le_of_ble_eq_true rfl) dX1_pass_126 (fun H locs hP hD hS => ?_)
            have hP : va_P D vwCl [(h, .inr (1, [.ref (a 0), .ref (a 1), .ref (a 2), .int (nI (mRoom u)), .int (nI (mRate u)), .int (nI (mSip u)), .int (mAft u), .int (nI (mNow u)), .int (nI (Y - (Y - (mRoom u)))), .int ((mSpl u) + (nI (Y - (mRoom u))))]))] H := hP
            have hD : va_D A [(h, .inr (1, [.ref (a 0), .ref (a 1), .ref (a 2), .int (nI (mRoom u)), .int (nI (mRate u)), .int (nI (mSip u)), .int (mAft u), .int (nI (mNow u)), .int (nI (Y - (Y - (mRoom u)))), .int ((mSpl u) + (nI (Y - (mRoom u))))]))] := hD
            have hR := hRk _ _ hS
            refine lv_aload_n hx hb dX1_pass_129 rfl (lv_at hl 1 rfl) ?_
            refine lv_dup hx hb dX1_pass_130 rfl ?_
            refine va_get (D := D) (ci := 1) (v := .int (nI (mNow u))) (C := RX1) (T := TX1) (N := 10) hx hb hts hin hown hK hP 0 rfl rfl 7 (by decide) (hts (.fieldLink RX1 39 "AfternoonMeterLaw$Sim" "minute" "I") (List.mem_of_getElem? (i := 1) rfl)) (fun _ h9 => h9) rfl dX1_pass_131 ?_
            refine lv_iconst (v := nI 1) hx hb dX1_pass_134 (by decide +kernel) ?_
            refine q_iaddN hx hb dX1_pass_135 ?_
            refine va_put (D := D) (ci := 1) (v := .int (nI ((mNow u) + 1))) (ty := .int) (C := RX1) (T := TX1) (N := 10) hx hb hts hin tyX1 tyX1_ok nmX1 hown hK hP hD hS 0 rfl rfl 7 (by decide) (hts (.fieldLink RX1 39 "AfternoonMeterLaw$Sim" "minute" "I") (List.mem_of_getElem? (i := 1) rfl)) (fun _ h9 => h9) rfl (by decide +kernel) rfl rfl (Nat.le_of_ble_eq_true rfl) dX1_pass_136 (fun H locs hP hD hS => ?_)
            have hP : va_P D vwCl [(h, .inr (1, [.ref (a 0), .ref (a 1), .ref (a 2), .int (nI (mRoom u)), .int (nI (mRate u)), .int (nI (mSip u)), .int (mAft u), .int (nI ((mNow u) + 1)), .int (nI (Y - (Y - (mRoom u)))), .int ((mSpl u) + (nI (Y - (mRoom u))))]))] H := hP
            have hD : va_D A [(h, .inr (1, [.ref (a 0), .ref (a 1), .ref (a 2), .int (nI (mRoom u)), .int (nI (mRate u)), .int (nI (mSip u)), .int (mAft u), .int (nI ((mNow u) + 1)), .int (nI (Y - (Y - (mRoom u)))), .int ((mSpl u) + (nI (Y - (mRoom u))))]))] := hD
            have hR := hRk _ _ hS
            refine lv_iload_n hx hb dX1_pass_139 rfl (lv_at hl 0 rfl) ?_
            have hq : nI (Y - (mRoom u)) = nI (cAf u (mNow u) (mTea u) (mRate u) - mRoom u) ∧ ((mSc u, mNc u, mBc u, (mNow u) + 1, mRoom u, mRate u, mSip u, Y - (Y - (mRoom u)), (mSpl u) + (nI (Y - (mRoom u))), mAft u, mHt u, mFr u, mTo u, mCov u, mPe u, mBe u) : MS) = (mSc u, mNc u, mBc u, mNow u + 1, mRoom u, mRate u, mSip u, cAf u (mNow u) (mTea u) (mRate u) - (cAf u (mNow u) (mTea u) (mRate u) - (mRoom u)), (mSpl u) + nI (cAf u (mNow u) (mTea u) (mRate u) - (mRoom u)), mAft u, mHt u, mFr u, mTo u, mCov u, mPe u, mBe u) := by exact ⟨by rw [← hYc], by rw [← hYc]⟩
            exact W.iret hx hb hr (fun t ht hW => ⟨⟨_, ((mSc u, mNc u, mBc u, (mNow u) + 1, mRoom u, mRate u, mSip u, Y - (Y - (mRoom u)), (mSpl u) + (nI (Y - (mRoom u))), mAft u, mHt u, mFr u, mTo u, mCov u, mPe u, mBe u) : MS), rfl, hq, P_at ht hP⟩, hS.F ht⟩) hS.2.2 dX1_pass_140
        · skip
          replace c_35 : k < (mBc u) := nleN c_35
          exact (by omega : False).elim
      | succ n ih =>
        intro k hk Y hY hYb H locs hP hD hS ls hl
        have hR := hRk _ _ hS
        refine lv_iload_n hx hb dX1_pass_29 rfl (lv_at hl 2 rfl) ?_
        refine lv_aload_n hx hb dX1_pass_30 rfl (lv_at hl 0 rfl) ?_
        refine va_get (D := D) (ci := 1) (v := .ref (a 2)) (C := RX1) (T := TX1) (N := 10) hx hb hts hin hown hK hP 0 rfl rfl 2 (by decide) (hts (.fieldLink RX1 18 "AfternoonMeterLaw$Sim" "bees" "[[I") (List.mem_of_getElem? (i := 4) rfl)) (fun _ h9 => h9) rfl dX1_pass_31 ?_
        refine va_alen (ws := [(a 2, .inl (cR, mBc u, .inr (.inr (.inr (.inr (rfs br))))))]) (v := nI (mBc u)) hx hb hK (P_one hR.2.2.1) 0 1 rfl rfl rfl dX1_pass_34 ?_
        refine lv_icmp_ge (tgt := 84) hx hb dX1_pass_35 (by decide) (fun c_35 => ?_) (fun c_35 => ?_)
        · skip
          replace c_35 : (mBc u) ≤ k := leN c_35
          exact (by omega : False).elim
        · skip
          replace c_35 : k < (mBc u) := nleN c_35
          refine lv_aload_n hx hb dX1_pass_38 rfl (lv_at hl 0 rfl) ?_
          refine lv_iload_n hx hb dX1_pass_39 rfl (lv_at hl 2 rfl) ?_
          refine lv_aload_n hx hb dX1_pass_40 rfl (lv_at hl 0 rfl) ?_
          refine va_get (D := D) (ci := 1) (v := .int (nI (mNow u))) (C := RX1) (T := TX1) (N := 10) hx hb hts hin hown hK hP 0 rfl rfl 7 (by decide) (hts (.fieldLink RX1 39 "AfternoonMeterLaw$Sim" "minute" "I") (List.mem_of_getElem? (i := 1) rfl)) (fun _ h9 => h9) rfl dX1_pass_41 ?_
          refine vp_callSi (W.runV (As := [.int (nI k), .int (nI (mNow u))]) (rest := []) ⟨hx, hb, hml, hown, hts⟩ (c_X1_ticks l D cI cR h a nr br (mSc u, mNc u, mBc u, mNow u, mRoom u, mRate u, mSip u, Y, mSpl u, mAft u, mHt u, mFr u, mTo u, mCov u, mPe u, mBe u) k (mNow u) hI (by omega) (by omega)) (cwV 2 hts gX1_pass_X1_ticks rfl rfl rfl (by decide +kernel) ⟨Nat.le_of_ble_eq_true rfl, Nat.le_of_ble_eq_true rfl⟩) (pr_pre hK hP hR rfl rfl) rfl rfl hl.1 rfl (lv_room (Nat.le_of_ble_eq_true rfl)) dX1_pass_44 ⟨Nat.le_of_ble_eq_true rfl, Nat.le_of_ble_eq_true rfl⟩) (fun r hr => ?_)
          subst hr
          refine lv_if_eq (tgt := 78) hx hb dX1_pass_47 (by decide) (fun c_47 => ?_) (fun c_47 => ?_)
          · skip
            replace c_47 : (tkB u k (mNow u)) = false := bI_eq0 c_47
            refine lv_iinc (v := nI (k + 1)) (lv' := [(2, .int (nI (k + 1))), (0, .ref h), (1, .int (nI 0))]) hx hb dX1_pass_78 hl (k := 2) rfl (nI_i1 _) (by decide) rfl (fun ls hl => ?_)
            refine lv_goto (tgt := 29) hx hb dX1_pass_81 (by decide) ?_
            exact ih (k + 1) (by omega) Y (by exact sip_n c_11 c_47 hY) (by omega) H locs hP hD hS _ (lv_sub hl [1, 2, 0] rfl)
          · skip
            replace c_47 : (tkB u k (mNow u)) = true := bI_ne0 c_47
            refine lv_aload_n hx hb dX1_pass_50 rfl (lv_at hl 0 rfl) ?_
            refine lv_aload_n hx hb dX1_pass_51 rfl (lv_at hl 0 rfl) ?_
            refine va_get (D := D) (ci := 1) (v := .int (nI Y)) (C := RX1) (T := TX1) (N := 10) hx hb hts hin hown hK hP 0 rfl rfl 8 (by decide) (hts (.fieldLink RX1 42 "AfternoonMeterLaw$Sim" "tea" "I") (List.mem_of_getElem? (i := 2) rfl)) (fun _ h9 => h9) rfl dX1_pass_52 ?_
            refine lv_aload_n hx hb dX1_pass_55 rfl (lv_at hl 0 rfl) ?_
            refine va_get (D := D) (ci := 1) (v := .int (nI (mSip u))) (C := RX1) (T := TX1) (N := 10) hx hb hts hin hown hK hP 0 rfl rfl 5 (by decide) (hts (.fieldLink RX1 28 "AfternoonMeterLaw$Sim" "sip" "I") (List.mem_of_getElem? (i := 5) rfl)) (fun _ h9 => h9) rfl dX1_pass_56 ?_
            refine lv_icmp_ge (tgt := 66) hx hb dX1_pass_59 (by decide) (fun c_59 => ?_) (fun c_59 => ?_)
            · skip
              replace c_59 : (mSip u) ≤ Y := leN c_59
              refine lv_aload_n hx hb dX1_pass_66 rfl (lv_at hl 0 rfl) ?_
              refine va_get (D := D) (ci := 1) (v := .int (nI Y)) (C := RX1) (T := TX1) (N := 10) hx hb hts hin hown hK hP 0 rfl rfl 8 (by decide) (hts (.fieldLink RX1 42 "AfternoonMeterLaw$Sim" "tea" "I") (List.mem_of_getElem? (i := 2) rfl)) (fun _ h9 => h9) rfl dX1_pass_67 ?_
              refine lv_aload_n hx hb dX1_pass_70 rfl (lv_at hl 0 rfl) ?_
              refine va_get (D := D) (ci := 1) (v := .int (nI (mSip u))) (C := RX1) (T := TX1) (N := 10) hx hb hts hin hown hK hP 0 rfl rfl 5 (by decide) (hts (.fieldLink RX1 28 "AfternoonMeterLaw$Sim" "sip" "I") (List.mem_of_getElem? (i := 5) rfl)) (fun _ h9 => h9) rfl dX1_pass_71 ?_
              refine q_isubN hx hb (by omega) dX1_pass_74 ?_
              refine va_put (D := D) (ci := 1) (v := .int (nI (Y - (mSip u)))) (ty := .int) (C := RX1) (T := TX1) (N := 10) hx hb hts hin tyX1 tyX1_ok nmX1 hown hK hP hD hS 0 rfl rfl 8 (by decide) (hts (.fieldLink RX1 42 "AfternoonMeterLaw$Sim" "tea" "I") (List.mem_of_getElem? (i := 2) rfl)) (fun _ h9 => h9) rfl (by decide +kernel) rfl rfl (Nat.le_of_ble_eq_true rfl) dX1_pass_75 (fun H locs hP hD hS => ?_)
              have hP : va_P D vwCl [(h, .inr (1, [.ref (a 0), .ref (a 1), .ref (a 2), .int (nI (mRoom u)), .int (nI (mRate u)), .int (nI (mSip u)), .int (mAft u), .int (nI (mNow u)), .int (nI (Y - (mSip u))), .int (mSpl u)]))] H := hP
              have hD : va_D A [(h, .inr (1, [.ref (a 0), .ref (a 1), .ref (a 2), .int (nI (mRoom u)), .int (nI (mRate u)), .int (nI (mSip u)), .int (mAft u), .int (nI (mNow u)), .int (nI (Y - (mSip u))), .int (mSpl u)]))] := hD
              have hR := hRk _ _ hS
              refine lv_iinc (v := nI (k + 1)) (lv' := [(2, .int (nI (k + 1))), (0, .ref h), (1, .int (nI 0))]) hx hb dX1_pass_78 hl (k := 2) rfl (nI_i1 _) (by decide) rfl (fun ls hl => ?_)
              refine lv_goto (tgt := 29) hx hb dX1_pass_81 (by decide) ?_
              exact ih (k + 1) (by omega) (Y - (mSip u)) (by exact sip_y c_47 hY) (by omega) H locs hP hD hS _ (lv_sub hl [1, 2, 0] rfl)
            · skip
              replace c_59 : Y < (mSip u) := nleN c_59
              refine lv_iconst (v := nI 0) hx hb dX1_pass_62 (by decide +kernel) ?_
              refine lv_goto (tgt := 75) hx hb dX1_pass_63 (by decide) ?_
              refine va_put (D := D) (ci := 1) (v := .int (nI 0)) (ty := .int) (C := RX1) (T := TX1) (N := 10) hx hb hts hin tyX1 tyX1_ok nmX1 hown hK hP hD hS 0 rfl rfl 8 (by decide) (hts (.fieldLink RX1 42 "AfternoonMeterLaw$Sim" "tea" "I") (List.mem_of_getElem? (i := 2) rfl)) (fun _ h9 => h9) rfl (by decide +kernel) rfl rfl (Nat.le_of_ble_eq_true rfl) dX1_pass_75 (fun H locs hP hD hS => ?_)
              have hP : va_P D vwCl [(h, .inr (1, [.ref (a 0), .ref (a 1), .ref (a 2), .int (nI (mRoom u)), .int (nI (mRate u)), .int (nI (mSip u)), .int (mAft u), .int (nI (mNow u)), .int (nI 0), .int (mSpl u)]))] H := hP
              have hD : va_D A [(h, .inr (1, [.ref (a 0), .ref (a 1), .ref (a 2), .int (nI (mRoom u)), .int (nI (mRate u)), .int (nI (mSip u)), .int (mAft u), .int (nI (mNow u)), .int (nI 0), .int (mSpl u)]))] := hD
              have hR := hRk _ _ hS
              refine lv_iinc (v := nI (k + 1)) (lv' := [(2, .int (nI (k + 1))), (0, .ref h), (1, .int (nI 0))]) hx hb dX1_pass_78 hl (k := 2) rfl (nI_i1 _) (by decide) rfl (fun ls hl => ?_)
              refine lv_goto (tgt := 29) hx hb dX1_pass_81 (by decide) ?_
              exact ih (k + 1) (by omega) 0 (by rw [← sip_y c_47 hY]; omega) (by omega) H locs hP hD hS _ (lv_sub hl [1, 2, 0] rfl)
    exact lp29 _ 0 (Nat.zero_add _) ((mTea u) + (mRate u)) (by rw [show ct (fun b => htB u b (mNow u)) 0 = 0 from rfl, Nat.mul_zero, Nat.sub_zero]) (by omega) _ _ hP hD hS _ (lv_sub hl [2, 1, 0] rfl)
set_option maxHeartbeats 4000000 in
set_option maxRecDepth 100000 in
theorem c_X1_pass_ (l : Launch) (D : va_G) (cI cR : ClassId) (h : Nat) (a nr br : Nat → Nat) (u : MS) (sz : Nat) (mm : Nat) (hI : InvN u) (hNm : NM (fun q => q = h) a nr br u) (hp : 1 ≤ mm ∧ mNow u + mm ≤ 360) (htr : mTea u ≤ mRoom u) (hrm : mRoom u ≤ 50 ∧ mRate u ≤ 9 ∧ mSip u ≤ 9) : Met l yX1_pass_ wsX1_pass_ ({ frames := 3, cells := 0, slots := 0, locals := 68 } : Room) (va_Pc [.ref h, .int (nI mm)] (fun U => U.heap.size = sz ∧ va_P D vwCl (picS h a u) U.heap ∧ RO cI cR a nr br u U.heap ∧ va_K D vwCl (tyR cI cR) U)) ((fun A : Nat → Prop => va_Qi (fun (r : Int32) (w : MS) => r = (psS u mm).1 ∧ w = (mSc u, mNc u, mBc u, mNow u + mm, mRoom u, mRate u, mSip u, (psS u mm).2, mSpl u + (psS u mm).1, mAft u, mHt u, mFr u, mTo u, mCov u, mPe u, mBe u)) (fun (w : MS) (t : State) => va_P D vwCl (picS h a w) t.heap) A) (va_A (picS h a u) sz)) 0 0 (va_A (picS h a u) sz) := by
  refine en_ws (cc := cX1_pass_) (maxL := 4) (ret := (some .int)) hNm _ (fun A : Nat → Prop => va_Qi (fun (r : Int32) (w : MS) => r = (psS u mm).1 ∧ w = (mSc u, mNc u, mBc u, mNow u + mm, mRoom u, mRate u, mSip u, (psS u mm).2, mSpl u + (psS u mm).1, mAft u, mHt u, mFr u, mTo u, mCov u, mPe u, mBe u)) (fun (w : MS) (t : State) => va_P D vwCl (picS h a w) t.heap) A) (by decide) rfl (Nat.le_of_ble_eq_true rfl) ?_
  intro p e s m args below meth c ls A H locs hx hb hml hr hlocks hts hown hsz hRk hP hK hD hA hS hl
  have hown : s.vm.findClass RX1 = some m.cls := hown
  have hin : ∀ w ∈ wsX10, w ∈ wsX1_pass_ := fun _ h9 => List.mem_cons_of_mem _ (List.mem_append_right _ h9)
  have hl : lv_has ls 4 [(0, .ref h), (1, .int (nI mm))] := hl
  have hR := hRk _ _ hS
  obtain ⟨hIa, hIb, hIc, hId, hIf, hIg, hIi⟩ := id hI
  refine lv_iconst (v := nI 0) hx hb dX1_pass__0 (by decide +kernel) ?_
  refine lv_istore_n (lv' := [(2, .int (nI 0)), (0, .ref h), (1, .int (nI mm))]) hx hb dX1_pass__1 rfl hl (by decide) rfl (fun ls hl => ?_)
  refine lv_iconst (v := nI 0) hx hb dX1_pass__2 (by decide +kernel) ?_
  refine lv_istore_n (lv' := [(3, .int (nI 0)), (2, .int (nI 0)), (0, .ref h), (1, .int (nI mm))]) hx hb dX1_pass__3 rfl hl (by decide) rfl (fun ls hl => ?_)
  have lp4 : ∀ (n k : Nat), k + n = mm → ∀ (X : Int32), X = (psS u k).1 → ∀ (Y : Nat), Y = (psS u k).2 → ∀ (Z : Int32), Z = mSpl u + (psS u k).1 → ∀ (T : Nat), T = mNow u + k → Y ≤ mRoom u → ∀ (H : Heap) (locs : List Loc), va_P D vwCl [(h, .inr (1, [.ref (a 0), .ref (a 1), .ref (a 2), .int (nI (mRoom u)), .int (nI (mRate u)), .int (nI (mSip u)), .int (mAft u), .int (nI T), .int (nI Y), .int Z]))] H → va_D A [(h, .inr (1, [.ref (a 0), .ref (a 1), .ref (a 2), .int (nI (mRoom u)), .int (nI (mRate u)), .int (nI (mSip u)), .int (mAft u), .int (nI T), .int (nI Y), .int Z]))] → va_S A s.heap H locs → ∀ (ls : Array Slot), lv_has ls 4 [(0, .ref h), (1, .int (nI mm)), (2, .int X), (3, .int (nI k))] → W p l e ({ frames := 3, cells := 0, slots := 0, locals := 68 } : Room) s m args below meth c H locs 0 0 (MQ below ((fun A : Nat → Prop => va_Qi (fun (r : Int32) (w : MS) => r = (psS u mm).1 ∧ w = (mSc u, mNc u, mBc u, mNow u + mm, mRoom u, mRate u, mSip u, (psS u mm).2, mSpl u + (psS u mm).1, mAft u, mHt u, mFr u, mTo u, mCov u, mPe u, mBe u)) (fun (w : MS) (t : State) => va_P D vwCl (picS h a w) t.heap) A) A) args s 0 0 A) (F0 m 4 ls []) := by
    intro n
    induction n with
    | zero =>
      intro k hk X eX Y eY Z eZ T eT hY H locs hP hD hS ls hl
      have hR := hRk _ _ hS
      have ek : k = mm := by omega
      refine lv_iload_n hx hb dX1_pass__4 rfl (lv_at hl 3 rfl) ?_
      refine lv_iload_n hx hb dX1_pass__5 rfl (lv_at hl 1 rfl) ?_
      refine lv_icmp_ge (tgt := 22) hx hb dX1_pass__6 (by decide) (fun c_6 => ?_) (fun c_6 => ?_)
      · skip
        replace c_6 : mm ≤ k := leN c_6
        refine lv_iload_n hx hb dX1_pass__22 rfl (lv_at hl 2 rfl) ?_
        have hq : X = (psS u mm).1 ∧ ((mSc u, mNc u, mBc u, T, mRoom u, mRate u, mSip u, Y, Z, mAft u, mHt u, mFr u, mTo u, mCov u, mPe u, mBe u) : MS) = (mSc u, mNc u, mBc u, mNow u + mm, mRoom u, mRate u, mSip u, (psS u mm).2, mSpl u + (psS u mm).1, mAft u, mHt u, mFr u, mTo u, mCov u, mPe u, mBe u) := by rw [eX, eY, eZ, eT, ek]; exact ⟨rfl, rfl⟩
        exact W.iret hx hb hr (fun t ht hW => ⟨⟨_, ((mSc u, mNc u, mBc u, T, mRoom u, mRate u, mSip u, Y, Z, mAft u, mHt u, mFr u, mTo u, mCov u, mPe u, mBe u) : MS), rfl, hq, P_at ht hP⟩, hS.F ht⟩) hS.2.2 dX1_pass__23
      · skip
        replace c_6 : k < mm := nleN c_6
        exact (by omega : False).elim
    | succ n ih =>
      intro k hk X eX Y eY Z eZ T eT hY H locs hP hD hS ls hl
      have hR := hRk _ _ hS
      refine lv_iload_n hx hb dX1_pass__4 rfl (lv_at hl 3 rfl) ?_
      refine lv_iload_n hx hb dX1_pass__5 rfl (lv_at hl 1 rfl) ?_
      refine lv_icmp_ge (tgt := 22) hx hb dX1_pass__6 (by decide) (fun c_6 => ?_) (fun c_6 => ?_)
      · skip
        replace c_6 : mm ≤ k := leN c_6
        exact (by omega : False).elim
      · skip
        replace c_6 : k < mm := nleN c_6
        refine lv_iload_n hx hb dX1_pass__9 rfl (lv_at hl 2 rfl) ?_
        refine lv_aload_n hx hb dX1_pass__10 rfl (lv_at hl 0 rfl) ?_
        have hFc := va_free (wc := [(h, .inr (1, [.ref (a 0), .ref (a 1), .ref (a 2), .int (nI (mRoom u)), .int (nI (mRate u)), .int (nI (mSip u)), .int (mAft u), .int (nI T), .int (nI Y), .int Z]))]) hD hS hA [0] rfl
        refine va_calli (va_runV (As := []) (rest := [.int X]) ⟨hx, hb, hml, hown, hts⟩ (c_X1_pass l D cI cR h a nr br (mSc u, mNc u, mBc u, T, mRoom u, mRate u, mSip u, Y, Z, mAft u, mHt u, mFr u, mTo u, mCov u, mPe u, mBe u) H.size (show InvN _ from ⟨hIa, hIb, hIc, (by show T ≤ 360; omega), hIf, hIg, hIi⟩) hNm (show T < 360 by omega) hY hrm) (cwV 0 hts gX1_pass__X1_pass rfl rfl rfl (by decide +kernel) ⟨Nat.le_of_ble_eq_true rfl, Nat.le_of_ble_eq_true rfl⟩) ⟨ws_blind, va_recv (ci := 1) (q0 := 0) hK hP rfl rfl, fun U hU hW => ⟨rfl, by rw [hU], by rw [hU]; exact hP, by rw [hU]; exact hR, va_K.moved hW.alike hK⟩⟩ rfl rfl hl.1 rfl (lv_room (Nat.le_of_ble_eq_true rfl)) dX1_pass__11 ⟨Nat.le_of_ble_eq_true rfl, Nat.le_of_ble_eq_true rfl⟩) hS (fun q _ h => hFc q h) hFc (fun r w t H locs ht hvm hw hB hz1 hk1 hS => ?_)
        obtain ⟨rfl, rfl⟩ := hw
        have hB := P_of hB ht
        have hP : va_P D vwCl [(h, .inr (1, [.ref (a 0), .ref (a 1), .ref (a 2), .int (nI (mRoom u)), .int (nI (mRate u)), .int (nI (mSip u)), .int (mAft u), .int (nI (T + 1)), .int (nI (cAf u T Y (mRate u) - (cAf u T Y (mRate u) - (mRoom u)))), .int (Z + nI (cAf u T Y (mRate u) - (mRoom u)))]))] H := hB
        have hD : va_D A [(h, .inr (1, [.ref (a 0), .ref (a 1), .ref (a 2), .int (nI (mRoom u)), .int (nI (mRate u)), .int (nI (mSip u)), .int (mAft u), .int (nI (T + 1)), .int (nI (cAf u T Y (mRate u) - (cAf u T Y (mRate u) - (mRoom u)))), .int (Z + nI (cAf u T Y (mRate u) - (mRoom u)))]))] := D_one (hD.2 0 _ rfl)
        have hR := hRk _ _ hS
        refine lv_iadd hx hb dX1_pass__14 ?_
        refine lv_istore_n (lv' := [(2, .int (X + (nI (cAf u T Y (mRate u) - mRoom u)))), (0, .ref h), (1, .int (nI mm)), (3, .int (nI k))]) hx hb dX1_pass__15 rfl hl (by decide) rfl (fun ls hl => ?_)
        refine lv_iinc (v := nI (k + 1)) (lv' := [(3, .int (nI (k + 1))), (2, .int (X + (nI (cAf u T Y (mRate u) - mRoom u)))), (0, .ref h), (1, .int (nI mm))]) hx hb dX1_pass__16 hl (k := 3) rfl (nI_i1 _) (by decide) rfl (fun ls hl => ?_)
        refine lv_goto (tgt := 4) hx hb dX1_pass__19 (by decide) ?_
        exact ih (k + 1) (by omega) (X + (nI (cAf u T Y (mRate u) - mRoom u))) (by subst eX eY eT; rfl) (cAf u T Y (mRate u) - (cAf u T Y (mRate u) - (mRoom u))) (by subst eX eY eT; rfl) (Z + nI (cAf u T Y (mRate u) - (mRoom u))) (by subst eX eY eT eZ; exact Int32.add_assoc _ _ _) (T + 1) (by subst eT; rfl) (by omega) H locs hP hD hS _ (lv_sub hl [2, 3, 1, 0] rfl)
  exact lp4 _ 0 (Nat.zero_add _) (nI 0) (by rfl) (mTea u) (by rfl) (mSpl u) (by exact (Int32.add_zero _).symm) (mNow u) (by rfl) (by omega) _ _ hP hD hS _ (lv_sub hl [2, 3, 1, 0] rfl)
