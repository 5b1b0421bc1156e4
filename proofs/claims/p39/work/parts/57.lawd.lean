set_option maxHeartbeats 8000000 in
set_option maxRecDepth 100000 in
theorem sg_822 {p : Program} {l : Launch} {e : Env} {s : State} {m : MethodId} {below : List Frame} {meth : Method} {c : Code} {D : va_G} {cI cR : ClassId} {b L h0 h1 : Nat} {a0 : Nat → Nat} {xs : Nat → Int32} {tm : Nat} {x0 : Int32} (hL : L ≤ 260) (C0 : lw_At p s m meth c b L xs) (hAO : AOI s) (hK : va_K D vwCl (tyR cI cR) s) {u : MS} {on : Nat → Int32} {a1 nr br : Nat → Nat} {H : Heap} {locs : List Loc} {C Sl : Nat} (hC : C + 100 ≤ 754895) (hSl : Sl + 1000 ≤ 6836784) (hT : TW D cI cR h0 a0 h1 u on a1 nr br H) (hD : va_D (LA s) (picT cI h0 a0 h1 a1 u u on)) (hS : va_S (LA s) s.heap H locs)  {ls : Array Slot} (hl : lv_has ls 21 [(0, .ref b), (1, .ref h0), (2, .ref h1), (3, .int (nI tm)), (4, .int x0), (5, .long (fDig u)), (7, .int (nI (mNow u))), (11, .int (nI (ct (awB u) 360))), (12, .int (fBG u)), (14, .int (fSp u (mRate u))), (16, .int (nI (sfF u 9)))]) (kk : ∀ (H : Heap) (locs : List Loc), va_P D vwCl (picT cI h0 a0 h1 a1 u u on) H → RO cI cR a1 nr br u H → va_S (LA s) s.heap H locs → ∀ (ls : Array Slot), lv_has ls 21 [(0, .ref b), (1, .ref h0), (2, .ref h1), (3, .int (nI tm)), (4, .int x0), (5, .long (fDig u)), (7, .int (nI (mNow u))), (11, .int (nI (ct (awB u) 360))), (12, .int (fBG u)), (14, .int (fSp u (mRate u)))] → W p l e room_1 s m #[Value.ref b] below meth c H locs C Sl (lw_Z below #[Value.ref b] s) (F0 m 928 ls [])) : W p l e room_1 s m #[Value.ref b] below meth c H locs C Sl (lw_Z below #[Value.ref b] s) (F0 m 822 ls []) := by
  obtain ⟨hx, hb, hr, hml, hown, hts0, hX, hbl, hlocks, hgv⟩ := id C0
  have hown : s.vm.findClass RL = some m.cls := hown
  have hts : ∀ w ∈ wsL_law, w.before #[Value.ref b] s = true := fun w h => hts0 w (wsL_law_in w h)
  have hin : ∀ w ∈ wsX10, w ∈ wsL_law := inlX1
  have hA : ∀ q : Nat, s.heap.size ≤ q → LA s q := fun _ h => h
  have hbA : ¬ LA s b := Nat.not_le.mpr hbl
  obtain ⟨hI, hO, hIS, hNM, hP, hR⟩ := id hT
  obtain ⟨hIa, hIb, hIc, hId, hIe, hIf, hIg, hIh, hIi, hIj⟩ := id hI
  have hXH : va_X b L xs s H := hX.kept (hS.2.1 b hbl hbA)
  obtain ⟨S9, eS9, hS9⟩ := id hIS
  obtain ⟨hs1, hs2, hs3⟩ := sf_spec hI
  refine lv_aload_n hx hb dL_law_822 rfl (lv_at hl 1 rfl) ?_
  refine vp_callSi (W.runV (As := []) (rest := []) ⟨hx, hb, hml, hown, hts⟩ (c_X0_spilt l D cI h0 a0 u on ) (cwV 0 hts gL_law_X0_spilt rfl rfl rfl (by decide +kernel) ⟨Nat.le_of_ble_eq_true rfl, Nat.le_of_ble_eq_true rfl⟩) (pu_pre (hK.sub (tys' := [(cI, .int)]) [0] rfl) (hP.sub (ws' := pic0 cI h0 a0 u on) [0, 1, 2, 3, 4, 5, 6, 7] rfl) rfl rfl) rfl rfl hl.1 rfl (lv_room (Nat.le_of_ble_eq_true rfl)) dL_law_823 ⟨show C + 0 ≤ 754895 by omega, show Sl + 0 ≤ 6836784 by omega⟩) (fun r hr9 => ?_)
  subst hr9
  rw [eS9]
  refine lv_istore (lv' := [(17, .int (nI S9)), (0, .ref b), (1, .ref h0), (2, .ref h1), (3, .int (nI tm)), (4, .int x0), (5, .long (fDig u)), (7, .int (nI (mNow u))), (11, .int (nI (ct (awB u) 360))), (12, .int (fBG u)), (14, .int (fSp u (mRate u))), (16, .int (nI (sfF u 9)))]) hx hb dL_law_826 hl (by decide) rfl (fun ls hl => ?_)
  refine lv_aload_n hx hb dL_law_828 rfl (lv_at hl 2 rfl) ?_
  refine lv_aload_n hx hb dL_law_829 rfl (lv_at hl 3 rfl) ?_
  refine va_get (D := D) (ci := 1) (v := .int (nI (mRoom u))) (C := RX1) (T := TX1) (N := 10) hx hb hts hin hown hK hP 8 rfl rfl 3 (by decide) (hts (.fieldLink RL 59 "AfternoonMeterLaw$Sim" "room" "I") (List.mem_of_getElem? (i := 11) rfl)) (fun _ h9 => h9) rfl dL_law_830 ?_
  refine lv_iload hx hb dL_law_833 (lv_at hl 11 rfl) ?_
  refine lv_aload_n hx hb dL_law_835 rfl (lv_at hl 3 rfl) ?_
  refine va_get (D := D) (ci := 1) (v := .int (nI (mSip u))) (C := RX1) (T := TX1) (N := 10) hx hb hts hin hown hK hP 8 rfl rfl 5 (by decide) (hts (.fieldLink RL 66 "AfternoonMeterLaw$Sim" "sip" "I") (List.mem_of_getElem? (i := 13) rfl)) (fun _ h9 => h9) rfl dL_law_836 ?_
  have hPc := hP.sub (ws' := (pic0 cI h0 a0 u on)) [0, 1, 2, 3, 4, 5, 6, 7] rfl
  have hDc := hD.sub (ws' := (pic0 cI h0 a0 u on)) [0, 1, 2, 3, 4, 5, 6, 7] (by decide) rfl
  have hKc := hK.sub (tys' := [(cI, .int)]) [0] rfl
  have hFc := va_free (wc := (pic0 cI h0 a0 u on)) hD hS hA [0, 1, 2, 3, 4, 5, 6, 7] rfl
  refine va_calli (va_runV (As := [.int (nI (mRoom u)), .int (nI (sfF u 9)), .int (nI (mSip u))]) (rest := []) ⟨hx, hb, hml, hown, hts⟩ (c_X0_setTea l D cI h0 a0 u on H.size (mRoom u) (sfF u 9) (mSip u) hI (by omega)) (cwV 3 hts gL_law_X0_setTea rfl rfl rfl (by decide +kernel) ⟨Nat.le_of_ble_eq_true rfl, Nat.le_of_ble_eq_true rfl⟩) ⟨wr_blind, va_recv (ci := 0) (q0 := 0) hKc hPc rfl rfl, fun U hU hW => ⟨rfl, by rw [hU], by rw [hU]; exact hPc, va_K.moved hW.alike hKc, hDc.weaken (fun _ _ _ _ => trivial)⟩⟩ rfl rfl hl.1 rfl (lv_room (Nat.le_of_ble_eq_true rfl)) dL_law_839 ⟨show C + 0 ≤ 754895 by omega, show Sl + 0 ≤ 6836784 by omega⟩) hS (fun q _ h => hFc q h) hFc (fun r w t H1 locs ht hvm hw hB hz1 hk1 hS1 => ?_)
  obtain ⟨rfl, rfl⟩ := hw
  obtain ⟨hP1, hK1, hD1⟩ := hB
  rw [ht] at hP1
  have hR := hR.k0 hNM hk1
  have hP1 : va_P D vwCl (pic0 cI h0 a0 (uTea u (mRoom u) (sfF u 9) (mSip u)) on) H1 := hP1
  have hD1 : va_D (va_A (pic0 cI h0 a0 u on) H.size) (pic0 cI h0 a0 (uTea u (mRoom u) (sfF u 9) (mSip u)) on) := hD1
  obtain ⟨hP, hD⟩ := va_join (wr := [(h1, .inr (1, [.ref (a1 0), .ref (a1 1), .ref (a1 2), .int (nI (mRoom u)), .int (nI (mRate u)), .int (nI (mSip u)), .int (mAft u), .int (nI (mNow u)), .int (nI (mTea u)), .int (mSpl u)]))]) (w1 := (pic0 cI h0 a0 (uTea u (mRoom u) (sfF u 9) (mSip u)) on)) hP hD [0, 1, 2, 3, 4, 5, 6, 7] [8] rfl rfl (by decide) (by decide) hk1 hFc hP1 hD1
  generalize H1 = H at hP hR hS1 ⊢
  have hS := hS1
  have hP : va_P D vwCl [(h0, .inr (0, [.ref (a0 0), .int (nI (mSc (uTea u (mRoom u) (sfF u 9) (mSip u)))), .ref (a0 1), .ref (a0 2), .int (nI (mNc (uTea u (mRoom u) (sfF u 9) (mSip u)))), .ref (a0 3), .ref (a0 4), .ref (a0 5), .int (nI (mBc (uTea u (mRoom u) (sfF u 9) (mSip u)))), .ref (a0 6), .int (nI (mRoom (uTea u (mRoom u) (sfF u 9) (mSip u)))), .int (nI (mRate (uTea u (mRoom u) (sfF u 9) (mSip u)))), .int (nI (mSip (uTea u (mRoom u) (sfF u 9) (mSip u)))), .int (nI (mTea (uTea u (mRoom u) (sfF u 9) (mSip u)))), .int (mSpl (uTea u (mRoom u) (sfF u 9) (mSip u))), .int (nI (mNow (uTea u (mRoom u) (sfF u 9) (mSip u)))), .int (mAft (uTea u (mRoom u) (sfF u 9) (mSip u)))])), (a0 0, .inl (cI, 4, .inl (mHt (uTea u (mRoom u) (sfF u 9) (mSip u))))), (a0 1, .inl (cI, 8, .inl (mFr (uTea u (mRoom u) (sfF u 9) (mSip u))))), (a0 2, .inl (cI, 8, .inl (mTo (uTea u (mRoom u) (sfF u 9) (mSip u))))), (a0 3, .inl (cI, 360, .inl (mCov (uTea u (mRoom u) (sfF u 9) (mSip u))))), (a0 4, .inl (cI, 6, .inl (mPe (uTea u (mRoom u) (sfF u 9) (mSip u))))), (a0 5, .inl (cI, 6, .inl (mBe (uTea u (mRoom u) (sfF u 9) (mSip u))))), (a0 6, .inl (cI, 360, .inl on)), (h1, .inr (1, [.ref (a1 0), .ref (a1 1), .ref (a1 2), .int (nI (mRoom u)), .int (nI (mRate u)), .int (nI (mSip u)), .int (mAft u), .int (nI (mNow u)), .int (nI (mTea u)), .int (mSpl u)]))] H := hP.sub [1, 2, 3, 4, 5, 6, 7, 8, 0] rfl
  have hD : va_D (LA s) [(h0, .inr (0, [.ref (a0 0), .int (nI (mSc (uTea u (mRoom u) (sfF u 9) (mSip u)))), .ref (a0 1), .ref (a0 2), .int (nI (mNc (uTea u (mRoom u) (sfF u 9) (mSip u)))), .ref (a0 3), .ref (a0 4), .ref (a0 5), .int (nI (mBc (uTea u (mRoom u) (sfF u 9) (mSip u)))), .ref (a0 6), .int (nI (mRoom (uTea u (mRoom u) (sfF u 9) (mSip u)))), .int (nI (mRate (uTea u (mRoom u) (sfF u 9) (mSip u)))), .int (nI (mSip (uTea u (mRoom u) (sfF u 9) (mSip u)))), .int (nI (mTea (uTea u (mRoom u) (sfF u 9) (mSip u)))), .int (mSpl (uTea u (mRoom u) (sfF u 9) (mSip u))), .int (nI (mNow (uTea u (mRoom u) (sfF u 9) (mSip u)))), .int (mAft (uTea u (mRoom u) (sfF u 9) (mSip u)))])), (a0 0, .inl (cI, 4, .inl (mHt (uTea u (mRoom u) (sfF u 9) (mSip u))))), (a0 1, .inl (cI, 8, .inl (mFr (uTea u (mRoom u) (sfF u 9) (mSip u))))), (a0 2, .inl (cI, 8, .inl (mTo (uTea u (mRoom u) (sfF u 9) (mSip u))))), (a0 3, .inl (cI, 360, .inl (mCov (uTea u (mRoom u) (sfF u 9) (mSip u))))), (a0 4, .inl (cI, 6, .inl (mPe (uTea u (mRoom u) (sfF u 9) (mSip u))))), (a0 5, .inl (cI, 6, .inl (mBe (uTea u (mRoom u) (sfF u 9) (mSip u))))), (a0 6, .inl (cI, 360, .inl on)), (h1, .inr (1, [.ref (a1 0), .ref (a1 1), .ref (a1 2), .int (nI (mRoom u)), .int (nI (mRate u)), .int (nI (mSip u)), .int (mAft u), .int (nI (mNow u)), .int (nI (mTea u)), .int (mSpl u)]))] := hD.sub [1, 2, 3, 4, 5, 6, 7, 8, 0] (by decide) rfl
  have hI839 : Inv (uTea u (mRoom u) (sfF u 9) (mSip u)) := iv_tea hI (by omega)
  refine lv_if_ne (tgt := 862) hx hb dL_law_842 (by decide) (fun c_842 => ?_) (fun c_842 => ?_)
  · skip
    replace c_842 : (mTea u - mRoom u) ≠ 0 := neN c_842
    exact (by omega : False).elim
  · skip
    replace c_842 : (mTea u - mRoom u) = 0 := eN c_842
    refine lv_aload_n hx hb dL_law_845 rfl (lv_at hl 2 rfl) ?_
    refine vp_callSi (W.runV (As := []) (rest := []) ⟨hx, hb, hml, hown, hts⟩ (c_X0_minuteOfSpill l D cI h0 a0 (uTea u (mRoom u) (sfF u 9) (mSip u)) on hI839 hO) (cwV 0 hts gL_law_X0_minuteOfSpill rfl rfl rfl (by decide +kernel) ⟨Nat.le_of_ble_eq_true rfl, Nat.le_of_ble_eq_true rfl⟩) (pu_pre (hK.sub (tys' := [(cI, .int)]) [0] rfl) (hP.sub (ws' := pic0 cI h0 a0 (uTea u (mRoom u) (sfF u 9) (mSip u)) on) [0, 1, 2, 3, 4, 5, 6, 7] rfl) rfl rfl) rfl rfl hl.1 rfl (lv_room (Nat.le_of_ble_eq_true rfl)) dL_law_846 ⟨show C + 0 ≤ 754895 by omega, show Sl + 0 ≤ 6836784 by omega⟩) (fun r hr9 => ?_)
    subst hr9
    rw [show fSp (uTea u (mRoom u) (sfF u 9) (mSip u)) (mRate (uTea u (mRoom u) (sfF u 9) (mSip u))) = -1 from (fsp_tea hI _ _).trans hs2]
    refine lv_iconst (v := (-1)) hx hb dL_law_849 (by decide +kernel) ?_
    refine lv_icmp_ne (tgt := 862) hx hb dL_law_850 (by decide) (fun c_850 => ?_) (fun c_850 => ?_)
    · skip
      exact (c_850 rfl).elim
    · skip
      refine lv_aload_n hx hb dL_law_853 rfl (lv_at hl 2 rfl) ?_
      refine vp_callSi (W.runV (As := []) (rest := []) ⟨hx, hb, hml, hown, hts⟩ (c_X0_spiltAtEnd l D cI h0 a0 (uTea u (mRoom u) (sfF u 9) (mSip u)) on hI839 hO) (cwV 0 hts gL_law_X0_spiltAtEnd rfl rfl rfl (by decide +kernel) ⟨Nat.le_of_ble_eq_true rfl, Nat.le_of_ble_eq_true rfl⟩) (pu_pre (hK.sub (tys' := [(cI, .int)]) [0] rfl) (hP.sub (ws' := pic0 cI h0 a0 (uTea u (mRoom u) (sfF u 9) (mSip u)) on) [0, 1, 2, 3, 4, 5, 6, 7] rfl) rfl rfl) rfl rfl hl.1 rfl (lv_room (Nat.le_of_ble_eq_true rfl)) dL_law_854 ⟨show C + 0 ≤ 754895 by omega, show Sl + 0 ≤ 6836784 by omega⟩) (fun r hr9 => ?_)
      subst hr9
      have eS2 : mSpl (uTea u (mRoom u) (sfF u 9) (mSip u)) = nI S9 := by show mSpl u + nI (mTea u - mRoom u) = nI S9; rw [eS9, nI_add, show mTea u - mRoom u = 0 by omega, Nat.add_zero]
      obtain ⟨E2, hE1, hE2, hE3⟩ := end_spec hI839 eS2
      have hE4 := hE3.mpr ((fsp_tea hI _ _).trans hs2)
      rw [hE2]
      refine lv_iload hx hb dL_law_857 (lv_at hl 0 rfl) ?_
      refine lv_icmp_eq (tgt := 864) hx hb dL_law_859 (by decide) (fun c_859 => ?_) (fun c_859 => ?_)
      · skip
        replace c_859 : (S9 + E2) = S9 := eN c_859
        refine lv_iload hx hb dL_law_864 (lv_at hl 11 rfl) ?_
        refine lv_bipush (v := nI 9) hx hb dL_law_866 (by decide +kernel) ?_
        refine lv_icmp_ge (tgt := 897) hx hb dL_law_868 (by decide) (fun c_868 => ?_) (fun c_868 => ?_)
        · skip
          replace c_868 : 9 ≤ (sfF u 9) := leN c_868
          refine lv_aload_n hx hb dL_law_897 rfl (lv_at hl 2 rfl) ?_
          refine lv_aload_n hx hb dL_law_898 rfl (lv_at hl 3 rfl) ?_
          refine va_get (D := D) (ci := 1) (v := .int (nI (mRoom u))) (C := RX1) (T := TX1) (N := 10) hx hb hts hin hown hK hP 8 rfl rfl 3 (by decide) (hts (.fieldLink RL 59 "AfternoonMeterLaw$Sim" "room" "I") (List.mem_of_getElem? (i := 11) rfl)) (fun _ h9 => h9) rfl dL_law_899 ?_
          refine lv_aload_n hx hb dL_law_902 rfl (lv_at hl 3 rfl) ?_
          refine va_get (D := D) (ci := 1) (v := .int (nI (mRate u))) (C := RX1) (T := TX1) (N := 10) hx hb hts hin hown hK hP 8 rfl rfl 4 (by decide) (hts (.fieldLink RL 63 "AfternoonMeterLaw$Sim" "rate" "I") (List.mem_of_getElem? (i := 12) rfl)) (fun _ h9 => h9) rfl dL_law_903 ?_
          refine lv_aload_n hx hb dL_law_906 rfl (lv_at hl 3 rfl) ?_
          refine va_get (D := D) (ci := 1) (v := .int (nI (mSip u))) (C := RX1) (T := TX1) (N := 10) hx hb hts hin hown hK hP 8 rfl rfl 5 (by decide) (hts (.fieldLink RL 66 "AfternoonMeterLaw$Sim" "sip" "I") (List.mem_of_getElem? (i := 13) rfl)) (fun _ h9 => h9) rfl dL_law_907 ?_
          have hPc := hP.sub (ws' := (pic0 cI h0 a0 (uTea u (mRoom u) (sfF u 9) (mSip u)) on)) [0, 1, 2, 3, 4, 5, 6, 7] rfl
          have hDc := hD.sub (ws' := (pic0 cI h0 a0 (uTea u (mRoom u) (sfF u 9) (mSip u)) on)) [0, 1, 2, 3, 4, 5, 6, 7] (by decide) rfl
          have hKc := hK.sub (tys' := [(cI, .int)]) [0] rfl
          have hFc := va_free (wc := (pic0 cI h0 a0 (uTea u (mRoom u) (sfF u 9) (mSip u)) on)) hD hS hA [0, 1, 2, 3, 4, 5, 6, 7] rfl
          refine va_calli (va_runV (As := [.int (nI (mRoom u)), .int (nI (mRate u)), .int (nI (mSip u))]) (rest := []) ⟨hx, hb, hml, hown, hts⟩ (c_X0_setTea l D cI h0 a0 (uTea u (mRoom u) (sfF u 9) (mSip u)) on H.size (mRoom u) (mRate u) (mSip u) hI839 (by omega)) (cwV 3 hts gL_law_X0_setTea rfl rfl rfl (by decide +kernel) ⟨Nat.le_of_ble_eq_true rfl, Nat.le_of_ble_eq_true rfl⟩) ⟨wr_blind, va_recv (ci := 0) (q0 := 0) hKc hPc rfl rfl, fun U hU hW => ⟨rfl, by rw [hU], by rw [hU]; exact hPc, va_K.moved hW.alike hKc, hDc.weaken (fun _ _ _ _ => trivial)⟩⟩ rfl rfl hl.1 rfl (lv_room (Nat.le_of_ble_eq_true rfl)) dL_law_910 ⟨show C + 0 ≤ 754895 by omega, show Sl + 0 ≤ 6836784 by omega⟩) hS (fun q _ h => hFc q h) hFc (fun r w t H1 locs ht hvm hw hB hz1 hk1 hS1 => ?_)
          obtain ⟨rfl, rfl⟩ := hw
          obtain ⟨hP1, hK1, hD1⟩ := hB
          rw [ht] at hP1
          have hR := hR.k0 hNM hk1
          have hP1 : va_P D vwCl (pic0 cI h0 a0 u on) H1 := Eq.mp (congrArg (fun w9 : MS => va_P D vwCl (pic0 cI h0 a0 w9 on) H1) (tea_back hI (sfF u 9))) hP1
          have hD1 : va_D (va_A (pic0 cI h0 a0 (uTea u (mRoom u) (sfF u 9) (mSip u)) on) H.size) (pic0 cI h0 a0 u on) := Eq.mp (congrArg (fun w9 : MS => va_D (va_A (pic0 cI h0 a0 (uTea u (mRoom u) (sfF u 9) (mSip u)) on) H.size) (pic0 cI h0 a0 w9 on)) (tea_back hI (sfF u 9))) hD1
          obtain ⟨hP, hD⟩ := va_join (wr := [(h1, .inr (1, [.ref (a1 0), .ref (a1 1), .ref (a1 2), .int (nI (mRoom u)), .int (nI (mRate u)), .int (nI (mSip u)), .int (mAft u), .int (nI (mNow u)), .int (nI (mTea u)), .int (mSpl u)]))]) (w1 := (pic0 cI h0 a0 u on)) hP hD [0, 1, 2, 3, 4, 5, 6, 7] [8] rfl rfl (by decide) (by decide) hk1 hFc hP1 hD1
          generalize H1 = H at hP hR hS1 ⊢
          have hS := hS1
          have hP : va_P D vwCl [(h0, .inr (0, [.ref (a0 0), .int (nI (mSc u)), .ref (a0 1), .ref (a0 2), .int (nI (mNc u)), .ref (a0 3), .ref (a0 4), .ref (a0 5), .int (nI (mBc u)), .ref (a0 6), .int (nI (mRoom u)), .int (nI (mRate u)), .int (nI (mSip u)), .int (nI (mTea u)), .int (mSpl u), .int (nI (mNow u)), .int (mAft u)])), (a0 0, .inl (cI, 4, .inl (mHt u))), (a0 1, .inl (cI, 8, .inl (mFr u))), (a0 2, .inl (cI, 8, .inl (mTo u))), (a0 3, .inl (cI, 360, .inl (mCov u))), (a0 4, .inl (cI, 6, .inl (mPe u))), (a0 5, .inl (cI, 6, .inl (mBe u))), (a0 6, .inl (cI, 360, .inl on)), (h1, .inr (1, [.ref (a1 0), .ref (a1 1), .ref (a1 2), .int (nI (mRoom u)), .int (nI (mRate u)), .int (nI (mSip u)), .int (mAft u), .int (nI (mNow u)), .int (nI (mTea u)), .int (mSpl u)]))] H := hP.sub [1, 2, 3, 4, 5, 6, 7, 8, 0] rfl
          have hD : va_D (LA s) [(h0, .inr (0, [.ref (a0 0), .int (nI (mSc u)), .ref (a0 1), .ref (a0 2), .int (nI (mNc u)), .ref (a0 3), .ref (a0 4), .ref (a0 5), .int (nI (mBc u)), .ref (a0 6), .int (nI (mRoom u)), .int (nI (mRate u)), .int (nI (mSip u)), .int (nI (mTea u)), .int (mSpl u), .int (nI (mNow u)), .int (mAft u)])), (a0 0, .inl (cI, 4, .inl (mHt u))), (a0 1, .inl (cI, 8, .inl (mFr u))), (a0 2, .inl (cI, 8, .inl (mTo u))), (a0 3, .inl (cI, 360, .inl (mCov u))), (a0 4, .inl (cI, 6, .inl (mPe u))), (a0 5, .inl (cI, 6, .inl (mBe u))), (a0 6, .inl (cI, 360, .inl on)), (h1, .inr (1, [.ref (a1 0), .ref (a1 1), .ref (a1 2), .int (nI (mRoom u)), .int (nI (mRate u)), .int (nI (mSip u)), .int (mAft u), .int (nI (mNow u)), .int (nI (mTea u)), .int (mSpl u)]))] := hD.sub [1, 2, 3, 4, 5, 6, 7, 8, 0] (by decide) rfl
          have ht3 : mTea (uTea u (mRoom u) (sfF u 9) (mSip u)) - mRoom u = 0 := by show mTea u - (mTea u - mRoom u) - mRoom u = 0; omega
          refine lv_if_ne (tgt := 926) hx hb dL_law_913 (by decide) (fun c_913 => ?_) (fun c_913 => ?_)
          · skip
            replace c_913 : (mTea (uTea u (mRoom u) (sfF u 9) (mSip u)) - mRoom u) ≠ 0 := neN c_913
            exact (by omega : False).elim
          · skip
            replace c_913 : (mTea (uTea u (mRoom u) (sfF u 9) (mSip u)) - mRoom u) = 0 := eN c_913
            refine lv_aload_n hx hb dL_law_916 rfl (lv_at hl 2 rfl) ?_
            refine vp_callSl (W.runV (As := []) (rest := []) ⟨hx, hb, hml, hown, hts⟩ (c_X0_digest l D cI h0 a0 u on hI hO) (cwV 0 hts gL_law_X0_digest rfl rfl rfl (by decide +kernel) ⟨Nat.le_of_ble_eq_true rfl, Nat.le_of_ble_eq_true rfl⟩) (pu_pre (hK.sub (tys' := [(cI, .int)]) [0] rfl) (hP.sub (ws' := pic0 cI h0 a0 u on) [0, 1, 2, 3, 4, 5, 6, 7] rfl) rfl rfl) rfl rfl hl.1 rfl (lv_room (Nat.le_of_ble_eq_true rfl)) dL_law_917 ⟨show C + 0 ≤ 754895 by omega, show Sl + 0 ≤ 6836784 by omega⟩) (fun r hr9 => ?_)
            subst hr9
            refine lv_lload hx hb dL_law_920 (lv_at hl 6 rfl) ?_
            refine W.lcmp hx hb dL_law_922 ?_
            refine lv_if_eq (tgt := 928) hx hb dL_law_923 (by decide) (fun c_923 => ?_) (fun c_923 => ?_)
            · skip
              exact kk H _ hP hR hS _ (lv_sub hl [1, 2, 3, 4, 5, 6, 7, 8, 9, 10] rfl)
            · skip
              exact (c_923 lcmp_self).elim
        · skip
          replace c_868 : (sfF u 9) < 9 := nleN c_868
          refine lv_aload_n hx hb dL_law_871 rfl (lv_at hl 2 rfl) ?_
          refine lv_aload_n hx hb dL_law_872 rfl (lv_at hl 3 rfl) ?_
          refine va_get (D := D) (ci := 1) (v := .int (nI (mRoom u))) (C := RX1) (T := TX1) (N := 10) hx hb hts hin hown hK hP 8 rfl rfl 3 (by decide) (hts (.fieldLink RL 59 "AfternoonMeterLaw$Sim" "room" "I") (List.mem_of_getElem? (i := 11) rfl)) (fun _ h9 => h9) rfl dL_law_873 ?_
          refine lv_iload hx hb dL_law_876 (lv_at hl 11 rfl) ?_
          refine lv_iconst (v := nI 1) hx hb dL_law_878 (by decide +kernel) ?_
          refine q_iaddN hx hb dL_law_879 ?_
          refine lv_aload_n hx hb dL_law_880 rfl (lv_at hl 3 rfl) ?_
          refine va_get (D := D) (ci := 1) (v := .int (nI (mSip u))) (C := RX1) (T := TX1) (N := 10) hx hb hts hin hown hK hP 8 rfl rfl 5 (by decide) (hts (.fieldLink RL 66 "AfternoonMeterLaw$Sim" "sip" "I") (List.mem_of_getElem? (i := 13) rfl)) (fun _ h9 => h9) rfl dL_law_881 ?_
          have hPc := hP.sub (ws' := (pic0 cI h0 a0 (uTea u (mRoom u) (sfF u 9) (mSip u)) on)) [0, 1, 2, 3, 4, 5, 6, 7] rfl
          have hDc := hD.sub (ws' := (pic0 cI h0 a0 (uTea u (mRoom u) (sfF u 9) (mSip u)) on)) [0, 1, 2, 3, 4, 5, 6, 7] (by decide) rfl
          have hKc := hK.sub (tys' := [(cI, .int)]) [0] rfl
          have hFc := va_free (wc := (pic0 cI h0 a0 (uTea u (mRoom u) (sfF u 9) (mSip u)) on)) hD hS hA [0, 1, 2, 3, 4, 5, 6, 7] rfl
          refine va_calli (va_runV (As := [.int (nI (mRoom u)), .int (nI ((sfF u 9) + 1)), .int (nI (mSip u))]) (rest := []) ⟨hx, hb, hml, hown, hts⟩ (c_X0_setTea l D cI h0 a0 (uTea u (mRoom u) (sfF u 9) (mSip u)) on H.size (mRoom u) ((sfF u 9) + 1) (mSip u) hI839 (by refine ⟨?_, ?_, ?_, ?_⟩ <;> first | omega | (show _ ≤ _; omega))) (cwV 3 hts gL_law_X0_setTea rfl rfl rfl (by decide +kernel) ⟨Nat.le_of_ble_eq_true rfl, Nat.le_of_ble_eq_true rfl⟩) ⟨wr_blind, va_recv (ci := 0) (q0 := 0) hKc hPc rfl rfl, fun U hU hW => ⟨rfl, by rw [hU], by rw [hU]; exact hPc, va_K.moved hW.alike hKc, hDc.weaken (fun _ _ _ _ => trivial)⟩⟩ rfl rfl hl.1 rfl (lv_room (Nat.le_of_ble_eq_true rfl)) dL_law_884 ⟨show C + 0 ≤ 754895 by omega, show Sl + 0 ≤ 6836784 by omega⟩) hS (fun q _ h => hFc q h) hFc (fun r w t H1 locs ht hvm hw hB hz1 hk1 hS1 => ?_)
          obtain ⟨rfl, rfl⟩ := hw
          obtain ⟨hP1, hK1, hD1⟩ := hB
          rw [ht] at hP1
          have hR := hR.k0 hNM hk1
          have hP1 : va_P D vwCl (pic0 cI h0 a0 (uTea u (mRoom u) (sfF u 9 + 1) (mSip u)) on) H1 := Eq.mp (congrArg (fun w9 : MS => va_P D vwCl (pic0 cI h0 a0 w9 on) H1) (tea_two hI (sfF u 9) (sfF u 9 + 1))) hP1
          have hD1 : va_D (va_A (pic0 cI h0 a0 (uTea u (mRoom u) (sfF u 9) (mSip u)) on) H.size) (pic0 cI h0 a0 (uTea u (mRoom u) (sfF u 9 + 1) (mSip u)) on) := Eq.mp (congrArg (fun w9 : MS => va_D (va_A (pic0 cI h0 a0 (uTea u (mRoom u) (sfF u 9) (mSip u)) on) H.size) (pic0 cI h0 a0 w9 on)) (tea_two hI (sfF u 9) (sfF u 9 + 1))) hD1
          obtain ⟨hP, hD⟩ := va_join (wr := [(h1, .inr (1, [.ref (a1 0), .ref (a1 1), .ref (a1 2), .int (nI (mRoom u)), .int (nI (mRate u)), .int (nI (mSip u)), .int (mAft u), .int (nI (mNow u)), .int (nI (mTea u)), .int (mSpl u)]))]) (w1 := (pic0 cI h0 a0 (uTea u (mRoom u) (sfF u 9 + 1) (mSip u)) on)) hP hD [0, 1, 2, 3, 4, 5, 6, 7] [8] rfl rfl (by decide) (by decide) hk1 hFc hP1 hD1
          generalize H1 = H at hP hR hS1 ⊢
          have hS := hS1
          have hP : va_P D vwCl [(h0, .inr (0, [.ref (a0 0), .int (nI (mSc (uTea u (mRoom u) (sfF u 9 + 1) (mSip u)))), .ref (a0 1), .ref (a0 2), .int (nI (mNc (uTea u (mRoom u) (sfF u 9 + 1) (mSip u)))), .ref (a0 3), .ref (a0 4), .ref (a0 5), .int (nI (mBc (uTea u (mRoom u) (sfF u 9 + 1) (mSip u)))), .ref (a0 6), .int (nI (mRoom (uTea u (mRoom u) (sfF u 9 + 1) (mSip u)))), .int (nI (mRate (uTea u (mRoom u) (sfF u 9 + 1) (mSip u)))), .int (nI (mSip (uTea u (mRoom u) (sfF u 9 + 1) (mSip u)))), .int (nI (mTea (uTea u (mRoom u) (sfF u 9 + 1) (mSip u)))), .int (mSpl (uTea u (mRoom u) (sfF u 9 + 1) (mSip u))), .int (nI (mNow (uTea u (mRoom u) (sfF u 9 + 1) (mSip u)))), .int (mAft (uTea u (mRoom u) (sfF u 9 + 1) (mSip u)))])), (a0 0, .inl (cI, 4, .inl (mHt (uTea u (mRoom u) (sfF u 9 + 1) (mSip u))))), (a0 1, .inl (cI, 8, .inl (mFr (uTea u (mRoom u) (sfF u 9 + 1) (mSip u))))), (a0 2, .inl (cI, 8, .inl (mTo (uTea u (mRoom u) (sfF u 9 + 1) (mSip u))))), (a0 3, .inl (cI, 360, .inl (mCov (uTea u (mRoom u) (sfF u 9 + 1) (mSip u))))), (a0 4, .inl (cI, 6, .inl (mPe (uTea u (mRoom u) (sfF u 9 + 1) (mSip u))))), (a0 5, .inl (cI, 6, .inl (mBe (uTea u (mRoom u) (sfF u 9 + 1) (mSip u))))), (a0 6, .inl (cI, 360, .inl on)), (h1, .inr (1, [.ref (a1 0), .ref (a1 1), .ref (a1 2), .int (nI (mRoom u)), .int (nI (mRate u)), .int (nI (mSip u)), .int (mAft u), .int (nI (mNow u)), .int (nI (mTea u)), .int (mSpl u)]))] H := hP.sub [1, 2, 3, 4, 5, 6, 7, 8, 0] rfl
          have hD : va_D (LA s) [(h0, .inr (0, [.ref (a0 0), .int (nI (mSc (uTea u (mRoom u) (sfF u 9 + 1) (mSip u)))), .ref (a0 1), .ref (a0 2), .int (nI (mNc (uTea u (mRoom u) (sfF u 9 + 1) (mSip u)))), .ref (a0 3), .ref (a0 4), .ref (a0 5), .int (nI (mBc (uTea u (mRoom u) (sfF u 9 + 1) (mSip u)))), .ref (a0 6), .int (nI (mRoom (uTea u (mRoom u) (sfF u 9 + 1) (mSip u)))), .int (nI (mRate (uTea u (mRoom u) (sfF u 9 + 1) (mSip u)))), .int (nI (mSip (uTea u (mRoom u) (sfF u 9 + 1) (mSip u)))), .int (nI (mTea (uTea u (mRoom u) (sfF u 9 + 1) (mSip u)))), .int (mSpl (uTea u (mRoom u) (sfF u 9 + 1) (mSip u))), .int (nI (mNow (uTea u (mRoom u) (sfF u 9 + 1) (mSip u)))), .int (mAft (uTea u (mRoom u) (sfF u 9 + 1) (mSip u)))])), (a0 0, .inl (cI, 4, .inl (mHt (uTea u (mRoom u) (sfF u 9 + 1) (mSip u))))), (a0 1, .inl (cI, 8, .inl (mFr (uTea u (mRoom u) (sfF u 9 + 1) (mSip u))))), (a0 2, .inl (cI, 8, .inl (mTo (uTea u (mRoom u) (sfF u 9 + 1) (mSip u))))), (a0 3, .inl (cI, 360, .inl (mCov (uTea u (mRoom u) (sfF u 9 + 1) (mSip u))))), (a0 4, .inl (cI, 6, .inl (mPe (uTea u (mRoom u) (sfF u 9 + 1) (mSip u))))), (a0 5, .inl (cI, 6, .inl (mBe (uTea u (mRoom u) (sfF u 9 + 1) (mSip u))))), (a0 6, .inl (cI, 360, .inl on)), (h1, .inr (1, [.ref (a1 0), .ref (a1 1), .ref (a1 2), .int (nI (mRoom u)), .int (nI (mRate u)), .int (nI (mSip u)), .int (mAft u), .int (nI (mNow u)), .int (nI (mTea u)), .int (mSpl u)]))] := hD.sub [1, 2, 3, 4, 5, 6, 7, 8, 0] (by decide) rfl
          have hI884 : Inv (uTea u (mRoom u) (sfF u 9 + 1) (mSip u)) := iv_tea hI (by omega)
          have ht2 : mTea (uTea u (mRoom u) (sfF u 9) (mSip u)) - mRoom u = 0 := by show mTea u - (mTea u - mRoom u) - mRoom u = 0; omega
          refine lv_if_ne (tgt := 926) hx hb dL_law_887 (by decide) (fun c_887 => ?_) (fun c_887 => ?_)
          · skip
            replace c_887 : (mTea (uTea u (mRoom u) (sfF u 9) (mSip u)) - mRoom u) ≠ 0 := neN c_887
            exact (by omega : False).elim
          · skip
            replace c_887 : (mTea (uTea u (mRoom u) (sfF u 9) (mSip u)) - mRoom u) = 0 := eN c_887
            refine lv_aload_n hx hb dL_law_890 rfl (lv_at hl 2 rfl) ?_
            refine vp_callSi (W.runV (As := []) (rest := []) ⟨hx, hb, hml, hown, hts⟩ (c_X0_minuteOfSpill l D cI h0 a0 (uTea u (mRoom u) (sfF u 9 + 1) (mSip u)) on hI884 hO) (cwV 0 hts gL_law_X0_minuteOfSpill rfl rfl rfl (by decide +kernel) ⟨Nat.le_of_ble_eq_true rfl, Nat.le_of_ble_eq_true rfl⟩) (pu_pre (hK.sub (tys' := [(cI, .int)]) [0] rfl) (hP.sub (ws' := pic0 cI h0 a0 (uTea u (mRoom u) (sfF u 9 + 1) (mSip u)) on) [0, 1, 2, 3, 4, 5, 6, 7] rfl) rfl rfl) rfl rfl hl.1 rfl (lv_room (Nat.le_of_ble_eq_true rfl)) dL_law_891 ⟨show C + 0 ≤ 754895 by omega, show Sl + 0 ≤ 6836784 by omega⟩) (fun r hr9 => ?_)
            subst hr9
            obtain ⟨T7, eT7, hT1, hT2, hT3⟩ := (fsp_cases hI (sfF u 9 + 1)).resolve_left (hs3 _ (by omega) (by omega))
            rw [show fSp (uTea u (mRoom u) (sfF u 9 + 1) (mSip u)) (mRate (uTea u (mRoom u) (sfF u 9 + 1) (mSip u))) = nI T7 from (fsp_tea hI _ _).trans eT7]
            refine lv_if_lt (tgt := 926) hx hb dL_law_894 (by decide) (fun c_894 => ?_) (fun c_894 => ?_)
            · skip
              replace c_894 : T7 < 0 := ltN c_894
              exact (by omega : False).elim
            · skip
              replace c_894 : 0 ≤ T7 := nltN c_894
              refine lv_aload_n hx hb dL_law_897 rfl (lv_at hl 2 rfl) ?_
              refine lv_aload_n hx hb dL_law_898 rfl (lv_at hl 3 rfl) ?_
              refine va_get (D := D) (ci := 1) (v := .int (nI (mRoom u))) (C := RX1) (T := TX1) (N := 10) hx hb hts hin hown hK hP 8 rfl rfl 3 (by decide) (hts (.fieldLink RL 59 "AfternoonMeterLaw$Sim" "room" "I") (List.mem_of_getElem? (i := 11) rfl)) (fun _ h9 => h9) rfl dL_law_899 ?_
              refine lv_aload_n hx hb dL_law_902 rfl (lv_at hl 3 rfl) ?_
              refine va_get (D := D) (ci := 1) (v := .int (nI (mRate u))) (C := RX1) (T := TX1) (N := 10) hx hb hts hin hown hK hP 8 rfl rfl 4 (by decide) (hts (.fieldLink RL 63 "AfternoonMeterLaw$Sim" "rate" "I") (List.mem_of_getElem? (i := 12) rfl)) (fun _ h9 => h9) rfl dL_law_903 ?_
              refine lv_aload_n hx hb dL_law_906 rfl (lv_at hl 3 rfl) ?_
              refine va_get (D := D) (ci := 1) (v := .int (nI (mSip u))) (C := RX1) (T := TX1) (N := 10) hx hb hts hin hown hK hP 8 rfl rfl 5 (by decide) (hts (.fieldLink RL 66 "AfternoonMeterLaw$Sim" "sip" "I") (List.mem_of_getElem? (i := 13) rfl)) (fun _ h9 => h9) rfl dL_law_907 ?_
              have hPc := hP.sub (ws' := (pic0 cI h0 a0 (uTea u (mRoom u) (sfF u 9 + 1) (mSip u)) on)) [0, 1, 2, 3, 4, 5, 6, 7] rfl
              have hDc := hD.sub (ws' := (pic0 cI h0 a0 (uTea u (mRoom u) (sfF u 9 + 1) (mSip u)) on)) [0, 1, 2, 3, 4, 5, 6, 7] (by decide) rfl
              have hKc := hK.sub (tys' := [(cI, .int)]) [0] rfl
              have hFc := va_free (wc := (pic0 cI h0 a0 (uTea u (mRoom u) (sfF u 9 + 1) (mSip u)) on)) hD hS hA [0, 1, 2, 3, 4, 5, 6, 7] rfl
              refine va_calli (va_runV (As := [.int (nI (mRoom u)), .int (nI (mRate u)), .int (nI (mSip u))]) (rest := []) ⟨hx, hb, hml, hown, hts⟩ (c_X0_setTea l D cI h0 a0 (uTea u (mRoom u) (sfF u 9 + 1) (mSip u)) on H.size (mRoom u) (mRate u) (mSip u) hI884 (by omega)) (cwV 3 hts gL_law_X0_setTea rfl rfl rfl (by decide +kernel) ⟨Nat.le_of_ble_eq_true rfl, Nat.le_of_ble_eq_true rfl⟩) ⟨wr_blind, va_recv (ci := 0) (q0 := 0) hKc hPc rfl rfl, fun U hU hW => ⟨rfl, by rw [hU], by rw [hU]; exact hPc, va_K.moved hW.alike hKc, hDc.weaken (fun _ _ _ _ => trivial)⟩⟩ rfl rfl hl.1 rfl (lv_room (Nat.le_of_ble_eq_true rfl)) dL_law_910 ⟨show C + 0 ≤ 754895 by omega, show Sl + 0 ≤ 6836784 by omega⟩) hS (fun q _ h => hFc q h) hFc (fun r w t H1 locs ht hvm hw hB hz1 hk1 hS1 => ?_)
              obtain ⟨rfl, rfl⟩ := hw
              obtain ⟨hP1, hK1, hD1⟩ := hB
              rw [ht] at hP1
              have hR := hR.k0 hNM hk1
              have hP1 : va_P D vwCl (pic0 cI h0 a0 u on) H1 := Eq.mp (congrArg (fun w9 : MS => va_P D vwCl (pic0 cI h0 a0 w9 on) H1) (tea_back hI (sfF u 9 + 1))) hP1
              have hD1 : va_D (va_A (pic0 cI h0 a0 (uTea u (mRoom u) (sfF u 9 + 1) (mSip u)) on) H.size) (pic0 cI h0 a0 u on) := Eq.mp (congrArg (fun w9 : MS => va_D (va_A (pic0 cI h0 a0 (uTea u (mRoom u) (sfF u 9 + 1) (mSip u)) on) H.size) (pic0 cI h0 a0 w9 on)) (tea_back hI (sfF u 9 + 1))) hD1
              obtain ⟨hP, hD⟩ := va_join (wr := [(h1, .inr (1, [.ref (a1 0), .ref (a1 1), .ref (a1 2), .int (nI (mRoom u)), .int (nI (mRate u)), .int (nI (mSip u)), .int (mAft u), .int (nI (mNow u)), .int (nI (mTea u)), .int (mSpl u)]))]) (w1 := (pic0 cI h0 a0 u on)) hP hD [0, 1, 2, 3, 4, 5, 6, 7] [8] rfl rfl (by decide) (by decide) hk1 hFc hP1 hD1
              generalize H1 = H at hP hR hS1 ⊢
              have hS := hS1
              have hP : va_P D vwCl [(h0, .inr (0, [.ref (a0 0), .int (nI (mSc u)), .ref (a0 1), .ref (a0 2), .int (nI (mNc u)), .ref (a0 3), .ref (a0 4), .ref (a0 5), .int (nI (mBc u)), .ref (a0 6), .int (nI (mRoom u)), .int (nI (mRate u)), .int (nI (mSip u)), .int (nI (mTea u)), .int (mSpl u), .int (nI (mNow u)), .int (mAft u)])), (a0 0, .inl (cI, 4, .inl (mHt u))), (a0 1, .inl (cI, 8, .inl (mFr u))), (a0 2, .inl (cI, 8, .inl (mTo u))), (a0 3, .inl (cI, 360, .inl (mCov u))), (a0 4, .inl (cI, 6, .inl (mPe u))), (a0 5, .inl (cI, 6, .inl (mBe u))), (a0 6, .inl (cI, 360, .inl on)), (h1, .inr (1, [.ref (a1 0), .ref (a1 1), .ref (a1 2), .int (nI (mRoom u)), .int (nI (mRate u)), .int (nI (mSip u)), .int (mAft u), .int (nI (mNow u)), .int (nI (mTea u)), .int (mSpl u)]))] H := hP.sub [1, 2, 3, 4, 5, 6, 7, 8, 0] rfl
              have hD : va_D (LA s) [(h0, .inr (0, [.ref (a0 0), .int (nI (mSc u)), .ref (a0 1), .ref (a0 2), .int (nI (mNc u)), .ref (a0 3), .ref (a0 4), .ref (a0 5), .int (nI (mBc u)), .ref (a0 6), .int (nI (mRoom u)), .int (nI (mRate u)), .int (nI (mSip u)), .int (nI (mTea u)), .int (mSpl u), .int (nI (mNow u)), .int (mAft u)])), (a0 0, .inl (cI, 4, .inl (mHt u))), (a0 1, .inl (cI, 8, .inl (mFr u))), (a0 2, .inl (cI, 8, .inl (mTo u))), (a0 3, .inl (cI, 360, .inl (mCov u))), (a0 4, .inl (cI, 6, .inl (mPe u))), (a0 5, .inl (cI, 6, .inl (mBe u))), (a0 6, .inl (cI, 360, .inl on)), (h1, .inr (1, [.ref (a1 0), .ref (a1 1), .ref (a1 2), .int (nI (mRoom u)), .int (nI (mRate u)), .int (nI (mSip u)), .int (mAft u), .int (nI (mNow u)), .int (nI (mTea u)), .int (mSpl u)]))] := hD.sub [1, 2, 3, 4, 5, 6, 7, 8, 0] (by decide) rfl
              have ht3 : mTea (uTea u (mRoom u) (sfF u 9 + 1) (mSip u)) - mRoom u = 0 := by show mTea u - (mTea u - mRoom u) - mRoom u = 0; omega
              refine lv_if_ne (tgt := 926) hx hb dL_law_913 (by decide) (fun c_913 => ?_) (fun c_913 => ?_)
              · skip
                replace c_913 : (mTea (uTea u (mRoom u) (sfF u 9 + 1) (mSip u)) - mRoom u) ≠ 0 := neN c_913
                exact (by omega : False).elim
              · skip
                replace c_913 : (mTea (uTea u (mRoom u) (sfF u 9 + 1) (mSip u)) - mRoom u) = 0 := eN c_913
                refine lv_aload_n hx hb dL_law_916 rfl (lv_at hl 2 rfl) ?_
                refine vp_callSl (W.runV (As := []) (rest := []) ⟨hx, hb, hml, hown, hts⟩ (c_X0_digest l D cI h0 a0 u on hI hO) (cwV 0 hts gL_law_X0_digest rfl rfl rfl (by decide +kernel) ⟨Nat.le_of_ble_eq_true rfl, Nat.le_of_ble_eq_true rfl⟩) (pu_pre (hK.sub (tys' := [(cI, .int)]) [0] rfl) (hP.sub (ws' := pic0 cI h0 a0 u on) [0, 1, 2, 3, 4, 5, 6, 7] rfl) rfl rfl) rfl rfl hl.1 rfl (lv_room (Nat.le_of_ble_eq_true rfl)) dL_law_917 ⟨show C + 0 ≤ 754895 by omega, show Sl + 0 ≤ 6836784 by omega⟩) (fun r hr9 => ?_)
                subst hr9
                refine lv_lload hx hb dL_law_920 (lv_at hl 6 rfl) ?_
                refine W.lcmp hx hb dL_law_922 ?_
                refine lv_if_eq (tgt := 928) hx hb dL_law_923 (by decide) (fun c_923 => ?_) (fun c_923 => ?_)
                · skip
                  exact kk H _ hP hR hS _ (lv_sub hl [1, 2, 3, 4, 5, 6, 7, 8, 9, 10] rfl)
                · skip
                  exact (c_923 lcmp_self).elim
      · skip
        replace c_859 : (S9 + E2) ≠ S9 := neN c_859
        exact (by omega : False).elim
