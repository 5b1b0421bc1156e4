set_option maxHeartbeats 8000000 in
set_option maxRecDepth 100000 in
theorem sg_1016 {p : Program} {l : Launch} {e : Env} {s : State} {m : MethodId} {below : List Frame} {meth : Method} {c : Code} {D : va_G} {cI cR : ClassId} {b L h0 h1 : Nat} {a0 : Nat → Nat} {xs : Nat → Int32} {tm : Nat} {x0 : Int32} (hL : L ≤ 260) (C0 : lw_At p s m meth c b L xs) (hAO : AOI s) (hK : va_K D vwCl (tyR cI cR) s) {u : MS} {on : Nat → Int32} {a1 nr br : Nat → Nat} {H : Heap} {locs : List Loc} {C Sl : Nat} (hC : C + 100 ≤ 754895) (hSl : Sl + 1000 ≤ 6836784) (hT : TW D cI cR h0 a0 h1 u on a1 nr br H) (hD : va_D (LA s) (picT cI h0 a0 h1 a1 u u on)) (hS : va_S (LA s) s.heap H locs)  {ls : Array Slot} (hl : lv_has ls 21 [(0, .ref b), (1, .ref h0), (2, .ref h1), (3, .int (nI tm)), (4, .int x0), (11, .int (nI (ct (awB u) 360))), (12, .int (fBG u))]) (kk : ∀ (u : MS) (on : Nat → Int32) (a1 nr br : Nat → Nat) (H : Heap) (locs : List Loc) (ls : Array Slot), TW D cI cR h0 a0 h1 u on a1 nr br H → va_D (LA s) (picT cI h0 a0 h1 a1 u u on) → va_S (LA s) s.heap H locs → lv_has ls 21 [(0, .ref b), (1, .ref h0), (2, .ref h1), (3, .int (nI (tm + 1)))] → W p l e room_1 s m #[Value.ref b] below meth c H locs (C + 8) (Sl + 63) (lw_Z below #[Value.ref b] s) (F0 m 22 ls [])) : W p l e room_1 s m #[Value.ref b] below meth c H locs C Sl (lw_Z below #[Value.ref b] s) (F0 m 1016 ls []) := by
  obtain ⟨hx, hb, hr, hml, hown, hts0, hX, hbl, hlocks, hgv⟩ := id C0
  have hown : s.vm.findClass RL = some m.cls := hown
  have hts : ∀ w ∈ wsL_law, w.before #[Value.ref b] s = true := fun w h => hts0 w (wsL_law_in w h)
  have hin : ∀ w ∈ wsX10, w ∈ wsL_law := inlX1
  have hA : ∀ q : Nat, s.heap.size ≤ q → LA s q := fun _ h => h
  have hbA : ¬ LA s b := Nat.not_le.mpr hbl
  obtain ⟨hI, hO, hIS, hNM, hP, hR⟩ := id hT
  obtain ⟨hIa, hIb, hIc, hId, hIe, hIf, hIg, hIh, hIi, hIj⟩ := id hI
  have hXH : va_X b L xs s H := hX.kept (hS.2.1 b hbl hbA)
  have hD0 := hD
  by_cases hz : mNc u = 0
  · skip
    have eU := bg_none hz
    refine lv_iload hx hb dL_law_1016 (lv_at hl 6 rfl) ?_
    rw [eU]
    refine lv_if_lt (tgt := 1121) hx hb dL_law_1018 (by decide) (fun c_1018 => ?_) (fun c_1018 => ?_)
    · skip
      refine lv_iinc (v := nI (tm + 1)) (lv' := [(3, .int (nI (tm + 1))), (0, .ref b), (1, .ref h0), (2, .ref h1), (4, .int x0), (11, .int (nI (ct (awB u) 360))), (12, .int (fBG u))]) hx hb dL_law_1121 hl (k := 3) rfl (nI_i1 _) (by decide) rfl (fun ls hl => ?_)
      refine lv_goto (tgt := 22) hx hb dL_law_1124 (by decide) ?_
      refine W.widen (k := C + 8) (n := Sl + 63) (by omega) (by omega) ?_
      exact kk u on a1 nr br H _ _ ⟨hI, hO, hIS, hNM, hP, hR⟩ hD hS (lv_sub hl [1, 2, 3, 0] rfl)
    · skip
      exact (c_1018 (by decide +kernel)).elim
  · skip
    obtain ⟨j8, eU, hj8⟩ := bg_some hIb hz
    have hj8a := hj8.2.1
    refine lv_iload hx hb dL_law_1016 (lv_at hl 6 rfl) ?_
    rw [eU]
    refine lv_if_lt (tgt := 1121) hx hb dL_law_1018 (by decide) (fun c_1018 => ?_) (fun c_1018 => ?_)
    · skip
      replace c_1018 : j8 < 0 := ltN c_1018
      exact (by omega : False).elim
    · skip
      replace c_1018 : 0 ≤ j8 := nltN c_1018
      refine lv_iload hx hb dL_law_1021 (lv_at hl 4 rfl) ?_
      refine lv_iconst (v := nI 2) hx hb dL_law_1023 (by decide +kernel) ?_
      refine vp_callSi (W.runS (As := [.int x0, .int (nI 2)]) (rest := []) ⟨hx, hb, hml, hown, hts⟩ (c_L_below l x0 2 (by omega) (by omega)) (va_cwS 2 hts gL_law_L_below rfl rfl rfl (by decide +kernel) ⟨Nat.le_of_ble_eq_true rfl, Nat.le_of_ble_eq_true rfl⟩) preEq rfl rfl hl.1 rfl (lv_room (Nat.le_of_ble_eq_true rfl)) dL_law_1024 ⟨show C + 0 ≤ 754895 by omega, show Sl + 0 ≤ 6836784 by omega⟩) (fun r hr9 => ?_)
      obtain ⟨j_1024, hj_1024, rfl⟩ := hr9
      refine lv_if_ne (tgt := 1033) hx hb dL_law_1027 (by decide) (fun c_1027 => ?_) (fun c_1027 => ?_)
      · skip
        replace c_1027 : j_1024 ≠ 0 := neN c_1027
        refine lv_aload_n hx hb dL_law_1033 rfl (lv_at hl 1 rfl) ?_
        refine lv_iload hx hb dL_law_1034 (lv_at hl 6 rfl) ?_
        rw [eU]
        refine vp_callSi (W.runV (As := [.int (nI j8)]) (rest := []) ⟨hx, hb, hml, hown, hts⟩ (c_X0_minutesAlone l D cI h0 a0 u on j8 hI (by omega)) (cwV 1 hts gL_law_X0_minutesAlone rfl rfl rfl (by decide +kernel) ⟨Nat.le_of_ble_eq_true rfl, Nat.le_of_ble_eq_true rfl⟩) (pu_pre (hK.sub (tys' := [(cI, .int)]) [0] rfl) (hP.sub (ws' := pic0 cI h0 a0 u on) [0, 1, 2, 3, 4, 5, 6, 7] rfl) rfl rfl) rfl rfl hl.1 rfl (lv_room (Nat.le_of_ble_eq_true rfl)) dL_law_1036 ⟨show C + 0 ≤ 754895 by omega, show Sl + 0 ≤ 6836784 by omega⟩) (fun r hr9 => ?_)
        subst hr9
        rw [fAl_eq u j8]
        have hal_x := AL_le u j8
        refine lv_istore (lv' := [(18, .int (nI (AL u j8))), (0, .ref b), (1, .ref h0), (2, .ref h1), (3, .int (nI tm)), (4, .int x0), (11, .int (nI (ct (awB u) 360))), (12, .int (fBG u))]) hx hb dL_law_1039 hl (by decide) rfl (fun ls hl => ?_)
        refine lv_aload_n hx hb dL_law_1041 rfl (lv_at hl 3 rfl) ?_
        refine lv_aload_n hx hb dL_law_1042 rfl (lv_at hl 3 rfl) ?_
        refine va_get (D := D) (ci := 1) (v := .ref (a1 1)) (C := RX1) (T := TX1) (N := 10) hx hb hts hin hown hK hP 8 rfl rfl 1 (by decide) (hts (.fieldLink RL 35 "AfternoonMeterLaw$Sim" "naps" "[[I") (List.mem_of_getElem? (i := 14) rfl)) (fun _ h9 => h9) rfl dL_law_1043 ?_
        refine lv_iload hx hb dL_law_1046 (lv_at hl 7 rfl) ?_
        rw [eU]
        refine va_callr (va_runS (As := [.ref (a1 1), .int (nI j8)]) (rest := [.ref h1]) ⟨hx, hb, hml, hown, hts⟩ (c_X1_without l D cI cR (a1 1) (mNc u) nr j8 H.size (by omega) (by omega)) (va_cwS 2 hts gL_law_X1_without rfl rfl rfl (by decide +kernel) ⟨Nat.le_of_ble_eq_true rfl, Nat.le_of_ble_eq_true rfl⟩) ⟨sm_blind (RR := WP cI cR (a1 1) (mNc u) nr), fun U hU hW => ⟨rfl, by rw [hU], by rw [hU]; exact ⟨hR.2.1, fun k hk => ⟨_, hR.2.2.2.1 k hk⟩⟩, va_K.moved hW.alike hK, hAO.warm hW⟩⟩ rfl rfl hl.1 rfl (lv_room (Nat.le_of_ble_eq_true rfl)) dL_law_1048 ⟨show C + 8 ≤ 754895 by omega, show Sl + 63 ≤ 6836784 by omega⟩) hS (fun q _ h => hA q (Nat.le_trans hS.1 h)) (fun q h => hA q (Nat.le_trans hS.1 h)) (fun w q1048 t H1 locs ht hvm hw hB hz1 hk1 hS1 => ?_)
        try dsimp only at hB
        rw [ht] at hB
        obtain ⟨hq9, hB2⟩ := hB
        have hqs : s.heap.size ≤ q1048 := Nat.le_trans hS.1 hq9
        have hqn : ¬ q1048 ∈ adr h0 a0 h1 := fun z => absurd (adr_lt hP z) (Nat.not_lt.mpr hq9)
        have hNq := NM_new hR hq9
        have hR := hR.kn hk1
        obtain ⟨hP, hD⟩ := push_new (e := .inl (cR, (mNc u - 1), .inr (.inr (.inr (.inr (rfs (dnN nr j8))))))) hP hD hk1 hq9 hqs hB2
        generalize H1 = H at hP hR hS1 ⊢
        have hS := hS1
        have hP : va_P D vwCl [(h0, .inr (0, [.ref (a0 0), .int (nI (mSc u)), .ref (a0 1), .ref (a0 2), .int (nI (mNc u)), .ref (a0 3), .ref (a0 4), .ref (a0 5), .int (nI (mBc u)), .ref (a0 6), .int (nI (mRoom u)), .int (nI (mRate u)), .int (nI (mSip u)), .int (nI (mTea u)), .int (mSpl u), .int (nI (mNow u)), .int (mAft u)])), (a0 0, .inl (cI, 4, .inl (mHt u))), (a0 1, .inl (cI, 8, .inl (mFr u))), (a0 2, .inl (cI, 8, .inl (mTo u))), (a0 3, .inl (cI, 360, .inl (mCov u))), (a0 4, .inl (cI, 6, .inl (mPe u))), (a0 5, .inl (cI, 6, .inl (mBe u))), (a0 6, .inl (cI, 360, .inl on)), (h1, .inr (1, [.ref (a1 0), .ref (a1 1), .ref (a1 2), .int (nI (mRoom u)), .int (nI (mRate u)), .int (nI (mSip u)), .int (mAft u), .int (nI (mNow u)), .int (nI (mTea u)), .int (mSpl u)])), (q1048, .inl (cR, (mNc u - 1), .inr (.inr (.inr (.inr (rfs (dnN nr j8)))))))] H := hP
        have hD : va_D (LA s) [(h0, .inr (0, [.ref (a0 0), .int (nI (mSc u)), .ref (a0 1), .ref (a0 2), .int (nI (mNc u)), .ref (a0 3), .ref (a0 4), .ref (a0 5), .int (nI (mBc u)), .ref (a0 6), .int (nI (mRoom u)), .int (nI (mRate u)), .int (nI (mSip u)), .int (nI (mTea u)), .int (mSpl u), .int (nI (mNow u)), .int (mAft u)])), (a0 0, .inl (cI, 4, .inl (mHt u))), (a0 1, .inl (cI, 8, .inl (mFr u))), (a0 2, .inl (cI, 8, .inl (mTo u))), (a0 3, .inl (cI, 360, .inl (mCov u))), (a0 4, .inl (cI, 6, .inl (mPe u))), (a0 5, .inl (cI, 6, .inl (mBe u))), (a0 6, .inl (cI, 360, .inl on)), (h1, .inr (1, [.ref (a1 0), .ref (a1 1), .ref (a1 2), .int (nI (mRoom u)), .int (nI (mRate u)), .int (nI (mSip u)), .int (mAft u), .int (nI (mNow u)), .int (nI (mTea u)), .int (mSpl u)])), (q1048, .inl (cR, (mNc u - 1), .inr (.inr (.inr (.inr (rfs (dnN nr j8)))))))] := hD
        refine va_forget (fun q hq => hS.2.2 q hq) ?_
        have hS0 : va_S (LA s) s.heap H [] := ⟨hS.1, hS.2.1, fun _ h => nomatch h⟩
        have hDp := D_adr (L := adr h0 a0 h1) (q := q1048) hD rfl
        have hSp : va_S (fun z => z ∈ adr h0 a0 h1 ∨ z = q1048) H H [] := va_S.rf
        refine va_put (D := D) (ci := 1) (v := .ref q1048) (ty := (.array (.array .int))) (C := RX1) (T := TX1) (N := 10) hx hb hts hin tyX1 tyX1_ok nmX1 hown hK hP hDp hSp 8 rfl rfl 1 (by decide) (hts (.fieldLink RL 35 "AfternoonMeterLaw$Sim" "naps" "[[I") (List.mem_of_getElem? (i := 14) rfl)) (fun _ h9 => h9) rfl (by decide +kernel) rfl rfl (Nat.le_of_ble_eq_true rfl) dL_law_1051 (fun H2 locs2 hP hD2 hS2 => ?_)
        have hR := hR.keep (NM_or hNM hNq) (fun q hq hx => hS2.2.1 q hq hx)
        have hS : va_S (LA s) s.heap H2 locs2 := S_comp hS0 hS2 (fun z hz => hz.elim (fun z1 => by obtain ⟨k9, e9, hk9⟩ := adr_of (cI := cI) (a1 := a1) (u := u) (v := u) (on := on) z1; exact hD0.2 k9 _ hk9) (fun z1 => by rw [z1]; exact hqs))
        have hD : va_D (LA s) [(h0, .inr (0, [.ref (a0 0), .int (nI (mSc u)), .ref (a0 1), .ref (a0 2), .int (nI (mNc u)), .ref (a0 3), .ref (a0 4), .ref (a0 5), .int (nI (mBc u)), .ref (a0 6), .int (nI (mRoom u)), .int (nI (mRate u)), .int (nI (mSip u)), .int (nI (mTea u)), .int (mSpl u), .int (nI (mNow u)), .int (mAft u)])), (a0 0, .inl (cI, 4, .inl (mHt u))), (a0 1, .inl (cI, 8, .inl (mFr u))), (a0 2, .inl (cI, 8, .inl (mTo u))), (a0 3, .inl (cI, 360, .inl (mCov u))), (a0 4, .inl (cI, 6, .inl (mPe u))), (a0 5, .inl (cI, 6, .inl (mBe u))), (a0 6, .inl (cI, 360, .inl on)), (h1, .inr (1, [.ref (a1 0), .ref q1048, .ref (a1 2), .int (nI (mRoom u)), .int (nI (mRate u)), .int (nI (mSip u)), .int (mAft u), .int (nI (mNow u)), .int (nI (mTea u)), .int (mSpl u)])), (q1048, .inl (cR, (mNc u - 1), .inr (.inr (.inr (.inr (rfs (dnN nr j8)))))))] := hD.set (p := 8) rfl
        generalize H2 = H at hP hR hS ⊢
        have hP : va_P D vwCl [(h0, .inr (0, [.ref (a0 0), .int (nI (mSc u)), .ref (a0 1), .ref (a0 2), .int (nI (mNc u)), .ref (a0 3), .ref (a0 4), .ref (a0 5), .int (nI (mBc u)), .ref (a0 6), .int (nI (mRoom u)), .int (nI (mRate u)), .int (nI (mSip u)), .int (nI (mTea u)), .int (mSpl u), .int (nI (mNow u)), .int (mAft u)])), (a0 0, .inl (cI, 4, .inl (mHt u))), (a0 1, .inl (cI, 8, .inl (mFr u))), (a0 2, .inl (cI, 8, .inl (mTo u))), (a0 3, .inl (cI, 360, .inl (mCov u))), (a0 4, .inl (cI, 6, .inl (mPe u))), (a0 5, .inl (cI, 6, .inl (mBe u))), (a0 6, .inl (cI, 360, .inl on)), (h1, .inr (1, [.ref (a1 0), .ref q1048, .ref (a1 2), .int (nI (mRoom u)), .int (nI (mRate u)), .int (nI (mSip u)), .int (mAft u), .int (nI (mNow u)), .int (nI (mTea u)), .int (mSpl u)])), (q1048, .inl (cR, (mNc u - 1), .inr (.inr (.inr (.inr (rfs (dnN nr j8)))))))] H := hP
        refine lv_iconst (v := nI 0) hx hb dL_law_1054 (by decide +kernel) ?_
        refine lv_istore (lv' := [(19, .int (nI 0)), (18, .int (nI (AL u j8))), (0, .ref b), (1, .ref h0), (2, .ref h1), (3, .int (nI tm)), (4, .int x0), (11, .int (nI (ct (awB u) 360))), (12, .int (fBG u))]) hx hb dL_law_1055 hl (by decide) rfl (fun ls hl => ?_)
        refine lv_aload_n hx hb dL_law_1057 rfl (lv_at hl 3 rfl) ?_
        refine lv_iload hx hb dL_law_1058 (lv_at hl 8 rfl) ?_
        rw [eU]
        have hPc := hP.sub (ws' := (pic0 cI h0 a0 u on)) [0, 1, 2, 3, 4, 5, 6, 7] rfl
        have hDc := hD.sub (ws' := (pic0 cI h0 a0 u on)) [0, 1, 2, 3, 4, 5, 6, 7] (by decide) rfl
        have hKc := hK.sub (tys' := [(cI, .int)]) [0] rfl
        have hFc := va_free (wc := (pic0 cI h0 a0 u on)) hD hS hA [0, 1, 2, 3, 4, 5, 6, 7] rfl
        refine va_calli (va_runV (As := [.int (nI j8)]) (rest := []) ⟨hx, hb, hml, hown, hts⟩ (c_X0_giveUp l D cI h0 a0 u on H.size j8 hI (by omega)) (cwV 1 hts gL_law_X0_giveUp rfl rfl rfl (by decide +kernel) ⟨Nat.le_of_ble_eq_true rfl, Nat.le_of_ble_eq_true rfl⟩) ⟨wr_blind, va_recv (ci := 0) (q0 := 0) hKc hPc rfl rfl, fun U hU hW => ⟨rfl, by rw [hU], by rw [hU]; exact hPc, va_K.moved hW.alike hKc, hDc.weaken (fun _ _ _ _ => trivial)⟩⟩ rfl rfl hl.1 rfl (lv_room (Nat.le_of_ble_eq_true rfl)) dL_law_1060 ⟨show C + 8 + 0 ≤ 754895 by omega, show Sl + 63 + 0 ≤ 6836784 by omega⟩) hS (fun q _ h => hFc q h) hFc (fun r w t H1 locs ht hvm hw hB hz1 hk1 hS1 => ?_)
        obtain ⟨rfl, rfl⟩ := hw
        obtain ⟨hP1, hK1, hD1⟩ := hB
        rw [ht] at hP1
        have hR := hR.k0 hNM hk1
        have hP1 : va_P D vwCl (pic0 cI h0 a0 (uGive u j8) on) H1 := hP1
        have hD1 : va_D (va_A (pic0 cI h0 a0 u on) H.size) (pic0 cI h0 a0 (uGive u j8) on) := hD1
        obtain ⟨hP, hD⟩ := va_join (wr := [(h1, .inr (1, [.ref (a1 0), .ref q1048, .ref (a1 2), .int (nI (mRoom u)), .int (nI (mRate u)), .int (nI (mSip u)), .int (mAft u), .int (nI (mNow u)), .int (nI (mTea u)), .int (mSpl u)])), (q1048, .inl (cR, (mNc u - 1), .inr (.inr (.inr (.inr (rfs (dnN nr j8)))))))]) (w1 := (pic0 cI h0 a0 (uGive u j8) on)) hP hD [0, 1, 2, 3, 4, 5, 6, 7] [8, 9] rfl rfl (by decide) (by decide) hk1 hFc hP1 hD1
        generalize H1 = H at hP hR hS1 ⊢
        have hS := hS1
        have hP : va_P D vwCl [(h0, .inr (0, [.ref (a0 0), .int (nI (mSc (uGive u j8))), .ref (a0 1), .ref (a0 2), .int (nI (mNc (uGive u j8))), .ref (a0 3), .ref (a0 4), .ref (a0 5), .int (nI (mBc (uGive u j8))), .ref (a0 6), .int (nI (mRoom (uGive u j8))), .int (nI (mRate (uGive u j8))), .int (nI (mSip (uGive u j8))), .int (nI (mTea (uGive u j8))), .int (mSpl (uGive u j8)), .int (nI (mNow (uGive u j8))), .int (mAft (uGive u j8))])), (a0 0, .inl (cI, 4, .inl (mHt (uGive u j8)))), (a0 1, .inl (cI, 8, .inl (mFr (uGive u j8)))), (a0 2, .inl (cI, 8, .inl (mTo (uGive u j8)))), (a0 3, .inl (cI, 360, .inl (mCov (uGive u j8)))), (a0 4, .inl (cI, 6, .inl (mPe (uGive u j8)))), (a0 5, .inl (cI, 6, .inl (mBe (uGive u j8)))), (a0 6, .inl (cI, 360, .inl on)), (h1, .inr (1, [.ref (a1 0), .ref q1048, .ref (a1 2), .int (nI (mRoom u)), .int (nI (mRate u)), .int (nI (mSip u)), .int (mAft u), .int (nI (mNow u)), .int (nI (mTea u)), .int (mSpl u)])), (q1048, .inl (cR, (mNc u - 1), .inr (.inr (.inr (.inr (rfs (dnN nr j8)))))))] H := hP.sub [2, 3, 4, 5, 6, 7, 8, 9, 0, 1] rfl
        have hD : va_D (LA s) [(h0, .inr (0, [.ref (a0 0), .int (nI (mSc (uGive u j8))), .ref (a0 1), .ref (a0 2), .int (nI (mNc (uGive u j8))), .ref (a0 3), .ref (a0 4), .ref (a0 5), .int (nI (mBc (uGive u j8))), .ref (a0 6), .int (nI (mRoom (uGive u j8))), .int (nI (mRate (uGive u j8))), .int (nI (mSip (uGive u j8))), .int (nI (mTea (uGive u j8))), .int (mSpl (uGive u j8)), .int (nI (mNow (uGive u j8))), .int (mAft (uGive u j8))])), (a0 0, .inl (cI, 4, .inl (mHt (uGive u j8)))), (a0 1, .inl (cI, 8, .inl (mFr (uGive u j8)))), (a0 2, .inl (cI, 8, .inl (mTo (uGive u j8)))), (a0 3, .inl (cI, 360, .inl (mCov (uGive u j8)))), (a0 4, .inl (cI, 6, .inl (mPe (uGive u j8)))), (a0 5, .inl (cI, 6, .inl (mBe (uGive u j8)))), (a0 6, .inl (cI, 360, .inl on)), (h1, .inr (1, [.ref (a1 0), .ref q1048, .ref (a1 2), .int (nI (mRoom u)), .int (nI (mRate u)), .int (nI (mSip u)), .int (mAft u), .int (nI (mNow u)), .int (nI (mTea u)), .int (mSpl u)])), (q1048, .inl (cR, (mNc u - 1), .inr (.inr (.inr (.inr (rfs (dnN nr j8)))))))] := hD.sub [2, 3, 4, 5, 6, 7, 8, 9, 0, 1] (by decide) rfl
        have hI1060 : Inv (uGive u j8) := iv_give hI (by omega)
        refine lv_aload_n hx hb dL_law_1063 rfl (lv_at hl 4 rfl) ?_
        refine va_get (D := D) (ci := 1) (v := .ref q1048) (C := RX1) (T := TX1) (N := 10) hx hb hts hin hown hK hP 8 rfl rfl 1 (by decide) (hts (.fieldLink RL 35 "AfternoonMeterLaw$Sim" "naps" "[[I") (List.mem_of_getElem? (i := 14) rfl)) (fun _ h9 => h9) rfl dL_law_1064 ?_
        refine va_alen (v := nI (mNc u - 1)) hx hb hK hP 9 1 rfl rfl rfl dL_law_1067 ?_
        refine lv_icmp_eq (tgt := 1073) hx hb dL_law_1068 (by decide) (fun c_1068 => ?_) (fun c_1068 => ?_)
        · skip
          replace c_1068 : (mNc u - 1) = (mNc u - 1) := eN c_1068
          refine lv_iconst (v := nI 0) hx hb dL_law_1073 (by decide +kernel) ?_
          refine lv_istore (lv' := [(20, .int (nI 0)), (19, .int (nI 0)), (18, .int (nI (AL u j8))), (0, .ref b), (1, .ref h0), (2, .ref h1), (3, .int (nI tm)), (4, .int x0), (11, .int (nI (ct (awB u) 360))), (12, .int (fBG u))]) hx hb dL_law_1074 hl (by decide) rfl (fun ls hl => ?_)
          have lp1076 : ∀ (nA kA : Nat), kA + nA = 360 → ∀ (X19 : Nat), X19 = ct (awB (uGive u j8)) kA → ∀ (ls : Array Slot), lv_has ls 21 [(0, .ref b), (1, .ref h0), (2, .ref h1), (3, .int (nI tm)), (4, .int x0), (11, .int (nI (ct (awB u) 360))), (12, .int (fBG u)), (18, .int (nI (AL u j8))), (19, .int (nI X19)), (20, .int (nI kA))] → W p l e room_1 s m #[Value.ref b] below meth c H locs (C + 8) (Sl + 63) (lw_Z below #[Value.ref b] s) (F0 m 1076 ls []) := by
            intro nA
            induction nA with
            | zero =>
              intro kA hkA X19 eX19 ls hl
              have ekA : kA = 360 := by omega
              have eAf : X19 = ct (awB u) 360 + AL u j8 := by rw [eX19, ekA]; exact give_aw hI (by omega)
              have hct := ct_le (awB u) 360
              have hal9 := AL_le u j8
              refine lv_iload hx hb dL_law_1076 (lv_at hl 9 rfl) ?_
              refine lv_sipush (v := nI 360) hx hb dL_law_1078 (by decide +kernel) ?_
              refine lv_icmp_ge (tgt := 1109) hx hb dL_law_1081 (by decide) (fun c_1081 => ?_) (fun c_1081 => ?_)
              · skip
                replace c_1081 : 360 ≤ kA := leN c_1081
                refine lv_iload hx hb dL_law_1109 (lv_at hl 8 rfl) ?_
                refine lv_iload hx hb dL_law_1111 (lv_at hl 5 rfl) ?_
                refine lv_iload hx hb dL_law_1113 (lv_at hl 7 rfl) ?_
                refine q_iaddN hx hb dL_law_1115 ?_
                refine lv_icmp_eq (tgt := 1121) hx hb dL_law_1116 (by decide) (fun c_1116 => ?_) (fun c_1116 => ?_)
                · skip
                  replace c_1116 : X19 = ((ct (awB u) 360) + (AL u j8)) := eN c_1116
                  refine lv_iinc (v := nI (tm + 1)) (lv' := [(3, .int (nI (tm + 1))), (0, .ref b), (1, .ref h0), (2, .ref h1), (4, .int x0), (11, .int (nI (ct (awB u) 360))), (12, .int (fBG u)), (18, .int (nI (AL u j8))), (19, .int (nI X19)), (20, .int (nI kA))]) hx hb dL_law_1121 hl (k := 3) rfl (nI_i1 _) (by decide) rfl (fun ls hl => ?_)
                  refine lv_goto (tgt := 22) hx hb dL_law_1124 (by decide) ?_
                  have hP9 : va_P D vwCl (picT cI h0 a0 h1 (upN a1 1 q1048) (uGive u j8) (uGive u j8) on) H := hP.sub (ws' := picT cI h0 a0 h1 (upN a1 1 q1048) (uGive u j8) (uGive u j8) on) [0, 1, 2, 3, 4, 5, 6, 7, 8] rfl
                  exact kk (uGive u j8) on (upN a1 1 q1048) (dnN nr j8) br H _ _ ⟨hI1060, hO, hIS, NM_give hNM hqn, hP9, RO_give hR (by omega) (hP 9 _ rfl)⟩ (D_T hD0) hS (lv_sub hl [1, 2, 3, 0] rfl)
                · skip
                  replace c_1116 : X19 ≠ ((ct (awB u) 360) + (AL u j8)) := neN c_1116
                  exact (by omega : False).elim
              · skip
                replace c_1081 : kA < 360 := nleN c_1081
                exact (by omega : False).elim
            | succ nA ihA =>
              intro kA hkA X19 eX19 ls hl
              have hct := ct_le (awB (uGive u j8)) kA
              refine lv_iload hx hb dL_law_1076 (lv_at hl 9 rfl) ?_
              refine lv_sipush (v := nI 360) hx hb dL_law_1078 (by decide +kernel) ?_
              refine lv_icmp_ge (tgt := 1109) hx hb dL_law_1081 (by decide) (fun c_1081 => ?_) (fun c_1081 => ?_)
              · skip
                replace c_1081 : 360 ≤ kA := leN c_1081
                exact (by omega : False).elim
              · skip
                replace c_1081 : kA < 360 := nleN c_1081
                refine lv_iload hx hb dL_law_1084 (lv_at hl 8 rfl) ?_
                refine lv_aload_n hx hb dL_law_1086 rfl (lv_at hl 1 rfl) ?_
                refine lv_iload hx hb dL_law_1087 (lv_at hl 9 rfl) ?_
                refine vp_callSi (W.runV (As := [.int (nI kA)]) (rest := [.int (nI X19)]) ⟨hx, hb, hml, hown, hts⟩ (c_X0_isAsleep l D cI h0 a0 (uGive u j8) on kA hI1060 (by omega)) (cwV 1 hts gL_law_X0_isAsleep rfl rfl rfl (by decide +kernel) ⟨Nat.le_of_ble_eq_true rfl, Nat.le_of_ble_eq_true rfl⟩) (pu_pre (hK.sub (tys' := [(cI, .int)]) [0] rfl) (hP.sub (ws' := pic0 cI h0 a0 (uGive u j8) on) [0, 1, 2, 3, 4, 5, 6, 7] rfl) rfl rfl) rfl rfl hl.1 rfl (lv_room (Nat.le_of_ble_eq_true rfl)) dL_law_1089 ⟨show C + 8 + 0 ≤ 754895 by omega, show Sl + 63 + 0 ≤ 6836784 by omega⟩) (fun r hr9 => ?_)
                subst hr9
                refine lv_if_eq (tgt := 1099) hx hb dL_law_1092 (by decide) (fun c_1092 => ?_) (fun c_1092 => ?_)
                · skip
                  replace c_1092 : (decide (0 < cN (uGive u j8) kA)) = false := bI_eq0 c_1092
                  refine lv_iconst (v := nI 1) hx hb dL_law_1099 (by decide +kernel) ?_
                  refine q_iaddN hx hb dL_law_1100 ?_
                  refine lv_istore (lv' := [(19, .int (nI (X19 + 1))), (0, .ref b), (1, .ref h0), (2, .ref h1), (3, .int (nI tm)), (4, .int x0), (11, .int (nI (ct (awB u) 360))), (12, .int (fBG u)), (18, .int (nI (AL u j8))), (20, .int (nI kA))]) hx hb dL_law_1101 hl (by decide) rfl (fun ls hl => ?_)
                  refine lv_iinc (v := nI (kA + 1)) (lv' := [(20, .int (nI (kA + 1))), (19, .int (nI (X19 + 1))), (0, .ref b), (1, .ref h0), (2, .ref h1), (3, .int (nI tm)), (4, .int x0), (11, .int (nI (ct (awB u) 360))), (12, .int (fBG u)), (18, .int (nI (AL u j8)))]) hx hb dL_law_1103 hl (k := 9) rfl (nI_i1 _) (by decide) rfl (fun ls hl => ?_)
                  refine lv_goto (tgt := 1076) hx hb dL_law_1106 (by decide) ?_
                  exact ihA (kA + 1) (by omega) (X19 + 1) (by subst eX19; exact (ct_y (P := awB (uGive u j8)) (decide_eq_true (by have h8 := of_decide_eq_false c_1092; omega))).symm) _ (lv_sub hl [2, 3, 4, 5, 6, 7, 8, 9, 1, 0] rfl)
                · skip
                  replace c_1092 : (decide (0 < cN (uGive u j8) kA)) = true := bI_ne0 c_1092
                  refine lv_iconst (v := nI 0) hx hb dL_law_1095 (by decide +kernel) ?_
                  refine lv_goto (tgt := 1100) hx hb dL_law_1096 (by decide) ?_
                  refine q_iaddN hx hb dL_law_1100 ?_
                  refine lv_istore (lv' := [(19, .int (nI (X19 + 0))), (0, .ref b), (1, .ref h0), (2, .ref h1), (3, .int (nI tm)), (4, .int x0), (11, .int (nI (ct (awB u) 360))), (12, .int (fBG u)), (18, .int (nI (AL u j8))), (20, .int (nI kA))]) hx hb dL_law_1101 hl (by decide) rfl (fun ls hl => ?_)
                  refine lv_iinc (v := nI (kA + 1)) (lv' := [(20, .int (nI (kA + 1))), (19, .int (nI (X19 + 0))), (0, .ref b), (1, .ref h0), (2, .ref h1), (3, .int (nI tm)), (4, .int x0), (11, .int (nI (ct (awB u) 360))), (12, .int (fBG u)), (18, .int (nI (AL u j8)))]) hx hb dL_law_1103 hl (k := 9) rfl (nI_i1 _) (by decide) rfl (fun ls hl => ?_)
                  refine lv_goto (tgt := 1076) hx hb dL_law_1106 (by decide) ?_
                  exact ihA (kA + 1) (by omega) (X19 + 0) (by subst eX19; exact (ct_n (P := awB (uGive u j8)) (decide_eq_false (fun z => by have h8 := of_decide_eq_true c_1092; omega))).symm) _ (lv_sub hl [2, 3, 4, 5, 6, 7, 8, 9, 1, 0] rfl)
          exact lp1076 _ 0 (Nat.zero_add _) 0 (by rfl) _ (lv_sub hl [3, 4, 5, 6, 7, 8, 9, 2, 1, 0] rfl)
        · skip
          replace c_1068 : (mNc u - 1) ≠ (mNc u - 1) := neN c_1068
          exact (by omega : False).elim
      · skip
        replace c_1027 : j_1024 = 0 := eN c_1027
        refine lv_goto (tgt := 1121) hx hb dL_law_1030 (by decide) ?_
        refine lv_iinc (v := nI (tm + 1)) (lv' := [(3, .int (nI (tm + 1))), (0, .ref b), (1, .ref h0), (2, .ref h1), (4, .int x0), (11, .int (nI (ct (awB u) 360))), (12, .int (fBG u))]) hx hb dL_law_1121 hl (k := 3) rfl (nI_i1 _) (by decide) rfl (fun ls hl => ?_)
        refine lv_goto (tgt := 22) hx hb dL_law_1124 (by decide) ?_
        refine W.widen (k := C + 8) (n := Sl + 63) (by omega) (by omega) ?_
        exact kk u on a1 nr br H _ _ ⟨hI, hO, hIS, hNM, hP, hR⟩ hD hS (lv_sub hl [1, 2, 3, 0] rfl)
