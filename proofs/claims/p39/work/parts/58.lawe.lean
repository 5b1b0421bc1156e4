set_option maxHeartbeats 8000000 in
set_option maxRecDepth 100000 in
theorem sg_950 {p : Program} {l : Launch} {e : Env} {s : State} {m : MethodId} {below : List Frame} {meth : Method} {c : Code} {D : va_G} {cI cR : ClassId} {b L h0 h1 : Nat} {a0 : Nat → Nat} {xs : Nat → Int32} {tm : Nat} {x0 : Int32} {n0 : Nat} {aw0 : Nat} {up0 : Int32} {sp0 : Int32} (hL : L ≤ 260) (C0 : lw_At p s m meth c b L xs) (hAO : AOI s) (hK : va_K D vwCl (tyR cI cR) s) {u : MS} {on : Nat → Int32} {a1 nr br : Nat → Nat} {H : Heap} {locs : List Loc} {C Sl : Nat} (hC : C + 100 ≤ 754895) (hSl : Sl + 1000 ≤ 6836784) (hT : TW D cI cR h0 a0 h1 u on a1 nr br H) (hD : va_D (LA s) (picT cI h0 a0 h1 a1 u u on)) (hS : va_S (LA s) s.heap H locs) (h25 : mNow u < 360) (hsp : sp0 = fSp u (mRate u) ∨ ∃ T, sp0 = nI T ∧ T < mNow u) {ls : Array Slot} (hl : lv_has ls 21 [(0, .ref b), (1, .ref h0), (2, .ref h1), (3, .int (nI tm)), (4, .int x0), (7, .int (nI n0)), (11, .int (nI aw0)), (12, .int up0), (14, .int sp0), (18, .int (nI (mNow u)))]) (kk : ∀ (H : Heap) (locs : List Loc), TW D cI cR h0 a0 h1 (uOne u) on a1 nr br H → va_S (LA s) s.heap H locs → (sp0 = fSp (uOne u) (mRate u) ∨ ∃ T, sp0 = nI T ∧ T < mNow u + 1) → ∀ (ls : Array Slot), lv_has ls 21 [(0, .ref b), (1, .ref h0), (2, .ref h1), (3, .int (nI tm)), (4, .int x0), (7, .int (nI n0)), (11, .int (nI aw0)), (12, .int up0), (14, .int sp0), (18, .int (nI (mNow u + 1)))] → W p l e room_1 s m #[Value.ref b] below meth c H locs C Sl (lw_Z below #[Value.ref b] s) (F0 m 932 ls [])) : W p l e room_1 s m #[Value.ref b] below meth c H locs C Sl (lw_Z below #[Value.ref b] s) (F0 m 950 ls []) := by
  obtain ⟨hx, hb, hr, hml, hown, hts0, hX, hbl, hlocks, hgv⟩ := id C0
  have hown : s.vm.findClass RL = some m.cls := hown
  have hts : ∀ w ∈ wsL_law, w.before #[Value.ref b] s = true := fun w h => hts0 w (wsL_law_in w h)
  have hin : ∀ w ∈ wsX10, w ∈ wsL_law := inlX1
  have hA : ∀ q : Nat, s.heap.size ≤ q → LA s q := fun _ h => h
  have hbA : ¬ LA s b := Nat.not_le.mpr hbl
  obtain ⟨hI, hO, hIS, hNM, hP, hR⟩ := id hT
  obtain ⟨hIa, hIb, hIc, hId, hIe, hIf, hIg, hIh, hIi, hIj⟩ := id hI
  have hXH : va_X b L xs s H := hX.kept (hS.2.1 b hbl hbA)
  refine lv_aload_n hx hb dL_law_950 rfl (lv_at hl 1 rfl) ?_
  refine lv_iconst (v := nI 1) hx hb dL_law_951 (by decide +kernel) ?_
  have hPc := hP.sub (ws' := (pic0 cI h0 a0 u on)) [0, 1, 2, 3, 4, 5, 6, 7] rfl
  have hDc := hD.sub (ws' := (pic0 cI h0 a0 u on)) [0, 1, 2, 3, 4, 5, 6, 7] (by decide) rfl
  have hKc := hK.sub (tys' := [(cI, .int)]) [0] rfl
  have hFc := va_free (wc := (pic0 cI h0 a0 u on)) hD hS hA [0, 1, 2, 3, 4, 5, 6, 7] rfl
  refine va_calli (va_runV (As := [.int (nI 1)]) (rest := []) ⟨hx, hb, hml, hown, hts⟩ (c_X0_pass l D cI h0 a0 u on H.size 1 hI hO (by omega)) (cwV 1 hts gL_law_X0_pass rfl rfl rfl (by decide +kernel) ⟨Nat.le_of_ble_eq_true rfl, Nat.le_of_ble_eq_true rfl⟩) ⟨wr_blind, va_recv (ci := 0) (q0 := 0) hKc hPc rfl rfl, fun U hU hW => ⟨rfl, by rw [hU], by rw [hU]; exact hPc, va_K.moved hW.alike hKc, hDc.weaken (fun _ _ _ _ => trivial)⟩⟩ rfl rfl hl.1 rfl (lv_room (Nat.le_of_ble_eq_true rfl)) dL_law_952 ⟨show C + 0 ≤ 754895 by omega, show Sl + 0 ≤ 6836784 by omega⟩) hS (fun q _ h => hFc q h) hFc (fun r w t H1 locs ht hvm hw hB hz1 hk1 hS1 => ?_)
  obtain ⟨rfl, rfl⟩ := hw
  obtain ⟨hP1, hK1, hD1⟩ := hB
  rw [ht] at hP1
  have hR := hR.k0 hNM hk1
  have hP1 : va_P D vwCl (pic0 cI h0 a0 (uOne u) on) H1 := Eq.mp (congrArg (fun w9 : MS => va_P D vwCl (pic0 cI h0 a0 w9 on) H1) (pass_one (u := u))) hP1
  have hD1 : va_D (va_A (pic0 cI h0 a0 u on) H.size) (pic0 cI h0 a0 (uOne u) on) := Eq.mp (congrArg (fun w9 : MS => va_D (va_A (pic0 cI h0 a0 u on) H.size) (pic0 cI h0 a0 w9 on)) (pass_one (u := u))) hD1
  obtain ⟨hP, hD⟩ := va_join (wr := [(h1, .inr (1, [.ref (a1 0), .ref (a1 1), .ref (a1 2), .int (nI (mRoom u)), .int (nI (mRate u)), .int (nI (mSip u)), .int (mAft u), .int (nI (mNow u)), .int (nI (mTea u)), .int (mSpl u)]))]) (w1 := (pic0 cI h0 a0 (uOne u) on)) hP hD [0, 1, 2, 3, 4, 5, 6, 7] [8] rfl rfl (by decide) (by decide) hk1 hFc hP1 hD1
  generalize H1 = H at hP hR hS1 ⊢
  have hS := hS1
  have hP : va_P D vwCl [(h0, .inr (0, [.ref (a0 0), .int (nI (mSc (uOne u))), .ref (a0 1), .ref (a0 2), .int (nI (mNc (uOne u))), .ref (a0 3), .ref (a0 4), .ref (a0 5), .int (nI (mBc (uOne u))), .ref (a0 6), .int (nI (mRoom (uOne u))), .int (nI (mRate (uOne u))), .int (nI (mSip (uOne u))), .int (nI (mTea (uOne u))), .int (mSpl (uOne u)), .int (nI (mNow (uOne u))), .int (mAft (uOne u))])), (a0 0, .inl (cI, 4, .inl (mHt (uOne u)))), (a0 1, .inl (cI, 8, .inl (mFr (uOne u)))), (a0 2, .inl (cI, 8, .inl (mTo (uOne u)))), (a0 3, .inl (cI, 360, .inl (mCov (uOne u)))), (a0 4, .inl (cI, 6, .inl (mPe (uOne u)))), (a0 5, .inl (cI, 6, .inl (mBe (uOne u)))), (a0 6, .inl (cI, 360, .inl on)), (h1, .inr (1, [.ref (a1 0), .ref (a1 1), .ref (a1 2), .int (nI (mRoom u)), .int (nI (mRate u)), .int (nI (mSip u)), .int (mAft u), .int (nI (mNow u)), .int (nI (mTea u)), .int (mSpl u)]))] H := hP.sub [1, 2, 3, 4, 5, 6, 7, 8, 0] rfl
  have hD : va_D (LA s) [(h0, .inr (0, [.ref (a0 0), .int (nI (mSc (uOne u))), .ref (a0 1), .ref (a0 2), .int (nI (mNc (uOne u))), .ref (a0 3), .ref (a0 4), .ref (a0 5), .int (nI (mBc (uOne u))), .ref (a0 6), .int (nI (mRoom (uOne u))), .int (nI (mRate (uOne u))), .int (nI (mSip (uOne u))), .int (nI (mTea (uOne u))), .int (mSpl (uOne u)), .int (nI (mNow (uOne u))), .int (mAft (uOne u))])), (a0 0, .inl (cI, 4, .inl (mHt (uOne u)))), (a0 1, .inl (cI, 8, .inl (mFr (uOne u)))), (a0 2, .inl (cI, 8, .inl (mTo (uOne u)))), (a0 3, .inl (cI, 360, .inl (mCov (uOne u)))), (a0 4, .inl (cI, 6, .inl (mPe (uOne u)))), (a0 5, .inl (cI, 6, .inl (mBe (uOne u)))), (a0 6, .inl (cI, 360, .inl on)), (h1, .inr (1, [.ref (a1 0), .ref (a1 1), .ref (a1 2), .int (nI (mRoom u)), .int (nI (mRate u)), .int (nI (mSip u)), .int (mAft u), .int (nI (mNow u)), .int (nI (mTea u)), .int (mSpl u)]))] := hD.sub [1, 2, 3, 4, 5, 6, 7, 8, 0] (by decide) rfl
  rw [ps_one]
  have hca := cAf_le u (mNow u) (mTea u) (mRate u)
  refine lv_istore (lv' := [(19, .int (nI (cAf u (mNow u) (mTea u) (mRate u) - mRoom u))), (0, .ref b), (1, .ref h0), (2, .ref h1), (3, .int (nI tm)), (4, .int x0), (7, .int (nI n0)), (11, .int (nI aw0)), (12, .int up0), (14, .int sp0), (18, .int (nI (mNow u)))]) hx hb dL_law_955 hl (by decide) rfl (fun ls hl => ?_)
  refine lv_iload hx hb dL_law_957 (lv_at hl 0 rfl) ?_
  refine lv_aload_n hx hb dL_law_959 rfl (lv_at hl 3 rfl) ?_
  have hPc := hP.sub (ws' := (picS h1 a1 u)) [8] rfl
  have hFc := va_free (wc := (picS h1 a1 u)) hD hS hA [8] rfl
  refine va_calli (va_runV (As := []) (rest := [.int (nI (cAf u (mNow u) (mTea u) (mRate u) - mRoom u))]) ⟨hx, hb, hml, hown, hts⟩ (c_X1_pass l D cI cR h1 a1 nr br u H.size (Inv.n hI) (hNM.weak (fun q z => z ▸ List.mem_of_getElem? (l := adr h0 a0 h1) (i := 8) rfl)) (by omega) (by omega) (by omega)) (cwV 0 hts gL_law_X1_pass rfl rfl rfl (by decide +kernel) ⟨Nat.le_of_ble_eq_true rfl, Nat.le_of_ble_eq_true rfl⟩) ⟨ws_blind, va_recv (ci := 1) (q0 := 0) hK hPc rfl rfl, fun U hU hW => ⟨rfl, by rw [hU], by rw [hU]; exact hPc, by rw [hU]; exact hR, va_K.moved hW.alike hK⟩⟩ rfl rfl hl.1 rfl (lv_room (Nat.le_of_ble_eq_true rfl)) dL_law_960 ⟨show C + 0 ≤ 754895 by omega, show Sl + 0 ≤ 6836784 by omega⟩) hS (fun q _ h => hFc q h) hFc (fun r w t H1 locs ht hvm hw hB hz1 hk1 hS1 => ?_)
  obtain ⟨rfl, rfl⟩ := hw
  have hB := P_of hB ht
  have hR := hR.k1 hNM hk1
  have hB : va_P D vwCl (picS h1 a1 (uOne u)) H1 := hB
  obtain ⟨hP, hD⟩ := va_join (wr := [(h0, .inr (0, [.ref (a0 0), .int (nI (mSc (uOne u))), .ref (a0 1), .ref (a0 2), .int (nI (mNc (uOne u))), .ref (a0 3), .ref (a0 4), .ref (a0 5), .int (nI (mBc (uOne u))), .ref (a0 6), .int (nI (mRoom (uOne u))), .int (nI (mRate (uOne u))), .int (nI (mSip (uOne u))), .int (nI (mTea (uOne u))), .int (mSpl (uOne u)), .int (nI (mNow (uOne u))), .int (mAft (uOne u))])), (a0 0, .inl (cI, 4, .inl (mHt (uOne u)))), (a0 1, .inl (cI, 8, .inl (mFr (uOne u)))), (a0 2, .inl (cI, 8, .inl (mTo (uOne u)))), (a0 3, .inl (cI, 360, .inl (mCov (uOne u)))), (a0 4, .inl (cI, 6, .inl (mPe (uOne u)))), (a0 5, .inl (cI, 6, .inl (mBe (uOne u)))), (a0 6, .inl (cI, 360, .inl on))]) (w1 := picS h1 a1 (uOne u)) hP hD [8] [0, 1, 2, 3, 4, 5, 6, 7] rfl rfl (by decide) (by decide) hk1 hFc hB (D_one (Or.inl ⟨0, _, rfl⟩))
  generalize H1 = H at hP hR hS1 ⊢
  have hS := hS1
  refine lv_icmp_ne (tgt := 1008) hx hb dL_law_963 (by decide) (fun c_963 => ?_) (fun c_963 => ?_)
  · skip
    replace c_963 : (cAf u (mNow u) (mTea u) (mRate u) - mRoom u) ≠ (cAf u (mNow u) (mTea u) (mRate u) - mRoom u) := neN c_963
    exact (by omega : False).elim
  · skip
    replace c_963 : (cAf u (mNow u) (mTea u) (mRate u) - mRoom u) = (cAf u (mNow u) (mTea u) (mRate u) - mRoom u) := eN c_963
    rcases hsp with eP | ⟨T9, eP, hT9⟩
    · by_cases hh : mRoom u < cAf u (mNow u) (mTea u) (mRate u)
      · have eQ : sp0 = nI (mNow u) := eP.trans (fsp_hit h25 hh)
        refine lv_iload hx hb dL_law_966 (lv_at hl 0 rfl) ?_
        refine lv_if_le (tgt := 975) hx hb dL_law_968 (by decide) (fun c_968 => ?_) (fun c_968 => ?_)
        · skip
          replace c_968 : (cAf u (mNow u) (mTea u) (mRate u) - mRoom u) ≤ 0 := leN c_968
          exact (by omega : False).elim
        · skip
          replace c_968 : 0 < (cAf u (mNow u) (mTea u) (mRate u) - mRoom u) := nleN c_968
          refine lv_iconst (v := nI 1) hx hb dL_law_971 (by decide +kernel) ?_
          refine lv_goto (tgt := 976) hx hb dL_law_972 (by decide) ?_
          refine lv_iload hx hb dL_law_976 (lv_at hl 9 rfl) ?_
          rw [eQ]
          refine lv_if_lt (tgt := 992) hx hb dL_law_978 (by decide) (fun c_978 => ?_) (fun c_978 => ?_)
          · skip
            replace c_978 : (mNow u) < 0 := ltN c_978
            exact (by omega : False).elim
          · skip
            replace c_978 : 0 ≤ (mNow u) := nltN c_978
            refine lv_iload hx hb dL_law_981 (lv_at hl 10 rfl) ?_
            refine lv_iload hx hb dL_law_983 (lv_at hl 9 rfl) ?_
            rw [eQ]
            refine lv_icmp_ne (tgt := 992) hx hb dL_law_985 (by decide) (fun c_985 => ?_) (fun c_985 => ?_)
            · skip
              replace c_985 : (mNow u) ≠ (mNow u) := neN c_985
              exact (by omega : False).elim
            · skip
              replace c_985 : (mNow u) = (mNow u) := eN c_985
              refine lv_iconst (v := nI 1) hx hb dL_law_988 (by decide +kernel) ?_
              refine lv_goto (tgt := 993) hx hb dL_law_989 (by decide) ?_
              refine lv_icmp_eq (tgt := 1010) hx hb dL_law_993 (by decide) (fun c_993 => ?_) (fun c_993 => ?_)
              · skip
                replace c_993 : 1 = 1 := eN c_993
                refine lv_iinc (v := nI (mNow u + 1)) (lv' := [(18, .int (nI (mNow u + 1))), (19, .int (nI (cAf u (mNow u) (mTea u) (mRate u) - mRoom u))), (0, .ref b), (1, .ref h0), (2, .ref h1), (3, .int (nI tm)), (4, .int x0), (7, .int (nI n0)), (11, .int (nI aw0)), (12, .int up0), (14, .int sp0)]) hx hb dL_law_1010 hl (k := 10) rfl (nI_i1 _) (by decide) rfl (fun ls hl => ?_)
                refine lv_goto (tgt := 932) hx hb dL_law_1013 (by decide) ?_
                exact kk H _ ⟨iv_one hI h25, hO, is_one (by omega) hIS, hNM, hP, hR⟩ hS (Or.inr ⟨mNow u, eQ, Nat.lt_succ_self _⟩) _ (lv_sub hl [2, 3, 4, 5, 6, 7, 8, 9, 10, 0] rfl)
              · skip
                replace c_993 : 1 ≠ 1 := neN c_993
                exact (by omega : False).elim
      · have eQ0 : sp0 = fSp (uOne u) (mRate u) := eP.trans (fsp_go h25 hh)
        rcases fsp_cases (iv_one hI h25) (mRate u) with e1 | ⟨T9, e1, hT1, hT2, hT3⟩
        · have eQ : sp0 = -1 := eQ0.trans e1
          refine lv_iload hx hb dL_law_966 (lv_at hl 0 rfl) ?_
          refine lv_if_le (tgt := 975) hx hb dL_law_968 (by decide) (fun c_968 => ?_) (fun c_968 => ?_)
          · skip
            replace c_968 : (cAf u (mNow u) (mTea u) (mRate u) - mRoom u) ≤ 0 := leN c_968
            refine lv_iconst (v := nI 0) hx hb dL_law_975 (by decide +kernel) ?_
            refine lv_iload hx hb dL_law_976 (lv_at hl 9 rfl) ?_
            rw [eQ]
            refine lv_if_lt (tgt := 992) hx hb dL_law_978 (by decide) (fun c_978 => ?_) (fun c_978 => ?_)
            · skip
              refine lv_iconst (v := nI 0) hx hb dL_law_992 (by decide +kernel) ?_
              refine lv_icmp_eq (tgt := 1010) hx hb dL_law_993 (by decide) (fun c_993 => ?_) (fun c_993 => ?_)
              · skip
                replace c_993 : 0 = 0 := eN c_993
                refine lv_iinc (v := nI (mNow u + 1)) (lv' := [(18, .int (nI (mNow u + 1))), (19, .int (nI (cAf u (mNow u) (mTea u) (mRate u) - mRoom u))), (0, .ref b), (1, .ref h0), (2, .ref h1), (3, .int (nI tm)), (4, .int x0), (7, .int (nI n0)), (11, .int (nI aw0)), (12, .int up0), (14, .int sp0)]) hx hb dL_law_1010 hl (k := 10) rfl (nI_i1 _) (by decide) rfl (fun ls hl => ?_)
                refine lv_goto (tgt := 932) hx hb dL_law_1013 (by decide) ?_
                exact kk H _ ⟨iv_one hI h25, hO, is_one (by omega) hIS, hNM, hP, hR⟩ hS (Or.inl eQ0) _ (lv_sub hl [2, 3, 4, 5, 6, 7, 8, 9, 10, 0] rfl)
              · skip
                replace c_993 : 0 ≠ 0 := neN c_993
                exact (by omega : False).elim
            · skip
              exact (c_978 (by decide +kernel)).elim
          · skip
            replace c_968 : 0 < (cAf u (mNow u) (mTea u) (mRate u) - mRoom u) := nleN c_968
            exact (by omega : False).elim
        · have eQ : sp0 = nI T9 := eQ0.trans e1
          have hT4 : mNow u + 1 ≤ T9 := hT1
          refine lv_iload hx hb dL_law_966 (lv_at hl 0 rfl) ?_
          refine lv_if_le (tgt := 975) hx hb dL_law_968 (by decide) (fun c_968 => ?_) (fun c_968 => ?_)
          · skip
            replace c_968 : (cAf u (mNow u) (mTea u) (mRate u) - mRoom u) ≤ 0 := leN c_968
            refine lv_iconst (v := nI 0) hx hb dL_law_975 (by decide +kernel) ?_
            refine lv_iload hx hb dL_law_976 (lv_at hl 9 rfl) ?_
            rw [eQ]
            refine lv_if_lt (tgt := 992) hx hb dL_law_978 (by decide) (fun c_978 => ?_) (fun c_978 => ?_)
            · skip
              replace c_978 : T9 < 0 := ltN c_978
              exact (by omega : False).elim
            · skip
              replace c_978 : 0 ≤ T9 := nltN c_978
              refine lv_iload hx hb dL_law_981 (lv_at hl 10 rfl) ?_
              refine lv_iload hx hb dL_law_983 (lv_at hl 9 rfl) ?_
              rw [eQ]
              refine lv_icmp_ne (tgt := 992) hx hb dL_law_985 (by decide) (fun c_985 => ?_) (fun c_985 => ?_)
              · skip
                replace c_985 : (mNow u) ≠ T9 := neN c_985
                refine lv_iconst (v := nI 0) hx hb dL_law_992 (by decide +kernel) ?_
                refine lv_icmp_eq (tgt := 1010) hx hb dL_law_993 (by decide) (fun c_993 => ?_) (fun c_993 => ?_)
                · skip
                  replace c_993 : 0 = 0 := eN c_993
                  refine lv_iinc (v := nI (mNow u + 1)) (lv' := [(18, .int (nI (mNow u + 1))), (19, .int (nI (cAf u (mNow u) (mTea u) (mRate u) - mRoom u))), (0, .ref b), (1, .ref h0), (2, .ref h1), (3, .int (nI tm)), (4, .int x0), (7, .int (nI n0)), (11, .int (nI aw0)), (12, .int up0), (14, .int sp0)]) hx hb dL_law_1010 hl (k := 10) rfl (nI_i1 _) (by decide) rfl (fun ls hl => ?_)
                  refine lv_goto (tgt := 932) hx hb dL_law_1013 (by decide) ?_
                  exact kk H _ ⟨iv_one hI h25, hO, is_one (by omega) hIS, hNM, hP, hR⟩ hS (Or.inl eQ0) _ (lv_sub hl [2, 3, 4, 5, 6, 7, 8, 9, 10, 0] rfl)
                · skip
                  replace c_993 : 0 ≠ 0 := neN c_993
                  exact (by omega : False).elim
              · skip
                replace c_985 : (mNow u) = T9 := eN c_985
                exact (by omega : False).elim
          · skip
            replace c_968 : 0 < (cAf u (mNow u) (mTea u) (mRate u) - mRoom u) := nleN c_968
            exact (by omega : False).elim
    · have eQ : sp0 = nI T9 := eP
      refine lv_iload hx hb dL_law_966 (lv_at hl 0 rfl) ?_
      refine lv_if_le (tgt := 975) hx hb dL_law_968 (by decide) (fun c_968 => ?_) (fun c_968 => ?_)
      · skip
        replace c_968 : (cAf u (mNow u) (mTea u) (mRate u) - mRoom u) ≤ 0 := leN c_968
        refine lv_iconst (v := nI 0) hx hb dL_law_975 (by decide +kernel) ?_
        refine lv_iload hx hb dL_law_976 (lv_at hl 9 rfl) ?_
        rw [eQ]
        refine lv_if_lt (tgt := 992) hx hb dL_law_978 (by decide) (fun c_978 => ?_) (fun c_978 => ?_)
        · skip
          replace c_978 : T9 < 0 := ltN c_978
          exact (by omega : False).elim
        · skip
          replace c_978 : 0 ≤ T9 := nltN c_978
          refine lv_iload hx hb dL_law_981 (lv_at hl 10 rfl) ?_
          refine lv_iload hx hb dL_law_983 (lv_at hl 9 rfl) ?_
          rw [eQ]
          refine lv_icmp_ne (tgt := 992) hx hb dL_law_985 (by decide) (fun c_985 => ?_) (fun c_985 => ?_)
          · skip
            replace c_985 : (mNow u) ≠ T9 := neN c_985
            refine lv_iconst (v := nI 0) hx hb dL_law_992 (by decide +kernel) ?_
            refine lv_icmp_eq (tgt := 1010) hx hb dL_law_993 (by decide) (fun c_993 => ?_) (fun c_993 => ?_)
            · skip
              replace c_993 : 0 = 0 := eN c_993
              refine lv_iinc (v := nI (mNow u + 1)) (lv' := [(18, .int (nI (mNow u + 1))), (19, .int (nI (cAf u (mNow u) (mTea u) (mRate u) - mRoom u))), (0, .ref b), (1, .ref h0), (2, .ref h1), (3, .int (nI tm)), (4, .int x0), (7, .int (nI n0)), (11, .int (nI aw0)), (12, .int up0), (14, .int sp0)]) hx hb dL_law_1010 hl (k := 10) rfl (nI_i1 _) (by decide) rfl (fun ls hl => ?_)
              refine lv_goto (tgt := 932) hx hb dL_law_1013 (by decide) ?_
              exact kk H _ ⟨iv_one hI h25, hO, is_one (by omega) hIS, hNM, hP, hR⟩ hS (Or.inr ⟨T9, eQ, by omega⟩) _ (lv_sub hl [2, 3, 4, 5, 6, 7, 8, 9, 10, 0] rfl)
            · skip
              replace c_993 : 0 ≠ 0 := neN c_993
              exact (by omega : False).elim
          · skip
            replace c_985 : (mNow u) = T9 := eN c_985
            exact (by omega : False).elim
      · skip
        replace c_968 : 0 < (cAf u (mNow u) (mTea u) (mRate u) - mRoom u) := nleN c_968
        refine lv_iconst (v := nI 1) hx hb dL_law_971 (by decide +kernel) ?_
        refine lv_goto (tgt := 976) hx hb dL_law_972 (by decide) ?_
        refine lv_iload hx hb dL_law_976 (lv_at hl 9 rfl) ?_
        rw [eQ]
        refine lv_if_lt (tgt := 992) hx hb dL_law_978 (by decide) (fun c_978 => ?_) (fun c_978 => ?_)
        · skip
          replace c_978 : T9 < 0 := ltN c_978
          exact (by omega : False).elim
        · skip
          replace c_978 : 0 ≤ T9 := nltN c_978
          refine lv_iload hx hb dL_law_981 (lv_at hl 10 rfl) ?_
          refine lv_iload hx hb dL_law_983 (lv_at hl 9 rfl) ?_
          rw [eQ]
          refine lv_icmp_ne (tgt := 992) hx hb dL_law_985 (by decide) (fun c_985 => ?_) (fun c_985 => ?_)
          · skip
            replace c_985 : (mNow u) ≠ T9 := neN c_985
            refine lv_iconst (v := nI 0) hx hb dL_law_992 (by decide +kernel) ?_
            refine lv_icmp_eq (tgt := 1010) hx hb dL_law_993 (by decide) (fun c_993 => ?_) (fun c_993 => ?_)
            · skip
              replace c_993 : 1 = 0 := eN c_993
              exact (by omega : False).elim
            · skip
              replace c_993 : 1 ≠ 0 := neN c_993
              refine lv_iload hx hb dL_law_996 (lv_at hl 9 rfl) ?_
              rw [eQ]
              refine lv_if_lt (tgt := 1008) hx hb dL_law_998 (by decide) (fun c_998 => ?_) (fun c_998 => ?_)
              · skip
                replace c_998 : T9 < 0 := ltN c_998
                exact (by omega : False).elim
              · skip
                replace c_998 : 0 ≤ T9 := nltN c_998
                refine lv_iload hx hb dL_law_1001 (lv_at hl 10 rfl) ?_
                refine lv_iload hx hb dL_law_1003 (lv_at hl 9 rfl) ?_
                rw [eQ]
                refine lv_icmp_gt (tgt := 1010) hx hb dL_law_1005 (by decide) (fun c_1005 => ?_) (fun c_1005 => ?_)
                · skip
                  replace c_1005 : T9 < (mNow u) := ltN c_1005
                  refine lv_iinc (v := nI (mNow u + 1)) (lv' := [(18, .int (nI (mNow u + 1))), (19, .int (nI (cAf u (mNow u) (mTea u) (mRate u) - mRoom u))), (0, .ref b), (1, .ref h0), (2, .ref h1), (3, .int (nI tm)), (4, .int x0), (7, .int (nI n0)), (11, .int (nI aw0)), (12, .int up0), (14, .int sp0)]) hx hb dL_law_1010 hl (k := 10) rfl (nI_i1 _) (by decide) rfl (fun ls hl => ?_)
                  refine lv_goto (tgt := 932) hx hb dL_law_1013 (by decide) ?_
                  exact kk H _ ⟨iv_one hI h25, hO, is_one (by omega) hIS, hNM, hP, hR⟩ hS (Or.inr ⟨T9, eQ, by omega⟩) _ (lv_sub hl [2, 3, 4, 5, 6, 7, 8, 9, 10, 0] rfl)
                · skip
                  replace c_1005 : (mNow u) ≤ T9 := nltN c_1005
                  exact (by omega : False).elim
          · skip
            replace c_985 : (mNow u) = T9 := eN c_985
            exact (by omega : False).elim
