set_option maxHeartbeats 8000000 in
set_option maxRecDepth 100000 in
theorem sg_495 {p : Program} {l : Launch} {e : Env} {s : State} {m : MethodId} {below : List Frame} {meth : Method} {c : Code} {D : va_G} {cI cR : ClassId} {b L h0 h1 : Nat} {a0 : Nat → Nat} {xs : Nat → Int32} {tm : Nat} {x0 : Int32} (hL : L ≤ 260) (C0 : lw_At p s m meth c b L xs) (hAO : AOI s) (hK : va_K D vwCl (tyR cI cR) s) {u : MS} {on : Nat → Int32} {a1 nr br : Nat → Nat} {H : Heap} {locs : List Loc} {C Sl : Nat} (hC : C + 100 ≤ 754895) (hSl : Sl + 1000 ≤ 6836784) (hT : TW D cI cR h0 a0 h1 u on a1 nr br H) (hD : va_D (LA s) (picT cI h0 a0 h1 a1 u u on)) (hS : va_S (LA s) s.heap H locs) {ls : Array Slot} (hl : lv_has ls 21 [(0, .ref b), (1, .ref h0), (2, .ref h1), (3, .int (nI tm)), (4, .int x0), (5, .long (fDig u)), (7, .int (nI (mNow u))), (11, .int (nI (ct (awB u) 360))), (12, .int (fBG u))]) (kk : ∀ (ls : Array Slot), lv_has ls 21 [(0, .ref b), (1, .ref h0), (2, .ref h1), (3, .int (nI tm)), (4, .int x0), (5, .long (fDig u)), (7, .int (nI (mNow u))), (11, .int (nI (ct (awB u) 360))), (12, .int (fBG u))] → W p l e room_1 s m #[Value.ref b] below meth c H locs C Sl (lw_Z below #[Value.ref b] s) (F0 m 653 ls [])) : W p l e room_1 s m #[Value.ref b] below meth c H locs C Sl (lw_Z below #[Value.ref b] s) (F0 m 495 ls []) := by
  obtain ⟨hx, hb, hr, hml, hown, hts0, hX, hbl, hlocks, hgv⟩ := id C0
  have hown : s.vm.findClass RL = some m.cls := hown
  have hts : ∀ w ∈ wsL_law, w.before #[Value.ref b] s = true := fun w h => hts0 w (wsL_law_in w h)
  have hin : ∀ w ∈ wsX10, w ∈ wsL_law := inlX1
  have hA : ∀ q : Nat, s.heap.size ≤ q → LA s q := fun _ h => h
  have hbA : ¬ LA s b := Nat.not_le.mpr hbl
  obtain ⟨hI, hO, hIS, hNM, hP, hR⟩ := id hT
  obtain ⟨hIa, hIb, hIc, hId, hIe, hIf, hIg, hIh, hIi, hIj⟩ := id hI
  have hXH : va_X b L xs s H := hX.kept (hS.2.1 b hbl hbA)
  refine lv_aload_n hx hb dL_law_495 rfl (lv_at hl 1 rfl) ?_
  refine vp_callSi (W.runV (As := []) (rest := []) ⟨hx, hb, hml, hown, hts⟩ (c_X0_bestBee l D cI h0 a0 u on hI) (cwV 0 hts gL_law_X0_bestBee rfl rfl rfl (by decide +kernel) ⟨Nat.le_of_ble_eq_true rfl, Nat.le_of_ble_eq_true rfl⟩) (pu_pre (hK.sub (tys' := [(cI, .int)]) [0] rfl) (hP.sub (ws' := pic0 cI h0 a0 u on) [0, 1, 2, 3, 4, 5, 6, 7] rfl) rfl rfl) rfl rfl hl.1 rfl (lv_room (Nat.le_of_ble_eq_true rfl)) dL_law_496 ⟨show C + 0 ≤ 754895 by omega, show Sl + 0 ≤ 6836784 by omega⟩) (fun r hr9 => ?_)
  subst hr9
  refine lv_istore (lv' := [(13, .int (fBB u)), (0, .ref b), (1, .ref h0), (2, .ref h1), (3, .int (nI tm)), (4, .int x0), (5, .long (fDig u)), (7, .int (nI (mNow u))), (11, .int (nI (ct (awB u) 360))), (12, .int (fBG u))]) hx hb dL_law_499 hl (by decide) rfl (fun ls hl => ?_)
  refine lv_iconst (v := nI 0) hx hb dL_law_501 (by decide +kernel) ?_
  refine lv_istore (lv' := [(14, .int (nI 0)), (13, .int (fBB u)), (0, .ref b), (1, .ref h0), (2, .ref h1), (3, .int (nI tm)), (4, .int x0), (5, .long (fDig u)), (7, .int (nI (mNow u))), (11, .int (nI (ct (awB u) 360))), (12, .int (fBG u))]) hx hb dL_law_502 hl (by decide) rfl (fun ls hl => ?_)
  have lp504 : ∀ (nA kA : Nat), kA + nA = mBc u → ∀ (ls : Array Slot), lv_has ls 21 [(0, .ref b), (1, .ref h0), (2, .ref h1), (3, .int (nI tm)), (4, .int x0), (5, .long (fDig u)), (7, .int (nI (mNow u))), (11, .int (nI (ct (awB u) 360))), (12, .int (fBG u)), (13, .int (fBB u)), (14, .int (nI kA))] → W p l e room_1 s m #[Value.ref b] below meth c H locs C Sl (lw_Z below #[Value.ref b] s) (F0 m 504 ls []) := by
    intro nA
    induction nA with
    | zero =>
      intro kA hkA ls hl
      refine lv_iload hx hb dL_law_504 (lv_at hl 10 rfl) ?_
      refine lv_aload_n hx hb dL_law_506 rfl (lv_at hl 1 rfl) ?_
      refine vp_callSi (W.runV (As := []) (rest := [.int (nI kA)]) ⟨hx, hb, hml, hown, hts⟩ (c_X0_bees l D cI h0 a0 u on ) (cwV 0 hts gL_law_X0_bees rfl rfl rfl (by decide +kernel) ⟨Nat.le_of_ble_eq_true rfl, Nat.le_of_ble_eq_true rfl⟩) (pu_pre (hK.sub (tys' := [(cI, .int)]) [0] rfl) (hP.sub (ws' := pic0 cI h0 a0 u on) [0, 1, 2, 3, 4, 5, 6, 7] rfl) rfl rfl) rfl rfl hl.1 rfl (lv_room (Nat.le_of_ble_eq_true rfl)) dL_law_507 ⟨show C + 0 ≤ 754895 by omega, show Sl + 0 ≤ 6836784 by omega⟩) (fun r hr9 => ?_)
      subst hr9
      refine lv_icmp_ge (tgt := 653) hx hb dL_law_510 (by decide) (fun c_510 => ?_) (fun c_510 => ?_)
      · skip
        replace c_510 : (mBc u) ≤ kA := leN c_510
        exact kk _ (lv_sub hl [0, 1, 2, 3, 4, 5, 6, 7, 8] rfl)
      · skip
        replace c_510 : kA < (mBc u) := nleN c_510
        exact (by omega : False).elim
    | succ nA ihA =>
      intro kA hkA ls hl
      obtain ⟨j7, ej7, hj7⟩ := bb_some hI (by omega)
      have hj7a := hj7.2.1
      have hj7b := hj7.2.2.1 kA (Nat.zero_le _) (by omega)
      have hen1 := EN_le hI (b := kA) (by omega)
      have hen2 := EN_le hI (b := j7) (by omega)
      refine lv_iload hx hb dL_law_504 (lv_at hl 10 rfl) ?_
      refine lv_aload_n hx hb dL_law_506 rfl (lv_at hl 1 rfl) ?_
      refine vp_callSi (W.runV (As := []) (rest := [.int (nI kA)]) ⟨hx, hb, hml, hown, hts⟩ (c_X0_bees l D cI h0 a0 u on ) (cwV 0 hts gL_law_X0_bees rfl rfl rfl (by decide +kernel) ⟨Nat.le_of_ble_eq_true rfl, Nat.le_of_ble_eq_true rfl⟩) (pu_pre (hK.sub (tys' := [(cI, .int)]) [0] rfl) (hP.sub (ws' := pic0 cI h0 a0 u on) [0, 1, 2, 3, 4, 5, 6, 7] rfl) rfl rfl) rfl rfl hl.1 rfl (lv_room (Nat.le_of_ble_eq_true rfl)) dL_law_507 ⟨show C + 0 ≤ 754895 by omega, show Sl + 0 ≤ 6836784 by omega⟩) (fun r hr9 => ?_)
      subst hr9
      refine lv_icmp_ge (tgt := 653) hx hb dL_law_510 (by decide) (fun c_510 => ?_) (fun c_510 => ?_)
      · skip
        replace c_510 : (mBc u) ≤ kA := leN c_510
        exact (by omega : False).elim
      · skip
        replace c_510 : kA < (mBc u) := nleN c_510
        refine lv_aload_n hx hb dL_law_513 rfl (lv_at hl 1 rfl) ?_
        refine lv_iload hx hb dL_law_514 (lv_at hl 10 rfl) ?_
        refine vp_callSi (W.runV (As := [.int (nI kA)]) (rest := []) ⟨hx, hb, hml, hown, hts⟩ (c_X0_nextTick l D cI h0 a0 u on kA hI (by omega)) (cwV 1 hts gL_law_X0_nextTick rfl rfl rfl (by decide +kernel) ⟨Nat.le_of_ble_eq_true rfl, Nat.le_of_ble_eq_true rfl⟩) (pu_pre (hK.sub (tys' := [(cI, .int)]) [0] rfl) (hP.sub (ws' := pic0 cI h0 a0 u on) [0, 1, 2, 3, 4, 5, 6, 7] rfl) rfl rfl) rfl rfl hl.1 rfl (lv_room (Nat.le_of_ble_eq_true rfl)) dL_law_516 ⟨show C + 0 ≤ 754895 by omega, show Sl + 0 ≤ 6836784 by omega⟩) (fun r hr9 => ?_)
        subst hr9
        rcases (show fNx u kA = -1 ∨ ∃ f, fNx u kA = nI f ∧ mNow u ≤ f ∧ f < mNow u + (360 - mNow u) ∧ tkB u kA f = true from fd_cases _ _) with eN9 | ⟨T9, eN9, hT1, hT2, hT3⟩
        · rw [eN9]
          refine lv_istore (lv' := [(15, .int (-1)), (0, .ref b), (1, .ref h0), (2, .ref h1), (3, .int (nI tm)), (4, .int x0), (5, .long (fDig u)), (7, .int (nI (mNow u))), (11, .int (nI (ct (awB u) 360))), (12, .int (fBG u)), (13, .int (fBB u)), (14, .int (nI kA))]) hx hb dL_law_519 hl (by decide) rfl (fun ls hl => ?_)
          refine lv_aload_n hx hb dL_law_521 rfl (lv_at hl 3 rfl) ?_
          refine va_get (D := D) (ci := 1) (v := .ref (a1 2)) (C := RX1) (T := TX1) (N := 10) hx hb hts hin hown hK hP 8 rfl rfl 2 (by decide) (hts (.fieldLink RL 53 "AfternoonMeterLaw$Sim" "bees" "[[I") (List.mem_of_getElem? (i := 7) rfl)) (fun _ h9 => h9) rfl dL_law_522 ?_
          refine lv_iload hx hb dL_law_525 (lv_at hl 11 rfl) ?_
          refine q_aald (cA := cR) (n := mBc u) (f := br) (ty := .int) hx hb hK 1 hR.2.2.1 rfl (k := kA) (by omega) (by omega) dL_law_527 ?_
          refine lv_iconst (v := nI 0) hx hb dL_law_528 (by decide +kernel) ?_
          refine q_ialdH (cA := cI) (n := 2) (f := pr (mPe u kA) (mBe u kA)) (v := nI (pN u kA)) hx hb hK 0 (hR.2.2.2.2 kA (by omega)) rfl (k := 0) (by decide) (by decide) ((hIf kA (by omega)).1) dL_law_529 ?_
          obtain ⟨_, _, _, _, _⟩ := hIf kA (by omega)
          refine lv_istore (lv' := [(16, .int (nI (pN u kA))), (15, .int (-1)), (0, .ref b), (1, .ref h0), (2, .ref h1), (3, .int (nI tm)), (4, .int x0), (5, .long (fDig u)), (7, .int (nI (mNow u))), (11, .int (nI (ct (awB u) 360))), (12, .int (fBG u)), (13, .int (fBB u)), (14, .int (nI kA))]) hx hb dL_law_530 hl (by decide) rfl (fun ls hl => ?_)
          refine lv_aload_n hx hb dL_law_532 rfl (lv_at hl 3 rfl) ?_
          refine lv_iload hx hb dL_law_533 (lv_at hl 12 rfl) ?_
          refine vp_callSi (W.runV (As := [.int (nI kA)]) (rest := []) ⟨hx, hb, hml, hown, hts⟩ (c_X0_measuredBy l D cI h0 a0 u on kA hI (by omega)) (cwV 1 hts gL_law_X0_measuredBy rfl rfl rfl (by decide +kernel) ⟨Nat.le_of_ble_eq_true rfl, Nat.le_of_ble_eq_true rfl⟩) (pu_pre (hK.sub (tys' := [(cI, .int)]) [0] rfl) (hP.sub (ws' := pic0 cI h0 a0 u on) [0, 1, 2, 3, 4, 5, 6, 7] rfl) rfl rfl) rfl rfl hl.1 rfl (lv_room (Nat.le_of_ble_eq_true rfl)) dL_law_535 ⟨show C + 0 ≤ 754895 by omega, show Sl + 0 ≤ 6836784 by omega⟩) (fun r hr9 => ?_)
          subst hr9
          rw [fMe_eq u kA]
          have htp := tp_le hI (b := kA) (by omega)
          refine lv_aload_n hx hb dL_law_538 rfl (lv_at hl 3 rfl) ?_
          refine lv_iload hx hb dL_law_539 (lv_at hl 12 rfl) ?_
          refine vp_callSi (W.runV (As := [.int (nI kA)]) (rest := [.int (nI (TK u kA * pN u kA))]) ⟨hx, hb, hml, hown, hts⟩ (c_X0_ticksOf l D cI h0 a0 u on kA hI (by omega)) (cwV 1 hts gL_law_X0_ticksOf rfl rfl rfl (by decide +kernel) ⟨Nat.le_of_ble_eq_true rfl, Nat.le_of_ble_eq_true rfl⟩) (pu_pre (hK.sub (tys' := [(cI, .int)]) [0] rfl) (hP.sub (ws' := pic0 cI h0 a0 u on) [0, 1, 2, 3, 4, 5, 6, 7] rfl) rfl rfl) rfl rfl hl.1 rfl (lv_room (Nat.le_of_ble_eq_true rfl)) dL_law_541 ⟨show C + 0 ≤ 754895 by omega, show Sl + 0 ≤ 6836784 by omega⟩) (fun r hr9 => ?_)
          subst hr9
          rw [fTk_eq u kA]
          have htk := TK_le u kA
          refine lv_iload hx hb dL_law_544 (lv_at hl 0 rfl) ?_
          refine q_imulN hx hb dL_law_546 ?_
          refine lv_icmp_ne (tgt := 645) hx hb dL_law_547 (by decide) (fun c_547 => ?_) (fun c_547 => ?_)
          · skip
            replace c_547 : (TK u kA * pN u kA) ≠ ((TK u kA) * (pN u kA)) := neN c_547
            exact (by omega : False).elim
          · skip
            replace c_547 : (TK u kA * pN u kA) = ((TK u kA) * (pN u kA)) := eN c_547
            refine lv_aload_n hx hb dL_law_550 rfl (lv_at hl 3 rfl) ?_
            refine lv_iload hx hb dL_law_551 (lv_at hl 12 rfl) ?_
            refine vp_callSi (W.runV (As := [.int (nI kA)]) (rest := []) ⟨hx, hb, hml, hown, hts⟩ (c_X0_errorOf l D cI h0 a0 u on kA hI (by omega)) (cwV 1 hts gL_law_X0_errorOf rfl rfl rfl (by decide +kernel) ⟨Nat.le_of_ble_eq_true rfl, Nat.le_of_ble_eq_true rfl⟩) (pu_pre (hK.sub (tys' := [(cI, .int)]) [0] rfl) (hP.sub (ws' := pic0 cI h0 a0 u on) [0, 1, 2, 3, 4, 5, 6, 7] rfl) rfl rfl) rfl rfl hl.1 rfl (lv_room (Nat.le_of_ble_eq_true rfl)) dL_law_553 ⟨show C + 0 ≤ 754895 by omega, show Sl + 0 ≤ 6836784 by omega⟩) (fun r hr9 => ?_)
            subst hr9
            rw [fEr_eq u kA]
            refine lv_aload_n hx hb dL_law_556 rfl (lv_at hl 3 rfl) ?_
            refine lv_iload hx hb dL_law_557 (lv_at hl 12 rfl) ?_
            refine vp_callSi (W.runV (As := [.int (nI kA)]) (rest := [.int (nI (TK u kA * pN u kA) - nI (AW u))]) ⟨hx, hb, hml, hown, hts⟩ (c_X0_measuredBy l D cI h0 a0 u on kA hI (by omega)) (cwV 1 hts gL_law_X0_measuredBy rfl rfl rfl (by decide +kernel) ⟨Nat.le_of_ble_eq_true rfl, Nat.le_of_ble_eq_true rfl⟩) (pu_pre (hK.sub (tys' := [(cI, .int)]) [0] rfl) (hP.sub (ws' := pic0 cI h0 a0 u on) [0, 1, 2, 3, 4, 5, 6, 7] rfl) rfl rfl) rfl rfl hl.1 rfl (lv_room (Nat.le_of_ble_eq_true rfl)) dL_law_559 ⟨show C + 0 ≤ 754895 by omega, show Sl + 0 ≤ 6836784 by omega⟩) (fun r hr9 => ?_)
            subst hr9
            rw [fMe_eq u kA]
            have htp := tp_le hI (b := kA) (by omega)
            refine lv_aload_n hx hb dL_law_562 rfl (lv_at hl 3 rfl) ?_
            refine vp_callSi (W.runV (As := []) (rest := [.int (nI (TK u kA * pN u kA)), .int (nI (TK u kA * pN u kA) - nI (AW u))]) ⟨hx, hb, hml, hown, hts⟩ (c_X0_awakeMinutes l D cI h0 a0 u on hI) (cwV 0 hts gL_law_X0_awakeMinutes rfl rfl rfl (by decide +kernel) ⟨Nat.le_of_ble_eq_true rfl, Nat.le_of_ble_eq_true rfl⟩) (pu_pre (hK.sub (tys' := [(cI, .int)]) [0] rfl) (hP.sub (ws' := pic0 cI h0 a0 u on) [0, 1, 2, 3, 4, 5, 6, 7] rfl) rfl rfl) rfl rfl hl.1 rfl (lv_room (Nat.le_of_ble_eq_true rfl)) dL_law_563 ⟨show C + 0 ≤ 754895 by omega, show Sl + 0 ≤ 6836784 by omega⟩) (fun r hr9 => ?_)
            subst hr9
            rw [fAw_eq u]
            have haw := AW_le u
            refine lv_isub hx hb dL_law_566 ?_
            refine lv_icmp_ne (tgt := 645) hx hb dL_law_567 (by decide) (fun c_567 => ?_) (fun c_567 => ?_)
            · skip
              exact (c_567 rfl).elim
            · skip
              refine lv_aload_n hx hb dL_law_570 rfl (lv_at hl 3 rfl) ?_
              refine lv_iload hx hb dL_law_571 (lv_at hl 11 rfl) ?_
              rw [ej7]
              refine vp_callSi (W.runV (As := [.int (nI j7)]) (rest := []) ⟨hx, hb, hml, hown, hts⟩ (c_X0_errorOf l D cI h0 a0 u on j7 hI (by omega)) (cwV 1 hts gL_law_X0_errorOf rfl rfl rfl (by decide +kernel) ⟨Nat.le_of_ble_eq_true rfl, Nat.le_of_ble_eq_true rfl⟩) (pu_pre (hK.sub (tys' := [(cI, .int)]) [0] rfl) (hP.sub (ws' := pic0 cI h0 a0 u on) [0, 1, 2, 3, 4, 5, 6, 7] rfl) rfl rfl) rfl rfl hl.1 rfl (lv_room (Nat.le_of_ble_eq_true rfl)) dL_law_573 ⟨show C + 0 ≤ 754895 by omega, show Sl + 0 ≤ 6836784 by omega⟩) (fun r hr9 => ?_)
              subst hr9
              rw [fEr_eq u j7]
              refine va_mabs hx hb (hml.trans hl.1.symm) hown (hts (.methodLink RL 174 Lib.Math.abs.name) (List.mem_of_getElem? (i := 8) rfl)) (hts (.static Lib.Math.abs.name) (List.mem_of_getElem? (i := 9) rfl)) (hts (.initialized "java/lang/Math") (List.mem_of_getElem? (i := 5) rfl)) (hts _ (List.mem_of_getElem? (i := 10) rfl)) (by first | exact Nat.le_of_ble_eq_true rfl | (show C ≤ 754895; omega) | (show Sl ≤ 6836784; omega)) (by first | exact Nat.le_of_ble_eq_true rfl | (show C ≤ 754895; omega) | (show Sl ≤ 6836784; omega)) (by first | exact Nat.le_of_ble_eq_true rfl | (show C ≤ 754895; omega) | (show Sl ≤ 6836784; omega)) (by first | exact Nat.le_of_ble_eq_true rfl | (show C ≤ 754895; omega) | (show Sl ≤ 6836784; omega)) dL_law_576 ?_
              rw [show (if 0 ≤ nI (TK u j7 * pN u j7) - nI (AW u) then nI (TK u j7 * pN u j7) - nI (AW u) else 0 - (nI (TK u j7 * pN u j7) - nI (AW u))) = nI (EN u j7) from by rw [← fEr_eq]; exact fEr_ab hI (by omega)]
              refine lv_aload_n hx hb dL_law_579 rfl (lv_at hl 3 rfl) ?_
              refine lv_iload hx hb dL_law_580 (lv_at hl 12 rfl) ?_
              refine vp_callSi (W.runV (As := [.int (nI kA)]) (rest := [.int (nI (EN u j7))]) ⟨hx, hb, hml, hown, hts⟩ (c_X0_errorOf l D cI h0 a0 u on kA hI (by omega)) (cwV 1 hts gL_law_X0_errorOf rfl rfl rfl (by decide +kernel) ⟨Nat.le_of_ble_eq_true rfl, Nat.le_of_ble_eq_true rfl⟩) (pu_pre (hK.sub (tys' := [(cI, .int)]) [0] rfl) (hP.sub (ws' := pic0 cI h0 a0 u on) [0, 1, 2, 3, 4, 5, 6, 7] rfl) rfl rfl) rfl rfl hl.1 rfl (lv_room (Nat.le_of_ble_eq_true rfl)) dL_law_582 ⟨show C + 0 ≤ 754895 by omega, show Sl + 0 ≤ 6836784 by omega⟩) (fun r hr9 => ?_)
              subst hr9
              rw [fEr_eq u kA]
              refine va_mabs hx hb (hml.trans hl.1.symm) hown (hts (.methodLink RL 174 Lib.Math.abs.name) (List.mem_of_getElem? (i := 8) rfl)) (hts (.static Lib.Math.abs.name) (List.mem_of_getElem? (i := 9) rfl)) (hts (.initialized "java/lang/Math") (List.mem_of_getElem? (i := 5) rfl)) (hts _ (List.mem_of_getElem? (i := 10) rfl)) (by first | exact Nat.le_of_ble_eq_true rfl | (show C ≤ 754895; omega) | (show Sl ≤ 6836784; omega)) (by first | exact Nat.le_of_ble_eq_true rfl | (show C ≤ 754895; omega) | (show Sl ≤ 6836784; omega)) (by first | exact Nat.le_of_ble_eq_true rfl | (show C ≤ 754895; omega) | (show Sl ≤ 6836784; omega)) (by first | exact Nat.le_of_ble_eq_true rfl | (show C ≤ 754895; omega) | (show Sl ≤ 6836784; omega)) dL_law_585 ?_
              rw [show (if 0 ≤ nI (TK u kA * pN u kA) - nI (AW u) then nI (TK u kA * pN u kA) - nI (AW u) else 0 - (nI (TK u kA * pN u kA) - nI (AW u))) = nI (EN u kA) from by rw [← fEr_eq]; exact fEr_ab hI (by omega)]
              refine lv_icmp_gt (tgt := 645) hx hb dL_law_588 (by decide) (fun c_588 => ?_) (fun c_588 => ?_)
              · skip
                replace c_588 : (EN u kA) < (EN u j7) := ltN c_588
                exact (by omega : False).elim
              · skip
                replace c_588 : (EN u j7) ≤ (EN u kA) := nltN c_588
                refine lv_iload hx hb dL_law_591 (lv_at hl 1 rfl) ?_
                refine lv_if_lt (tgt := 629) hx hb dL_law_593 (by decide) (fun c_593 => ?_) (fun c_593 => ?_)
                · skip
                  refine lv_aload_n hx hb dL_law_629 rfl (lv_at hl 3 rfl) ?_
                  refine lv_iload hx hb dL_law_630 (lv_at hl 12 rfl) ?_
                  refine vp_callSi (W.runV (As := [.int (nI kA)]) (rest := []) ⟨hx, hb, hml, hown, hts⟩ (c_X0_ticksOf l D cI h0 a0 u on kA hI (by omega)) (cwV 1 hts gL_law_X0_ticksOf rfl rfl rfl (by decide +kernel) ⟨Nat.le_of_ble_eq_true rfl, Nat.le_of_ble_eq_true rfl⟩) (pu_pre (hK.sub (tys' := [(cI, .int)]) [0] rfl) (hP.sub (ws' := pic0 cI h0 a0 u on) [0, 1, 2, 3, 4, 5, 6, 7] rfl) rfl rfl) rfl rfl hl.1 rfl (lv_room (Nat.le_of_ble_eq_true rfl)) dL_law_632 ⟨show C + 0 ≤ 754895 by omega, show Sl + 0 ≤ 6836784 by omega⟩) (fun r hr9 => ?_)
                  subst hr9
                  rw [fTk_eq u kA]
                  have htk := TK_le u kA
                  refine lv_iload hx hb dL_law_635 (lv_at hl 8 rfl) ?_
                  refine lv_iload hx hb dL_law_637 (lv_at hl 0 rfl) ?_
                  have hdv := Nat.div_le_self (mNow u) (pN u kA)
                  have hfew := TK_few (u := u) (b := kA) (by omega)
                  refine q_idivN hx hb (by omega) (by omega) (by omega) dL_law_639 ?_
                  refine lv_iconst (v := nI 1) hx hb dL_law_640 (by decide +kernel) ?_
                  refine q_iaddN hx hb dL_law_641 ?_
                  refine lv_icmp_le (tgt := 647) hx hb dL_law_642 (by decide) (fun c_642 => ?_) (fun c_642 => ?_)
                  · skip
                    replace c_642 : (TK u kA) ≤ (((mNow u) / (pN u kA)) + 1) := leN c_642
                    refine lv_iinc (v := nI (kA + 1)) (lv' := [(14, .int (nI (kA + 1))), (16, .int (nI (pN u kA))), (15, .int (-1)), (0, .ref b), (1, .ref h0), (2, .ref h1), (3, .int (nI tm)), (4, .int x0), (5, .long (fDig u)), (7, .int (nI (mNow u))), (11, .int (nI (ct (awB u) 360))), (12, .int (fBG u)), (13, .int (fBB u))]) hx hb dL_law_647 hl (k := 12) rfl (nI_i1 _) (by decide) rfl (fun ls hl => ?_)
                    refine lv_goto (tgt := 504) hx hb dL_law_650 (by decide) ?_
                    exact ihA (kA + 1) (by omega) _ (lv_sub hl [3, 4, 5, 6, 7, 8, 9, 10, 11, 12, 0] rfl)
                  · skip
                    replace c_642 : (((mNow u) / (pN u kA)) + 1) < (TK u kA) := nleN c_642
                    exact (by omega : False).elim
                · skip
                  exact (c_593 (by decide +kernel)).elim
        · rw [eN9]
          obtain ⟨hT4, hT5⟩ := of_decide_eq_true hT3
          refine lv_istore (lv' := [(15, .int (nI T9)), (0, .ref b), (1, .ref h0), (2, .ref h1), (3, .int (nI tm)), (4, .int x0), (5, .long (fDig u)), (7, .int (nI (mNow u))), (11, .int (nI (ct (awB u) 360))), (12, .int (fBG u)), (13, .int (fBB u)), (14, .int (nI kA))]) hx hb dL_law_519 hl (by decide) rfl (fun ls hl => ?_)
          refine lv_aload_n hx hb dL_law_521 rfl (lv_at hl 3 rfl) ?_
          refine va_get (D := D) (ci := 1) (v := .ref (a1 2)) (C := RX1) (T := TX1) (N := 10) hx hb hts hin hown hK hP 8 rfl rfl 2 (by decide) (hts (.fieldLink RL 53 "AfternoonMeterLaw$Sim" "bees" "[[I") (List.mem_of_getElem? (i := 7) rfl)) (fun _ h9 => h9) rfl dL_law_522 ?_
          refine lv_iload hx hb dL_law_525 (lv_at hl 11 rfl) ?_
          refine q_aald (cA := cR) (n := mBc u) (f := br) (ty := .int) hx hb hK 1 hR.2.2.1 rfl (k := kA) (by omega) (by omega) dL_law_527 ?_
          refine lv_iconst (v := nI 0) hx hb dL_law_528 (by decide +kernel) ?_
          refine q_ialdH (cA := cI) (n := 2) (f := pr (mPe u kA) (mBe u kA)) (v := nI (pN u kA)) hx hb hK 0 (hR.2.2.2.2 kA (by omega)) rfl (k := 0) (by decide) (by decide) ((hIf kA (by omega)).1) dL_law_529 ?_
          obtain ⟨_, _, _, _, _⟩ := hIf kA (by omega)
          refine lv_istore (lv' := [(16, .int (nI (pN u kA))), (15, .int (nI T9)), (0, .ref b), (1, .ref h0), (2, .ref h1), (3, .int (nI tm)), (4, .int x0), (5, .long (fDig u)), (7, .int (nI (mNow u))), (11, .int (nI (ct (awB u) 360))), (12, .int (fBG u)), (13, .int (fBB u)), (14, .int (nI kA))]) hx hb dL_law_530 hl (by decide) rfl (fun ls hl => ?_)
          refine lv_aload_n hx hb dL_law_532 rfl (lv_at hl 3 rfl) ?_
          refine lv_iload hx hb dL_law_533 (lv_at hl 12 rfl) ?_
          refine vp_callSi (W.runV (As := [.int (nI kA)]) (rest := []) ⟨hx, hb, hml, hown, hts⟩ (c_X0_measuredBy l D cI h0 a0 u on kA hI (by omega)) (cwV 1 hts gL_law_X0_measuredBy rfl rfl rfl (by decide +kernel) ⟨Nat.le_of_ble_eq_true rfl, Nat.le_of_ble_eq_true rfl⟩) (pu_pre (hK.sub (tys' := [(cI, .int)]) [0] rfl) (hP.sub (ws' := pic0 cI h0 a0 u on) [0, 1, 2, 3, 4, 5, 6, 7] rfl) rfl rfl) rfl rfl hl.1 rfl (lv_room (Nat.le_of_ble_eq_true rfl)) dL_law_535 ⟨show C + 0 ≤ 754895 by omega, show Sl + 0 ≤ 6836784 by omega⟩) (fun r hr9 => ?_)
          subst hr9
          rw [fMe_eq u kA]
          have htp := tp_le hI (b := kA) (by omega)
          refine lv_aload_n hx hb dL_law_538 rfl (lv_at hl 3 rfl) ?_
          refine lv_iload hx hb dL_law_539 (lv_at hl 12 rfl) ?_
          refine vp_callSi (W.runV (As := [.int (nI kA)]) (rest := [.int (nI (TK u kA * pN u kA))]) ⟨hx, hb, hml, hown, hts⟩ (c_X0_ticksOf l D cI h0 a0 u on kA hI (by omega)) (cwV 1 hts gL_law_X0_ticksOf rfl rfl rfl (by decide +kernel) ⟨Nat.le_of_ble_eq_true rfl, Nat.le_of_ble_eq_true rfl⟩) (pu_pre (hK.sub (tys' := [(cI, .int)]) [0] rfl) (hP.sub (ws' := pic0 cI h0 a0 u on) [0, 1, 2, 3, 4, 5, 6, 7] rfl) rfl rfl) rfl rfl hl.1 rfl (lv_room (Nat.le_of_ble_eq_true rfl)) dL_law_541 ⟨show C + 0 ≤ 754895 by omega, show Sl + 0 ≤ 6836784 by omega⟩) (fun r hr9 => ?_)
          subst hr9
          rw [fTk_eq u kA]
          have htk := TK_le u kA
          refine lv_iload hx hb dL_law_544 (lv_at hl 0 rfl) ?_
          refine q_imulN hx hb dL_law_546 ?_
          refine lv_icmp_ne (tgt := 645) hx hb dL_law_547 (by decide) (fun c_547 => ?_) (fun c_547 => ?_)
          · skip
            replace c_547 : (TK u kA * pN u kA) ≠ ((TK u kA) * (pN u kA)) := neN c_547
            exact (by omega : False).elim
          · skip
            replace c_547 : (TK u kA * pN u kA) = ((TK u kA) * (pN u kA)) := eN c_547
            refine lv_aload_n hx hb dL_law_550 rfl (lv_at hl 3 rfl) ?_
            refine lv_iload hx hb dL_law_551 (lv_at hl 12 rfl) ?_
            refine vp_callSi (W.runV (As := [.int (nI kA)]) (rest := []) ⟨hx, hb, hml, hown, hts⟩ (c_X0_errorOf l D cI h0 a0 u on kA hI (by omega)) (cwV 1 hts gL_law_X0_errorOf rfl rfl rfl (by decide +kernel) ⟨Nat.le_of_ble_eq_true rfl, Nat.le_of_ble_eq_true rfl⟩) (pu_pre (hK.sub (tys' := [(cI, .int)]) [0] rfl) (hP.sub (ws' := pic0 cI h0 a0 u on) [0, 1, 2, 3, 4, 5, 6, 7] rfl) rfl rfl) rfl rfl hl.1 rfl (lv_room (Nat.le_of_ble_eq_true rfl)) dL_law_553 ⟨show C + 0 ≤ 754895 by omega, show Sl + 0 ≤ 6836784 by omega⟩) (fun r hr9 => ?_)
            subst hr9
            rw [fEr_eq u kA]
            refine lv_aload_n hx hb dL_law_556 rfl (lv_at hl 3 rfl) ?_
            refine lv_iload hx hb dL_law_557 (lv_at hl 12 rfl) ?_
            refine vp_callSi (W.runV (As := [.int (nI kA)]) (rest := [.int (nI (TK u kA * pN u kA) - nI (AW u))]) ⟨hx, hb, hml, hown, hts⟩ (c_X0_measuredBy l D cI h0 a0 u on kA hI (by omega)) (cwV 1 hts gL_law_X0_measuredBy rfl rfl rfl (by decide +kernel) ⟨Nat.le_of_ble_eq_true rfl, Nat.le_of_ble_eq_true rfl⟩) (pu_pre (hK.sub (tys' := [(cI, .int)]) [0] rfl) (hP.sub (ws' := pic0 cI h0 a0 u on) [0, 1, 2, 3, 4, 5, 6, 7] rfl) rfl rfl) rfl rfl hl.1 rfl (lv_room (Nat.le_of_ble_eq_true rfl)) dL_law_559 ⟨show C + 0 ≤ 754895 by omega, show Sl + 0 ≤ 6836784 by omega⟩) (fun r hr9 => ?_)
            subst hr9
            rw [fMe_eq u kA]
            have htp := tp_le hI (b := kA) (by omega)
            refine lv_aload_n hx hb dL_law_562 rfl (lv_at hl 3 rfl) ?_
            refine vp_callSi (W.runV (As := []) (rest := [.int (nI (TK u kA * pN u kA)), .int (nI (TK u kA * pN u kA) - nI (AW u))]) ⟨hx, hb, hml, hown, hts⟩ (c_X0_awakeMinutes l D cI h0 a0 u on hI) (cwV 0 hts gL_law_X0_awakeMinutes rfl rfl rfl (by decide +kernel) ⟨Nat.le_of_ble_eq_true rfl, Nat.le_of_ble_eq_true rfl⟩) (pu_pre (hK.sub (tys' := [(cI, .int)]) [0] rfl) (hP.sub (ws' := pic0 cI h0 a0 u on) [0, 1, 2, 3, 4, 5, 6, 7] rfl) rfl rfl) rfl rfl hl.1 rfl (lv_room (Nat.le_of_ble_eq_true rfl)) dL_law_563 ⟨show C + 0 ≤ 754895 by omega, show Sl + 0 ≤ 6836784 by omega⟩) (fun r hr9 => ?_)
            subst hr9
            rw [fAw_eq u]
            have haw := AW_le u
            refine lv_isub hx hb dL_law_566 ?_
            refine lv_icmp_ne (tgt := 645) hx hb dL_law_567 (by decide) (fun c_567 => ?_) (fun c_567 => ?_)
            · skip
              exact (c_567 rfl).elim
            · skip
              refine lv_aload_n hx hb dL_law_570 rfl (lv_at hl 3 rfl) ?_
              refine lv_iload hx hb dL_law_571 (lv_at hl 11 rfl) ?_
              rw [ej7]
              refine vp_callSi (W.runV (As := [.int (nI j7)]) (rest := []) ⟨hx, hb, hml, hown, hts⟩ (c_X0_errorOf l D cI h0 a0 u on j7 hI (by omega)) (cwV 1 hts gL_law_X0_errorOf rfl rfl rfl (by decide +kernel) ⟨Nat.le_of_ble_eq_true rfl, Nat.le_of_ble_eq_true rfl⟩) (pu_pre (hK.sub (tys' := [(cI, .int)]) [0] rfl) (hP.sub (ws' := pic0 cI h0 a0 u on) [0, 1, 2, 3, 4, 5, 6, 7] rfl) rfl rfl) rfl rfl hl.1 rfl (lv_room (Nat.le_of_ble_eq_true rfl)) dL_law_573 ⟨show C + 0 ≤ 754895 by omega, show Sl + 0 ≤ 6836784 by omega⟩) (fun r hr9 => ?_)
              subst hr9
              rw [fEr_eq u j7]
              refine va_mabs hx hb (hml.trans hl.1.symm) hown (hts (.methodLink RL 174 Lib.Math.abs.name) (List.mem_of_getElem? (i := 8) rfl)) (hts (.static Lib.Math.abs.name) (List.mem_of_getElem? (i := 9) rfl)) (hts (.initialized "java/lang/Math") (List.mem_of_getElem? (i := 5) rfl)) (hts _ (List.mem_of_getElem? (i := 10) rfl)) (by first | exact Nat.le_of_ble_eq_true rfl | (show C ≤ 754895; omega) | (show Sl ≤ 6836784; omega)) (by first | exact Nat.le_of_ble_eq_true rfl | (show C ≤ 754895; omega) | (show Sl ≤ 6836784; omega)) (by first | exact Nat.le_of_ble_eq_true rfl | (show C ≤ 754895; omega) | (show Sl ≤ 6836784; omega)) (by first | exact Nat.le_of_ble_eq_true rfl | (show C ≤ 754895; omega) | (show Sl ≤ 6836784; omega)) dL_law_576 ?_
              rw [show (if 0 ≤ nI (TK u j7 * pN u j7) - nI (AW u) then nI (TK u j7 * pN u j7) - nI (AW u) else 0 - (nI (TK u j7 * pN u j7) - nI (AW u))) = nI (EN u j7) from by rw [← fEr_eq]; exact fEr_ab hI (by omega)]
              refine lv_aload_n hx hb dL_law_579 rfl (lv_at hl 3 rfl) ?_
              refine lv_iload hx hb dL_law_580 (lv_at hl 12 rfl) ?_
              refine vp_callSi (W.runV (As := [.int (nI kA)]) (rest := [.int (nI (EN u j7))]) ⟨hx, hb, hml, hown, hts⟩ (c_X0_errorOf l D cI h0 a0 u on kA hI (by omega)) (cwV 1 hts gL_law_X0_errorOf rfl rfl rfl (by decide +kernel) ⟨Nat.le_of_ble_eq_true rfl, Nat.le_of_ble_eq_true rfl⟩) (pu_pre (hK.sub (tys' := [(cI, .int)]) [0] rfl) (hP.sub (ws' := pic0 cI h0 a0 u on) [0, 1, 2, 3, 4, 5, 6, 7] rfl) rfl rfl) rfl rfl hl.1 rfl (lv_room (Nat.le_of_ble_eq_true rfl)) dL_law_582 ⟨show C + 0 ≤ 754895 by omega, show Sl + 0 ≤ 6836784 by omega⟩) (fun r hr9 => ?_)
              subst hr9
              rw [fEr_eq u kA]
              refine va_mabs hx hb (hml.trans hl.1.symm) hown (hts (.methodLink RL 174 Lib.Math.abs.name) (List.mem_of_getElem? (i := 8) rfl)) (hts (.static Lib.Math.abs.name) (List.mem_of_getElem? (i := 9) rfl)) (hts (.initialized "java/lang/Math") (List.mem_of_getElem? (i := 5) rfl)) (hts _ (List.mem_of_getElem? (i := 10) rfl)) (by first | exact Nat.le_of_ble_eq_true rfl | (show C ≤ 754895; omega) | (show Sl ≤ 6836784; omega)) (by first | exact Nat.le_of_ble_eq_true rfl | (show C ≤ 754895; omega) | (show Sl ≤ 6836784; omega)) (by first | exact Nat.le_of_ble_eq_true rfl | (show C ≤ 754895; omega) | (show Sl ≤ 6836784; omega)) (by first | exact Nat.le_of_ble_eq_true rfl | (show C ≤ 754895; omega) | (show Sl ≤ 6836784; omega)) dL_law_585 ?_
              rw [show (if 0 ≤ nI (TK u kA * pN u kA) - nI (AW u) then nI (TK u kA * pN u kA) - nI (AW u) else 0 - (nI (TK u kA * pN u kA) - nI (AW u))) = nI (EN u kA) from by rw [← fEr_eq]; exact fEr_ab hI (by omega)]
              refine lv_icmp_gt (tgt := 645) hx hb dL_law_588 (by decide) (fun c_588 => ?_) (fun c_588 => ?_)
              · skip
                replace c_588 : (EN u kA) < (EN u j7) := ltN c_588
                exact (by omega : False).elim
              · skip
                replace c_588 : (EN u j7) ≤ (EN u kA) := nltN c_588
                refine lv_iload hx hb dL_law_591 (lv_at hl 1 rfl) ?_
                refine lv_if_lt (tgt := 629) hx hb dL_law_593 (by decide) (fun c_593 => ?_) (fun c_593 => ?_)
                · skip
                  replace c_593 : T9 < 0 := ltN c_593
                  exact (by omega : False).elim
                · skip
                  replace c_593 : 0 ≤ T9 := nltN c_593
                  refine lv_iload hx hb dL_law_596 (lv_at hl 1 rfl) ?_
                  refine lv_iload hx hb dL_law_598 (lv_at hl 8 rfl) ?_
                  refine lv_icmp_lt (tgt := 645) hx hb dL_law_600 (by decide) (fun c_600 => ?_) (fun c_600 => ?_)
                  · skip
                    replace c_600 : T9 < (mNow u) := ltN c_600
                    exact (by omega : False).elim
                  · skip
                    replace c_600 : (mNow u) ≤ T9 := nltN c_600
                    refine lv_aload_n hx hb dL_law_603 rfl (lv_at hl 3 rfl) ?_
                    refine lv_iload hx hb dL_law_604 (lv_at hl 1 rfl) ?_
                    refine vp_callSi (W.runV (As := [.int (nI T9)]) (rest := []) ⟨hx, hb, hml, hown, hts⟩ (c_X0_isAsleep l D cI h0 a0 u on T9 hI (by omega)) (cwV 1 hts gL_law_X0_isAsleep rfl rfl rfl (by decide +kernel) ⟨Nat.le_of_ble_eq_true rfl, Nat.le_of_ble_eq_true rfl⟩) (pu_pre (hK.sub (tys' := [(cI, .int)]) [0] rfl) (hP.sub (ws' := pic0 cI h0 a0 u on) [0, 1, 2, 3, 4, 5, 6, 7] rfl) rfl rfl) rfl rfl hl.1 rfl (lv_room (Nat.le_of_ble_eq_true rfl)) dL_law_606 ⟨show C + 0 ≤ 754895 by omega, show Sl + 0 ≤ 6836784 by omega⟩) (fun r hr9 => ?_)
                    subst hr9
                    refine lv_if_ne (tgt := 645) hx hb dL_law_609 (by decide) (fun c_609 => ?_) (fun c_609 => ?_)
                    · skip
                      replace c_609 : (decide (0 < cN u T9)) = true := bI_ne0 c_609
                      exact ((show False from by have h8 := of_decide_eq_true c_609; omega)).elim
                    · skip
                      replace c_609 : (decide (0 < cN u T9)) = false := bI_eq0 c_609
                      refine lv_iload hx hb dL_law_612 (lv_at hl 1 rfl) ?_
                      refine lv_iload hx hb dL_law_614 (lv_at hl 0 rfl) ?_
                      refine q_iremN hx hb (by omega) (by omega) (by omega) dL_law_616 ?_
                      refine lv_aload_n hx hb dL_law_617 rfl (lv_at hl 4 rfl) ?_
                      refine va_get (D := D) (ci := 1) (v := .ref (a1 2)) (C := RX1) (T := TX1) (N := 10) hx hb hts hin hown hK hP 8 rfl rfl 2 (by decide) (hts (.fieldLink RL 53 "AfternoonMeterLaw$Sim" "bees" "[[I") (List.mem_of_getElem? (i := 7) rfl)) (fun _ h9 => h9) rfl dL_law_618 ?_
                      refine lv_iload hx hb dL_law_621 (lv_at hl 12 rfl) ?_
                      refine q_aald (cA := cR) (n := mBc u) (f := br) (ty := .int) hx hb hK 1 hR.2.2.1 rfl (k := kA) (by omega) (by omega) dL_law_623 ?_
                      refine lv_iconst (v := nI 1) hx hb dL_law_624 (by decide +kernel) ?_
                      refine q_ialdH (cA := cI) (n := 2) (f := pr (mPe u kA) (mBe u kA)) (v := nI (qN u kA)) hx hb hK 0 (hR.2.2.2.2 kA (by omega)) rfl (k := 1) (by decide) (by decide) ((hIf kA (by omega)).2.1) dL_law_625 ?_
                      obtain ⟨_, _, _, _, _⟩ := hIf kA (by omega)
                      refine lv_icmp_ne (tgt := 645) hx hb dL_law_626 (by decide) (fun c_626 => ?_) (fun c_626 => ?_)
                      · skip
                        replace c_626 : (T9 % (pN u kA)) ≠ (qN u kA) := neN c_626
                        exact (by omega : False).elim
                      · skip
                        replace c_626 : (T9 % (pN u kA)) = (qN u kA) := eN c_626
                        refine lv_aload_n hx hb dL_law_629 rfl (lv_at hl 3 rfl) ?_
                        refine lv_iload hx hb dL_law_630 (lv_at hl 12 rfl) ?_
                        refine vp_callSi (W.runV (As := [.int (nI kA)]) (rest := []) ⟨hx, hb, hml, hown, hts⟩ (c_X0_ticksOf l D cI h0 a0 u on kA hI (by omega)) (cwV 1 hts gL_law_X0_ticksOf rfl rfl rfl (by decide +kernel) ⟨Nat.le_of_ble_eq_true rfl, Nat.le_of_ble_eq_true rfl⟩) (pu_pre (hK.sub (tys' := [(cI, .int)]) [0] rfl) (hP.sub (ws' := pic0 cI h0 a0 u on) [0, 1, 2, 3, 4, 5, 6, 7] rfl) rfl rfl) rfl rfl hl.1 rfl (lv_room (Nat.le_of_ble_eq_true rfl)) dL_law_632 ⟨show C + 0 ≤ 754895 by omega, show Sl + 0 ≤ 6836784 by omega⟩) (fun r hr9 => ?_)
                        subst hr9
                        rw [fTk_eq u kA]
                        have htk := TK_le u kA
                        refine lv_iload hx hb dL_law_635 (lv_at hl 8 rfl) ?_
                        refine lv_iload hx hb dL_law_637 (lv_at hl 0 rfl) ?_
                        have hdv := Nat.div_le_self (mNow u) (pN u kA)
                        have hfew := TK_few (u := u) (b := kA) (by omega)
                        refine q_idivN hx hb (by omega) (by omega) (by omega) dL_law_639 ?_
                        refine lv_iconst (v := nI 1) hx hb dL_law_640 (by decide +kernel) ?_
                        refine q_iaddN hx hb dL_law_641 ?_
                        refine lv_icmp_le (tgt := 647) hx hb dL_law_642 (by decide) (fun c_642 => ?_) (fun c_642 => ?_)
                        · skip
                          replace c_642 : (TK u kA) ≤ (((mNow u) / (pN u kA)) + 1) := leN c_642
                          refine lv_iinc (v := nI (kA + 1)) (lv' := [(14, .int (nI (kA + 1))), (16, .int (nI (pN u kA))), (15, .int (nI T9)), (0, .ref b), (1, .ref h0), (2, .ref h1), (3, .int (nI tm)), (4, .int x0), (5, .long (fDig u)), (7, .int (nI (mNow u))), (11, .int (nI (ct (awB u) 360))), (12, .int (fBG u)), (13, .int (fBB u))]) hx hb dL_law_647 hl (k := 12) rfl (nI_i1 _) (by decide) rfl (fun ls hl => ?_)
                          refine lv_goto (tgt := 504) hx hb dL_law_650 (by decide) ?_
                          exact ihA (kA + 1) (by omega) _ (lv_sub hl [3, 4, 5, 6, 7, 8, 9, 10, 11, 12, 0] rfl)
                        · skip
                          replace c_642 : (((mNow u) / (pN u kA)) + 1) < (TK u kA) := nleN c_642
                          exact (by omega : False).elim
  exact lp504 _ 0 (Nat.zero_add _) _ (lv_sub hl [2, 3, 4, 5, 6, 7, 8, 9, 10, 1, 0] rfl)
set_option maxHeartbeats 8000000 in
set_option maxRecDepth 100000 in
theorem sg_653 {p : Program} {l : Launch} {e : Env} {s : State} {m : MethodId} {below : List Frame} {meth : Method} {c : Code} {D : va_G} {cI cR : ClassId} {b L h0 h1 : Nat} {a0 : Nat → Nat} {xs : Nat → Int32} {tm : Nat} {x0 : Int32} (hL : L ≤ 260) (C0 : lw_At p s m meth c b L xs) (hAO : AOI s) (hK : va_K D vwCl (tyR cI cR) s) {u : MS} {on : Nat → Int32} {a1 nr br : Nat → Nat} {H : Heap} {locs : List Loc} {C Sl : Nat} (hC : C + 100 ≤ 754895) (hSl : Sl + 1000 ≤ 6836784) (hT : TW D cI cR h0 a0 h1 u on a1 nr br H) (hD : va_D (LA s) (picT cI h0 a0 h1 a1 u u on)) (hS : va_S (LA s) s.heap H locs) {ls : Array Slot} (hl : lv_has ls 21 [(0, .ref b), (1, .ref h0), (2, .ref h1), (3, .int (nI tm)), (4, .int x0), (5, .long (fDig u)), (7, .int (nI (mNow u))), (11, .int (nI (ct (awB u) 360))), (12, .int (fBG u))]) (kk : ∀ (ls : Array Slot), lv_has ls 21 [(0, .ref b), (1, .ref h0), (2, .ref h1), (3, .int (nI tm)), (4, .int x0), (5, .long (fDig u)), (7, .int (nI (mNow u))), (11, .int (nI (ct (awB u) 360))), (12, .int (fBG u)), (14, .int (fSp u (mRate u))), (16, .int (nI (sfF u 9)))] → W p l e room_1 s m #[Value.ref b] below meth c H locs C Sl (lw_Z below #[Value.ref b] s) (F0 m 822 ls [])) : W p l e room_1 s m #[Value.ref b] below meth c H locs C Sl (lw_Z below #[Value.ref b] s) (F0 m 653 ls []) := by
  obtain ⟨hx, hb, hr, hml, hown, hts0, hX, hbl, hlocks, hgv⟩ := id C0
  have hown : s.vm.findClass RL = some m.cls := hown
  have hts : ∀ w ∈ wsL_law, w.before #[Value.ref b] s = true := fun w h => hts0 w (wsL_law_in w h)
  have hin : ∀ w ∈ wsX10, w ∈ wsL_law := inlX1
  have hA : ∀ q : Nat, s.heap.size ≤ q → LA s q := fun _ h => h
  have hbA : ¬ LA s b := Nat.not_le.mpr hbl
  obtain ⟨hI, hO, hIS, hNM, hP, hR⟩ := id hT
  obtain ⟨hIa, hIb, hIc, hId, hIe, hIf, hIg, hIh, hIi, hIj⟩ := id hI
  have hXH : va_X b L xs s H := hX.kept (hS.2.1 b hbl hbA)
  obtain ⟨S9, eS9, hS9⟩ := id hIS
  obtain ⟨E9, hE1, hE2, hE3⟩ := end_spec hI eS9
  obtain ⟨hs1, hs2, hs3⟩ := sf_spec hI
  have hsi := sf_iff hI
  by_cases hz : mNc u = 0
  · skip
    have eU := bg_none hz
    rcases fsp_cases hI (mRate u) with eP | ⟨T9, eP, hT1, hT2, hT3⟩
    · skip
      have hE4 := hE3.mpr eP
      have hs4 := hsi.mpr eP
      refine lv_aload_n hx hb dL_law_653 rfl (lv_at hl 1 rfl) ?_
      refine vp_callSi (W.runV (As := []) (rest := []) ⟨hx, hb, hml, hown, hts⟩ (c_X0_minuteOfSpill l D cI h0 a0 u on hI hO) (cwV 0 hts gL_law_X0_minuteOfSpill rfl rfl rfl (by decide +kernel) ⟨Nat.le_of_ble_eq_true rfl, Nat.le_of_ble_eq_true rfl⟩) (pu_pre (hK.sub (tys' := [(cI, .int)]) [0] rfl) (hP.sub (ws' := pic0 cI h0 a0 u on) [0, 1, 2, 3, 4, 5, 6, 7] rfl) rfl rfl) rfl rfl hl.1 rfl (lv_room (Nat.le_of_ble_eq_true rfl)) dL_law_654 ⟨show C + 0 ≤ 754895 by omega, show Sl + 0 ≤ 6836784 by omega⟩) (fun r hr9 => ?_)
      subst hr9
      refine lv_istore (lv' := [(14, .int (fSp u (mRate u))), (0, .ref b), (1, .ref h0), (2, .ref h1), (3, .int (nI tm)), (4, .int x0), (5, .long (fDig u)), (7, .int (nI (mNow u))), (11, .int (nI (ct (awB u) 360))), (12, .int (fBG u))]) hx hb dL_law_657 hl (by decide) rfl (fun ls hl => ?_)
      refine lv_aload_n hx hb dL_law_659 rfl (lv_at hl 2 rfl) ?_
      refine vp_callSi (W.runV (As := []) (rest := []) ⟨hx, hb, hml, hown, hts⟩ (c_X0_spiltAtEnd l D cI h0 a0 u on hI hO) (cwV 0 hts gL_law_X0_spiltAtEnd rfl rfl rfl (by decide +kernel) ⟨Nat.le_of_ble_eq_true rfl, Nat.le_of_ble_eq_true rfl⟩) (pu_pre (hK.sub (tys' := [(cI, .int)]) [0] rfl) (hP.sub (ws' := pic0 cI h0 a0 u on) [0, 1, 2, 3, 4, 5, 6, 7] rfl) rfl rfl) rfl rfl hl.1 rfl (lv_room (Nat.le_of_ble_eq_true rfl)) dL_law_660 ⟨show C + 0 ≤ 754895 by omega, show Sl + 0 ≤ 6836784 by omega⟩) (fun r hr9 => ?_)
      subst hr9
      rw [hE2]
      refine lv_istore (lv' := [(15, .int (nI (S9 + E9))), (14, .int (fSp u (mRate u))), (0, .ref b), (1, .ref h0), (2, .ref h1), (3, .int (nI tm)), (4, .int x0), (5, .long (fDig u)), (7, .int (nI (mNow u))), (11, .int (nI (ct (awB u) 360))), (12, .int (fBG u))]) hx hb dL_law_663 hl (by decide) rfl (fun ls hl => ?_)
      refine lv_aload_n hx hb dL_law_665 rfl (lv_at hl 3 rfl) ?_
      refine vp_callSi (W.runV (As := []) (rest := []) ⟨hx, hb, hml, hown, hts⟩ (c_X0_safeRate l D cI h0 a0 u on hI hO) (cwV 0 hts gL_law_X0_safeRate rfl rfl rfl (by decide +kernel) ⟨Nat.le_of_ble_eq_true rfl, Nat.le_of_ble_eq_true rfl⟩) (pu_pre (hK.sub (tys' := [(cI, .int)]) [0] rfl) (hP.sub (ws' := pic0 cI h0 a0 u on) [0, 1, 2, 3, 4, 5, 6, 7] rfl) rfl rfl) rfl rfl hl.1 rfl (lv_room (Nat.le_of_ble_eq_true rfl)) dL_law_666 ⟨show C + 0 ≤ 754895 by omega, show Sl + 0 ≤ 6836784 by omega⟩) (fun r hr9 => ?_)
      subst hr9
      refine lv_istore (lv' := [(16, .int (nI (sfF u 9))), (15, .int (nI (S9 + E9))), (14, .int (fSp u (mRate u))), (0, .ref b), (1, .ref h0), (2, .ref h1), (3, .int (nI tm)), (4, .int x0), (5, .long (fDig u)), (7, .int (nI (mNow u))), (11, .int (nI (ct (awB u) 360))), (12, .int (fBG u))]) hx hb dL_law_669 hl (by decide) rfl (fun ls hl => ?_)
      refine lv_iload hx hb dL_law_671 (lv_at hl 11 rfl) ?_
      rw [eU]
      refine lv_if_ge (tgt := 680) hx hb dL_law_673 (by decide) (fun c_673 => ?_) (fun c_673 => ?_)
      · skip
        exact ((absurd c_673 (by decide +kernel) : False)).elim
      · skip
        refine lv_iconst (v := nI 1) hx hb dL_law_676 (by decide +kernel) ?_
        refine lv_goto (tgt := 681) hx hb dL_law_677 (by decide) ?_
        refine lv_aload_n hx hb dL_law_681 rfl (lv_at hl 4 rfl) ?_
        refine vp_callSi (W.runV (As := []) (rest := [.int (nI 1)]) ⟨hx, hb, hml, hown, hts⟩ (c_X0_naps l D cI h0 a0 u on ) (cwV 0 hts gL_law_X0_naps rfl rfl rfl (by decide +kernel) ⟨Nat.le_of_ble_eq_true rfl, Nat.le_of_ble_eq_true rfl⟩) (pu_pre (hK.sub (tys' := [(cI, .int)]) [0] rfl) (hP.sub (ws' := pic0 cI h0 a0 u on) [0, 1, 2, 3, 4, 5, 6, 7] rfl) rfl rfl) rfl rfl hl.1 rfl (lv_room (Nat.le_of_ble_eq_true rfl)) dL_law_682 ⟨show C + 0 ≤ 754895 by omega, show Sl + 0 ≤ 6836784 by omega⟩) (fun r hr9 => ?_)
        subst hr9
        refine lv_if_ne (tgt := 692) hx hb dL_law_685 (by decide) (fun c_685 => ?_) (fun c_685 => ?_)
        · skip
          replace c_685 : (mNc u) ≠ 0 := neN c_685
          exact (by omega : False).elim
        · skip
          replace c_685 : (mNc u) = 0 := eN c_685
          refine lv_iconst (v := nI 1) hx hb dL_law_688 (by decide +kernel) ?_
          refine lv_goto (tgt := 693) hx hb dL_law_689 (by decide) ?_
          refine lv_icmp_ne (tgt := 820) hx hb dL_law_693 (by decide) (fun c_693 => ?_) (fun c_693 => ?_)
          · skip
            replace c_693 : 1 ≠ 1 := neN c_693
            exact (by omega : False).elim
          · skip
            replace c_693 : 1 = 1 := eN c_693
            refine lv_aload_n hx hb dL_law_696 rfl (lv_at hl 4 rfl) ?_
            refine vp_callSi (W.runV (As := []) (rest := []) ⟨hx, hb, hml, hown, hts⟩ (c_X0_tea l D cI h0 a0 u on ) (cwV 0 hts gL_law_X0_tea rfl rfl rfl (by decide +kernel) ⟨Nat.le_of_ble_eq_true rfl, Nat.le_of_ble_eq_true rfl⟩) (pu_pre (hK.sub (tys' := [(cI, .int)]) [0] rfl) (hP.sub (ws' := pic0 cI h0 a0 u on) [0, 1, 2, 3, 4, 5, 6, 7] rfl) rfl rfl) rfl rfl hl.1 rfl (lv_room (Nat.le_of_ble_eq_true rfl)) dL_law_697 ⟨show C + 0 ≤ 754895 by omega, show Sl + 0 ≤ 6836784 by omega⟩) (fun r hr9 => ?_)
            subst hr9
            refine lv_aload_n hx hb dL_law_700 rfl (lv_at hl 5 rfl) ?_
            refine va_get (D := D) (ci := 1) (v := .int (nI (mRoom u))) (C := RX1) (T := TX1) (N := 10) hx hb hts hin hown hK hP 8 rfl rfl 3 (by decide) (hts (.fieldLink RL 59 "AfternoonMeterLaw$Sim" "room" "I") (List.mem_of_getElem? (i := 11) rfl)) (fun _ h9 => h9) rfl dL_law_701 ?_
            refine lv_icmp_gt (tgt := 820) hx hb dL_law_704 (by decide) (fun c_704 => ?_) (fun c_704 => ?_)
            · skip
              replace c_704 : (mRoom u) < (mTea u) := ltN c_704
              exact (by omega : False).elim
            · skip
              replace c_704 : (mTea u) ≤ (mRoom u) := nltN c_704
              refine lv_aload_n hx hb dL_law_707 rfl (lv_at hl 4 rfl) ?_
              refine vp_callSi (W.runV (As := []) (rest := []) ⟨hx, hb, hml, hown, hts⟩ (c_X0_tea l D cI h0 a0 u on ) (cwV 0 hts gL_law_X0_tea rfl rfl rfl (by decide +kernel) ⟨Nat.le_of_ble_eq_true rfl, Nat.le_of_ble_eq_true rfl⟩) (pu_pre (hK.sub (tys' := [(cI, .int)]) [0] rfl) (hP.sub (ws' := pic0 cI h0 a0 u on) [0, 1, 2, 3, 4, 5, 6, 7] rfl) rfl rfl) rfl rfl hl.1 rfl (lv_room (Nat.le_of_ble_eq_true rfl)) dL_law_708 ⟨show C + 0 ≤ 754895 by omega, show Sl + 0 ≤ 6836784 by omega⟩) (fun r hr9 => ?_)
              subst hr9
              refine lv_if_lt (tgt := 820) hx hb dL_law_711 (by decide) (fun c_711 => ?_) (fun c_711 => ?_)
              · skip
                replace c_711 : (mTea u) < 0 := ltN c_711
                exact (by omega : False).elim
              · skip
                replace c_711 : 0 ≤ (mTea u) := nltN c_711
                refine lv_iload hx hb dL_law_714 (lv_at hl 1 rfl) ?_
                refine lv_aload_n hx hb dL_law_716 rfl (lv_at hl 4 rfl) ?_
                refine vp_callSi (W.runV (As := []) (rest := [.int (nI (S9 + E9))]) ⟨hx, hb, hml, hown, hts⟩ (c_X0_spilt l D cI h0 a0 u on ) (cwV 0 hts gL_law_X0_spilt rfl rfl rfl (by decide +kernel) ⟨Nat.le_of_ble_eq_true rfl, Nat.le_of_ble_eq_true rfl⟩) (pu_pre (hK.sub (tys' := [(cI, .int)]) [0] rfl) (hP.sub (ws' := pic0 cI h0 a0 u on) [0, 1, 2, 3, 4, 5, 6, 7] rfl) rfl rfl) rfl rfl hl.1 rfl (lv_room (Nat.le_of_ble_eq_true rfl)) dL_law_717 ⟨show C + 0 ≤ 754895 by omega, show Sl + 0 ≤ 6836784 by omega⟩) (fun r hr9 => ?_)
                subst hr9
                rw [eS9]
                refine lv_icmp_lt (tgt := 820) hx hb dL_law_720 (by decide) (fun c_720 => ?_) (fun c_720 => ?_)
                · skip
                  replace c_720 : (S9 + E9) < S9 := ltN c_720
                  exact (by omega : False).elim
                · skip
                  replace c_720 : S9 ≤ (S9 + E9) := nltN c_720
                  refine lv_iload hx hb dL_law_723 (lv_at hl 2 rfl) ?_
                  rw [eP]
                  refine lv_if_ge (tgt := 732) hx hb dL_law_725 (by decide) (fun c_725 => ?_) (fun c_725 => ?_)
                  · skip
                    exact ((absurd c_725 (by decide +kernel) : False)).elim
                  · skip
                    refine lv_iconst (v := nI 1) hx hb dL_law_728 (by decide +kernel) ?_
                    refine lv_goto (tgt := 733) hx hb dL_law_729 (by decide) ?_
                    refine lv_iload hx hb dL_law_733 (lv_at hl 1 rfl) ?_
                    refine lv_aload_n hx hb dL_law_735 rfl (lv_at hl 4 rfl) ?_
                    refine vp_callSi (W.runV (As := []) (rest := [.int (nI (S9 + E9)), .int (nI 1)]) ⟨hx, hb, hml, hown, hts⟩ (c_X0_spilt l D cI h0 a0 u on ) (cwV 0 hts gL_law_X0_spilt rfl rfl rfl (by decide +kernel) ⟨Nat.le_of_ble_eq_true rfl, Nat.le_of_ble_eq_true rfl⟩) (pu_pre (hK.sub (tys' := [(cI, .int)]) [0] rfl) (hP.sub (ws' := pic0 cI h0 a0 u on) [0, 1, 2, 3, 4, 5, 6, 7] rfl) rfl rfl) rfl rfl hl.1 rfl (lv_room (Nat.le_of_ble_eq_true rfl)) dL_law_736 ⟨show C + 0 ≤ 754895 by omega, show Sl + 0 ≤ 6836784 by omega⟩) (fun r hr9 => ?_)
                    subst hr9
                    rw [eS9]
                    refine lv_icmp_ne (tgt := 746) hx hb dL_law_739 (by decide) (fun c_739 => ?_) (fun c_739 => ?_)
                    · skip
                      replace c_739 : (S9 + E9) ≠ S9 := neN c_739
                      exact (by omega : False).elim
                    · skip
                      replace c_739 : (S9 + E9) = S9 := eN c_739
                      refine lv_iconst (v := nI 1) hx hb dL_law_742 (by decide +kernel) ?_
                      refine lv_goto (tgt := 747) hx hb dL_law_743 (by decide) ?_
                      refine lv_icmp_ne (tgt := 820) hx hb dL_law_747 (by decide) (fun c_747 => ?_) (fun c_747 => ?_)
                      · skip
                        replace c_747 : 1 ≠ 1 := neN c_747
                        exact (by omega : False).elim
                      · skip
                        replace c_747 : 1 = 1 := eN c_747
                        refine lv_iload hx hb dL_law_750 (lv_at hl 2 rfl) ?_
                        rw [eP]
                        refine lv_if_lt (tgt := 771) hx hb dL_law_752 (by decide) (fun c_752 => ?_) (fun c_752 => ?_)
                        · skip
                          refine lv_iload hx hb dL_law_771 (lv_at hl 0 rfl) ?_
                          refine lv_if_lt (tgt := 820) hx hb dL_law_773 (by decide) (fun c_773 => ?_) (fun c_773 => ?_)
                          · skip
                            replace c_773 : (sfF u 9) < 0 := ltN c_773
                            exact (by omega : False).elim
                          · skip
                            replace c_773 : 0 ≤ (sfF u 9) := nltN c_773
                            refine lv_iload hx hb dL_law_776 (lv_at hl 0 rfl) ?_
                            refine lv_bipush (v := nI 9) hx hb dL_law_778 (by decide +kernel) ?_
                            refine lv_icmp_gt (tgt := 820) hx hb dL_law_780 (by decide) (fun c_780 => ?_) (fun c_780 => ?_)
                            · skip
                              replace c_780 : 9 < (sfF u 9) := ltN c_780
                              exact (by omega : False).elim
                            · skip
                              replace c_780 : (sfF u 9) ≤ 9 := nltN c_780
                              refine lv_aload_n hx hb dL_law_783 rfl (lv_at hl 5 rfl) ?_
                              refine va_get (D := D) (ci := 1) (v := .int (nI (mRate u))) (C := RX1) (T := TX1) (N := 10) hx hb hts hin hown hK hP 8 rfl rfl 4 (by decide) (hts (.fieldLink RL 63 "AfternoonMeterLaw$Sim" "rate" "I") (List.mem_of_getElem? (i := 12) rfl)) (fun _ h9 => h9) rfl dL_law_784 ?_
                              refine lv_iload hx hb dL_law_787 (lv_at hl 0 rfl) ?_
                              refine lv_icmp_gt (tgt := 796) hx hb dL_law_789 (by decide) (fun c_789 => ?_) (fun c_789 => ?_)
                              · skip
                                replace c_789 : (sfF u 9) < (mRate u) := ltN c_789
                                exact (by omega : False).elim
                              · skip
                                replace c_789 : (mRate u) ≤ (sfF u 9) := nltN c_789
                                refine lv_iconst (v := nI 1) hx hb dL_law_792 (by decide +kernel) ?_
                                refine lv_goto (tgt := 797) hx hb dL_law_793 (by decide) ?_
                                refine lv_iload hx hb dL_law_797 (lv_at hl 2 rfl) ?_
                                rw [eP]
                                refine lv_if_ge (tgt := 806) hx hb dL_law_799 (by decide) (fun c_799 => ?_) (fun c_799 => ?_)
                                · skip
                                  exact ((absurd c_799 (by decide +kernel) : False)).elim
                                · skip
                                  refine lv_iconst (v := nI 1) hx hb dL_law_802 (by decide +kernel) ?_
                                  refine lv_goto (tgt := 807) hx hb dL_law_803 (by decide) ?_
                                  refine lv_icmp_ne (tgt := 820) hx hb dL_law_807 (by decide) (fun c_807 => ?_) (fun c_807 => ?_)
                                  · skip
                                    replace c_807 : 1 ≠ 1 := neN c_807
                                    exact (by omega : False).elim
                                  · skip
                                    replace c_807 : 1 = 1 := eN c_807
                                    refine lv_aload_n hx hb dL_law_810 rfl (lv_at hl 4 rfl) ?_
                                    refine vp_callSl (W.runV (As := []) (rest := []) ⟨hx, hb, hml, hown, hts⟩ (c_X0_digest l D cI h0 a0 u on hI hO) (cwV 0 hts gL_law_X0_digest rfl rfl rfl (by decide +kernel) ⟨Nat.le_of_ble_eq_true rfl, Nat.le_of_ble_eq_true rfl⟩) (pu_pre (hK.sub (tys' := [(cI, .int)]) [0] rfl) (hP.sub (ws' := pic0 cI h0 a0 u on) [0, 1, 2, 3, 4, 5, 6, 7] rfl) rfl rfl) rfl rfl hl.1 rfl (lv_room (Nat.le_of_ble_eq_true rfl)) dL_law_811 ⟨show C + 0 ≤ 754895 by omega, show Sl + 0 ≤ 6836784 by omega⟩) (fun r hr9 => ?_)
                                    subst hr9
                                    refine lv_lload hx hb dL_law_814 (lv_at hl 8 rfl) ?_
                                    refine W.lcmp hx hb dL_law_816 ?_
                                    refine lv_if_eq (tgt := 822) hx hb dL_law_817 (by decide) (fun c_817 => ?_) (fun c_817 => ?_)
                                    · skip
                                      exact kk _ (lv_sub hl [3, 4, 5, 6, 7, 8, 9, 10, 11, 2, 0] rfl)
                                    · skip
                                      exact (c_817 lcmp_self).elim
                        · skip
                          exact (c_752 (by decide +kernel)).elim
    · skip
      have hE4 : ¬ E9 = 0 := fun z => nI_m1 (by omega) (eP.symm.trans (hE3.mp z))
      have hs4 : ¬ mRate u ≤ sfF u 9 := fun z => nI_m1 (by omega) (eP.symm.trans (hsi.mp z))
      refine lv_aload_n hx hb dL_law_653 rfl (lv_at hl 1 rfl) ?_
      refine vp_callSi (W.runV (As := []) (rest := []) ⟨hx, hb, hml, hown, hts⟩ (c_X0_minuteOfSpill l D cI h0 a0 u on hI hO) (cwV 0 hts gL_law_X0_minuteOfSpill rfl rfl rfl (by decide +kernel) ⟨Nat.le_of_ble_eq_true rfl, Nat.le_of_ble_eq_true rfl⟩) (pu_pre (hK.sub (tys' := [(cI, .int)]) [0] rfl) (hP.sub (ws' := pic0 cI h0 a0 u on) [0, 1, 2, 3, 4, 5, 6, 7] rfl) rfl rfl) rfl rfl hl.1 rfl (lv_room (Nat.le_of_ble_eq_true rfl)) dL_law_654 ⟨show C + 0 ≤ 754895 by omega, show Sl + 0 ≤ 6836784 by omega⟩) (fun r hr9 => ?_)
      subst hr9
      refine lv_istore (lv' := [(14, .int (fSp u (mRate u))), (0, .ref b), (1, .ref h0), (2, .ref h1), (3, .int (nI tm)), (4, .int x0), (5, .long (fDig u)), (7, .int (nI (mNow u))), (11, .int (nI (ct (awB u) 360))), (12, .int (fBG u))]) hx hb dL_law_657 hl (by decide) rfl (fun ls hl => ?_)
      refine lv_aload_n hx hb dL_law_659 rfl (lv_at hl 2 rfl) ?_
      refine vp_callSi (W.runV (As := []) (rest := []) ⟨hx, hb, hml, hown, hts⟩ (c_X0_spiltAtEnd l D cI h0 a0 u on hI hO) (cwV 0 hts gL_law_X0_spiltAtEnd rfl rfl rfl (by decide +kernel) ⟨Nat.le_of_ble_eq_true rfl, Nat.le_of_ble_eq_true rfl⟩) (pu_pre (hK.sub (tys' := [(cI, .int)]) [0] rfl) (hP.sub (ws' := pic0 cI h0 a0 u on) [0, 1, 2, 3, 4, 5, 6, 7] rfl) rfl rfl) rfl rfl hl.1 rfl (lv_room (Nat.le_of_ble_eq_true rfl)) dL_law_660 ⟨show C + 0 ≤ 754895 by omega, show Sl + 0 ≤ 6836784 by omega⟩) (fun r hr9 => ?_)
      subst hr9
      rw [hE2]
      refine lv_istore (lv' := [(15, .int (nI (S9 + E9))), (14, .int (fSp u (mRate u))), (0, .ref b), (1, .ref h0), (2, .ref h1), (3, .int (nI tm)), (4, .int x0), (5, .long (fDig u)), (7, .int (nI (mNow u))), (11, .int (nI (ct (awB u) 360))), (12, .int (fBG u))]) hx hb dL_law_663 hl (by decide) rfl (fun ls hl => ?_)
      refine lv_aload_n hx hb dL_law_665 rfl (lv_at hl 3 rfl) ?_
      refine vp_callSi (W.runV (As := []) (rest := []) ⟨hx, hb, hml, hown, hts⟩ (c_X0_safeRate l D cI h0 a0 u on hI hO) (cwV 0 hts gL_law_X0_safeRate rfl rfl rfl (by decide +kernel) ⟨Nat.le_of_ble_eq_true rfl, Nat.le_of_ble_eq_true rfl⟩) (pu_pre (hK.sub (tys' := [(cI, .int)]) [0] rfl) (hP.sub (ws' := pic0 cI h0 a0 u on) [0, 1, 2, 3, 4, 5, 6, 7] rfl) rfl rfl) rfl rfl hl.1 rfl (lv_room (Nat.le_of_ble_eq_true rfl)) dL_law_666 ⟨show C + 0 ≤ 754895 by omega, show Sl + 0 ≤ 6836784 by omega⟩) (fun r hr9 => ?_)
      subst hr9
      refine lv_istore (lv' := [(16, .int (nI (sfF u 9))), (15, .int (nI (S9 + E9))), (14, .int (fSp u (mRate u))), (0, .ref b), (1, .ref h0), (2, .ref h1), (3, .int (nI tm)), (4, .int x0), (5, .long (fDig u)), (7, .int (nI (mNow u))), (11, .int (nI (ct (awB u) 360))), (12, .int (fBG u))]) hx hb dL_law_669 hl (by decide) rfl (fun ls hl => ?_)
      refine lv_iload hx hb dL_law_671 (lv_at hl 11 rfl) ?_
      rw [eU]
      refine lv_if_ge (tgt := 680) hx hb dL_law_673 (by decide) (fun c_673 => ?_) (fun c_673 => ?_)
      · skip
        exact ((absurd c_673 (by decide +kernel) : False)).elim
      · skip
        refine lv_iconst (v := nI 1) hx hb dL_law_676 (by decide +kernel) ?_
        refine lv_goto (tgt := 681) hx hb dL_law_677 (by decide) ?_
        refine lv_aload_n hx hb dL_law_681 rfl (lv_at hl 4 rfl) ?_
        refine vp_callSi (W.runV (As := []) (rest := [.int (nI 1)]) ⟨hx, hb, hml, hown, hts⟩ (c_X0_naps l D cI h0 a0 u on ) (cwV 0 hts gL_law_X0_naps rfl rfl rfl (by decide +kernel) ⟨Nat.le_of_ble_eq_true rfl, Nat.le_of_ble_eq_true rfl⟩) (pu_pre (hK.sub (tys' := [(cI, .int)]) [0] rfl) (hP.sub (ws' := pic0 cI h0 a0 u on) [0, 1, 2, 3, 4, 5, 6, 7] rfl) rfl rfl) rfl rfl hl.1 rfl (lv_room (Nat.le_of_ble_eq_true rfl)) dL_law_682 ⟨show C + 0 ≤ 754895 by omega, show Sl + 0 ≤ 6836784 by omega⟩) (fun r hr9 => ?_)
        subst hr9
        refine lv_if_ne (tgt := 692) hx hb dL_law_685 (by decide) (fun c_685 => ?_) (fun c_685 => ?_)
        · skip
          replace c_685 : (mNc u) ≠ 0 := neN c_685
          exact (by omega : False).elim
        · skip
          replace c_685 : (mNc u) = 0 := eN c_685
          refine lv_iconst (v := nI 1) hx hb dL_law_688 (by decide +kernel) ?_
          refine lv_goto (tgt := 693) hx hb dL_law_689 (by decide) ?_
          refine lv_icmp_ne (tgt := 820) hx hb dL_law_693 (by decide) (fun c_693 => ?_) (fun c_693 => ?_)
          · skip
            replace c_693 : 1 ≠ 1 := neN c_693
            exact (by omega : False).elim
          · skip
            replace c_693 : 1 = 1 := eN c_693
            refine lv_aload_n hx hb dL_law_696 rfl (lv_at hl 4 rfl) ?_
            refine vp_callSi (W.runV (As := []) (rest := []) ⟨hx, hb, hml, hown, hts⟩ (c_X0_tea l D cI h0 a0 u on ) (cwV 0 hts gL_law_X0_tea rfl rfl rfl (by decide +kernel) ⟨Nat.le_of_ble_eq_true rfl, Nat.le_of_ble_eq_true rfl⟩) (pu_pre (hK.sub (tys' := [(cI, .int)]) [0] rfl) (hP.sub (ws' := pic0 cI h0 a0 u on) [0, 1, 2, 3, 4, 5, 6, 7] rfl) rfl rfl) rfl rfl hl.1 rfl (lv_room (Nat.le_of_ble_eq_true rfl)) dL_law_697 ⟨show C + 0 ≤ 754895 by omega, show Sl + 0 ≤ 6836784 by omega⟩) (fun r hr9 => ?_)
            subst hr9
            refine lv_aload_n hx hb dL_law_700 rfl (lv_at hl 5 rfl) ?_
            refine va_get (D := D) (ci := 1) (v := .int (nI (mRoom u))) (C := RX1) (T := TX1) (N := 10) hx hb hts hin hown hK hP 8 rfl rfl 3 (by decide) (hts (.fieldLink RL 59 "AfternoonMeterLaw$Sim" "room" "I") (List.mem_of_getElem? (i := 11) rfl)) (fun _ h9 => h9) rfl dL_law_701 ?_
            refine lv_icmp_gt (tgt := 820) hx hb dL_law_704 (by decide) (fun c_704 => ?_) (fun c_704 => ?_)
            · skip
              replace c_704 : (mRoom u) < (mTea u) := ltN c_704
              exact (by omega : False).elim
            · skip
              replace c_704 : (mTea u) ≤ (mRoom u) := nltN c_704
              refine lv_aload_n hx hb dL_law_707 rfl (lv_at hl 4 rfl) ?_
              refine vp_callSi (W.runV (As := []) (rest := []) ⟨hx, hb, hml, hown, hts⟩ (c_X0_tea l D cI h0 a0 u on ) (cwV 0 hts gL_law_X0_tea rfl rfl rfl (by decide +kernel) ⟨Nat.le_of_ble_eq_true rfl, Nat.le_of_ble_eq_true rfl⟩) (pu_pre (hK.sub (tys' := [(cI, .int)]) [0] rfl) (hP.sub (ws' := pic0 cI h0 a0 u on) [0, 1, 2, 3, 4, 5, 6, 7] rfl) rfl rfl) rfl rfl hl.1 rfl (lv_room (Nat.le_of_ble_eq_true rfl)) dL_law_708 ⟨show C + 0 ≤ 754895 by omega, show Sl + 0 ≤ 6836784 by omega⟩) (fun r hr9 => ?_)
              subst hr9
              refine lv_if_lt (tgt := 820) hx hb dL_law_711 (by decide) (fun c_711 => ?_) (fun c_711 => ?_)
              · skip
                replace c_711 : (mTea u) < 0 := ltN c_711
                exact (by omega : False).elim
              · skip
                replace c_711 : 0 ≤ (mTea u) := nltN c_711
                refine lv_iload hx hb dL_law_714 (lv_at hl 1 rfl) ?_
                refine lv_aload_n hx hb dL_law_716 rfl (lv_at hl 4 rfl) ?_
                refine vp_callSi (W.runV (As := []) (rest := [.int (nI (S9 + E9))]) ⟨hx, hb, hml, hown, hts⟩ (c_X0_spilt l D cI h0 a0 u on ) (cwV 0 hts gL_law_X0_spilt rfl rfl rfl (by decide +kernel) ⟨Nat.le_of_ble_eq_true rfl, Nat.le_of_ble_eq_true rfl⟩) (pu_pre (hK.sub (tys' := [(cI, .int)]) [0] rfl) (hP.sub (ws' := pic0 cI h0 a0 u on) [0, 1, 2, 3, 4, 5, 6, 7] rfl) rfl rfl) rfl rfl hl.1 rfl (lv_room (Nat.le_of_ble_eq_true rfl)) dL_law_717 ⟨show C + 0 ≤ 754895 by omega, show Sl + 0 ≤ 6836784 by omega⟩) (fun r hr9 => ?_)
                subst hr9
                rw [eS9]
                refine lv_icmp_lt (tgt := 820) hx hb dL_law_720 (by decide) (fun c_720 => ?_) (fun c_720 => ?_)
                · skip
                  replace c_720 : (S9 + E9) < S9 := ltN c_720
                  exact (by omega : False).elim
                · skip
                  replace c_720 : S9 ≤ (S9 + E9) := nltN c_720
                  refine lv_iload hx hb dL_law_723 (lv_at hl 2 rfl) ?_
                  rw [eP]
                  refine lv_if_ge (tgt := 732) hx hb dL_law_725 (by decide) (fun c_725 => ?_) (fun c_725 => ?_)
                  · skip
                    replace c_725 : 0 ≤ T9 := leN c_725
                    refine lv_iconst (v := nI 0) hx hb dL_law_732 (by decide +kernel) ?_
                    refine lv_iload hx hb dL_law_733 (lv_at hl 1 rfl) ?_
                    refine lv_aload_n hx hb dL_law_735 rfl (lv_at hl 4 rfl) ?_
                    refine vp_callSi (W.runV (As := []) (rest := [.int (nI (S9 + E9)), .int (nI 0)]) ⟨hx, hb, hml, hown, hts⟩ (c_X0_spilt l D cI h0 a0 u on ) (cwV 0 hts gL_law_X0_spilt rfl rfl rfl (by decide +kernel) ⟨Nat.le_of_ble_eq_true rfl, Nat.le_of_ble_eq_true rfl⟩) (pu_pre (hK.sub (tys' := [(cI, .int)]) [0] rfl) (hP.sub (ws' := pic0 cI h0 a0 u on) [0, 1, 2, 3, 4, 5, 6, 7] rfl) rfl rfl) rfl rfl hl.1 rfl (lv_room (Nat.le_of_ble_eq_true rfl)) dL_law_736 ⟨show C + 0 ≤ 754895 by omega, show Sl + 0 ≤ 6836784 by omega⟩) (fun r hr9 => ?_)
                    subst hr9
                    rw [eS9]
                    refine lv_icmp_ne (tgt := 746) hx hb dL_law_739 (by decide) (fun c_739 => ?_) (fun c_739 => ?_)
                    · skip
                      replace c_739 : (S9 + E9) ≠ S9 := neN c_739
                      refine lv_iconst (v := nI 0) hx hb dL_law_746 (by decide +kernel) ?_
                      refine lv_icmp_ne (tgt := 820) hx hb dL_law_747 (by decide) (fun c_747 => ?_) (fun c_747 => ?_)
                      · skip
                        replace c_747 : 0 ≠ 0 := neN c_747
                        exact (by omega : False).elim
                      · skip
                        replace c_747 : 0 = 0 := eN c_747
                        refine lv_iload hx hb dL_law_750 (lv_at hl 2 rfl) ?_
                        rw [eP]
                        refine lv_if_lt (tgt := 771) hx hb dL_law_752 (by decide) (fun c_752 => ?_) (fun c_752 => ?_)
                        · skip
                          replace c_752 : T9 < 0 := ltN c_752
                          exact (by omega : False).elim
                        · skip
                          replace c_752 : 0 ≤ T9 := nltN c_752
                          refine lv_iload hx hb dL_law_755 (lv_at hl 2 rfl) ?_
                          rw [eP]
                          refine lv_iload hx hb dL_law_757 (lv_at hl 9 rfl) ?_
                          refine lv_icmp_lt (tgt := 820) hx hb dL_law_759 (by decide) (fun c_759 => ?_) (fun c_759 => ?_)
                          · skip
                            replace c_759 : T9 < (mNow u) := ltN c_759
                            exact (by omega : False).elim
                          · skip
                            replace c_759 : (mNow u) ≤ T9 := nltN c_759
                            refine lv_aload_n hx hb dL_law_762 rfl (lv_at hl 4 rfl) ?_
                            refine lv_iload hx hb dL_law_763 (lv_at hl 2 rfl) ?_
                            rw [eP]
                            refine vp_callSi (W.runV (As := [.int (nI T9)]) (rest := []) ⟨hx, hb, hml, hown, hts⟩ (c_X0_isAsleep l D cI h0 a0 u on T9 hI (by omega)) (cwV 1 hts gL_law_X0_isAsleep rfl rfl rfl (by decide +kernel) ⟨Nat.le_of_ble_eq_true rfl, Nat.le_of_ble_eq_true rfl⟩) (pu_pre (hK.sub (tys' := [(cI, .int)]) [0] rfl) (hP.sub (ws' := pic0 cI h0 a0 u on) [0, 1, 2, 3, 4, 5, 6, 7] rfl) rfl rfl) rfl rfl hl.1 rfl (lv_room (Nat.le_of_ble_eq_true rfl)) dL_law_765 ⟨show C + 0 ≤ 754895 by omega, show Sl + 0 ≤ 6836784 by omega⟩) (fun r hr9 => ?_)
                            subst hr9
                            refine lv_if_ne (tgt := 820) hx hb dL_law_768 (by decide) (fun c_768 => ?_) (fun c_768 => ?_)
                            · skip
                              replace c_768 : (decide (0 < cN u T9)) = true := bI_ne0 c_768
                              exact ((show False from by have h8 := of_decide_eq_true c_768; omega)).elim
                            · skip
                              replace c_768 : (decide (0 < cN u T9)) = false := bI_eq0 c_768
                              refine lv_iload hx hb dL_law_771 (lv_at hl 0 rfl) ?_
                              refine lv_if_lt (tgt := 820) hx hb dL_law_773 (by decide) (fun c_773 => ?_) (fun c_773 => ?_)
                              · skip
                                replace c_773 : (sfF u 9) < 0 := ltN c_773
                                exact (by omega : False).elim
                              · skip
                                replace c_773 : 0 ≤ (sfF u 9) := nltN c_773
                                refine lv_iload hx hb dL_law_776 (lv_at hl 0 rfl) ?_
                                refine lv_bipush (v := nI 9) hx hb dL_law_778 (by decide +kernel) ?_
                                refine lv_icmp_gt (tgt := 820) hx hb dL_law_780 (by decide) (fun c_780 => ?_) (fun c_780 => ?_)
                                · skip
                                  replace c_780 : 9 < (sfF u 9) := ltN c_780
                                  exact (by omega : False).elim
                                · skip
                                  replace c_780 : (sfF u 9) ≤ 9 := nltN c_780
                                  refine lv_aload_n hx hb dL_law_783 rfl (lv_at hl 5 rfl) ?_
                                  refine va_get (D := D) (ci := 1) (v := .int (nI (mRate u))) (C := RX1) (T := TX1) (N := 10) hx hb hts hin hown hK hP 8 rfl rfl 4 (by decide) (hts (.fieldLink RL 63 "AfternoonMeterLaw$Sim" "rate" "I") (List.mem_of_getElem? (i := 12) rfl)) (fun _ h9 => h9) rfl dL_law_784 ?_
                                  refine lv_iload hx hb dL_law_787 (lv_at hl 0 rfl) ?_
                                  refine lv_icmp_gt (tgt := 796) hx hb dL_law_789 (by decide) (fun c_789 => ?_) (fun c_789 => ?_)
                                  · skip
                                    replace c_789 : (sfF u 9) < (mRate u) := ltN c_789
                                    refine lv_iconst (v := nI 0) hx hb dL_law_796 (by decide +kernel) ?_
                                    refine lv_iload hx hb dL_law_797 (lv_at hl 2 rfl) ?_
                                    rw [eP]
                                    refine lv_if_ge (tgt := 806) hx hb dL_law_799 (by decide) (fun c_799 => ?_) (fun c_799 => ?_)
                                    · skip
                                      replace c_799 : 0 ≤ T9 := leN c_799
                                      refine lv_iconst (v := nI 0) hx hb dL_law_806 (by decide +kernel) ?_
                                      refine lv_icmp_ne (tgt := 820) hx hb dL_law_807 (by decide) (fun c_807 => ?_) (fun c_807 => ?_)
                                      · skip
                                        replace c_807 : 0 ≠ 0 := neN c_807
                                        exact (by omega : False).elim
                                      · skip
                                        replace c_807 : 0 = 0 := eN c_807
                                        refine lv_aload_n hx hb dL_law_810 rfl (lv_at hl 4 rfl) ?_
                                        refine vp_callSl (W.runV (As := []) (rest := []) ⟨hx, hb, hml, hown, hts⟩ (c_X0_digest l D cI h0 a0 u on hI hO) (cwV 0 hts gL_law_X0_digest rfl rfl rfl (by decide +kernel) ⟨Nat.le_of_ble_eq_true rfl, Nat.le_of_ble_eq_true rfl⟩) (pu_pre (hK.sub (tys' := [(cI, .int)]) [0] rfl) (hP.sub (ws' := pic0 cI h0 a0 u on) [0, 1, 2, 3, 4, 5, 6, 7] rfl) rfl rfl) rfl rfl hl.1 rfl (lv_room (Nat.le_of_ble_eq_true rfl)) dL_law_811 ⟨show C + 0 ≤ 754895 by omega, show Sl + 0 ≤ 6836784 by omega⟩) (fun r hr9 => ?_)
                                        subst hr9
                                        refine lv_lload hx hb dL_law_814 (lv_at hl 8 rfl) ?_
                                        refine W.lcmp hx hb dL_law_816 ?_
                                        refine lv_if_eq (tgt := 822) hx hb dL_law_817 (by decide) (fun c_817 => ?_) (fun c_817 => ?_)
                                        · skip
                                          exact kk _ (lv_sub hl [3, 4, 5, 6, 7, 8, 9, 10, 11, 2, 0] rfl)
                                        · skip
                                          exact (c_817 lcmp_self).elim
                                    · skip
                                      replace c_799 : T9 < 0 := nleN c_799
                                      exact (by omega : False).elim
                                  · skip
                                    replace c_789 : (mRate u) ≤ (sfF u 9) := nltN c_789
                                    exact (by omega : False).elim
                    · skip
                      replace c_739 : (S9 + E9) = S9 := eN c_739
                      exact (by omega : False).elim
                  · skip
                    replace c_725 : T9 < 0 := nleN c_725
                    exact (by omega : False).elim
  · skip
    obtain ⟨j8, eU, hj8⟩ := bg_some hIb hz
    have hj8a := hj8.2.1
    rcases fsp_cases hI (mRate u) with eP | ⟨T9, eP, hT1, hT2, hT3⟩
    · skip
      have hE4 := hE3.mpr eP
      have hs4 := hsi.mpr eP
      refine lv_aload_n hx hb dL_law_653 rfl (lv_at hl 1 rfl) ?_
      refine vp_callSi (W.runV (As := []) (rest := []) ⟨hx, hb, hml, hown, hts⟩ (c_X0_minuteOfSpill l D cI h0 a0 u on hI hO) (cwV 0 hts gL_law_X0_minuteOfSpill rfl rfl rfl (by decide +kernel) ⟨Nat.le_of_ble_eq_true rfl, Nat.le_of_ble_eq_true rfl⟩) (pu_pre (hK.sub (tys' := [(cI, .int)]) [0] rfl) (hP.sub (ws' := pic0 cI h0 a0 u on) [0, 1, 2, 3, 4, 5, 6, 7] rfl) rfl rfl) rfl rfl hl.1 rfl (lv_room (Nat.le_of_ble_eq_true rfl)) dL_law_654 ⟨show C + 0 ≤ 754895 by omega, show Sl + 0 ≤ 6836784 by omega⟩) (fun r hr9 => ?_)
      subst hr9
      refine lv_istore (lv' := [(14, .int (fSp u (mRate u))), (0, .ref b), (1, .ref h0), (2, .ref h1), (3, .int (nI tm)), (4, .int x0), (5, .long (fDig u)), (7, .int (nI (mNow u))), (11, .int (nI (ct (awB u) 360))), (12, .int (fBG u))]) hx hb dL_law_657 hl (by decide) rfl (fun ls hl => ?_)
      refine lv_aload_n hx hb dL_law_659 rfl (lv_at hl 2 rfl) ?_
      refine vp_callSi (W.runV (As := []) (rest := []) ⟨hx, hb, hml, hown, hts⟩ (c_X0_spiltAtEnd l D cI h0 a0 u on hI hO) (cwV 0 hts gL_law_X0_spiltAtEnd rfl rfl rfl (by decide +kernel) ⟨Nat.le_of_ble_eq_true rfl, Nat.le_of_ble_eq_true rfl⟩) (pu_pre (hK.sub (tys' := [(cI, .int)]) [0] rfl) (hP.sub (ws' := pic0 cI h0 a0 u on) [0, 1, 2, 3, 4, 5, 6, 7] rfl) rfl rfl) rfl rfl hl.1 rfl (lv_room (Nat.le_of_ble_eq_true rfl)) dL_law_660 ⟨show C + 0 ≤ 754895 by omega, show Sl + 0 ≤ 6836784 by omega⟩) (fun r hr9 => ?_)
      subst hr9
      rw [hE2]
      refine lv_istore (lv' := [(15, .int (nI (S9 + E9))), (14, .int (fSp u (mRate u))), (0, .ref b), (1, .ref h0), (2, .ref h1), (3, .int (nI tm)), (4, .int x0), (5, .long (fDig u)), (7, .int (nI (mNow u))), (11, .int (nI (ct (awB u) 360))), (12, .int (fBG u))]) hx hb dL_law_663 hl (by decide) rfl (fun ls hl => ?_)
      refine lv_aload_n hx hb dL_law_665 rfl (lv_at hl 3 rfl) ?_
      refine vp_callSi (W.runV (As := []) (rest := []) ⟨hx, hb, hml, hown, hts⟩ (c_X0_safeRate l D cI h0 a0 u on hI hO) (cwV 0 hts gL_law_X0_safeRate rfl rfl rfl (by decide +kernel) ⟨Nat.le_of_ble_eq_true rfl, Nat.le_of_ble_eq_true rfl⟩) (pu_pre (hK.sub (tys' := [(cI, .int)]) [0] rfl) (hP.sub (ws' := pic0 cI h0 a0 u on) [0, 1, 2, 3, 4, 5, 6, 7] rfl) rfl rfl) rfl rfl hl.1 rfl (lv_room (Nat.le_of_ble_eq_true rfl)) dL_law_666 ⟨show C + 0 ≤ 754895 by omega, show Sl + 0 ≤ 6836784 by omega⟩) (fun r hr9 => ?_)
      subst hr9
      refine lv_istore (lv' := [(16, .int (nI (sfF u 9))), (15, .int (nI (S9 + E9))), (14, .int (fSp u (mRate u))), (0, .ref b), (1, .ref h0), (2, .ref h1), (3, .int (nI tm)), (4, .int x0), (5, .long (fDig u)), (7, .int (nI (mNow u))), (11, .int (nI (ct (awB u) 360))), (12, .int (fBG u))]) hx hb dL_law_669 hl (by decide) rfl (fun ls hl => ?_)
      refine lv_iload hx hb dL_law_671 (lv_at hl 11 rfl) ?_
      rw [eU]
      refine lv_if_ge (tgt := 680) hx hb dL_law_673 (by decide) (fun c_673 => ?_) (fun c_673 => ?_)
      · skip
        replace c_673 : 0 ≤ j8 := leN c_673
        refine lv_iconst (v := nI 0) hx hb dL_law_680 (by decide +kernel) ?_
        refine lv_aload_n hx hb dL_law_681 rfl (lv_at hl 4 rfl) ?_
        refine vp_callSi (W.runV (As := []) (rest := [.int (nI 0)]) ⟨hx, hb, hml, hown, hts⟩ (c_X0_naps l D cI h0 a0 u on ) (cwV 0 hts gL_law_X0_naps rfl rfl rfl (by decide +kernel) ⟨Nat.le_of_ble_eq_true rfl, Nat.le_of_ble_eq_true rfl⟩) (pu_pre (hK.sub (tys' := [(cI, .int)]) [0] rfl) (hP.sub (ws' := pic0 cI h0 a0 u on) [0, 1, 2, 3, 4, 5, 6, 7] rfl) rfl rfl) rfl rfl hl.1 rfl (lv_room (Nat.le_of_ble_eq_true rfl)) dL_law_682 ⟨show C + 0 ≤ 754895 by omega, show Sl + 0 ≤ 6836784 by omega⟩) (fun r hr9 => ?_)
        subst hr9
        refine lv_if_ne (tgt := 692) hx hb dL_law_685 (by decide) (fun c_685 => ?_) (fun c_685 => ?_)
        · skip
          replace c_685 : (mNc u) ≠ 0 := neN c_685
          refine lv_iconst (v := nI 0) hx hb dL_law_692 (by decide +kernel) ?_
          refine lv_icmp_ne (tgt := 820) hx hb dL_law_693 (by decide) (fun c_693 => ?_) (fun c_693 => ?_)
          · skip
            replace c_693 : 0 ≠ 0 := neN c_693
            exact (by omega : False).elim
          · skip
            replace c_693 : 0 = 0 := eN c_693
            refine lv_aload_n hx hb dL_law_696 rfl (lv_at hl 4 rfl) ?_
            refine vp_callSi (W.runV (As := []) (rest := []) ⟨hx, hb, hml, hown, hts⟩ (c_X0_tea l D cI h0 a0 u on ) (cwV 0 hts gL_law_X0_tea rfl rfl rfl (by decide +kernel) ⟨Nat.le_of_ble_eq_true rfl, Nat.le_of_ble_eq_true rfl⟩) (pu_pre (hK.sub (tys' := [(cI, .int)]) [0] rfl) (hP.sub (ws' := pic0 cI h0 a0 u on) [0, 1, 2, 3, 4, 5, 6, 7] rfl) rfl rfl) rfl rfl hl.1 rfl (lv_room (Nat.le_of_ble_eq_true rfl)) dL_law_697 ⟨show C + 0 ≤ 754895 by omega, show Sl + 0 ≤ 6836784 by omega⟩) (fun r hr9 => ?_)
            subst hr9
            refine lv_aload_n hx hb dL_law_700 rfl (lv_at hl 5 rfl) ?_
            refine va_get (D := D) (ci := 1) (v := .int (nI (mRoom u))) (C := RX1) (T := TX1) (N := 10) hx hb hts hin hown hK hP 8 rfl rfl 3 (by decide) (hts (.fieldLink RL 59 "AfternoonMeterLaw$Sim" "room" "I") (List.mem_of_getElem? (i := 11) rfl)) (fun _ h9 => h9) rfl dL_law_701 ?_
            refine lv_icmp_gt (tgt := 820) hx hb dL_law_704 (by decide) (fun c_704 => ?_) (fun c_704 => ?_)
            · skip
              replace c_704 : (mRoom u) < (mTea u) := ltN c_704
              exact (by omega : False).elim
            · skip
              replace c_704 : (mTea u) ≤ (mRoom u) := nltN c_704
              refine lv_aload_n hx hb dL_law_707 rfl (lv_at hl 4 rfl) ?_
              refine vp_callSi (W.runV (As := []) (rest := []) ⟨hx, hb, hml, hown, hts⟩ (c_X0_tea l D cI h0 a0 u on ) (cwV 0 hts gL_law_X0_tea rfl rfl rfl (by decide +kernel) ⟨Nat.le_of_ble_eq_true rfl, Nat.le_of_ble_eq_true rfl⟩) (pu_pre (hK.sub (tys' := [(cI, .int)]) [0] rfl) (hP.sub (ws' := pic0 cI h0 a0 u on) [0, 1, 2, 3, 4, 5, 6, 7] rfl) rfl rfl) rfl rfl hl.1 rfl (lv_room (Nat.le_of_ble_eq_true rfl)) dL_law_708 ⟨show C + 0 ≤ 754895 by omega, show Sl + 0 ≤ 6836784 by omega⟩) (fun r hr9 => ?_)
              subst hr9
              refine lv_if_lt (tgt := 820) hx hb dL_law_711 (by decide) (fun c_711 => ?_) (fun c_711 => ?_)
              · skip
                replace c_711 : (mTea u) < 0 := ltN c_711
                exact (by omega : False).elim
              · skip
                replace c_711 : 0 ≤ (mTea u) := nltN c_711
                refine lv_iload hx hb dL_law_714 (lv_at hl 1 rfl) ?_
                refine lv_aload_n hx hb dL_law_716 rfl (lv_at hl 4 rfl) ?_
                refine vp_callSi (W.runV (As := []) (rest := [.int (nI (S9 + E9))]) ⟨hx, hb, hml, hown, hts⟩ (c_X0_spilt l D cI h0 a0 u on ) (cwV 0 hts gL_law_X0_spilt rfl rfl rfl (by decide +kernel) ⟨Nat.le_of_ble_eq_true rfl, Nat.le_of_ble_eq_true rfl⟩) (pu_pre (hK.sub (tys' := [(cI, .int)]) [0] rfl) (hP.sub (ws' := pic0 cI h0 a0 u on) [0, 1, 2, 3, 4, 5, 6, 7] rfl) rfl rfl) rfl rfl hl.1 rfl (lv_room (Nat.le_of_ble_eq_true rfl)) dL_law_717 ⟨show C + 0 ≤ 754895 by omega, show Sl + 0 ≤ 6836784 by omega⟩) (fun r hr9 => ?_)
                subst hr9
                rw [eS9]
                refine lv_icmp_lt (tgt := 820) hx hb dL_law_720 (by decide) (fun c_720 => ?_) (fun c_720 => ?_)
                · skip
                  replace c_720 : (S9 + E9) < S9 := ltN c_720
                  exact (by omega : False).elim
                · skip
                  replace c_720 : S9 ≤ (S9 + E9) := nltN c_720
                  refine lv_iload hx hb dL_law_723 (lv_at hl 2 rfl) ?_
                  rw [eP]
                  refine lv_if_ge (tgt := 732) hx hb dL_law_725 (by decide) (fun c_725 => ?_) (fun c_725 => ?_)
                  · skip
                    exact ((absurd c_725 (by decide +kernel) : False)).elim
                  · skip
                    refine lv_iconst (v := nI 1) hx hb dL_law_728 (by decide +kernel) ?_
                    refine lv_goto (tgt := 733) hx hb dL_law_729 (by decide) ?_
                    refine lv_iload hx hb dL_law_733 (lv_at hl 1 rfl) ?_
                    refine lv_aload_n hx hb dL_law_735 rfl (lv_at hl 4 rfl) ?_
                    refine vp_callSi (W.runV (As := []) (rest := [.int (nI (S9 + E9)), .int (nI 1)]) ⟨hx, hb, hml, hown, hts⟩ (c_X0_spilt l D cI h0 a0 u on ) (cwV 0 hts gL_law_X0_spilt rfl rfl rfl (by decide +kernel) ⟨Nat.le_of_ble_eq_true rfl, Nat.le_of_ble_eq_true rfl⟩) (pu_pre (hK.sub (tys' := [(cI, .int)]) [0] rfl) (hP.sub (ws' := pic0 cI h0 a0 u on) [0, 1, 2, 3, 4, 5, 6, 7] rfl) rfl rfl) rfl rfl hl.1 rfl (lv_room (Nat.le_of_ble_eq_true rfl)) dL_law_736 ⟨show C + 0 ≤ 754895 by omega, show Sl + 0 ≤ 6836784 by omega⟩) (fun r hr9 => ?_)
                    subst hr9
                    rw [eS9]
                    refine lv_icmp_ne (tgt := 746) hx hb dL_law_739 (by decide) (fun c_739 => ?_) (fun c_739 => ?_)
                    · skip
                      replace c_739 : (S9 + E9) ≠ S9 := neN c_739
                      exact (by omega : False).elim
                    · skip
                      replace c_739 : (S9 + E9) = S9 := eN c_739
                      refine lv_iconst (v := nI 1) hx hb dL_law_742 (by decide +kernel) ?_
                      refine lv_goto (tgt := 747) hx hb dL_law_743 (by decide) ?_
                      refine lv_icmp_ne (tgt := 820) hx hb dL_law_747 (by decide) (fun c_747 => ?_) (fun c_747 => ?_)
                      · skip
                        replace c_747 : 1 ≠ 1 := neN c_747
                        exact (by omega : False).elim
                      · skip
                        replace c_747 : 1 = 1 := eN c_747
                        refine lv_iload hx hb dL_law_750 (lv_at hl 2 rfl) ?_
                        rw [eP]
                        refine lv_if_lt (tgt := 771) hx hb dL_law_752 (by decide) (fun c_752 => ?_) (fun c_752 => ?_)
                        · skip
                          refine lv_iload hx hb dL_law_771 (lv_at hl 0 rfl) ?_
                          refine lv_if_lt (tgt := 820) hx hb dL_law_773 (by decide) (fun c_773 => ?_) (fun c_773 => ?_)
                          · skip
                            replace c_773 : (sfF u 9) < 0 := ltN c_773
                            exact (by omega : False).elim
                          · skip
                            replace c_773 : 0 ≤ (sfF u 9) := nltN c_773
                            refine lv_iload hx hb dL_law_776 (lv_at hl 0 rfl) ?_
                            refine lv_bipush (v := nI 9) hx hb dL_law_778 (by decide +kernel) ?_
                            refine lv_icmp_gt (tgt := 820) hx hb dL_law_780 (by decide) (fun c_780 => ?_) (fun c_780 => ?_)
                            · skip
                              replace c_780 : 9 < (sfF u 9) := ltN c_780
                              exact (by omega : False).elim
                            · skip
                              replace c_780 : (sfF u 9) ≤ 9 := nltN c_780
                              refine lv_aload_n hx hb dL_law_783 rfl (lv_at hl 5 rfl) ?_
                              refine va_get (D := D) (ci := 1) (v := .int (nI (mRate u))) (C := RX1) (T := TX1) (N := 10) hx hb hts hin hown hK hP 8 rfl rfl 4 (by decide) (hts (.fieldLink RL 63 "AfternoonMeterLaw$Sim" "rate" "I") (List.mem_of_getElem? (i := 12) rfl)) (fun _ h9 => h9) rfl dL_law_784 ?_
                              refine lv_iload hx hb dL_law_787 (lv_at hl 0 rfl) ?_
                              refine lv_icmp_gt (tgt := 796) hx hb dL_law_789 (by decide) (fun c_789 => ?_) (fun c_789 => ?_)
                              · skip
                                replace c_789 : (sfF u 9) < (mRate u) := ltN c_789
                                exact (by omega : False).elim
                              · skip
                                replace c_789 : (mRate u) ≤ (sfF u 9) := nltN c_789
                                refine lv_iconst (v := nI 1) hx hb dL_law_792 (by decide +kernel) ?_
                                refine lv_goto (tgt := 797) hx hb dL_law_793 (by decide) ?_
                                refine lv_iload hx hb dL_law_797 (lv_at hl 2 rfl) ?_
                                rw [eP]
                                refine lv_if_ge (tgt := 806) hx hb dL_law_799 (by decide) (fun c_799 => ?_) (fun c_799 => ?_)
                                · skip
                                  exact ((absurd c_799 (by decide +kernel) : False)).elim
                                · skip
                                  refine lv_iconst (v := nI 1) hx hb dL_law_802 (by decide +kernel) ?_
                                  refine lv_goto (tgt := 807) hx hb dL_law_803 (by decide) ?_
                                  refine lv_icmp_ne (tgt := 820) hx hb dL_law_807 (by decide) (fun c_807 => ?_) (fun c_807 => ?_)
                                  · skip
                                    replace c_807 : 1 ≠ 1 := neN c_807
                                    exact (by omega : False).elim
                                  · skip
                                    replace c_807 : 1 = 1 := eN c_807
                                    refine lv_aload_n hx hb dL_law_810 rfl (lv_at hl 4 rfl) ?_
                                    refine vp_callSl (W.runV (As := []) (rest := []) ⟨hx, hb, hml, hown, hts⟩ (c_X0_digest l D cI h0 a0 u on hI hO) (cwV 0 hts gL_law_X0_digest rfl rfl rfl (by decide +kernel) ⟨Nat.le_of_ble_eq_true rfl, Nat.le_of_ble_eq_true rfl⟩) (pu_pre (hK.sub (tys' := [(cI, .int)]) [0] rfl) (hP.sub (ws' := pic0 cI h0 a0 u on) [0, 1, 2, 3, 4, 5, 6, 7] rfl) rfl rfl) rfl rfl hl.1 rfl (lv_room (Nat.le_of_ble_eq_true rfl)) dL_law_811 ⟨show C + 0 ≤ 754895 by omega, show Sl + 0 ≤ 6836784 by omega⟩) (fun r hr9 => ?_)
                                    subst hr9
                                    refine lv_lload hx hb dL_law_814 (lv_at hl 8 rfl) ?_
                                    refine W.lcmp hx hb dL_law_816 ?_
                                    refine lv_if_eq (tgt := 822) hx hb dL_law_817 (by decide) (fun c_817 => ?_) (fun c_817 => ?_)
                                    · skip
                                      exact kk _ (lv_sub hl [3, 4, 5, 6, 7, 8, 9, 10, 11, 2, 0] rfl)
                                    · skip
                                      exact (c_817 lcmp_self).elim
                        · skip
                          exact (c_752 (by decide +kernel)).elim
        · skip
          replace c_685 : (mNc u) = 0 := eN c_685
          exact (by omega : False).elim
      · skip
        replace c_673 : j8 < 0 := nleN c_673
        exact (by omega : False).elim
    · skip
      have hE4 : ¬ E9 = 0 := fun z => nI_m1 (by omega) (eP.symm.trans (hE3.mp z))
      have hs4 : ¬ mRate u ≤ sfF u 9 := fun z => nI_m1 (by omega) (eP.symm.trans (hsi.mp z))
      refine lv_aload_n hx hb dL_law_653 rfl (lv_at hl 1 rfl) ?_
      refine vp_callSi (W.runV (As := []) (rest := []) ⟨hx, hb, hml, hown, hts⟩ (c_X0_minuteOfSpill l D cI h0 a0 u on hI hO) (cwV 0 hts gL_law_X0_minuteOfSpill rfl rfl rfl (by decide +kernel) ⟨Nat.le_of_ble_eq_true rfl, Nat.le_of_ble_eq_true rfl⟩) (pu_pre (hK.sub (tys' := [(cI, .int)]) [0] rfl) (hP.sub (ws' := pic0 cI h0 a0 u on) [0, 1, 2, 3, 4, 5, 6, 7] rfl) rfl rfl) rfl rfl hl.1 rfl (lv_room (Nat.le_of_ble_eq_true rfl)) dL_law_654 ⟨show C + 0 ≤ 754895 by omega, show Sl + 0 ≤ 6836784 by omega⟩) (fun r hr9 => ?_)
      subst hr9
      refine lv_istore (lv' := [(14, .int (fSp u (mRate u))), (0, .ref b), (1, .ref h0), (2, .ref h1), (3, .int (nI tm)), (4, .int x0), (5, .long (fDig u)), (7, .int (nI (mNow u))), (11, .int (nI (ct (awB u) 360))), (12, .int (fBG u))]) hx hb dL_law_657 hl (by decide) rfl (fun ls hl => ?_)
      refine lv_aload_n hx hb dL_law_659 rfl (lv_at hl 2 rfl) ?_
      refine vp_callSi (W.runV (As := []) (rest := []) ⟨hx, hb, hml, hown, hts⟩ (c_X0_spiltAtEnd l D cI h0 a0 u on hI hO) (cwV 0 hts gL_law_X0_spiltAtEnd rfl rfl rfl (by decide +kernel) ⟨Nat.le_of_ble_eq_true rfl, Nat.le_of_ble_eq_true rfl⟩) (pu_pre (hK.sub (tys' := [(cI, .int)]) [0] rfl) (hP.sub (ws' := pic0 cI h0 a0 u on) [0, 1, 2, 3, 4, 5, 6, 7] rfl) rfl rfl) rfl rfl hl.1 rfl (lv_room (Nat.le_of_ble_eq_true rfl)) dL_law_660 ⟨show C + 0 ≤ 754895 by omega, show Sl + 0 ≤ 6836784 by omega⟩) (fun r hr9 => ?_)
      subst hr9
      rw [hE2]
      refine lv_istore (lv' := [(15, .int (nI (S9 + E9))), (14, .int (fSp u (mRate u))), (0, .ref b), (1, .ref h0), (2, .ref h1), (3, .int (nI tm)), (4, .int x0), (5, .long (fDig u)), (7, .int (nI (mNow u))), (11, .int (nI (ct (awB u) 360))), (12, .int (fBG u))]) hx hb dL_law_663 hl (by decide) rfl (fun ls hl => ?_)
      refine lv_aload_n hx hb dL_law_665 rfl (lv_at hl 3 rfl) ?_
      refine vp_callSi (W.runV (As := []) (rest := []) ⟨hx, hb, hml, hown, hts⟩ (c_X0_safeRate l D cI h0 a0 u on hI hO) (cwV 0 hts gL_law_X0_safeRate rfl rfl rfl (by decide +kernel) ⟨Nat.le_of_ble_eq_true rfl, Nat.le_of_ble_eq_true rfl⟩) (pu_pre (hK.sub (tys' := [(cI, .int)]) [0] rfl) (hP.sub (ws' := pic0 cI h0 a0 u on) [0, 1, 2, 3, 4, 5, 6, 7] rfl) rfl rfl) rfl rfl hl.1 rfl (lv_room (Nat.le_of_ble_eq_true rfl)) dL_law_666 ⟨show C + 0 ≤ 754895 by omega, show Sl + 0 ≤ 6836784 by omega⟩) (fun r hr9 => ?_)
      subst hr9
      refine lv_istore (lv' := [(16, .int (nI (sfF u 9))), (15, .int (nI (S9 + E9))), (14, .int (fSp u (mRate u))), (0, .ref b), (1, .ref h0), (2, .ref h1), (3, .int (nI tm)), (4, .int x0), (5, .long (fDig u)), (7, .int (nI (mNow u))), (11, .int (nI (ct (awB u) 360))), (12, .int (fBG u))]) hx hb dL_law_669 hl (by decide) rfl (fun ls hl => ?_)
      refine lv_iload hx hb dL_law_671 (lv_at hl 11 rfl) ?_
      rw [eU]
      refine lv_if_ge (tgt := 680) hx hb dL_law_673 (by decide) (fun c_673 => ?_) (fun c_673 => ?_)
      · skip
        replace c_673 : 0 ≤ j8 := leN c_673
        refine lv_iconst (v := nI 0) hx hb dL_law_680 (by decide +kernel) ?_
        refine lv_aload_n hx hb dL_law_681 rfl (lv_at hl 4 rfl) ?_
        refine vp_callSi (W.runV (As := []) (rest := [.int (nI 0)]) ⟨hx, hb, hml, hown, hts⟩ (c_X0_naps l D cI h0 a0 u on ) (cwV 0 hts gL_law_X0_naps rfl rfl rfl (by decide +kernel) ⟨Nat.le_of_ble_eq_true rfl, Nat.le_of_ble_eq_true rfl⟩) (pu_pre (hK.sub (tys' := [(cI, .int)]) [0] rfl) (hP.sub (ws' := pic0 cI h0 a0 u on) [0, 1, 2, 3, 4, 5, 6, 7] rfl) rfl rfl) rfl rfl hl.1 rfl (lv_room (Nat.le_of_ble_eq_true rfl)) dL_law_682 ⟨show C + 0 ≤ 754895 by omega, show Sl + 0 ≤ 6836784 by omega⟩) (fun r hr9 => ?_)
        subst hr9
        refine lv_if_ne (tgt := 692) hx hb dL_law_685 (by decide) (fun c_685 => ?_) (fun c_685 => ?_)
        · skip
          replace c_685 : (mNc u) ≠ 0 := neN c_685
          refine lv_iconst (v := nI 0) hx hb dL_law_692 (by decide +kernel) ?_
          refine lv_icmp_ne (tgt := 820) hx hb dL_law_693 (by decide) (fun c_693 => ?_) (fun c_693 => ?_)
          · skip
            replace c_693 : 0 ≠ 0 := neN c_693
            exact (by omega : False).elim
          · skip
            replace c_693 : 0 = 0 := eN c_693
            refine lv_aload_n hx hb dL_law_696 rfl (lv_at hl 4 rfl) ?_
            refine vp_callSi (W.runV (As := []) (rest := []) ⟨hx, hb, hml, hown, hts⟩ (c_X0_tea l D cI h0 a0 u on ) (cwV 0 hts gL_law_X0_tea rfl rfl rfl (by decide +kernel) ⟨Nat.le_of_ble_eq_true rfl, Nat.le_of_ble_eq_true rfl⟩) (pu_pre (hK.sub (tys' := [(cI, .int)]) [0] rfl) (hP.sub (ws' := pic0 cI h0 a0 u on) [0, 1, 2, 3, 4, 5, 6, 7] rfl) rfl rfl) rfl rfl hl.1 rfl (lv_room (Nat.le_of_ble_eq_true rfl)) dL_law_697 ⟨show C + 0 ≤ 754895 by omega, show Sl + 0 ≤ 6836784 by omega⟩) (fun r hr9 => ?_)
            subst hr9
            refine lv_aload_n hx hb dL_law_700 rfl (lv_at hl 5 rfl) ?_
            refine va_get (D := D) (ci := 1) (v := .int (nI (mRoom u))) (C := RX1) (T := TX1) (N := 10) hx hb hts hin hown hK hP 8 rfl rfl 3 (by decide) (hts (.fieldLink RL 59 "AfternoonMeterLaw$Sim" "room" "I") (List.mem_of_getElem? (i := 11) rfl)) (fun _ h9 => h9) rfl dL_law_701 ?_
            refine lv_icmp_gt (tgt := 820) hx hb dL_law_704 (by decide) (fun c_704 => ?_) (fun c_704 => ?_)
            · skip
              replace c_704 : (mRoom u) < (mTea u) := ltN c_704
              exact (by omega : False).elim
            · skip
              replace c_704 : (mTea u) ≤ (mRoom u) := nltN c_704
              refine lv_aload_n hx hb dL_law_707 rfl (lv_at hl 4 rfl) ?_
              refine vp_callSi (W.runV (As := []) (rest := []) ⟨hx, hb, hml, hown, hts⟩ (c_X0_tea l D cI h0 a0 u on ) (cwV 0 hts gL_law_X0_tea rfl rfl rfl (by decide +kernel) ⟨Nat.le_of_ble_eq_true rfl, Nat.le_of_ble_eq_true rfl⟩) (pu_pre (hK.sub (tys' := [(cI, .int)]) [0] rfl) (hP.sub (ws' := pic0 cI h0 a0 u on) [0, 1, 2, 3, 4, 5, 6, 7] rfl) rfl rfl) rfl rfl hl.1 rfl (lv_room (Nat.le_of_ble_eq_true rfl)) dL_law_708 ⟨show C + 0 ≤ 754895 by omega, show Sl + 0 ≤ 6836784 by omega⟩) (fun r hr9 => ?_)
              subst hr9
              refine lv_if_lt (tgt := 820) hx hb dL_law_711 (by decide) (fun c_711 => ?_) (fun c_711 => ?_)
              · skip
                replace c_711 : (mTea u) < 0 := ltN c_711
                exact (by omega : False).elim
              · skip
                replace c_711 : 0 ≤ (mTea u) := nltN c_711
                refine lv_iload hx hb dL_law_714 (lv_at hl 1 rfl) ?_
                refine lv_aload_n hx hb dL_law_716 rfl (lv_at hl 4 rfl) ?_
                refine vp_callSi (W.runV (As := []) (rest := [.int (nI (S9 + E9))]) ⟨hx, hb, hml, hown, hts⟩ (c_X0_spilt l D cI h0 a0 u on ) (cwV 0 hts gL_law_X0_spilt rfl rfl rfl (by decide +kernel) ⟨Nat.le_of_ble_eq_true rfl, Nat.le_of_ble_eq_true rfl⟩) (pu_pre (hK.sub (tys' := [(cI, .int)]) [0] rfl) (hP.sub (ws' := pic0 cI h0 a0 u on) [0, 1, 2, 3, 4, 5, 6, 7] rfl) rfl rfl) rfl rfl hl.1 rfl (lv_room (Nat.le_of_ble_eq_true rfl)) dL_law_717 ⟨show C + 0 ≤ 754895 by omega, show Sl + 0 ≤ 6836784 by omega⟩) (fun r hr9 => ?_)
                subst hr9
                rw [eS9]
                refine lv_icmp_lt (tgt := 820) hx hb dL_law_720 (by decide) (fun c_720 => ?_) (fun c_720 => ?_)
                · skip
                  replace c_720 : (S9 + E9) < S9 := ltN c_720
                  exact (by omega : False).elim
                · skip
                  replace c_720 : S9 ≤ (S9 + E9) := nltN c_720
                  refine lv_iload hx hb dL_law_723 (lv_at hl 2 rfl) ?_
                  rw [eP]
                  refine lv_if_ge (tgt := 732) hx hb dL_law_725 (by decide) (fun c_725 => ?_) (fun c_725 => ?_)
                  · skip
                    replace c_725 : 0 ≤ T9 := leN c_725
                    refine lv_iconst (v := nI 0) hx hb dL_law_732 (by decide +kernel) ?_
                    refine lv_iload hx hb dL_law_733 (lv_at hl 1 rfl) ?_
                    refine lv_aload_n hx hb dL_law_735 rfl (lv_at hl 4 rfl) ?_
                    refine vp_callSi (W.runV (As := []) (rest := [.int (nI (S9 + E9)), .int (nI 0)]) ⟨hx, hb, hml, hown, hts⟩ (c_X0_spilt l D cI h0 a0 u on ) (cwV 0 hts gL_law_X0_spilt rfl rfl rfl (by decide +kernel) ⟨Nat.le_of_ble_eq_true rfl, Nat.le_of_ble_eq_true rfl⟩) (pu_pre (hK.sub (tys' := [(cI, .int)]) [0] rfl) (hP.sub (ws' := pic0 cI h0 a0 u on) [0, 1, 2, 3, 4, 5, 6, 7] rfl) rfl rfl) rfl rfl hl.1 rfl (lv_room (Nat.le_of_ble_eq_true rfl)) dL_law_736 ⟨show C + 0 ≤ 754895 by omega, show Sl + 0 ≤ 6836784 by omega⟩) (fun r hr9 => ?_)
                    subst hr9
                    rw [eS9]
                    refine lv_icmp_ne (tgt := 746) hx hb dL_law_739 (by decide) (fun c_739 => ?_) (fun c_739 => ?_)
                    · skip
                      replace c_739 : (S9 + E9) ≠ S9 := neN c_739
                      refine lv_iconst (v := nI 0) hx hb dL_law_746 (by decide +kernel) ?_
                      refine lv_icmp_ne (tgt := 820) hx hb dL_law_747 (by decide) (fun c_747 => ?_) (fun c_747 => ?_)
                      · skip
                        replace c_747 : 0 ≠ 0 := neN c_747
                        exact (by omega : False).elim
                      · skip
                        replace c_747 : 0 = 0 := eN c_747
                        refine lv_iload hx hb dL_law_750 (lv_at hl 2 rfl) ?_
                        rw [eP]
                        refine lv_if_lt (tgt := 771) hx hb dL_law_752 (by decide) (fun c_752 => ?_) (fun c_752 => ?_)
                        · skip
                          replace c_752 : T9 < 0 := ltN c_752
                          exact (by omega : False).elim
                        · skip
                          replace c_752 : 0 ≤ T9 := nltN c_752
                          refine lv_iload hx hb dL_law_755 (lv_at hl 2 rfl) ?_
                          rw [eP]
                          refine lv_iload hx hb dL_law_757 (lv_at hl 9 rfl) ?_
                          refine lv_icmp_lt (tgt := 820) hx hb dL_law_759 (by decide) (fun c_759 => ?_) (fun c_759 => ?_)
                          · skip
                            replace c_759 : T9 < (mNow u) := ltN c_759
                            exact (by omega : False).elim
                          · skip
                            replace c_759 : (mNow u) ≤ T9 := nltN c_759
                            refine lv_aload_n hx hb dL_law_762 rfl (lv_at hl 4 rfl) ?_
                            refine lv_iload hx hb dL_law_763 (lv_at hl 2 rfl) ?_
                            rw [eP]
                            refine vp_callSi (W.runV (As := [.int (nI T9)]) (rest := []) ⟨hx, hb, hml, hown, hts⟩ (c_X0_isAsleep l D cI h0 a0 u on T9 hI (by omega)) (cwV 1 hts gL_law_X0_isAsleep rfl rfl rfl (by decide +kernel) ⟨Nat.le_of_ble_eq_true rfl, Nat.le_of_ble_eq_true rfl⟩) (pu_pre (hK.sub (tys' := [(cI, .int)]) [0] rfl) (hP.sub (ws' := pic0 cI h0 a0 u on) [0, 1, 2, 3, 4, 5, 6, 7] rfl) rfl rfl) rfl rfl hl.1 rfl (lv_room (Nat.le_of_ble_eq_true rfl)) dL_law_765 ⟨show C + 0 ≤ 754895 by omega, show Sl + 0 ≤ 6836784 by omega⟩) (fun r hr9 => ?_)
                            subst hr9
                            refine lv_if_ne (tgt := 820) hx hb dL_law_768 (by decide) (fun c_768 => ?_) (fun c_768 => ?_)
                            · skip
                              replace c_768 : (decide (0 < cN u T9)) = true := bI_ne0 c_768
                              exact ((show False from by have h8 := of_decide_eq_true c_768; omega)).elim
                            · skip
                              replace c_768 : (decide (0 < cN u T9)) = false := bI_eq0 c_768
                              refine lv_iload hx hb dL_law_771 (lv_at hl 0 rfl) ?_
                              refine lv_if_lt (tgt := 820) hx hb dL_law_773 (by decide) (fun c_773 => ?_) (fun c_773 => ?_)
                              · skip
                                replace c_773 : (sfF u 9) < 0 := ltN c_773
                                exact (by omega : False).elim
                              · skip
                                replace c_773 : 0 ≤ (sfF u 9) := nltN c_773
                                refine lv_iload hx hb dL_law_776 (lv_at hl 0 rfl) ?_
                                refine lv_bipush (v := nI 9) hx hb dL_law_778 (by decide +kernel) ?_
                                refine lv_icmp_gt (tgt := 820) hx hb dL_law_780 (by decide) (fun c_780 => ?_) (fun c_780 => ?_)
                                · skip
                                  replace c_780 : 9 < (sfF u 9) := ltN c_780
                                  exact (by omega : False).elim
                                · skip
                                  replace c_780 : (sfF u 9) ≤ 9 := nltN c_780
                                  refine lv_aload_n hx hb dL_law_783 rfl (lv_at hl 5 rfl) ?_
                                  refine va_get (D := D) (ci := 1) (v := .int (nI (mRate u))) (C := RX1) (T := TX1) (N := 10) hx hb hts hin hown hK hP 8 rfl rfl 4 (by decide) (hts (.fieldLink RL 63 "AfternoonMeterLaw$Sim" "rate" "I") (List.mem_of_getElem? (i := 12) rfl)) (fun _ h9 => h9) rfl dL_law_784 ?_
                                  refine lv_iload hx hb dL_law_787 (lv_at hl 0 rfl) ?_
                                  refine lv_icmp_gt (tgt := 796) hx hb dL_law_789 (by decide) (fun c_789 => ?_) (fun c_789 => ?_)
                                  · skip
                                    replace c_789 : (sfF u 9) < (mRate u) := ltN c_789
                                    refine lv_iconst (v := nI 0) hx hb dL_law_796 (by decide +kernel) ?_
                                    refine lv_iload hx hb dL_law_797 (lv_at hl 2 rfl) ?_
                                    rw [eP]
                                    refine lv_if_ge (tgt := 806) hx hb dL_law_799 (by decide) (fun c_799 => ?_) (fun c_799 => ?_)
                                    · skip
                                      replace c_799 : 0 ≤ T9 := leN c_799
                                      refine lv_iconst (v := nI 0) hx hb dL_law_806 (by decide +kernel) ?_
                                      refine lv_icmp_ne (tgt := 820) hx hb dL_law_807 (by decide) (fun c_807 => ?_) (fun c_807 => ?_)
                                      · skip
                                        replace c_807 : 0 ≠ 0 := neN c_807
                                        exact (by omega : False).elim
                                      · skip
                                        replace c_807 : 0 = 0 := eN c_807
                                        refine lv_aload_n hx hb dL_law_810 rfl (lv_at hl 4 rfl) ?_
                                        refine vp_callSl (W.runV (As := []) (rest := []) ⟨hx, hb, hml, hown, hts⟩ (c_X0_digest l D cI h0 a0 u on hI hO) (cwV 0 hts gL_law_X0_digest rfl rfl rfl (by decide +kernel) ⟨Nat.le_of_ble_eq_true rfl, Nat.le_of_ble_eq_true rfl⟩) (pu_pre (hK.sub (tys' := [(cI, .int)]) [0] rfl) (hP.sub (ws' := pic0 cI h0 a0 u on) [0, 1, 2, 3, 4, 5, 6, 7] rfl) rfl rfl) rfl rfl hl.1 rfl (lv_room (Nat.le_of_ble_eq_true rfl)) dL_law_811 ⟨show C + 0 ≤ 754895 by omega, show Sl + 0 ≤ 6836784 by omega⟩) (fun r hr9 => ?_)
                                        subst hr9
                                        refine lv_lload hx hb dL_law_814 (lv_at hl 8 rfl) ?_
                                        refine W.lcmp hx hb dL_law_816 ?_
                                        refine lv_if_eq (tgt := 822) hx hb dL_law_817 (by decide) (fun c_817 => ?_) (fun c_817 => ?_)
                                        · skip
                                          exact kk _ (lv_sub hl [3, 4, 5, 6, 7, 8, 9, 10, 11, 2, 0] rfl)
                                        · skip
                                          exact (c_817 lcmp_self).elim
                                    · skip
                                      replace c_799 : T9 < 0 := nleN c_799
                                      exact (by omega : False).elim
                                  · skip
                                    replace c_789 : (mRate u) ≤ (sfF u 9) := nltN c_789
                                    exact (by omega : False).elim
                    · skip
                      replace c_739 : (S9 + E9) = S9 := eN c_739
                      exact (by omega : False).elim
                  · skip
                    replace c_725 : T9 < 0 := nleN c_725
                    exact (by omega : False).elim
        · skip
          replace c_685 : (mNc u) = 0 := eN c_685
          exact (by omega : False).elim
      · skip
        replace c_673 : j8 < 0 := nleN c_673
        exact (by omega : False).elim
