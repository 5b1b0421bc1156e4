set_option maxHeartbeats 8000000 in
set_option maxRecDepth 100000 in
theorem c_X1_isSame (l : Launch) (D : va_G) (cI cR : ClassId) (h0 h1 : Nat) (a0 a1 nr br : Nat → Nat) (u : MS) (on : Nat → Int32) (hI : Inv u) (hO : InvO u on) : Met l yX1_isSame wsX1_isSame ({ frames := 6, cells := 0, slots := 0, locals := 134 } : Room) (va_Pc [.ref h1, .ref h0] (fun U => va_P D vwCl (picT cI h0 a0 h1 a1 u u on) U.heap ∧ RO cI cR a1 nr br u U.heap ∧ va_K D vwCl (tyR cI cR) U)) (vp_Si (fun r => r = nI 1)) 0 0 (fun _ => False) := by
  refine en_pr (cc := cX1_isSame) (maxL := 10) (ret := (some .boolean)) _ _ _ (by decide) rfl (Nat.le_of_ble_eq_true rfl) ?_
  intro p e s m args below meth c ls hx hb hml hr hlocks hts hown hP hR hK hl
  have hown : s.vm.findClass RX1 = some m.cls := hown
  have hin : ∀ w ∈ wsX10, w ∈ wsX1_isSame := fun _ h9 => List.mem_cons_of_mem _ (List.mem_append_left _ (List.mem_append_left _ (List.mem_append_left _ (List.mem_append_right _ h9))))
  have hl : lv_has ls 10 [(0, .ref h1), (1, .ref h0)] := hl
  obtain ⟨hIa, hIb, hIc, hId, hIe, hIf, hIg, hIh, hIi, hIj⟩ := id hI
  refine lv_aload_n hx hb dX1_isSame_0 rfl (lv_at hl 1 rfl) ?_
  refine vp_callSi (W.runV (As := []) (rest := []) ⟨hx, hb, hml, hown, hts⟩ (c_X0_afternoon l D cI h0 a0 u on ) (cwV 0 hts gX1_isSame_X0_afternoon rfl rfl rfl (by decide +kernel) ⟨Nat.le_of_ble_eq_true rfl, Nat.le_of_ble_eq_true rfl⟩) (pu_pre (hK.sub (tys' := [(cI, .int)]) [0] rfl) (hP.sub (ws' := pic0 cI h0 a0 u on) [0, 1, 2, 3, 4, 5, 6, 7] rfl) rfl rfl) rfl rfl hl.1 rfl (lv_room (Nat.le_of_ble_eq_true rfl)) dX1_isSame_1 ⟨Nat.le_of_ble_eq_true rfl, Nat.le_of_ble_eq_true rfl⟩) (fun r hr9 => ?_)
  subst hr9
  refine lv_aload_n hx hb dX1_isSame_4 rfl (lv_at hl 0 rfl) ?_
  refine va_get (D := D) (ci := 1) (v := .int (mAft u)) (C := RX1) (T := TX1) (N := 10) hx hb hts hin hown hK hP 8 rfl rfl 6 (by decide) (hts (.fieldLink RX1 36 "AfternoonMeterLaw$Sim" "afternoon" "I") (List.mem_of_getElem? (i := 1) rfl)) (fun _ h9 => h9) rfl dX1_isSame_5 ?_
  refine lv_icmp_ne (tgt := 112) hx hb dX1_isSame_8 (by decide) (fun c_8 => ?_) (fun c_8 => ?_)
  · skip
    exact (c_8 rfl).elim
  · skip
    refine lv_aload_n hx hb dX1_isSame_11 rfl (lv_at hl 1 rfl) ?_
    refine vp_callSi (W.runV (As := []) (rest := []) ⟨hx, hb, hml, hown, hts⟩ (c_X0_minute l D cI h0 a0 u on ) (cwV 0 hts gX1_isSame_X0_minute rfl rfl rfl (by decide +kernel) ⟨Nat.le_of_ble_eq_true rfl, Nat.le_of_ble_eq_true rfl⟩) (pu_pre (hK.sub (tys' := [(cI, .int)]) [0] rfl) (hP.sub (ws' := pic0 cI h0 a0 u on) [0, 1, 2, 3, 4, 5, 6, 7] rfl) rfl rfl) rfl rfl hl.1 rfl (lv_room (Nat.le_of_ble_eq_true rfl)) dX1_isSame_12 ⟨Nat.le_of_ble_eq_true rfl, Nat.le_of_ble_eq_true rfl⟩) (fun r hr9 => ?_)
    subst hr9
    refine lv_aload_n hx hb dX1_isSame_15 rfl (lv_at hl 0 rfl) ?_
    refine va_get (D := D) (ci := 1) (v := .int (nI (mNow u))) (C := RX1) (T := TX1) (N := 10) hx hb hts hin hown hK hP 8 rfl rfl 7 (by decide) (hts (.fieldLink RX1 39 "AfternoonMeterLaw$Sim" "minute" "I") (List.mem_of_getElem? (i := 2) rfl)) (fun _ h9 => h9) rfl dX1_isSame_16 ?_
    refine lv_icmp_ne (tgt := 112) hx hb dX1_isSame_19 (by decide) (fun c_19 => ?_) (fun c_19 => ?_)
    · skip
      replace c_19 : (mNow u) ≠ (mNow u) := neN c_19
      exact (by omega : False).elim
    · skip
      replace c_19 : (mNow u) = (mNow u) := eN c_19
      refine lv_aload_n hx hb dX1_isSame_22 rfl (lv_at hl 1 rfl) ?_
      refine vp_callSi (W.runV (As := []) (rest := []) ⟨hx, hb, hml, hown, hts⟩ (c_X0_awakeMinutes l D cI h0 a0 u on hI) (cwV 0 hts gX1_isSame_X0_awakeMinutes rfl rfl rfl (by decide +kernel) ⟨Nat.le_of_ble_eq_true rfl, Nat.le_of_ble_eq_true rfl⟩) (pu_pre (hK.sub (tys' := [(cI, .int)]) [0] rfl) (hP.sub (ws' := pic0 cI h0 a0 u on) [0, 1, 2, 3, 4, 5, 6, 7] rfl) rfl rfl) rfl rfl hl.1 rfl (lv_room (Nat.le_of_ble_eq_true rfl)) dX1_isSame_23 ⟨Nat.le_of_ble_eq_true rfl, Nat.le_of_ble_eq_true rfl⟩) (fun r hr9 => ?_)
      subst hr9
      rw [fAw_eq u]
      have haw := AW_le u
      refine lv_aload_n hx hb dX1_isSame_26 rfl (lv_at hl 0 rfl) ?_
      refine lv_aload_n hx hb dX1_isSame_27 rfl (lv_at hl 0 rfl) ?_
      refine va_get (D := D) (ci := 1) (v := .int (nI (mNow u))) (C := RX1) (T := TX1) (N := 10) hx hb hts hin hown hK hP 8 rfl rfl 7 (by decide) (hts (.fieldLink RX1 39 "AfternoonMeterLaw$Sim" "minute" "I") (List.mem_of_getElem? (i := 2) rfl)) (fun _ h9 => h9) rfl dX1_isSame_28 ?_
      refine lv_iconst (v := (-1)) hx hb dX1_isSame_31 (by decide +kernel) ?_
      refine vp_callSi (W.runV (As := [.int (nI (mNow u)), .int (-1)]) (rest := [.int (nI (AW u))]) ⟨hx, hb, hml, hown, hts⟩ (c_X1_awake l D cI cR h1 a1 nr br u (mNow u) (-1) (Inv.n hI) (by omega)) (cwV 2 hts gX1_isSame_X1_awake rfl rfl rfl (by decide +kernel) ⟨Nat.le_of_ble_eq_true rfl, Nat.le_of_ble_eq_true rfl⟩) (pr_pre hK (hP.sub (ws' := picS h1 a1 u) [8] rfl) hR rfl rfl) rfl rfl hl.1 rfl (lv_room (Nat.le_of_ble_eq_true rfl)) dX1_isSame_32 ⟨Nat.le_of_ble_eq_true rfl, Nat.le_of_ble_eq_true rfl⟩) (fun r hr9 => ?_)
      subst hr9
      rw [awX_m1 hIb, show ct (awB u) (mNow u) = AW u from rfl]
      have haw := AW_le u
      refine lv_icmp_ne (tgt := 112) hx hb dX1_isSame_35 (by decide) (fun c_35 => ?_) (fun c_35 => ?_)
      · skip
        replace c_35 : (AW u) ≠ (AW u) := neN c_35
        exact (by omega : False).elim
      · skip
        replace c_35 : (AW u) = (AW u) := eN c_35
        refine lv_aload_n hx hb dX1_isSame_38 rfl (lv_at hl 1 rfl) ?_
        refine vp_callSi (W.runV (As := []) (rest := []) ⟨hx, hb, hml, hown, hts⟩ (c_X0_sleptMinutes l D cI h0 a0 u on hI) (cwV 0 hts gX1_isSame_X0_sleptMinutes rfl rfl rfl (by decide +kernel) ⟨Nat.le_of_ble_eq_true rfl, Nat.le_of_ble_eq_true rfl⟩) (pu_pre (hK.sub (tys' := [(cI, .int)]) [0] rfl) (hP.sub (ws' := pic0 cI h0 a0 u on) [0, 1, 2, 3, 4, 5, 6, 7] rfl) rfl rfl) rfl rfl hl.1 rfl (lv_room (Nat.le_of_ble_eq_true rfl)) dX1_isSame_39 ⟨Nat.le_of_ble_eq_true rfl, Nat.le_of_ble_eq_true rfl⟩) (fun r hr9 => ?_)
        subst hr9
        have haw := AW_le u
        rw [fAw_eq u, nI_sub haw]
        refine lv_aload_n hx hb dX1_isSame_42 rfl (lv_at hl 0 rfl) ?_
        refine va_get (D := D) (ci := 1) (v := .int (nI (mNow u))) (C := RX1) (T := TX1) (N := 10) hx hb hts hin hown hK hP 8 rfl rfl 7 (by decide) (hts (.fieldLink RX1 39 "AfternoonMeterLaw$Sim" "minute" "I") (List.mem_of_getElem? (i := 2) rfl)) (fun _ h9 => h9) rfl dX1_isSame_43 ?_
        refine lv_aload_n hx hb dX1_isSame_46 rfl (lv_at hl 1 rfl) ?_
        refine vp_callSi (W.runV (As := []) (rest := [.int (nI (mNow u)), .int (nI (mNow u - AW u))]) ⟨hx, hb, hml, hown, hts⟩ (c_X0_awakeMinutes l D cI h0 a0 u on hI) (cwV 0 hts gX1_isSame_X0_awakeMinutes rfl rfl rfl (by decide +kernel) ⟨Nat.le_of_ble_eq_true rfl, Nat.le_of_ble_eq_true rfl⟩) (pu_pre (hK.sub (tys' := [(cI, .int)]) [0] rfl) (hP.sub (ws' := pic0 cI h0 a0 u on) [0, 1, 2, 3, 4, 5, 6, 7] rfl) rfl rfl) rfl rfl hl.1 rfl (lv_room (Nat.le_of_ble_eq_true rfl)) dX1_isSame_47 ⟨Nat.le_of_ble_eq_true rfl, Nat.le_of_ble_eq_true rfl⟩) (fun r hr9 => ?_)
        subst hr9
        rw [fAw_eq u]
        have haw := AW_le u
        refine q_isubN hx hb (by omega) dX1_isSame_50 ?_
        refine lv_icmp_ne (tgt := 112) hx hb dX1_isSame_51 (by decide) (fun c_51 => ?_) (fun c_51 => ?_)
        · skip
          replace c_51 : (mNow u - AW u) ≠ ((mNow u) - (AW u)) := neN c_51
          exact (by omega : False).elim
        · skip
          replace c_51 : (mNow u - AW u) = ((mNow u) - (AW u)) := eN c_51
          refine lv_aload_n hx hb dX1_isSame_54 rfl (lv_at hl 1 rfl) ?_
          refine vp_callSi (W.runV (As := []) (rest := []) ⟨hx, hb, hml, hown, hts⟩ (c_X0_sticks l D cI h0 a0 u on ) (cwV 0 hts gX1_isSame_X0_sticks rfl rfl rfl (by decide +kernel) ⟨Nat.le_of_ble_eq_true rfl, Nat.le_of_ble_eq_true rfl⟩) (pu_pre (hK.sub (tys' := [(cI, .int)]) [0] rfl) (hP.sub (ws' := pic0 cI h0 a0 u on) [0, 1, 2, 3, 4, 5, 6, 7] rfl) rfl rfl) rfl rfl hl.1 rfl (lv_room (Nat.le_of_ble_eq_true rfl)) dX1_isSame_55 ⟨Nat.le_of_ble_eq_true rfl, Nat.le_of_ble_eq_true rfl⟩) (fun r hr9 => ?_)
          subst hr9
          refine lv_aload_n hx hb dX1_isSame_58 rfl (lv_at hl 0 rfl) ?_
          refine va_get (D := D) (ci := 1) (v := .ref (a1 0)) (C := RX1) (T := TX1) (N := 10) hx hb hts hin hown hK hP 8 rfl rfl 0 (by decide) (hts (.fieldLink RX1 7 "AfternoonMeterLaw$Sim" "sticks" "[I") (List.mem_of_getElem? (i := 3) rfl)) (fun _ h9 => h9) rfl dX1_isSame_59 ?_
          refine va_alen (ws := [(a1 0, .inl (cI, mSc u, .inl (mHt u)))]) (v := nI (mSc u)) hx hb hK (P_one hR.1) 0 0 rfl rfl rfl dX1_isSame_62 ?_
          refine lv_icmp_ne (tgt := 112) hx hb dX1_isSame_63 (by decide) (fun c_63 => ?_) (fun c_63 => ?_)
          · skip
            replace c_63 : (mSc u) ≠ (mSc u) := neN c_63
            exact (by omega : False).elim
          · skip
            replace c_63 : (mSc u) = (mSc u) := eN c_63
            refine lv_aload_n hx hb dX1_isSame_66 rfl (lv_at hl 1 rfl) ?_
            refine vp_callSi (W.runV (As := []) (rest := []) ⟨hx, hb, hml, hown, hts⟩ (c_X0_naps l D cI h0 a0 u on ) (cwV 0 hts gX1_isSame_X0_naps rfl rfl rfl (by decide +kernel) ⟨Nat.le_of_ble_eq_true rfl, Nat.le_of_ble_eq_true rfl⟩) (pu_pre (hK.sub (tys' := [(cI, .int)]) [0] rfl) (hP.sub (ws' := pic0 cI h0 a0 u on) [0, 1, 2, 3, 4, 5, 6, 7] rfl) rfl rfl) rfl rfl hl.1 rfl (lv_room (Nat.le_of_ble_eq_true rfl)) dX1_isSame_67 ⟨Nat.le_of_ble_eq_true rfl, Nat.le_of_ble_eq_true rfl⟩) (fun r hr9 => ?_)
            subst hr9
            refine lv_aload_n hx hb dX1_isSame_70 rfl (lv_at hl 0 rfl) ?_
            refine va_get (D := D) (ci := 1) (v := .ref (a1 1)) (C := RX1) (T := TX1) (N := 10) hx hb hts hin hown hK hP 8 rfl rfl 1 (by decide) (hts (.fieldLink RX1 14 "AfternoonMeterLaw$Sim" "naps" "[[I") (List.mem_of_getElem? (i := 4) rfl)) (fun _ h9 => h9) rfl dX1_isSame_71 ?_
            refine va_alen (ws := [(a1 1, .inl (cR, mNc u, .inr (.inr (.inr (.inr (rfs nr))))))]) (v := nI (mNc u)) hx hb hK (P_one hR.2.1) 0 1 rfl rfl rfl dX1_isSame_74 ?_
            refine lv_icmp_ne (tgt := 112) hx hb dX1_isSame_75 (by decide) (fun c_75 => ?_) (fun c_75 => ?_)
            · skip
              replace c_75 : (mNc u) ≠ (mNc u) := neN c_75
              exact (by omega : False).elim
            · skip
              replace c_75 : (mNc u) = (mNc u) := eN c_75
              refine lv_aload_n hx hb dX1_isSame_78 rfl (lv_at hl 1 rfl) ?_
              refine vp_callSi (W.runV (As := []) (rest := []) ⟨hx, hb, hml, hown, hts⟩ (c_X0_bees l D cI h0 a0 u on ) (cwV 0 hts gX1_isSame_X0_bees rfl rfl rfl (by decide +kernel) ⟨Nat.le_of_ble_eq_true rfl, Nat.le_of_ble_eq_true rfl⟩) (pu_pre (hK.sub (tys' := [(cI, .int)]) [0] rfl) (hP.sub (ws' := pic0 cI h0 a0 u on) [0, 1, 2, 3, 4, 5, 6, 7] rfl) rfl rfl) rfl rfl hl.1 rfl (lv_room (Nat.le_of_ble_eq_true rfl)) dX1_isSame_79 ⟨Nat.le_of_ble_eq_true rfl, Nat.le_of_ble_eq_true rfl⟩) (fun r hr9 => ?_)
              subst hr9
              refine lv_aload_n hx hb dX1_isSame_82 rfl (lv_at hl 0 rfl) ?_
              refine va_get (D := D) (ci := 1) (v := .ref (a1 2)) (C := RX1) (T := TX1) (N := 10) hx hb hts hin hown hK hP 8 rfl rfl 2 (by decide) (hts (.fieldLink RX1 18 "AfternoonMeterLaw$Sim" "bees" "[[I") (List.mem_of_getElem? (i := 5) rfl)) (fun _ h9 => h9) rfl dX1_isSame_83 ?_
              refine va_alen (ws := [(a1 2, .inl (cR, mBc u, .inr (.inr (.inr (.inr (rfs br))))))]) (v := nI (mBc u)) hx hb hK (P_one hR.2.2.1) 0 1 rfl rfl rfl dX1_isSame_86 ?_
              refine lv_icmp_ne (tgt := 112) hx hb dX1_isSame_87 (by decide) (fun c_87 => ?_) (fun c_87 => ?_)
              · skip
                replace c_87 : (mBc u) ≠ (mBc u) := neN c_87
                exact (by omega : False).elim
              · skip
                replace c_87 : (mBc u) = (mBc u) := eN c_87
                refine lv_aload_n hx hb dX1_isSame_90 rfl (lv_at hl 1 rfl) ?_
                refine vp_callSi (W.runV (As := []) (rest := []) ⟨hx, hb, hml, hown, hts⟩ (c_X0_tea l D cI h0 a0 u on ) (cwV 0 hts gX1_isSame_X0_tea rfl rfl rfl (by decide +kernel) ⟨Nat.le_of_ble_eq_true rfl, Nat.le_of_ble_eq_true rfl⟩) (pu_pre (hK.sub (tys' := [(cI, .int)]) [0] rfl) (hP.sub (ws' := pic0 cI h0 a0 u on) [0, 1, 2, 3, 4, 5, 6, 7] rfl) rfl rfl) rfl rfl hl.1 rfl (lv_room (Nat.le_of_ble_eq_true rfl)) dX1_isSame_91 ⟨Nat.le_of_ble_eq_true rfl, Nat.le_of_ble_eq_true rfl⟩) (fun r hr9 => ?_)
                subst hr9
                refine lv_aload_n hx hb dX1_isSame_94 rfl (lv_at hl 0 rfl) ?_
                refine va_get (D := D) (ci := 1) (v := .int (nI (mTea u))) (C := RX1) (T := TX1) (N := 10) hx hb hts hin hown hK hP 8 rfl rfl 8 (by decide) (hts (.fieldLink RX1 42 "AfternoonMeterLaw$Sim" "tea" "I") (List.mem_of_getElem? (i := 6) rfl)) (fun _ h9 => h9) rfl dX1_isSame_95 ?_
                refine lv_icmp_ne (tgt := 112) hx hb dX1_isSame_98 (by decide) (fun c_98 => ?_) (fun c_98 => ?_)
                · skip
                  replace c_98 : (mTea u) ≠ (mTea u) := neN c_98
                  exact (by omega : False).elim
                · skip
                  replace c_98 : (mTea u) = (mTea u) := eN c_98
                  refine lv_aload_n hx hb dX1_isSame_101 rfl (lv_at hl 1 rfl) ?_
                  refine vp_callSi (W.runV (As := []) (rest := []) ⟨hx, hb, hml, hown, hts⟩ (c_X0_spilt l D cI h0 a0 u on ) (cwV 0 hts gX1_isSame_X0_spilt rfl rfl rfl (by decide +kernel) ⟨Nat.le_of_ble_eq_true rfl, Nat.le_of_ble_eq_true rfl⟩) (pu_pre (hK.sub (tys' := [(cI, .int)]) [0] rfl) (hP.sub (ws' := pic0 cI h0 a0 u on) [0, 1, 2, 3, 4, 5, 6, 7] rfl) rfl rfl) rfl rfl hl.1 rfl (lv_room (Nat.le_of_ble_eq_true rfl)) dX1_isSame_102 ⟨Nat.le_of_ble_eq_true rfl, Nat.le_of_ble_eq_true rfl⟩) (fun r hr9 => ?_)
                  subst hr9
                  refine lv_aload_n hx hb dX1_isSame_105 rfl (lv_at hl 0 rfl) ?_
                  refine va_get (D := D) (ci := 1) (v := .int (mSpl u)) (C := RX1) (T := TX1) (N := 10) hx hb hts hin hown hK hP 8 rfl rfl 9 (by decide) (hts (.fieldLink RX1 45 "AfternoonMeterLaw$Sim" "spilt" "I") (List.mem_of_getElem? (i := 7) rfl)) (fun _ h9 => h9) rfl dX1_isSame_106 ?_
                  refine lv_icmp_eq (tgt := 114) hx hb dX1_isSame_109 (by decide) (fun c_109 => ?_) (fun c_109 => ?_)
                  · skip
                    refine lv_iconst (v := nI 0) hx hb dX1_isSame_114 (by decide +kernel) ?_
                    refine lv_istore_n (lv' := [(2, .int (nI 0)), (0, .ref h1), (1, .ref h0)]) hx hb dX1_isSame_115 rfl hl (by decide) rfl (fun ls hl => ?_)
                    refine lv_iconst (v := (-1)) hx hb dX1_isSame_116 (by decide +kernel) ?_
                    refine lv_istore_n (lv' := [(3, .int (-1)), (2, .int (nI 0)), (0, .ref h1), (1, .ref h0)]) hx hb dX1_isSame_117 rfl hl (by decide) rfl (fun ls hl => ?_)
                    refine lv_iconst (v := nI 0) hx hb dX1_isSame_118 (by decide +kernel) ?_
                    refine lv_istore (lv' := [(4, .int (nI 0)), (3, .int (-1)), (2, .int (nI 0)), (0, .ref h1), (1, .ref h0)]) hx hb dX1_isSame_119 hl (by decide) rfl (fun ls hl => ?_)
                    have lp121 : ∀ (n1 k1 : Nat), k1 + n1 = 361 → ∀ (X1 : Nat), ∀ (A1 : Int32), max X1 (lgN u k1).2 = (lgN u k1).1 → A1 = nI (k1 - (lgN u k1).2) - nI 1 → ∀ (ls : Array Slot), lv_has ls 10 [(0, .ref h1), (1, .ref h0), (2, .int (nI X1)), (3, .int A1), (4, .int (nI k1))] → W p l e ({ frames := 6, cells := 0, slots := 0, locals := 134 } : Room) s m args below meth c s.heap [] 0 0 (MQ below (vp_Si (fun r => r = nI 1)) args s 0 0 (fun _ => False)) (F0 m 121 ls []) := by
                      intro n1
                      induction n1 with
                      | zero =>
                        intro k1 hk1 X1 A1 hX1 hA1 ls hl
                        have ek1 : k1 = 361 := by omega
                        have eL : fLong u = nI X1 := by
                          have h9 := hX1
                          rw [ek1, lgN_n (u := u) (k := 360) (fun z => by omega)] at h9
                          rw [fLong_eq]
                          exact congrArg nI (h9.symm.trans (Nat.max_eq_left (Nat.zero_le _)))
                        refine lv_iload hx hb dX1_isSame_121 (lv_at hl 4 rfl) ?_
                        refine lv_sipush (v := nI 360) hx hb dX1_isSame_123 (by decide +kernel) ?_
                        refine lv_icmp_gt (tgt := 180) hx hb dX1_isSame_126 (by decide) (fun c_126 => ?_) (fun c_126 => ?_)
                        · skip
                          replace c_126 : 360 < k1 := ltN c_126
                          refine lv_aload_n hx hb dX1_isSame_180 rfl (lv_at hl 1 rfl) ?_
                          refine vp_callSi (W.runV (As := []) (rest := []) ⟨hx, hb, hml, hown, hts⟩ (c_X0_longestAwake l D cI h0 a0 u on hI) (cwV 0 hts gX1_isSame_X0_longestAwake rfl rfl rfl (by decide +kernel) ⟨Nat.le_of_ble_eq_true rfl, Nat.le_of_ble_eq_true rfl⟩) (pu_pre (hK.sub (tys' := [(cI, .int)]) [0] rfl) (hP.sub (ws' := pic0 cI h0 a0 u on) [0, 1, 2, 3, 4, 5, 6, 7] rfl) rfl rfl) rfl rfl hl.1 rfl (lv_room (Nat.le_of_ble_eq_true rfl)) dX1_isSame_181 ⟨Nat.le_of_ble_eq_true rfl, Nat.le_of_ble_eq_true rfl⟩) (fun r hr9 => ?_)
                          subst hr9
                          refine lv_iload_n hx hb dX1_isSame_184 rfl (lv_at hl 2 rfl) ?_
                          refine lv_icmp_eq (tgt := 190) hx hb dX1_isSame_185 (by decide) (fun c_185 => ?_) (fun c_185 => ?_)
                          · skip
                            refine lv_aload_n hx hb dX1_isSame_190 rfl (lv_at hl 0 rfl) ?_
                            refine va_get (D := D) (ci := 1) (v := .int (nI (mNow u))) (C := RX1) (T := TX1) (N := 10) hx hb hts hin hown hK hP 8 rfl rfl 7 (by decide) (hts (.fieldLink RX1 39 "AfternoonMeterLaw$Sim" "minute" "I") (List.mem_of_getElem? (i := 2) rfl)) (fun _ h9 => h9) rfl dX1_isSame_191 ?_
                            refine lv_bipush (v := nI 7) hx hb dX1_isSame_194 (by decide +kernel) ?_
                            refine q_iremN hx hb (by omega) (by omega) (by omega) dX1_isSame_196 ?_
                            refine lv_istore (lv' := [(4, .int (nI ((mNow u) % 7))), (0, .ref h1), (1, .ref h0), (2, .int (nI X1)), (3, .int A1)]) hx hb dX1_isSame_197 hl (by decide) rfl (fun ls hl => ?_)
                            have lp199 : ∀ (n2 k2 : Nat), k2 + n2 = 52 → ∀ (T2 : Nat), 7 * k2 ≤ T2 ∧ T2 < 1000 → ∀ (ls : Array Slot), lv_has ls 10 [(0, .ref h1), (1, .ref h0), (4, .int (nI T2))] → W p l e ({ frames := 6, cells := 0, slots := 0, locals := 134 } : Room) s m args below meth c s.heap [] 0 0 (MQ below (vp_Si (fun r => r = nI 1)) args s 0 0 (fun _ => False)) (F0 m 199 ls []) := by
                              intro n2
                              induction n2 with
                              | zero =>
                                intro k2 hk2 T2 hT2 ls hl
                                refine lv_iload hx hb dX1_isSame_199 (lv_at hl 2 rfl) ?_
                                refine lv_sipush (v := nI 360) hx hb dX1_isSame_201 (by decide +kernel) ?_
                                refine lv_icmp_ge (tgt := 255) hx hb dX1_isSame_204 (by decide) (fun c_204 => ?_) (fun c_204 => ?_)
                                · skip
                                  replace c_204 : 360 ≤ T2 := leN c_204
                                  refine lv_iconst (v := nI 0) hx hb dX1_isSame_255 (by decide +kernel) ?_
                                  refine lv_istore (lv' := [(4, .int (nI 0)), (0, .ref h1), (1, .ref h0)]) hx hb dX1_isSame_256 hl (by decide) rfl (fun ls hl => ?_)
                                  refine lv_iconst (v := nI 0) hx hb dX1_isSame_258 (by decide +kernel) ?_
                                  refine lv_istore (lv' := [(5, .int (nI 0)), (4, .int (nI 0)), (0, .ref h1), (1, .ref h0)]) hx hb dX1_isSame_259 hl (by decide) rfl (fun ls hl => ?_)
                                  have lp261 : ∀ (n3 k3 : Nat), k3 + n3 = mSc u → ∀ (X3 : Int32), X3 = fz (shF u 359) k3 (nI 0) → ∀ (ls : Array Slot), lv_has ls 10 [(0, .ref h1), (1, .ref h0), (4, .int X3), (5, .int (nI k3))] → W p l e ({ frames := 6, cells := 0, slots := 0, locals := 134 } : Room) s m args below meth c s.heap [] 0 0 (MQ below (vp_Si (fun r => r = nI 1)) args s 0 0 (fun _ => False)) (F0 m 261 ls []) := by
                                    intro n3
                                    induction n3 with
                                    | zero =>
                                      intro k3 hk3 X3 eX3 ls hl
                                      have ek3 : k3 = mSc u := by omega
                                      have eF : fSum u 359 = X3 := by rw [eX3, ek3]; rfl
                                      refine lv_iload hx hb dX1_isSame_261 (lv_at hl 3 rfl) ?_
                                      refine lv_aload_n hx hb dX1_isSame_263 rfl (lv_at hl 0 rfl) ?_
                                      refine va_get (D := D) (ci := 1) (v := .ref (a1 0)) (C := RX1) (T := TX1) (N := 10) hx hb hts hin hown hK hP 8 rfl rfl 0 (by decide) (hts (.fieldLink RX1 7 "AfternoonMeterLaw$Sim" "sticks" "[I") (List.mem_of_getElem? (i := 3) rfl)) (fun _ h9 => h9) rfl dX1_isSame_264 ?_
                                      refine va_alen (ws := [(a1 0, .inl (cI, mSc u, .inl (mHt u)))]) (v := nI (mSc u)) hx hb hK (P_one hR.1) 0 0 rfl rfl rfl dX1_isSame_267 ?_
                                      refine lv_icmp_ge (tgt := 356) hx hb dX1_isSame_268 (by decide) (fun c_268 => ?_) (fun c_268 => ?_)
                                      · skip
                                        replace c_268 : (mSc u) ≤ k3 := leN c_268
                                        refine lv_aload_n hx hb dX1_isSame_356 rfl (lv_at hl 1 rfl) ?_
                                        refine lv_sipush (v := nI 359) hx hb dX1_isSame_357 (by decide +kernel) ?_
                                        refine vp_callSi (W.runV (As := [.int (nI 359)]) (rest := []) ⟨hx, hb, hml, hown, hts⟩ (c_X0_allShadows l D cI h0 a0 u on 359 hI (by omega)) (cwV 1 hts gX1_isSame_X0_allShadows rfl rfl rfl (by decide +kernel) ⟨Nat.le_of_ble_eq_true rfl, Nat.le_of_ble_eq_true rfl⟩) (pu_pre (hK.sub (tys' := [(cI, .int)]) [0] rfl) (hP.sub (ws' := pic0 cI h0 a0 u on) [0, 1, 2, 3, 4, 5, 6, 7] rfl) rfl rfl) rfl rfl hl.1 rfl (lv_room (Nat.le_of_ble_eq_true rfl)) dX1_isSame_360 ⟨Nat.le_of_ble_eq_true rfl, Nat.le_of_ble_eq_true rfl⟩) (fun r hr9 => ?_)
                                        subst hr9
                                        refine lv_iload hx hb dX1_isSame_363 (lv_at hl 2 rfl) ?_
                                        refine lv_icmp_ne (tgt := 398) hx hb dX1_isSame_365 (by decide) (fun c_365 => ?_) (fun c_365 => ?_)
                                        · skip
                                          exact (c_365 eF).elim
                                        · skip
                                          refine lv_aload_n hx hb dX1_isSame_368 rfl (lv_at hl 1 rfl) ?_
                                          refine vp_callSd (W.runV (As := []) (rest := []) ⟨hx, hb, hml, hown, hts⟩ (c_X0_meanLastShadow l D cI h0 a0 u on hI) (cwV 0 hts gX1_isSame_X0_meanLastShadow rfl rfl rfl (by decide +kernel) ⟨Nat.le_of_ble_eq_true rfl, Nat.le_of_ble_eq_true rfl⟩) (pu_pre (hK.sub (tys' := [(cI, .int)]) [0] rfl) (hP.sub (ws' := pic0 cI h0 a0 u on) [0, 1, 2, 3, 4, 5, 6, 7] rfl) rfl rfl) rfl rfl hl.1 rfl (lv_room (Nat.le_of_ble_eq_true rfl)) dX1_isSame_369 ⟨Nat.le_of_ble_eq_true rfl, Nat.le_of_ble_eq_true rfl⟩) (fun r hr9 => ?_)
                                          subst hr9
                                          refine lv_aload_n hx hb dX1_isSame_372 rfl (lv_at hl 0 rfl) ?_
                                          refine va_get (D := D) (ci := 1) (v := .ref (a1 0)) (C := RX1) (T := TX1) (N := 10) hx hb hts hin hown hK hP 8 rfl rfl 0 (by decide) (hts (.fieldLink RX1 7 "AfternoonMeterLaw$Sim" "sticks" "[I") (List.mem_of_getElem? (i := 3) rfl)) (fun _ h9 => h9) rfl dX1_isSame_373 ?_
                                          refine va_alen (ws := [(a1 0, .inl (cI, mSc u, .inl (mHt u)))]) (v := nI (mSc u)) hx hb hK (P_one hR.1) 0 0 rfl rfl rfl dX1_isSame_376 ?_
                                          refine lv_if_ne (tgt := 384) hx hb dX1_isSame_377 (by decide) (fun c_377 => ?_) (fun c_377 => ?_)
                                          · skip
                                            replace c_377 : (mSc u) ≠ 0 := neN c_377
                                            refine lv_iload hx hb dX1_isSame_384 (lv_at hl 2 rfl) ?_
                                            refine lv_i2d hx hb dX1_isSame_386 ?_
                                            refine lv_aload_n hx hb dX1_isSame_387 rfl (lv_at hl 0 rfl) ?_
                                            refine va_get (D := D) (ci := 1) (v := .ref (a1 0)) (C := RX1) (T := TX1) (N := 10) hx hb hts hin hown hK hP 8 rfl rfl 0 (by decide) (hts (.fieldLink RX1 7 "AfternoonMeterLaw$Sim" "sticks" "[I") (List.mem_of_getElem? (i := 3) rfl)) (fun _ h9 => h9) rfl dX1_isSame_388 ?_
                                            refine va_alen (ws := [(a1 0, .inl (cI, mSc u, .inl (mHt u)))]) (v := nI (mSc u)) hx hb hK (P_one hR.1) 0 0 rfl rfl rfl dX1_isSame_391 ?_
                                            refine lv_i2d hx hb dX1_isSame_392 ?_
                                            refine lv_ddiv hx hb dX1_isSame_393 (by rw [← eF]; exact mean_ok hI c_377) ?_
                                            refine lv_dcmp hx hb dX1_isSame_394 ?_
                                            refine lv_if_eq (tgt := 400) hx hb dX1_isSame_395 (by decide) (fun c_395 => ?_) (fun c_395 => ?_)
                                            · skip
                                              refine lv_iconst (v := (-1)) hx hb dX1_isSame_400 (by decide +kernel) ?_
                                              refine lv_istore (lv' := [(5, .int (-1)), (0, .ref h1), (1, .ref h0), (4, .int X3)]) hx hb dX1_isSame_401 hl (by decide) rfl (fun ls hl => ?_)
                                              refine lv_iconst (v := (-1)) hx hb dX1_isSame_403 (by decide +kernel) ?_
                                              refine lv_istore (lv' := [(6, .int (-1)), (5, .int (-1)), (0, .ref h1), (1, .ref h0), (4, .int X3)]) hx hb dX1_isSame_404 hl (by decide) rfl (fun ls hl => ?_)
                                              refine lv_aload_n hx hb dX1_isSame_406 rfl (lv_at hl 2 rfl) ?_
                                              refine va_get (D := D) (ci := 1) (v := .ref (a1 1)) (C := RX1) (T := TX1) (N := 10) hx hb hts hin hown hK hP 8 rfl rfl 1 (by decide) (hts (.fieldLink RX1 14 "AfternoonMeterLaw$Sim" "naps" "[[I") (List.mem_of_getElem? (i := 4) rfl)) (fun _ h9 => h9) rfl dX1_isSame_407 ?_
                                              refine va_alen (ws := [(a1 1, .inl (cR, mNc u, .inr (.inr (.inr (.inr (rfs nr))))))]) (v := nI (mNc u)) hx hb hK (P_one hR.2.1) 0 1 rfl rfl rfl dX1_isSame_410 ?_
                                              refine lv_iconst (v := nI 1) hx hb dX1_isSame_411 (by decide +kernel) ?_
                                              refine lv_isub hx hb dX1_isSame_412 ?_
                                              refine lv_istore (lv' := [(7, .int ((nI (mNc u)) - (nI 1))), (6, .int (-1)), (5, .int (-1)), (0, .ref h1), (1, .ref h0), (4, .int X3)]) hx hb dX1_isSame_413 hl (by decide) rfl (fun ls hl => ?_)
                                              have lp415 : ∀ (n5 k5 : Nat), k5 + n5 = mNc u → ∀ (K5 : Int32), ∀ (U9 : Int32), ∀ (M9 : Int32), K5 = nI n5 - nI 1 → UPp u n5 U9 M9 → ∀ (ls : Array Slot), lv_has ls 10 [(0, .ref h1), (1, .ref h0), (5, .int U9), (6, .int M9), (7, .int K5)] → W p l e ({ frames := 6, cells := 0, slots := 0, locals := 134 } : Room) s m args below meth c s.heap [] 0 0 (MQ below (vp_Si (fun r => r = nI 1)) args s 0 0 (fun _ => False)) (F0 m 415 ls []) := by
                                                intro n5
                                                induction n5 with
                                                | zero =>
                                                  intro k5 hk5 K5 U9 M9 eK5 hUP ls hl
                                                  refine lv_iload hx hb dX1_isSame_415 (lv_at hl 4 rfl) ?_
                                                  refine lv_if_lt (tgt := 523) hx hb dX1_isSame_417 (by decide) (fun c_417 => ?_) (fun c_417 => ?_)
                                                  · skip
                                                    refine lv_iconst (v := (-1)) hx hb dX1_isSame_523 (by decide +kernel) ?_
                                                    refine lv_istore (lv' := [(7, .int (-1)), (0, .ref h1), (1, .ref h0), (5, .int U9), (6, .int M9)]) hx hb dX1_isSame_524 hl (by decide) rfl (fun ls hl => ?_)
                                                    refine lv_aload_n hx hb dX1_isSame_526 rfl (lv_at hl 1 rfl) ?_
                                                    refine va_get (D := D) (ci := 1) (v := .ref (a1 2)) (C := RX1) (T := TX1) (N := 10) hx hb hts hin hown hK hP 8 rfl rfl 2 (by decide) (hts (.fieldLink RX1 18 "AfternoonMeterLaw$Sim" "bees" "[[I") (List.mem_of_getElem? (i := 5) rfl)) (fun _ h9 => h9) rfl dX1_isSame_527 ?_
                                                    refine va_alen (ws := [(a1 2, .inl (cR, mBc u, .inr (.inr (.inr (.inr (rfs br))))))]) (v := nI (mBc u)) hx hb hK (P_one hR.2.2.1) 0 1 rfl rfl rfl dX1_isSame_530 ?_
                                                    refine lv_iconst (v := nI 1) hx hb dX1_isSame_531 (by decide +kernel) ?_
                                                    refine lv_isub hx hb dX1_isSame_532 ?_
                                                    refine lv_istore (lv' := [(8, .int ((nI (mBc u)) - (nI 1))), (7, .int (-1)), (0, .ref h1), (1, .ref h0), (5, .int U9), (6, .int M9)]) hx hb dX1_isSame_533 hl (by decide) rfl (fun ls hl => ?_)
                                                    have lp535 : ∀ (n6 k6 : Nat), k6 + n6 = mBc u → ∀ (K6 : Int32), ∀ (B9 : Int32), K6 = nI n6 - nI 1 → BBq u n6 B9 → ∀ (ls : Array Slot), lv_has ls 10 [(0, .ref h1), (1, .ref h0), (5, .int U9), (7, .int B9), (8, .int K6)] → W p l e ({ frames := 6, cells := 0, slots := 0, locals := 134 } : Room) s m args below meth c s.heap [] 0 0 (MQ below (vp_Si (fun r => r = nI 1)) args s 0 0 (fun _ => False)) (F0 m 535 ls []) := by
                                                      intro n6
                                                      induction n6 with
                                                      | zero =>
                                                        intro k6 hk6 K6 B9 eK6 hBP ls hl
                                                        refine lv_iload hx hb dX1_isSame_535 (lv_at hl 4 rfl) ?_
                                                        refine lv_if_lt (tgt := 649) hx hb dX1_isSame_537 (by decide) (fun c_537 => ?_) (fun c_537 => ?_)
                                                        · skip
                                                          refine lv_aload_n hx hb dX1_isSame_649 rfl (lv_at hl 1 rfl) ?_
                                                          refine vp_callSi (W.runV (As := []) (rest := []) ⟨hx, hb, hml, hown, hts⟩ (c_X0_bestToGiveUp l D cI h0 a0 u on hI) (cwV 0 hts gX1_isSame_X0_bestToGiveUp rfl rfl rfl (by decide +kernel) ⟨Nat.le_of_ble_eq_true rfl, Nat.le_of_ble_eq_true rfl⟩) (pu_pre (hK.sub (tys' := [(cI, .int)]) [0] rfl) (hP.sub (ws' := pic0 cI h0 a0 u on) [0, 1, 2, 3, 4, 5, 6, 7] rfl) rfl rfl) rfl rfl hl.1 rfl (lv_room (Nat.le_of_ble_eq_true rfl)) dX1_isSame_650 ⟨Nat.le_of_ble_eq_true rfl, Nat.le_of_ble_eq_true rfl⟩) (fun r hr9 => ?_)
                                                          subst hr9
                                                          refine lv_iload hx hb dX1_isSame_653 (lv_at hl 2 rfl) ?_
                                                          refine lv_icmp_ne (tgt := 671) hx hb dX1_isSame_655 (by decide) (fun c_655 => ?_) (fun c_655 => ?_)
                                                          · skip
                                                            exact (c_655 (UP_end hIb hUP)).elim
                                                          · skip
                                                            refine lv_aload_n hx hb dX1_isSame_658 rfl (lv_at hl 1 rfl) ?_
                                                            refine vp_callSi (W.runV (As := []) (rest := []) ⟨hx, hb, hml, hown, hts⟩ (c_X0_bestBee l D cI h0 a0 u on hI) (cwV 0 hts gX1_isSame_X0_bestBee rfl rfl rfl (by decide +kernel) ⟨Nat.le_of_ble_eq_true rfl, Nat.le_of_ble_eq_true rfl⟩) (pu_pre (hK.sub (tys' := [(cI, .int)]) [0] rfl) (hP.sub (ws' := pic0 cI h0 a0 u on) [0, 1, 2, 3, 4, 5, 6, 7] rfl) rfl rfl) rfl rfl hl.1 rfl (lv_room (Nat.le_of_ble_eq_true rfl)) dX1_isSame_659 ⟨Nat.le_of_ble_eq_true rfl, Nat.le_of_ble_eq_true rfl⟩) (fun r hr9 => ?_)
                                                            subst hr9
                                                            refine lv_iload hx hb dX1_isSame_662 (lv_at hl 3 rfl) ?_
                                                            refine lv_icmp_ne (tgt := 671) hx hb dX1_isSame_664 (by decide) (fun c_664 => ?_) (fun c_664 => ?_)
                                                            · skip
                                                              exact (c_664 (BB_end hI hBP)).elim
                                                            · skip
                                                              refine lv_iconst (v := nI 1) hx hb dX1_isSame_667 (by decide +kernel) ?_
                                                              refine lv_goto (tgt := 672) hx hb dX1_isSame_668 (by decide) ?_
                                                              exact W.zret (ty := .boolean) hx hb hr (by decide +kernel) (fun t ht _ => ⟨_, rfl, rfl, ht⟩) (fun _ h9 => nomatch h9) dX1_isSame_672
                                                        · skip
                                                          exact (c_537 (by rw [eK6]; decide +kernel)).elim
                                                      | succ n6 ih6 =>
                                                        intro k6 hk6 K6 B9 eK6 hBP ls hl
                                                        have eK6b : K6 = nI n6 := by rw [eK6, nI_sub (by omega)]; rfl
                                                        subst eK6b
                                                        refine lv_iload hx hb dX1_isSame_535 (lv_at hl 4 rfl) ?_
                                                        refine lv_if_lt (tgt := 649) hx hb dX1_isSame_537 (by decide) (fun c_537 => ?_) (fun c_537 => ?_)
                                                        · skip
                                                          replace c_537 : n6 < 0 := ltN c_537
                                                          exact (by omega : False).elim
                                                        · skip
                                                          replace c_537 : 0 ≤ n6 := nltN c_537
                                                          refine lv_aload_n hx hb dX1_isSame_540 rfl (lv_at hl 0 rfl) ?_
                                                          refine lv_iload hx hb dX1_isSame_541 (lv_at hl 4 rfl) ?_
                                                          refine vp_callSi (W.runV (As := [.int (nI n6)]) (rest := []) ⟨hx, hb, hml, hown, hts⟩ (c_X1_ticked l D cI cR h1 a1 nr br u n6 (Inv.n hI) (by omega)) (cwV 1 hts gX1_isSame_X1_ticked rfl rfl rfl (by decide +kernel) ⟨Nat.le_of_ble_eq_true rfl, Nat.le_of_ble_eq_true rfl⟩) (pr_pre hK (hP.sub (ws' := picS h1 a1 u) [8] rfl) hR rfl rfl) rfl rfl hl.1 rfl (lv_room (Nat.le_of_ble_eq_true rfl)) dX1_isSame_543 ⟨Nat.le_of_ble_eq_true rfl, Nat.le_of_ble_eq_true rfl⟩) (fun r hr9 => ?_)
                                                          subst hr9
                                                          rw [show ct (tkB u n6) (mNow u) = TK u n6 from rfl]
                                                          have htk := TK_le u n6
                                                          refine lv_istore (lv' := [(9, .int (nI (TK u n6))), (0, .ref h1), (1, .ref h0), (5, .int U9), (7, .int B9), (8, .int (nI n6))]) hx hb dX1_isSame_546 hl (by decide) rfl (fun ls hl => ?_)
                                                          refine lv_aload_n hx hb dX1_isSame_548 rfl (lv_at hl 2 rfl) ?_
                                                          refine lv_iload hx hb dX1_isSame_549 (lv_at hl 5 rfl) ?_
                                                          refine vp_callSi (W.runV (As := [.int (nI n6)]) (rest := []) ⟨hx, hb, hml, hown, hts⟩ (c_X0_ticksOf l D cI h0 a0 u on n6 hI (by omega)) (cwV 1 hts gX1_isSame_X0_ticksOf rfl rfl rfl (by decide +kernel) ⟨Nat.le_of_ble_eq_true rfl, Nat.le_of_ble_eq_true rfl⟩) (pu_pre (hK.sub (tys' := [(cI, .int)]) [0] rfl) (hP.sub (ws' := pic0 cI h0 a0 u on) [0, 1, 2, 3, 4, 5, 6, 7] rfl) rfl rfl) rfl rfl hl.1 rfl (lv_room (Nat.le_of_ble_eq_true rfl)) dX1_isSame_551 ⟨Nat.le_of_ble_eq_true rfl, Nat.le_of_ble_eq_true rfl⟩) (fun r hr9 => ?_)
                                                          subst hr9
                                                          rw [fTk_eq u n6]
                                                          have htk := TK_le u n6
                                                          refine lv_iload hx hb dX1_isSame_554 (lv_at hl 0 rfl) ?_
                                                          refine lv_icmp_ne (tgt := 611) hx hb dX1_isSame_556 (by decide) (fun c_556 => ?_) (fun c_556 => ?_)
                                                          · skip
                                                            replace c_556 : (TK u n6) ≠ (TK u n6) := neN c_556
                                                            exact (by omega : False).elim
                                                          · skip
                                                            replace c_556 : (TK u n6) = (TK u n6) := eN c_556
                                                            refine lv_aload_n hx hb dX1_isSame_559 rfl (lv_at hl 2 rfl) ?_
                                                            refine lv_iload hx hb dX1_isSame_560 (lv_at hl 5 rfl) ?_
                                                            refine vp_callSi (W.runV (As := [.int (nI n6)]) (rest := []) ⟨hx, hb, hml, hown, hts⟩ (c_X0_measuredBy l D cI h0 a0 u on n6 hI (by omega)) (cwV 1 hts gX1_isSame_X0_measuredBy rfl rfl rfl (by decide +kernel) ⟨Nat.le_of_ble_eq_true rfl, Nat.le_of_ble_eq_true rfl⟩) (pu_pre (hK.sub (tys' := [(cI, .int)]) [0] rfl) (hP.sub (ws' := pic0 cI h0 a0 u on) [0, 1, 2, 3, 4, 5, 6, 7] rfl) rfl rfl) rfl rfl hl.1 rfl (lv_room (Nat.le_of_ble_eq_true rfl)) dX1_isSame_562 ⟨Nat.le_of_ble_eq_true rfl, Nat.le_of_ble_eq_true rfl⟩) (fun r hr9 => ?_)
                                                            subst hr9
                                                            rw [fMe_eq u n6]
                                                            have htp := tp_le hI (b := n6) (by omega)
                                                            refine lv_iload hx hb dX1_isSame_565 (lv_at hl 0 rfl) ?_
                                                            refine lv_aload_n hx hb dX1_isSame_567 rfl (lv_at hl 1 rfl) ?_
                                                            refine va_get (D := D) (ci := 1) (v := .ref (a1 2)) (C := RX1) (T := TX1) (N := 10) hx hb hts hin hown hK hP 8 rfl rfl 2 (by decide) (hts (.fieldLink RX1 18 "AfternoonMeterLaw$Sim" "bees" "[[I") (List.mem_of_getElem? (i := 5) rfl)) (fun _ h9 => h9) rfl dX1_isSame_568 ?_
                                                            refine lv_iload hx hb dX1_isSame_571 (lv_at hl 5 rfl) ?_
                                                            refine q_aald (cA := cR) (n := mBc u) (f := br) (ty := .int) hx hb hK 1 hR.2.2.1 rfl (k := n6) (by omega) (by omega) dX1_isSame_573 ?_
                                                            refine lv_iconst (v := nI 0) hx hb dX1_isSame_574 (by decide +kernel) ?_
                                                            refine q_ialdH (cA := cI) (n := 2) (f := pr (mPe u n6) (mBe u n6)) (v := nI (pN u n6)) hx hb hK 0 (hR.2.2.2.2 n6 (by omega)) rfl (k := 0) (by decide) (by decide) ((hIf n6 (by omega)).1) dX1_isSame_575 ?_
                                                            obtain ⟨_, _, _, _, _⟩ := hIf n6 (by omega)
                                                            refine q_imulN hx hb dX1_isSame_576 ?_
                                                            refine lv_icmp_ne (tgt := 611) hx hb dX1_isSame_577 (by decide) (fun c_577 => ?_) (fun c_577 => ?_)
                                                            · skip
                                                              replace c_577 : (TK u n6 * pN u n6) ≠ ((TK u n6) * (pN u n6)) := neN c_577
                                                              exact (by omega : False).elim
                                                            · skip
                                                              replace c_577 : (TK u n6 * pN u n6) = ((TK u n6) * (pN u n6)) := eN c_577
                                                              refine lv_aload_n hx hb dX1_isSame_580 rfl (lv_at hl 2 rfl) ?_
                                                              refine lv_iload hx hb dX1_isSame_581 (lv_at hl 5 rfl) ?_
                                                              refine vp_callSi (W.runV (As := [.int (nI n6)]) (rest := []) ⟨hx, hb, hml, hown, hts⟩ (c_X0_errorOf l D cI h0 a0 u on n6 hI (by omega)) (cwV 1 hts gX1_isSame_X0_errorOf rfl rfl rfl (by decide +kernel) ⟨Nat.le_of_ble_eq_true rfl, Nat.le_of_ble_eq_true rfl⟩) (pu_pre (hK.sub (tys' := [(cI, .int)]) [0] rfl) (hP.sub (ws' := pic0 cI h0 a0 u on) [0, 1, 2, 3, 4, 5, 6, 7] rfl) rfl rfl) rfl rfl hl.1 rfl (lv_room (Nat.le_of_ble_eq_true rfl)) dX1_isSame_583 ⟨Nat.le_of_ble_eq_true rfl, Nat.le_of_ble_eq_true rfl⟩) (fun r hr9 => ?_)
                                                              subst hr9
                                                              rw [fEr_eq u n6]
                                                              refine lv_iload hx hb dX1_isSame_586 (lv_at hl 0 rfl) ?_
                                                              refine lv_aload_n hx hb dX1_isSame_588 rfl (lv_at hl 1 rfl) ?_
                                                              refine va_get (D := D) (ci := 1) (v := .ref (a1 2)) (C := RX1) (T := TX1) (N := 10) hx hb hts hin hown hK hP 8 rfl rfl 2 (by decide) (hts (.fieldLink RX1 18 "AfternoonMeterLaw$Sim" "bees" "[[I") (List.mem_of_getElem? (i := 5) rfl)) (fun _ h9 => h9) rfl dX1_isSame_589 ?_
                                                              refine lv_iload hx hb dX1_isSame_592 (lv_at hl 5 rfl) ?_
                                                              refine q_aald (cA := cR) (n := mBc u) (f := br) (ty := .int) hx hb hK 1 hR.2.2.1 rfl (k := n6) (by omega) (by omega) dX1_isSame_594 ?_
                                                              refine lv_iconst (v := nI 0) hx hb dX1_isSame_595 (by decide +kernel) ?_
                                                              refine q_ialdH (cA := cI) (n := 2) (f := pr (mPe u n6) (mBe u n6)) (v := nI (pN u n6)) hx hb hK 0 (hR.2.2.2.2 n6 (by omega)) rfl (k := 0) (by decide) (by decide) ((hIf n6 (by omega)).1) dX1_isSame_596 ?_
                                                              obtain ⟨_, _, _, _, _⟩ := hIf n6 (by omega)
                                                              refine q_imulN hx hb dX1_isSame_597 ?_
                                                              refine lv_aload_n hx hb dX1_isSame_598 rfl (lv_at hl 1 rfl) ?_
                                                              refine lv_aload_n hx hb dX1_isSame_599 rfl (lv_at hl 1 rfl) ?_
                                                              refine va_get (D := D) (ci := 1) (v := .int (nI (mNow u))) (C := RX1) (T := TX1) (N := 10) hx hb hts hin hown hK hP 8 rfl rfl 7 (by decide) (hts (.fieldLink RX1 39 "AfternoonMeterLaw$Sim" "minute" "I") (List.mem_of_getElem? (i := 2) rfl)) (fun _ h9 => h9) rfl dX1_isSame_600 ?_
                                                              refine lv_iconst (v := (-1)) hx hb dX1_isSame_603 (by decide +kernel) ?_
                                                              refine vp_callSi (W.runV (As := [.int (nI (mNow u)), .int (-1)]) (rest := [.int (nI ((TK u n6) * (pN u n6))), .int (nI (TK u n6 * pN u n6) - nI (AW u))]) ⟨hx, hb, hml, hown, hts⟩ (c_X1_awake l D cI cR h1 a1 nr br u (mNow u) (-1) (Inv.n hI) (by omega)) (cwV 2 hts gX1_isSame_X1_awake rfl rfl rfl (by decide +kernel) ⟨Nat.le_of_ble_eq_true rfl, Nat.le_of_ble_eq_true rfl⟩) (pr_pre hK (hP.sub (ws' := picS h1 a1 u) [8] rfl) hR rfl rfl) rfl rfl hl.1 rfl (lv_room (Nat.le_of_ble_eq_true rfl)) dX1_isSame_604 ⟨Nat.le_of_ble_eq_true rfl, Nat.le_of_ble_eq_true rfl⟩) (fun r hr9 => ?_)
                                                              subst hr9
                                                              rw [awX_m1 hIb, show ct (awB u) (mNow u) = AW u from rfl]
                                                              have haw := AW_le u
                                                              refine lv_isub hx hb dX1_isSame_607 ?_
                                                              refine lv_icmp_eq (tgt := 613) hx hb dX1_isSame_608 (by decide) (fun c_608 => ?_) (fun c_608 => ?_)
                                                              · skip
                                                                refine lv_iload hx hb dX1_isSame_613 (lv_at hl 4 rfl) ?_
                                                                refine lv_if_lt (tgt := 639) hx hb dX1_isSame_615 (by decide) (fun c_615 => ?_) (fun c_615 => ?_)
                                                                · skip
                                                                  refine lv_iload hx hb dX1_isSame_639 (lv_at hl 5 rfl) ?_
                                                                  refine lv_istore (lv' := [(7, .int (nI n6)), (9, .int (nI (TK u n6))), (0, .ref h1), (1, .ref h0), (5, .int U9), (8, .int (nI n6))]) hx hb dX1_isSame_641 hl (by decide) rfl (fun ls hl => ?_)
                                                                  refine lv_iinc (v := nI n6 - nI 1) (lv' := [(8, .int (nI n6 - nI 1)), (7, .int (nI n6)), (9, .int (nI (TK u n6))), (0, .ref h1), (1, .ref h0), (5, .int U9)]) hx hb dX1_isSame_643 hl (k := 5) rfl (nI_im1 _) (by decide) rfl (fun ls hl => ?_)
                                                                  refine lv_goto (tgt := 535) hx hb dX1_isSame_646 (by decide) ?_
                                                                  exact ih6 (k6 + 1) (by omega) (nI n6 - nI 1) (nI n6) (by rfl) (by exact BB_neg hIc hBP c_615) _ (lv_sub hl [3, 4, 5, 1, 0] rfl)
                                                                · skip
                                                                  obtain ⟨j9, hj9, eB9⟩ := BB_pos hBP c_615
                                                                  subst eB9
                                                                  obtain ⟨hj9a, hj9b, _, _⟩ := id hj9
                                                                  refine lv_aload_n hx hb dX1_isSame_618 rfl (lv_at hl 2 rfl) ?_
                                                                  refine lv_iload hx hb dX1_isSame_619 (lv_at hl 5 rfl) ?_
                                                                  refine vp_callSi (W.runV (As := [.int (nI n6)]) (rest := []) ⟨hx, hb, hml, hown, hts⟩ (c_X0_errorOf l D cI h0 a0 u on n6 hI (by omega)) (cwV 1 hts gX1_isSame_X0_errorOf rfl rfl rfl (by decide +kernel) ⟨Nat.le_of_ble_eq_true rfl, Nat.le_of_ble_eq_true rfl⟩) (pu_pre (hK.sub (tys' := [(cI, .int)]) [0] rfl) (hP.sub (ws' := pic0 cI h0 a0 u on) [0, 1, 2, 3, 4, 5, 6, 7] rfl) rfl rfl) rfl rfl hl.1 rfl (lv_room (Nat.le_of_ble_eq_true rfl)) dX1_isSame_621 ⟨Nat.le_of_ble_eq_true rfl, Nat.le_of_ble_eq_true rfl⟩) (fun r hr9 => ?_)
                                                                  subst hr9
                                                                  rw [fEr_eq u n6]
                                                                  refine va_mabs hx hb (hml.trans hl.1.symm) hown (hts (.methodLink RX1 126 Lib.Math.abs.name) (List.mem_of_getElem? (i := 8) rfl)) (hts (.static Lib.Math.abs.name) (List.mem_of_getElem? (i := 9) rfl)) (hts (.initialized "java/lang/Math") (List.mem_of_getElem? (i := 10) rfl)) (hts _ (List.mem_of_getElem? (i := 11) rfl)) (Nat.le_of_ble_eq_true rfl) (Nat.le_of_ble_eq_true rfl) (Nat.le_of_ble_eq_true rfl) (Nat.le_of_ble_eq_true rfl) dX1_isSame_624 ?_
                                                                  rw [show (if 0 ≤ nI (TK u n6 * pN u n6) - nI (AW u) then nI (TK u n6 * pN u n6) - nI (AW u) else 0 - (nI (TK u n6 * pN u n6) - nI (AW u))) = nI (EN u n6) from by rw [← fEr_eq]; exact fEr_ab hI (by omega)]
                                                                  refine lv_aload_n hx hb dX1_isSame_627 rfl (lv_at hl 2 rfl) ?_
                                                                  refine lv_iload hx hb dX1_isSame_628 (lv_at hl 4 rfl) ?_
                                                                  refine vp_callSi (W.runV (As := [.int (nI j9)]) (rest := [.int (nI (EN u n6))]) ⟨hx, hb, hml, hown, hts⟩ (c_X0_errorOf l D cI h0 a0 u on j9 hI (by omega)) (cwV 1 hts gX1_isSame_X0_errorOf rfl rfl rfl (by decide +kernel) ⟨Nat.le_of_ble_eq_true rfl, Nat.le_of_ble_eq_true rfl⟩) (pu_pre (hK.sub (tys' := [(cI, .int)]) [0] rfl) (hP.sub (ws' := pic0 cI h0 a0 u on) [0, 1, 2, 3, 4, 5, 6, 7] rfl) rfl rfl) rfl rfl hl.1 rfl (lv_room (Nat.le_of_ble_eq_true rfl)) dX1_isSame_630 ⟨Nat.le_of_ble_eq_true rfl, Nat.le_of_ble_eq_true rfl⟩) (fun r hr9 => ?_)
                                                                  subst hr9
                                                                  rw [fEr_eq u j9]
                                                                  refine va_mabs hx hb (hml.trans hl.1.symm) hown (hts (.methodLink RX1 126 Lib.Math.abs.name) (List.mem_of_getElem? (i := 8) rfl)) (hts (.static Lib.Math.abs.name) (List.mem_of_getElem? (i := 9) rfl)) (hts (.initialized "java/lang/Math") (List.mem_of_getElem? (i := 10) rfl)) (hts _ (List.mem_of_getElem? (i := 11) rfl)) (Nat.le_of_ble_eq_true rfl) (Nat.le_of_ble_eq_true rfl) (Nat.le_of_ble_eq_true rfl) (Nat.le_of_ble_eq_true rfl) dX1_isSame_633 ?_
                                                                  rw [show (if 0 ≤ nI (TK u j9 * pN u j9) - nI (AW u) then nI (TK u j9 * pN u j9) - nI (AW u) else 0 - (nI (TK u j9 * pN u j9) - nI (AW u))) = nI (EN u j9) from by rw [← fEr_eq]; exact fEr_ab hI (by omega)]
                                                                  have hen1 := EN_le hI (b := n6) (by omega)
                                                                  have hen2 := EN_le hI (b := j9) (by omega)
                                                                  refine lv_icmp_gt (tgt := 643) hx hb dX1_isSame_636 (by decide) (fun c_636 => ?_) (fun c_636 => ?_)
                                                                  · skip
                                                                    replace c_636 : (EN u j9) < (EN u n6) := ltN c_636
                                                                    refine lv_iinc (v := nI n6 - nI 1) (lv' := [(8, .int (nI n6 - nI 1)), (9, .int (nI (TK u n6))), (0, .ref h1), (1, .ref h0), (5, .int U9), (7, .int (nI j9))]) hx hb dX1_isSame_643 hl (k := 5) rfl (nI_im1 _) (by decide) rfl (fun ls hl => ?_)
                                                                    refine lv_goto (tgt := 535) hx hb dX1_isSame_646 (by decide) ?_
                                                                    exact ih6 (k6 + 1) (by omega) (nI n6 - nI 1) (nI j9) (by rfl) (by exact Or.inr ⟨j9, hj9.skip c_636, rfl⟩) _ (lv_sub hl [2, 3, 4, 5, 0] rfl)
                                                                  · skip
                                                                    replace c_636 : (EN u n6) ≤ (EN u j9) := nltN c_636
                                                                    refine lv_iload hx hb dX1_isSame_639 (lv_at hl 5 rfl) ?_
                                                                    refine lv_istore (lv' := [(7, .int (nI n6)), (9, .int (nI (TK u n6))), (0, .ref h1), (1, .ref h0), (5, .int U9), (8, .int (nI n6))]) hx hb dX1_isSame_641 hl (by decide) rfl (fun ls hl => ?_)
                                                                    refine lv_iinc (v := nI n6 - nI 1) (lv' := [(8, .int (nI n6 - nI 1)), (7, .int (nI n6)), (9, .int (nI (TK u n6))), (0, .ref h1), (1, .ref h0), (5, .int U9)]) hx hb dX1_isSame_643 hl (k := 5) rfl (nI_im1 _) (by decide) rfl (fun ls hl => ?_)
                                                                    refine lv_goto (tgt := 535) hx hb dX1_isSame_646 (by decide) ?_
                                                                    exact ih6 (k6 + 1) (by omega) (nI n6 - nI 1) (nI n6) (by rfl) (by exact Or.inr ⟨n6, hj9.take c_636, rfl⟩) _ (lv_sub hl [3, 4, 5, 1, 0] rfl)
                                                              · skip
                                                                exact (c_608 rfl).elim
                                                    exact lp535 _ 0 (Nat.zero_add _) ((nI (mBc u)) - (nI 1)) (-1) (by rfl) (by exact Or.inl ⟨rfl, rfl⟩) _ (lv_sub hl [2, 3, 4, 1, 0] rfl)
                                                  · skip
                                                    exact (c_417 (by rw [eK5]; decide +kernel)).elim
                                                | succ n5 ih5 =>
                                                  intro k5 hk5 K5 U9 M9 eK5 hUP ls hl
                                                  have eK5b : K5 = nI n5 := by rw [eK5, nI_sub (by omega)]; rfl
                                                  subst eK5b
                                                  refine lv_iload hx hb dX1_isSame_415 (lv_at hl 4 rfl) ?_
                                                  refine lv_if_lt (tgt := 523) hx hb dX1_isSame_417 (by decide) (fun c_417 => ?_) (fun c_417 => ?_)
                                                  · skip
                                                    replace c_417 : n5 < 0 := ltN c_417
                                                    exact (by omega : False).elim
                                                  · skip
                                                    replace c_417 : 0 ≤ n5 := nltN c_417
                                                    refine lv_aload_n hx hb dX1_isSame_420 rfl (lv_at hl 0 rfl) ?_
                                                    refine lv_sipush (v := nI 360) hx hb dX1_isSame_421 (by decide +kernel) ?_
                                                    refine lv_iload hx hb dX1_isSame_424 (lv_at hl 4 rfl) ?_
                                                    refine vp_callSi (W.runV (As := [.int (nI 360), .int (nI n5)]) (rest := []) ⟨hx, hb, hml, hown, hts⟩ (c_X1_awake l D cI cR h1 a1 nr br u 360 (nI n5) (Inv.n hI) (by omega)) (cwV 2 hts gX1_isSame_X1_awake rfl rfl rfl (by decide +kernel) ⟨Nat.le_of_ble_eq_true rfl, Nat.le_of_ble_eq_true rfl⟩) (pr_pre hK (hP.sub (ws' := picS h1 a1 u) [8] rfl) hR rfl rfl) rfl rfl hl.1 rfl (lv_room (Nat.le_of_ble_eq_true rfl)) dX1_isSame_426 ⟨Nat.le_of_ble_eq_true rfl, Nat.le_of_ble_eq_true rfl⟩) (fun r hr9 => ?_)
                                                    subst hr9
                                                    rw [awX_j hIb (by omega)]
                                                    have hct := ct_le (awB u) 360
                                                    have hal_x := AL_le u n5
                                                    refine lv_aload_n hx hb dX1_isSame_429 rfl (lv_at hl 0 rfl) ?_
                                                    refine lv_sipush (v := nI 360) hx hb dX1_isSame_430 (by decide +kernel) ?_
                                                    refine lv_iconst (v := (-1)) hx hb dX1_isSame_433 (by decide +kernel) ?_
                                                    refine vp_callSi (W.runV (As := [.int (nI 360), .int (-1)]) (rest := [.int (nI (ct (awB u) 360 + AL u n5))]) ⟨hx, hb, hml, hown, hts⟩ (c_X1_awake l D cI cR h1 a1 nr br u 360 (-1) (Inv.n hI) (by omega)) (cwV 2 hts gX1_isSame_X1_awake rfl rfl rfl (by decide +kernel) ⟨Nat.le_of_ble_eq_true rfl, Nat.le_of_ble_eq_true rfl⟩) (pr_pre hK (hP.sub (ws' := picS h1 a1 u) [8] rfl) hR rfl rfl) rfl rfl hl.1 rfl (lv_room (Nat.le_of_ble_eq_true rfl)) dX1_isSame_434 ⟨Nat.le_of_ble_eq_true rfl, Nat.le_of_ble_eq_true rfl⟩) (fun r hr9 => ?_)
                                                    subst hr9
                                                    rw [awX_m1 hIb]
                                                    have hct := ct_le (awB u) 360
                                                    refine q_isubN hx hb (by omega) dX1_isSame_437 ?_
                                                    rw [show ct (awB u) 360 + AL u n5 - ct (awB u) 360 = AL u n5 from Nat.add_sub_cancel_left _ _]
                                                    refine lv_istore (lv' := [(8, .int (nI (AL u n5))), (0, .ref h1), (1, .ref h0), (5, .int U9), (6, .int M9), (7, .int (nI n5))]) hx hb dX1_isSame_438 hl (by decide) rfl (fun ls hl => ?_)
                                                    refine lv_aload_n hx hb dX1_isSame_440 rfl (lv_at hl 2 rfl) ?_
                                                    refine lv_iload hx hb dX1_isSame_441 (lv_at hl 5 rfl) ?_
                                                    refine vp_callSi (W.runV (As := [.int (nI n5)]) (rest := []) ⟨hx, hb, hml, hown, hts⟩ (c_X0_startOf l D cI h0 a0 u on n5 hI (by omega)) (cwV 1 hts gX1_isSame_X0_startOf rfl rfl rfl (by decide +kernel) ⟨Nat.le_of_ble_eq_true rfl, Nat.le_of_ble_eq_true rfl⟩) (pu_pre (hK.sub (tys' := [(cI, .int)]) [0] rfl) (hP.sub (ws' := pic0 cI h0 a0 u on) [0, 1, 2, 3, 4, 5, 6, 7] rfl) rfl rfl) rfl rfl hl.1 rfl (lv_room (Nat.le_of_ble_eq_true rfl)) dX1_isSame_443 ⟨Nat.le_of_ble_eq_true rfl, Nat.le_of_ble_eq_true rfl⟩) (fun r hr9 => ?_)
                                                    subst hr9
                                                    obtain ⟨_, _, _, _⟩ := hIg n5 (by omega)
                                                    refine lv_aload_n hx hb dX1_isSame_446 rfl (lv_at hl 1 rfl) ?_
                                                    refine va_get (D := D) (ci := 1) (v := .ref (a1 1)) (C := RX1) (T := TX1) (N := 10) hx hb hts hin hown hK hP 8 rfl rfl 1 (by decide) (hts (.fieldLink RX1 14 "AfternoonMeterLaw$Sim" "naps" "[[I") (List.mem_of_getElem? (i := 4) rfl)) (fun _ h9 => h9) rfl dX1_isSame_447 ?_
                                                    refine lv_iload hx hb dX1_isSame_450 (lv_at hl 5 rfl) ?_
                                                    refine q_aald (cA := cR) (n := mNc u) (f := nr) (ty := .int) hx hb hK 1 hR.2.1 rfl (k := n5) (by omega) (by omega) dX1_isSame_452 ?_
                                                    refine lv_iconst (v := nI 0) hx hb dX1_isSame_453 (by decide +kernel) ?_
                                                    refine q_ialdH (cA := cI) (n := 2) (f := pr (mFr u n5) (mTo u n5)) (v := nI (aN u n5)) hx hb hK 0 (hR.2.2.2.1 n5 (by omega)) rfl (k := 0) (by decide) (by decide) ((hIg n5 (by omega)).1) dX1_isSame_454 ?_
                                                    obtain ⟨_, _, _, _⟩ := hIg n5 (by omega)
                                                    refine lv_icmp_ne (tgt := 497) hx hb dX1_isSame_455 (by decide) (fun c_455 => ?_) (fun c_455 => ?_)
                                                    · skip
                                                      replace c_455 : (aN u n5) ≠ (aN u n5) := neN c_455
                                                      exact (by omega : False).elim
                                                    · skip
                                                      replace c_455 : (aN u n5) = (aN u n5) := eN c_455
                                                      refine lv_aload_n hx hb dX1_isSame_458 rfl (lv_at hl 2 rfl) ?_
                                                      refine lv_iload hx hb dX1_isSame_459 (lv_at hl 5 rfl) ?_
                                                      refine vp_callSi (W.runV (As := [.int (nI n5)]) (rest := []) ⟨hx, hb, hml, hown, hts⟩ (c_X0_lengthOf l D cI h0 a0 u on n5 hI (by omega)) (cwV 1 hts gX1_isSame_X0_lengthOf rfl rfl rfl (by decide +kernel) ⟨Nat.le_of_ble_eq_true rfl, Nat.le_of_ble_eq_true rfl⟩) (pu_pre (hK.sub (tys' := [(cI, .int)]) [0] rfl) (hP.sub (ws' := pic0 cI h0 a0 u on) [0, 1, 2, 3, 4, 5, 6, 7] rfl) rfl rfl) rfl rfl hl.1 rfl (lv_room (Nat.le_of_ble_eq_true rfl)) dX1_isSame_461 ⟨Nat.le_of_ble_eq_true rfl, Nat.le_of_ble_eq_true rfl⟩) (fun r hr9 => ?_)
                                                      subst hr9
                                                      obtain ⟨_, _, _, _⟩ := hIg n5 (by omega)
                                                      refine lv_aload_n hx hb dX1_isSame_464 rfl (lv_at hl 1 rfl) ?_
                                                      refine va_get (D := D) (ci := 1) (v := .ref (a1 1)) (C := RX1) (T := TX1) (N := 10) hx hb hts hin hown hK hP 8 rfl rfl 1 (by decide) (hts (.fieldLink RX1 14 "AfternoonMeterLaw$Sim" "naps" "[[I") (List.mem_of_getElem? (i := 4) rfl)) (fun _ h9 => h9) rfl dX1_isSame_465 ?_
                                                      refine lv_iload hx hb dX1_isSame_468 (lv_at hl 5 rfl) ?_
                                                      refine q_aald (cA := cR) (n := mNc u) (f := nr) (ty := .int) hx hb hK 1 hR.2.1 rfl (k := n5) (by omega) (by omega) dX1_isSame_470 ?_
                                                      refine lv_iconst (v := nI 1) hx hb dX1_isSame_471 (by decide +kernel) ?_
                                                      refine q_ialdH (cA := cI) (n := 2) (f := pr (mFr u n5) (mTo u n5)) (v := nI (bN u n5)) hx hb hK 0 (hR.2.2.2.1 n5 (by omega)) rfl (k := 1) (by decide) (by decide) ((hIg n5 (by omega)).2.1) dX1_isSame_472 ?_
                                                      obtain ⟨_, _, _, _⟩ := hIg n5 (by omega)
                                                      refine lv_aload_n hx hb dX1_isSame_473 rfl (lv_at hl 1 rfl) ?_
                                                      refine va_get (D := D) (ci := 1) (v := .ref (a1 1)) (C := RX1) (T := TX1) (N := 10) hx hb hts hin hown hK hP 8 rfl rfl 1 (by decide) (hts (.fieldLink RX1 14 "AfternoonMeterLaw$Sim" "naps" "[[I") (List.mem_of_getElem? (i := 4) rfl)) (fun _ h9 => h9) rfl dX1_isSame_474 ?_
                                                      refine lv_iload hx hb dX1_isSame_477 (lv_at hl 5 rfl) ?_
                                                      refine q_aald (cA := cR) (n := mNc u) (f := nr) (ty := .int) hx hb hK 1 hR.2.1 rfl (k := n5) (by omega) (by omega) dX1_isSame_479 ?_
                                                      refine lv_iconst (v := nI 0) hx hb dX1_isSame_480 (by decide +kernel) ?_
                                                      refine q_ialdH (cA := cI) (n := 2) (f := pr (mFr u n5) (mTo u n5)) (v := nI (aN u n5)) hx hb hK 0 (hR.2.2.2.1 n5 (by omega)) rfl (k := 0) (by decide) (by decide) ((hIg n5 (by omega)).1) dX1_isSame_481 ?_
                                                      obtain ⟨_, _, _, _⟩ := hIg n5 (by omega)
                                                      refine q_isubN hx hb (by omega) dX1_isSame_482 ?_
                                                      refine lv_icmp_ne (tgt := 497) hx hb dX1_isSame_483 (by decide) (fun c_483 => ?_) (fun c_483 => ?_)
                                                      · skip
                                                        replace c_483 : (bN u n5 - aN u n5) ≠ ((bN u n5) - (aN u n5)) := neN c_483
                                                        exact (by omega : False).elim
                                                      · skip
                                                        replace c_483 : (bN u n5 - aN u n5) = ((bN u n5) - (aN u n5)) := eN c_483
                                                        refine lv_aload_n hx hb dX1_isSame_486 rfl (lv_at hl 2 rfl) ?_
                                                        refine lv_iload hx hb dX1_isSame_487 (lv_at hl 5 rfl) ?_
                                                        refine vp_callSi (W.runV (As := [.int (nI n5)]) (rest := []) ⟨hx, hb, hml, hown, hts⟩ (c_X0_minutesAlone l D cI h0 a0 u on n5 hI (by omega)) (cwV 1 hts gX1_isSame_X0_minutesAlone rfl rfl rfl (by decide +kernel) ⟨Nat.le_of_ble_eq_true rfl, Nat.le_of_ble_eq_true rfl⟩) (pu_pre (hK.sub (tys' := [(cI, .int)]) [0] rfl) (hP.sub (ws' := pic0 cI h0 a0 u on) [0, 1, 2, 3, 4, 5, 6, 7] rfl) rfl rfl) rfl rfl hl.1 rfl (lv_room (Nat.le_of_ble_eq_true rfl)) dX1_isSame_489 ⟨Nat.le_of_ble_eq_true rfl, Nat.le_of_ble_eq_true rfl⟩) (fun r hr9 => ?_)
                                                        subst hr9
                                                        rw [fAl_eq u n5]
                                                        have hal_x := AL_le u n5
                                                        refine lv_iload hx hb dX1_isSame_492 (lv_at hl 0 rfl) ?_
                                                        refine lv_icmp_eq (tgt := 499) hx hb dX1_isSame_494 (by decide) (fun c_494 => ?_) (fun c_494 => ?_)
                                                        · skip
                                                          replace c_494 : (AL u n5) = (AL u n5) := eN c_494
                                                          refine lv_iload hx hb dX1_isSame_499 (lv_at hl 0 rfl) ?_
                                                          refine lv_iload hx hb dX1_isSame_501 (lv_at hl 4 rfl) ?_
                                                          refine lv_icmp_ge (tgt := 509) hx hb dX1_isSame_503 (by decide) (fun c_503 => ?_) (fun c_503 => ?_)
                                                          · skip
                                                            refine lv_iload hx hb dX1_isSame_509 (lv_at hl 5 rfl) ?_
                                                            refine lv_istore (lv' := [(5, .int (nI n5)), (8, .int (nI (AL u n5))), (0, .ref h1), (1, .ref h0), (6, .int M9), (7, .int (nI n5))]) hx hb dX1_isSame_511 hl (by decide) rfl (fun ls hl => ?_)
                                                            refine lv_iload hx hb dX1_isSame_513 (lv_at hl 1 rfl) ?_
                                                            refine lv_istore (lv' := [(6, .int (nI (AL u n5))), (5, .int (nI n5)), (8, .int (nI (AL u n5))), (0, .ref h1), (1, .ref h0), (7, .int (nI n5))]) hx hb dX1_isSame_515 hl (by decide) rfl (fun ls hl => ?_)
                                                            refine lv_iinc (v := nI n5 - nI 1) (lv' := [(7, .int (nI n5 - nI 1)), (6, .int (nI (AL u n5))), (5, .int (nI n5)), (8, .int (nI (AL u n5))), (0, .ref h1), (1, .ref h0)]) hx hb dX1_isSame_517 hl (k := 5) rfl (nI_im1 _) (by decide) rfl (fun ls hl => ?_)
                                                            refine lv_goto (tgt := 415) hx hb dX1_isSame_520 (by decide) ?_
                                                            exact ih5 (k5 + 1) (by omega) (nI n5 - nI 1) (nI n5) (nI (AL u n5)) (by rfl) (by exact UP_take (by omega) hUP c_503) _ (lv_sub hl [4, 5, 2, 1, 0] rfl)
                                                          · skip
                                                            refine lv_goto (tgt := 517) hx hb dX1_isSame_506 (by decide) ?_
                                                            refine lv_iinc (v := nI n5 - nI 1) (lv' := [(7, .int (nI n5 - nI 1)), (8, .int (nI (AL u n5))), (0, .ref h1), (1, .ref h0), (5, .int U9), (6, .int M9)]) hx hb dX1_isSame_517 hl (k := 5) rfl (nI_im1 _) (by decide) rfl (fun ls hl => ?_)
                                                            refine lv_goto (tgt := 415) hx hb dX1_isSame_520 (by decide) ?_
                                                            exact ih5 (k5 + 1) (by omega) (nI n5 - nI 1) U9 M9 (by rfl) (by exact UP_skip (by omega) hUP c_503) _ (lv_sub hl [2, 3, 4, 5, 0] rfl)
                                                        · skip
                                                          replace c_494 : (AL u n5) ≠ (AL u n5) := neN c_494
                                                          exact (by omega : False).elim
                                              exact lp415 _ 0 (Nat.zero_add _) ((nI (mNc u)) - (nI 1)) (-1) (-1) (by rfl) (by exact Or.inl ⟨rfl, rfl, rfl⟩) _ (lv_sub hl [3, 4, 2, 1, 0] rfl)
                                            · skip
                                              exact (c_395 (by rw [show FP.ddiv (FP.i2d X3) (FP.i2d (nI (mSc u))) = fMean u by unfold fMean; rw [if_neg c_377, ← eF], mean_cmp hI]; decide +kernel)).elim
                                          · skip
                                            replace c_377 : (mSc u) = 0 := eN c_377
                                            refine lv_dconst0 hx hb dX1_isSame_380 ?_
                                            refine lv_goto (tgt := 394) hx hb dX1_isSame_381 (by decide) ?_
                                            refine lv_dcmp hx hb dX1_isSame_394 ?_
                                            refine lv_if_eq (tgt := 400) hx hb dX1_isSame_395 (by decide) (fun c_395 => ?_) (fun c_395 => ?_)
                                            · skip
                                              refine lv_iconst (v := (-1)) hx hb dX1_isSame_400 (by decide +kernel) ?_
                                              refine lv_istore (lv' := [(5, .int (-1)), (0, .ref h1), (1, .ref h0), (4, .int X3)]) hx hb dX1_isSame_401 hl (by decide) rfl (fun ls hl => ?_)
                                              refine lv_iconst (v := (-1)) hx hb dX1_isSame_403 (by decide +kernel) ?_
                                              refine lv_istore (lv' := [(6, .int (-1)), (5, .int (-1)), (0, .ref h1), (1, .ref h0), (4, .int X3)]) hx hb dX1_isSame_404 hl (by decide) rfl (fun ls hl => ?_)
                                              refine lv_aload_n hx hb dX1_isSame_406 rfl (lv_at hl 2 rfl) ?_
                                              refine va_get (D := D) (ci := 1) (v := .ref (a1 1)) (C := RX1) (T := TX1) (N := 10) hx hb hts hin hown hK hP 8 rfl rfl 1 (by decide) (hts (.fieldLink RX1 14 "AfternoonMeterLaw$Sim" "naps" "[[I") (List.mem_of_getElem? (i := 4) rfl)) (fun _ h9 => h9) rfl dX1_isSame_407 ?_
                                              refine va_alen (ws := [(a1 1, .inl (cR, mNc u, .inr (.inr (.inr (.inr (rfs nr))))))]) (v := nI (mNc u)) hx hb hK (P_one hR.2.1) 0 1 rfl rfl rfl dX1_isSame_410 ?_
                                              refine lv_iconst (v := nI 1) hx hb dX1_isSame_411 (by decide +kernel) ?_
                                              refine lv_isub hx hb dX1_isSame_412 ?_
                                              refine lv_istore (lv' := [(7, .int ((nI (mNc u)) - (nI 1))), (6, .int (-1)), (5, .int (-1)), (0, .ref h1), (1, .ref h0), (4, .int X3)]) hx hb dX1_isSame_413 hl (by decide) rfl (fun ls hl => ?_)
                                              have lp415 : ∀ (n5 k5 : Nat), k5 + n5 = mNc u → ∀ (K5 : Int32), ∀ (U9 : Int32), ∀ (M9 : Int32), K5 = nI n5 - nI 1 → UPp u n5 U9 M9 → ∀ (ls : Array Slot), lv_has ls 10 [(0, .ref h1), (1, .ref h0), (5, .int U9), (6, .int M9), (7, .int K5)] → W p l e ({ frames := 6, cells := 0, slots := 0, locals := 134 } : Room) s m args below meth c s.heap [] 0 0 (MQ below (vp_Si (fun r => r = nI 1)) args s 0 0 (fun _ => False)) (F0 m 415 ls []) := by
                                                intro n5
                                                induction n5 with
                                                | zero =>
                                                  intro k5 hk5 K5 U9 M9 eK5 hUP ls hl
                                                  refine lv_iload hx hb dX1_isSame_415 (lv_at hl 4 rfl) ?_
                                                  refine lv_if_lt (tgt := 523) hx hb dX1_isSame_417 (by decide) (fun c_417 => ?_) (fun c_417 => ?_)
                                                  · skip
                                                    refine lv_iconst (v := (-1)) hx hb dX1_isSame_523 (by decide +kernel) ?_
                                                    refine lv_istore (lv' := [(7, .int (-1)), (0, .ref h1), (1, .ref h0), (5, .int U9), (6, .int M9)]) hx hb dX1_isSame_524 hl (by decide) rfl (fun ls hl => ?_)
                                                    refine lv_aload_n hx hb dX1_isSame_526 rfl (lv_at hl 1 rfl) ?_
                                                    refine va_get (D := D) (ci := 1) (v := .ref (a1 2)) (C := RX1) (T := TX1) (N := 10) hx hb hts hin hown hK hP 8 rfl rfl 2 (by decide) (hts (.fieldLink RX1 18 "AfternoonMeterLaw$Sim" "bees" "[[I") (List.mem_of_getElem? (i := 5) rfl)) (fun _ h9 => h9) rfl dX1_isSame_527 ?_
                                                    refine va_alen (ws := [(a1 2, .inl (cR, mBc u, .inr (.inr (.inr (.inr (rfs br))))))]) (v := nI (mBc u)) hx hb hK (P_one hR.2.2.1) 0 1 rfl rfl rfl dX1_isSame_530 ?_
                                                    refine lv_iconst (v := nI 1) hx hb dX1_isSame_531 (by decide +kernel) ?_
                                                    refine lv_isub hx hb dX1_isSame_532 ?_
                                                    refine lv_istore (lv' := [(8, .int ((nI (mBc u)) - (nI 1))), (7, .int (-1)), (0, .ref h1), (1, .ref h0), (5, .int U9), (6, .int M9)]) hx hb dX1_isSame_533 hl (by decide) rfl (fun ls hl => ?_)
                                                    have lp535 : ∀ (n6 k6 : Nat), k6 + n6 = mBc u → ∀ (K6 : Int32), ∀ (B9 : Int32), K6 = nI n6 - nI 1 → BBq u n6 B9 → ∀ (ls : Array Slot), lv_has ls 10 [(0, .ref h1), (1, .ref h0), (5, .int U9), (7, .int B9), (8, .int K6)] → W p l e ({ frames := 6, cells := 0, slots := 0, locals := 134 } : Room) s m args below meth c s.heap [] 0 0 (MQ below (vp_Si (fun r => r = nI 1)) args s 0 0 (fun _ => False)) (F0 m 535 ls []) := by
                                                      intro n6
                                                      induction n6 with
                                                      | zero =>
                                                        intro k6 hk6 K6 B9 eK6 hBP ls hl
                                                        refine lv_iload hx hb dX1_isSame_535 (lv_at hl 4 rfl) ?_
                                                        refine lv_if_lt (tgt := 649) hx hb dX1_isSame_537 (by decide) (fun c_537 => ?_) (fun c_537 => ?_)
                                                        · skip
                                                          refine lv_aload_n hx hb dX1_isSame_649 rfl (lv_at hl 1 rfl) ?_
                                                          refine vp_callSi (W.runV (As := []) (rest := []) ⟨hx, hb, hml, hown, hts⟩ (c_X0_bestToGiveUp l D cI h0 a0 u on hI) (cwV 0 hts gX1_isSame_X0_bestToGiveUp rfl rfl rfl (by decide +kernel) ⟨Nat.le_of_ble_eq_true rfl, Nat.le_of_ble_eq_true rfl⟩) (pu_pre (hK.sub (tys' := [(cI, .int)]) [0] rfl) (hP.sub (ws' := pic0 cI h0 a0 u on) [0, 1, 2, 3, 4, 5, 6, 7] rfl) rfl rfl) rfl rfl hl.1 rfl (lv_room (Nat.le_of_ble_eq_true rfl)) dX1_isSame_650 ⟨Nat.le_of_ble_eq_true rfl, Nat.le_of_ble_eq_true rfl⟩) (fun r hr9 => ?_)
                                                          subst hr9
                                                          refine lv_iload hx hb dX1_isSame_653 (lv_at hl 2 rfl) ?_
                                                          refine lv_icmp_ne (tgt := 671) hx hb dX1_isSame_655 (by decide) (fun c_655 => ?_) (fun c_655 => ?_)
                                                          · skip
                                                            exact (c_655 (UP_end hIb hUP)).elim
                                                          · skip
                                                            refine lv_aload_n hx hb dX1_isSame_658 rfl (lv_at hl 1 rfl) ?_
                                                            refine vp_callSi (W.runV (As := []) (rest := []) ⟨hx, hb, hml, hown, hts⟩ (c_X0_bestBee l D cI h0 a0 u on hI) (cwV 0 hts gX1_isSame_X0_bestBee rfl rfl rfl (by decide +kernel) ⟨Nat.le_of_ble_eq_true rfl, Nat.le_of_ble_eq_true rfl⟩) (pu_pre (hK.sub (tys' := [(cI, .int)]) [0] rfl) (hP.sub (ws' := pic0 cI h0 a0 u on) [0, 1, 2, 3, 4, 5, 6, 7] rfl) rfl rfl) rfl rfl hl.1 rfl (lv_room (Nat.le_of_ble_eq_true rfl)) dX1_isSame_659 ⟨Nat.le_of_ble_eq_true rfl, Nat.le_of_ble_eq_true rfl⟩) (fun r hr9 => ?_)
                                                            subst hr9
                                                            refine lv_iload hx hb dX1_isSame_662 (lv_at hl 3 rfl) ?_
                                                            refine lv_icmp_ne (tgt := 671) hx hb dX1_isSame_664 (by decide) (fun c_664 => ?_) (fun c_664 => ?_)
                                                            · skip
                                                              exact (c_664 (BB_end hI hBP)).elim
                                                            · skip
                                                              refine lv_iconst (v := nI 1) hx hb dX1_isSame_667 (by decide +kernel) ?_
                                                              refine lv_goto (tgt := 672) hx hb dX1_isSame_668 (by decide) ?_
                                                              exact W.zret (ty := .boolean) hx hb hr (by decide +kernel) (fun t ht _ => ⟨_, rfl, rfl, ht⟩) (fun _ h9 => nomatch h9) dX1_isSame_672
                                                        · skip
                                                          exact (c_537 (by rw [eK6]; decide +kernel)).elim
                                                      | succ n6 ih6 =>
                                                        intro k6 hk6 K6 B9 eK6 hBP ls hl
                                                        have eK6b : K6 = nI n6 := by rw [eK6, nI_sub (by omega)]; rfl
                                                        subst eK6b
                                                        refine lv_iload hx hb dX1_isSame_535 (lv_at hl 4 rfl) ?_
                                                        refine lv_if_lt (tgt := 649) hx hb dX1_isSame_537 (by decide) (fun c_537 => ?_) (fun c_537 => ?_)
                                                        · skip
                                                          replace c_537 : n6 < 0 := ltN c_537
                                                          exact (by omega : False).elim
                                                        · skip
                                                          replace c_537 : 0 ≤ n6 := nltN c_537
                                                          refine lv_aload_n hx hb dX1_isSame_540 rfl (lv_at hl 0 rfl) ?_
                                                          refine lv_iload hx hb dX1_isSame_541 (lv_at hl 4 rfl) ?_
                                                          refine vp_callSi (W.runV (As := [.int (nI n6)]) (rest := []) ⟨hx, hb, hml, hown, hts⟩ (c_X1_ticked l D cI cR h1 a1 nr br u n6 (Inv.n hI) (by omega)) (cwV 1 hts gX1_isSame_X1_ticked rfl rfl rfl (by decide +kernel) ⟨Nat.le_of_ble_eq_true rfl, Nat.le_of_ble_eq_true rfl⟩) (pr_pre hK (hP.sub (ws' := picS h1 a1 u) [8] rfl) hR rfl rfl) rfl rfl hl.1 rfl (lv_room (Nat.le_of_ble_eq_true rfl)) dX1_isSame_543 ⟨Nat.le_of_ble_eq_true rfl, Nat.le_of_ble_eq_true rfl⟩) (fun r hr9 => ?_)
                                                          subst hr9
                                                          rw [show ct (tkB u n6) (mNow u) = TK u n6 from rfl]
                                                          have htk := TK_le u n6
                                                          refine lv_istore (lv' := [(9, .int (nI (TK u n6))), (0, .ref h1), (1, .ref h0), (5, .int U9), (7, .int B9), (8, .int (nI n6))]) hx hb dX1_isSame_546 hl (by decide) rfl (fun ls hl => ?_)
                                                          refine lv_aload_n hx hb dX1_isSame_548 rfl (lv_at hl 2 rfl) ?_
                                                          refine lv_iload hx hb dX1_isSame_549 (lv_at hl 5 rfl) ?_
                                                          refine vp_callSi (W.runV (As := [.int (nI n6)]) (rest := []) ⟨hx, hb, hml, hown, hts⟩ (c_X0_ticksOf l D cI h0 a0 u on n6 hI (by omega)) (cwV 1 hts gX1_isSame_X0_ticksOf rfl rfl rfl (by decide +kernel) ⟨Nat.le_of_ble_eq_true rfl, Nat.le_of_ble_eq_true rfl⟩) (pu_pre (hK.sub (tys' := [(cI, .int)]) [0] rfl) (hP.sub (ws' := pic0 cI h0 a0 u on) [0, 1, 2, 3, 4, 5, 6, 7] rfl) rfl rfl) rfl rfl hl.1 rfl (lv_room (Nat.le_of_ble_eq_true rfl)) dX1_isSame_551 ⟨Nat.le_of_ble_eq_true rfl, Nat.le_of_ble_eq_true rfl⟩) (fun r hr9 => ?_)
                                                          subst hr9
                                                          rw [fTk_eq u n6]
                                                          have htk := TK_le u n6
                                                          refine lv_iload hx hb dX1_isSame_554 (lv_at hl 0 rfl) ?_
                                                          refine lv_icmp_ne (tgt := 611) hx hb dX1_isSame_556 (by decide) (fun c_556 => ?_) (fun c_556 => ?_)
                                                          · skip
                                                            replace c_556 : (TK u n6) ≠ (TK u n6) := neN c_556
                                                            exact (by omega : False).elim
                                                          · skip
                                                            replace c_556 : (TK u n6) = (TK u n6) := eN c_556
                                                            refine lv_aload_n hx hb dX1_isSame_559 rfl (lv_at hl 2 rfl) ?_
                                                            refine lv_iload hx hb dX1_isSame_560 (lv_at hl 5 rfl) ?_
                                                            refine vp_callSi (W.runV (As := [.int (nI n6)]) (rest := []) ⟨hx, hb, hml, hown, hts⟩ (c_X0_measuredBy l D cI h0 a0 u on n6 hI (by omega)) (cwV 1 hts gX1_isSame_X0_measuredBy rfl rfl rfl (by decide +kernel) ⟨Nat.le_of_ble_eq_true rfl, Nat.le_of_ble_eq_true rfl⟩) (pu_pre (hK.sub (tys' := [(cI, .int)]) [0] rfl) (hP.sub (ws' := pic0 cI h0 a0 u on) [0, 1, 2, 3, 4, 5, 6, 7] rfl) rfl rfl) rfl rfl hl.1 rfl (lv_room (Nat.le_of_ble_eq_true rfl)) dX1_isSame_562 ⟨Nat.le_of_ble_eq_true rfl, Nat.le_of_ble_eq_true rfl⟩) (fun r hr9 => ?_)
                                                            subst hr9
                                                            rw [fMe_eq u n6]
                                                            have htp := tp_le hI (b := n6) (by omega)
                                                            refine lv_iload hx hb dX1_isSame_565 (lv_at hl 0 rfl) ?_
                                                            refine lv_aload_n hx hb dX1_isSame_567 rfl (lv_at hl 1 rfl) ?_
                                                            refine va_get (D := D) (ci := 1) (v := .ref (a1 2)) (C := RX1) (T := TX1) (N := 10) hx hb hts hin hown hK hP 8 rfl rfl 2 (by decide) (hts (.fieldLink RX1 18 "AfternoonMeterLaw$Sim" "bees" "[[I") (List.mem_of_getElem? (i := 5) rfl)) (fun _ h9 => h9) rfl dX1_isSame_568 ?_
                                                            refine lv_iload hx hb dX1_isSame_571 (lv_at hl 5 rfl) ?_
                                                            refine q_aald (cA := cR) (n := mBc u) (f := br) (ty := .int) hx hb hK 1 hR.2.2.1 rfl (k := n6) (by omega) (by omega) dX1_isSame_573 ?_
                                                            refine lv_iconst (v := nI 0) hx hb dX1_isSame_574 (by decide +kernel) ?_
                                                            refine q_ialdH (cA := cI) (n := 2) (f := pr (mPe u n6) (mBe u n6)) (v := nI (pN u n6)) hx hb hK 0 (hR.2.2.2.2 n6 (by omega)) rfl (k := 0) (by decide) (by decide) ((hIf n6 (by omega)).1) dX1_isSame_575 ?_
                                                            obtain ⟨_, _, _, _, _⟩ := hIf n6 (by omega)
                                                            refine q_imulN hx hb dX1_isSame_576 ?_
                                                            refine lv_icmp_ne (tgt := 611) hx hb dX1_isSame_577 (by decide) (fun c_577 => ?_) (fun c_577 => ?_)
                                                            · skip
                                                              replace c_577 : (TK u n6 * pN u n6) ≠ ((TK u n6) * (pN u n6)) := neN c_577
                                                              exact (by omega : False).elim
                                                            · skip
                                                              replace c_577 : (TK u n6 * pN u n6) = ((TK u n6) * (pN u n6)) := eN c_577
                                                              refine lv_aload_n hx hb dX1_isSame_580 rfl (lv_at hl 2 rfl) ?_
                                                              refine lv_iload hx hb dX1_isSame_581 (lv_at hl 5 rfl) ?_
                                                              refine vp_callSi (W.runV (As := [.int (nI n6)]) (rest := []) ⟨hx, hb, hml, hown, hts⟩ (c_X0_errorOf l D cI h0 a0 u on n6 hI (by omega)) (cwV 1 hts gX1_isSame_X0_errorOf rfl rfl rfl (by decide +kernel) ⟨Nat.le_of_ble_eq_true rfl, Nat.le_of_ble_eq_true rfl⟩) (pu_pre (hK.sub (tys' := [(cI, .int)]) [0] rfl) (hP.sub (ws' := pic0 cI h0 a0 u on) [0, 1, 2, 3, 4, 5, 6, 7] rfl) rfl rfl) rfl rfl hl.1 rfl (lv_room (Nat.le_of_ble_eq_true rfl)) dX1_isSame_583 ⟨Nat.le_of_ble_eq_true rfl, Nat.le_of_ble_eq_true rfl⟩) (fun r hr9 => ?_)
                                                              subst hr9
                                                              rw [fEr_eq u n6]
                                                              refine lv_iload hx hb dX1_isSame_586 (lv_at hl 0 rfl) ?_
                                                              refine lv_aload_n hx hb dX1_isSame_588 rfl (lv_at hl 1 rfl) ?_
                                                              refine va_get (D := D) (ci := 1) (v := .ref (a1 2)) (C := RX1) (T := TX1) (N := 10) hx hb hts hin hown hK hP 8 rfl rfl 2 (by decide) (hts (.fieldLink RX1 18 "AfternoonMeterLaw$Sim" "bees" "[[I") (List.mem_of_getElem? (i := 5) rfl)) (fun _ h9 => h9) rfl dX1_isSame_589 ?_
                                                              refine lv_iload hx hb dX1_isSame_592 (lv_at hl 5 rfl) ?_
                                                              refine q_aald (cA := cR) (n := mBc u) (f := br) (ty := .int) hx hb hK 1 hR.2.2.1 rfl (k := n6) (by omega) (by omega) dX1_isSame_594 ?_
                                                              refine lv_iconst (v := nI 0) hx hb dX1_isSame_595 (by decide +kernel) ?_
                                                              refine q_ialdH (cA := cI) (n := 2) (f := pr (mPe u n6) (mBe u n6)) (v := nI (pN u n6)) hx hb hK 0 (hR.2.2.2.2 n6 (by omega)) rfl (k := 0) (by decide) (by decide) ((hIf n6 (by omega)).1) dX1_isSame_596 ?_
                                                              obtain ⟨_, _, _, _, _⟩ := hIf n6 (by omega)
                                                              refine q_imulN hx hb dX1_isSame_597 ?_
                                                              refine lv_aload_n hx hb dX1_isSame_598 rfl (lv_at hl 1 rfl) ?_
                                                              refine lv_aload_n hx hb dX1_isSame_599 rfl (lv_at hl 1 rfl) ?_
                                                              refine va_get (D := D) (ci := 1) (v := .int (nI (mNow u))) (C := RX1) (T := TX1) (N := 10) hx hb hts hin hown hK hP 8 rfl rfl 7 (by decide) (hts (.fieldLink RX1 39 "AfternoonMeterLaw$Sim" "minute" "I") (List.mem_of_getElem? (i := 2) rfl)) (fun _ h9 => h9) rfl dX1_isSame_600 ?_
                                                              refine lv_iconst (v := (-1)) hx hb dX1_isSame_603 (by decide +kernel) ?_
                                                              refine vp_callSi (W.runV (As := [.int (nI (mNow u)), .int (-1)]) (rest := [.int (nI ((TK u n6) * (pN u n6))), .int (nI (TK u n6 * pN u n6) - nI (AW u))]) ⟨hx, hb, hml, hown, hts⟩ (c_X1_awake l D cI cR h1 a1 nr br u (mNow u) (-1) (Inv.n hI) (by omega)) (cwV 2 hts gX1_isSame_X1_awake rfl rfl rfl (by decide +kernel) ⟨Nat.le_of_ble_eq_true rfl, Nat.le_of_ble_eq_true rfl⟩) (pr_pre hK (hP.sub (ws' := picS h1 a1 u) [8] rfl) hR rfl rfl) rfl rfl hl.1 rfl (lv_room (Nat.le_of_ble_eq_true rfl)) dX1_isSame_604 ⟨Nat.le_of_ble_eq_true rfl, Nat.le_of_ble_eq_true rfl⟩) (fun r hr9 => ?_)
                                                              subst hr9
                                                              rw [awX_m1 hIb, show ct (awB u) (mNow u) = AW u from rfl]
                                                              have haw := AW_le u
                                                              refine lv_isub hx hb dX1_isSame_607 ?_
                                                              refine lv_icmp_eq (tgt := 613) hx hb dX1_isSame_608 (by decide) (fun c_608 => ?_) (fun c_608 => ?_)
                                                              · skip
                                                                refine lv_iload hx hb dX1_isSame_613 (lv_at hl 4 rfl) ?_
                                                                refine lv_if_lt (tgt := 639) hx hb dX1_isSame_615 (by decide) (fun c_615 => ?_) (fun c_615 => ?_)
                                                                · skip
                                                                  refine lv_iload hx hb dX1_isSame_639 (lv_at hl 5 rfl) ?_
                                                                  refine lv_istore (lv' := [(7, .int (nI n6)), (9, .int (nI (TK u n6))), (0, .ref h1), (1, .ref h0), (5, .int U9), (8, .int (nI n6))]) hx hb dX1_isSame_641 hl (by decide) rfl (fun ls hl => ?_)
                                                                  refine lv_iinc (v := nI n6 - nI 1) (lv' := [(8, .int (nI n6 - nI 1)), (7, .int (nI n6)), (9, .int (nI (TK u n6))), (0, .ref h1), (1, .ref h0), (5, .int U9)]) hx hb dX1_isSame_643 hl (k := 5) rfl (nI_im1 _) (by decide) rfl (fun ls hl => ?_)
                                                                  refine lv_goto (tgt := 535) hx hb dX1_isSame_646 (by decide) ?_
                                                                  exact ih6 (k6 + 1) (by omega) (nI n6 - nI 1) (nI n6) (by rfl) (by exact BB_neg hIc hBP c_615) _ (lv_sub hl [3, 4, 5, 1, 0] rfl)
                                                                · skip
                                                                  obtain ⟨j9, hj9, eB9⟩ := BB_pos hBP c_615
                                                                  subst eB9
                                                                  obtain ⟨hj9a, hj9b, _, _⟩ := id hj9
                                                                  refine lv_aload_n hx hb dX1_isSame_618 rfl (lv_at hl 2 rfl) ?_
                                                                  refine lv_iload hx hb dX1_isSame_619 (lv_at hl 5 rfl) ?_
                                                                  refine vp_callSi (W.runV (As := [.int (nI n6)]) (rest := []) ⟨hx, hb, hml, hown, hts⟩ (c_X0_errorOf l D cI h0 a0 u on n6 hI (by omega)) (cwV 1 hts gX1_isSame_X0_errorOf rfl rfl rfl (by decide +kernel) ⟨Nat.le_of_ble_eq_true rfl, Nat.le_of_ble_eq_true rfl⟩) (pu_pre (hK.sub (tys' := [(cI, .int)]) [0] rfl) (hP.sub (ws' := pic0 cI h0 a0 u on) [0, 1, 2, 3, 4, 5, 6, 7] rfl) rfl rfl) rfl rfl hl.1 rfl (lv_room (Nat.le_of_ble_eq_true rfl)) dX1_isSame_621 ⟨Nat.le_of_ble_eq_true rfl, Nat.le_of_ble_eq_true rfl⟩) (fun r hr9 => ?_)
                                                                  subst hr9
                                                                  rw [fEr_eq u n6]
                                                                  refine va_mabs hx hb (hml.trans hl.1.symm) hown (hts (.methodLink RX1 126 Lib.Math.abs.name) (List.mem_of_getElem? (i := 8) rfl)) (hts (.static Lib.Math.abs.name) (List.mem_of_getElem? (i := 9) rfl)) (hts (.initialized "java/lang/Math") (List.mem_of_getElem? (i := 10) rfl)) (hts _ (List.mem_of_getElem? (i := 11) rfl)) (Nat.le_of_ble_eq_true rfl) (Nat.le_of_ble_eq_true rfl) (Nat.le_of_ble_eq_true rfl) (Nat.le_of_ble_eq_true rfl) dX1_isSame_624 ?_
                                                                  rw [show (if 0 ≤ nI (TK u n6 * pN u n6) - nI (AW u) then nI (TK u n6 * pN u n6) - nI (AW u) else 0 - (nI (TK u n6 * pN u n6) - nI (AW u))) = nI (EN u n6) from by rw [← fEr_eq]; exact fEr_ab hI (by omega)]
                                                                  refine lv_aload_n hx hb dX1_isSame_627 rfl (lv_at hl 2 rfl) ?_
                                                                  refine lv_iload hx hb dX1_isSame_628 (lv_at hl 4 rfl) ?_
                                                                  refine vp_callSi (W.runV (As := [.int (nI j9)]) (rest := [.int (nI (EN u n6))]) ⟨hx, hb, hml, hown, hts⟩ (c_X0_errorOf l D cI h0 a0 u on j9 hI (by omega)) (cwV 1 hts gX1_isSame_X0_errorOf rfl rfl rfl (by decide +kernel) ⟨Nat.le_of_ble_eq_true rfl, Nat.le_of_ble_eq_true rfl⟩) (pu_pre (hK.sub (tys' := [(cI, .int)]) [0] rfl) (hP.sub (ws' := pic0 cI h0 a0 u on) [0, 1, 2, 3, 4, 5, 6, 7] rfl) rfl rfl) rfl rfl hl.1 rfl (lv_room (Nat.le_of_ble_eq_true rfl)) dX1_isSame_630 ⟨Nat.le_of_ble_eq_true rfl, Nat.le_of_ble_eq_true rfl⟩) (fun r hr9 => ?_)
                                                                  subst hr9
                                                                  rw [fEr_eq u j9]
                                                                  refine va_mabs hx hb (hml.trans hl.1.symm) hown (hts (.methodLink RX1 126 Lib.Math.abs.name) (List.mem_of_getElem? (i := 8) rfl)) (hts (.static Lib.Math.abs.name) (List.mem_of_getElem? (i := 9) rfl)) (hts (.initialized "java/lang/Math") (List.mem_of_getElem? (i := 10) rfl)) (hts _ (List.mem_of_getElem? (i := 11) rfl)) (Nat.le_of_ble_eq_true rfl) (Nat.le_of_ble_eq_true rfl) (Nat.le_of_ble_eq_true rfl) (Nat.le_of_ble_eq_true rfl) dX1_isSame_633 ?_
                                                                  rw [show (if 0 ≤ nI (TK u j9 * pN u j9) - nI (AW u) then nI (TK u j9 * pN u j9) - nI (AW u) else 0 - (nI (TK u j9 * pN u j9) - nI (AW u))) = nI (EN u j9) from by rw [← fEr_eq]; exact fEr_ab hI (by omega)]
                                                                  have hen1 := EN_le hI (b := n6) (by omega)
                                                                  have hen2 := EN_le hI (b := j9) (by omega)
                                                                  refine lv_icmp_gt (tgt := 643) hx hb dX1_isSame_636 (by decide) (fun c_636 => ?_) (fun c_636 => ?_)
                                                                  · skip
                                                                    replace c_636 : (EN u j9) < (EN u n6) := ltN c_636
                                                                    refine lv_iinc (v := nI n6 - nI 1) (lv' := [(8, .int (nI n6 - nI 1)), (9, .int (nI (TK u n6))), (0, .ref h1), (1, .ref h0), (5, .int U9), (7, .int (nI j9))]) hx hb dX1_isSame_643 hl (k := 5) rfl (nI_im1 _) (by decide) rfl (fun ls hl => ?_)
                                                                    refine lv_goto (tgt := 535) hx hb dX1_isSame_646 (by decide) ?_
                                                                    exact ih6 (k6 + 1) (by omega) (nI n6 - nI 1) (nI j9) (by rfl) (by exact Or.inr ⟨j9, hj9.skip c_636, rfl⟩) _ (lv_sub hl [2, 3, 4, 5, 0] rfl)
                                                                  · skip
                                                                    replace c_636 : (EN u n6) ≤ (EN u j9) := nltN c_636
                                                                    refine lv_iload hx hb dX1_isSame_639 (lv_at hl 5 rfl) ?_
                                                                    refine lv_istore (lv' := [(7, .int (nI n6)), (9, .int (nI (TK u n6))), (0, .ref h1), (1, .ref h0), (5, .int U9), (8, .int (nI n6))]) hx hb dX1_isSame_641 hl (by decide) rfl (fun ls hl => ?_)
                                                                    refine lv_iinc (v := nI n6 - nI 1) (lv' := [(8, .int (nI n6 - nI 1)), (7, .int (nI n6)), (9, .int (nI (TK u n6))), (0, .ref h1), (1, .ref h0), (5, .int U9)]) hx hb dX1_isSame_643 hl (k := 5) rfl (nI_im1 _) (by decide) rfl (fun ls hl => ?_)
                                                                    refine lv_goto (tgt := 535) hx hb dX1_isSame_646 (by decide) ?_
                                                                    exact ih6 (k6 + 1) (by omega) (nI n6 - nI 1) (nI n6) (by rfl) (by exact Or.inr ⟨n6, hj9.take c_636, rfl⟩) _ (lv_sub hl [3, 4, 5, 1, 0] rfl)
                                                              · skip
                                                                exact (c_608 rfl).elim
                                                    exact lp535 _ 0 (Nat.zero_add _) ((nI (mBc u)) - (nI 1)) (-1) (by rfl) (by exact Or.inl ⟨rfl, rfl⟩) _ (lv_sub hl [2, 3, 4, 1, 0] rfl)
                                                  · skip
                                                    exact (c_417 (by rw [eK5]; decide +kernel)).elim
                                                | succ n5 ih5 =>
                                                  intro k5 hk5 K5 U9 M9 eK5 hUP ls hl
                                                  have eK5b : K5 = nI n5 := by rw [eK5, nI_sub (by omega)]; rfl
                                                  subst eK5b
                                                  refine lv_iload hx hb dX1_isSame_415 (lv_at hl 4 rfl) ?_
                                                  refine lv_if_lt (tgt := 523) hx hb dX1_isSame_417 (by decide) (fun c_417 => ?_) (fun c_417 => ?_)
                                                  · skip
                                                    replace c_417 : n5 < 0 := ltN c_417
                                                    exact (by omega : False).elim
                                                  · skip
                                                    replace c_417 : 0 ≤ n5 := nltN c_417
                                                    refine lv_aload_n hx hb dX1_isSame_420 rfl (lv_at hl 0 rfl) ?_
                                                    refine lv_sipush (v := nI 360) hx hb dX1_isSame_421 (by decide +kernel) ?_
                                                    refine lv_iload hx hb dX1_isSame_424 (lv_at hl 4 rfl) ?_
                                                    refine vp_callSi (W.runV (As := [.int (nI 360), .int (nI n5)]) (rest := []) ⟨hx, hb, hml, hown, hts⟩ (c_X1_awake l D cI cR h1 a1 nr br u 360 (nI n5) (Inv.n hI) (by omega)) (cwV 2 hts gX1_isSame_X1_awake rfl rfl rfl (by decide +kernel) ⟨Nat.le_of_ble_eq_true rfl, Nat.le_of_ble_eq_true rfl⟩) (pr_pre hK (hP.sub (ws' := picS h1 a1 u) [8] rfl) hR rfl rfl) rfl rfl hl.1 rfl (lv_room (Nat.le_of_ble_eq_true rfl)) dX1_isSame_426 ⟨Nat.le_of_ble_eq_true rfl, Nat.le_of_ble_eq_true rfl⟩) (fun r hr9 => ?_)
                                                    subst hr9
                                                    rw [awX_j hIb (by omega)]
                                                    have hct := ct_le (awB u) 360
                                                    have hal_x := AL_le u n5
                                                    refine lv_aload_n hx hb dX1_isSame_429 rfl (lv_at hl 0 rfl) ?_
                                                    refine lv_sipush (v := nI 360) hx hb dX1_isSame_430 (by decide +kernel) ?_
                                                    refine lv_iconst (v := (-1)) hx hb dX1_isSame_433 (by decide +kernel) ?_
                                                    refine vp_callSi (W.runV (As := [.int (nI 360), .int (-1)]) (rest := [.int (nI (ct (awB u) 360 + AL u n5))]) ⟨hx, hb, hml, hown, hts⟩ (c_X1_awake l D cI cR h1 a1 nr br u 360 (-1) (Inv.n hI) (by omega)) (cwV 2 hts gX1_isSame_X1_awake rfl rfl rfl (by decide +kernel) ⟨Nat.le_of_ble_eq_true rfl, Nat.le_of_ble_eq_true rfl⟩) (pr_pre hK (hP.sub (ws' := picS h1 a1 u) [8] rfl) hR rfl rfl) rfl rfl hl.1 rfl (lv_room (Nat.le_of_ble_eq_true rfl)) dX1_isSame_434 ⟨Nat.le_of_ble_eq_true rfl, Nat.le_of_ble_eq_true rfl⟩) (fun r hr9 => ?_)
                                                    subst hr9
                                                    rw [awX_m1 hIb]
                                                    have hct := ct_le (awB u) 360
                                                    refine q_isubN hx hb (by omega) dX1_isSame_437 ?_
                                                    rw [show ct (awB u) 360 + AL u n5 - ct (awB u) 360 = AL u n5 from Nat.add_sub_cancel_left _ _]
                                                    refine lv_istore (lv' := [(8, .int (nI (AL u n5))), (0, .ref h1), (1, .ref h0), (5, .int U9), (6, .int M9), (7, .int (nI n5))]) hx hb dX1_isSame_438 hl (by decide) rfl (fun ls hl => ?_)
                                                    refine lv_aload_n hx hb dX1_isSame_440 rfl (lv_at hl 2 rfl) ?_
                                                    refine lv_iload hx hb dX1_isSame_441 (lv_at hl 5 rfl) ?_
                                                    refine vp_callSi (W.runV (As := [.int (nI n5)]) (rest := []) ⟨hx, hb, hml, hown, hts⟩ (c_X0_startOf l D cI h0 a0 u on n5 hI (by omega)) (cwV 1 hts gX1_isSame_X0_startOf rfl rfl rfl (by decide +kernel) ⟨Nat.le_of_ble_eq_true rfl, Nat.le_of_ble_eq_true rfl⟩) (pu_pre (hK.sub (tys' := [(cI, .int)]) [0] rfl) (hP.sub (ws' := pic0 cI h0 a0 u on) [0, 1, 2, 3, 4, 5, 6, 7] rfl) rfl rfl) rfl rfl hl.1 rfl (lv_room (Nat.le_of_ble_eq_true rfl)) dX1_isSame_443 ⟨Nat.le_of_ble_eq_true rfl, Nat.le_of_ble_eq_true rfl⟩) (fun r hr9 => ?_)
                                                    subst hr9
                                                    obtain ⟨_, _, _, _⟩ := hIg n5 (by omega)
                                                    refine lv_aload_n hx hb dX1_isSame_446 rfl (lv_at hl 1 rfl) ?_
                                                    refine va_get (D := D) (ci := 1) (v := .ref (a1 1)) (C := RX1) (T := TX1) (N := 10) hx hb hts hin hown hK hP 8 rfl rfl 1 (by decide) (hts (.fieldLink RX1 14 "AfternoonMeterLaw$Sim" "naps" "[[I") (List.mem_of_getElem? (i := 4) rfl)) (fun _ h9 => h9) rfl dX1_isSame_447 ?_
                                                    refine lv_iload hx hb dX1_isSame_450 (lv_at hl 5 rfl) ?_
                                                    refine q_aald (cA := cR) (n := mNc u) (f := nr) (ty := .int) hx hb hK 1 hR.2.1 rfl (k := n5) (by omega) (by omega) dX1_isSame_452 ?_
                                                    refine lv_iconst (v := nI 0) hx hb dX1_isSame_453 (by decide +kernel) ?_
                                                    refine q_ialdH (cA := cI) (n := 2) (f := pr (mFr u n5) (mTo u n5)) (v := nI (aN u n5)) hx hb hK 0 (hR.2.2.2.1 n5 (by omega)) rfl (k := 0) (by decide) (by decide) ((hIg n5 (by omega)).1) dX1_isSame_454 ?_
                                                    obtain ⟨_, _, _, _⟩ := hIg n5 (by omega)
                                                    refine lv_icmp_ne (tgt := 497) hx hb dX1_isSame_455 (by decide) (fun c_455 => ?_) (fun c_455 => ?_)
                                                    · skip
                                                      replace c_455 : (aN u n5) ≠ (aN u n5) := neN c_455
                                                      exact (by omega : False).elim
                                                    · skip
                                                      replace c_455 : (aN u n5) = (aN u n5) := eN c_455
                                                      refine lv_aload_n hx hb dX1_isSame_458 rfl (lv_at hl 2 rfl) ?_
                                                      refine lv_iload hx hb dX1_isSame_459 (lv_at hl 5 rfl) ?_
                                                      refine vp_callSi (W.runV (As := [.int (nI n5)]) (rest := []) ⟨hx, hb, hml, hown, hts⟩ (c_X0_lengthOf l D cI h0 a0 u on n5 hI (by omega)) (cwV 1 hts gX1_isSame_X0_lengthOf rfl rfl rfl (by decide +kernel) ⟨Nat.le_of_ble_eq_true rfl, Nat.le_of_ble_eq_true rfl⟩) (pu_pre (hK.sub (tys' := [(cI, .int)]) [0] rfl) (hP.sub (ws' := pic0 cI h0 a0 u on) [0, 1, 2, 3, 4, 5, 6, 7] rfl) rfl rfl) rfl rfl hl.1 rfl (lv_room (Nat.le_of_ble_eq_true rfl)) dX1_isSame_461 ⟨Nat.le_of_ble_eq_true rfl, Nat.le_of_ble_eq_true rfl⟩) (fun r hr9 => ?_)
                                                      subst hr9
                                                      obtain ⟨_, _, _, _⟩ := hIg n5 (by omega)
                                                      refine lv_aload_n hx hb dX1_isSame_464 rfl (lv_at hl 1 rfl) ?_
                                                      refine va_get (D := D) (ci := 1) (v := .ref (a1 1)) (C := RX1) (T := TX1) (N := 10) hx hb hts hin hown hK hP 8 rfl rfl 1 (by decide) (hts (.fieldLink RX1 14 "AfternoonMeterLaw$Sim" "naps" "[[I") (List.mem_of_getElem? (i := 4) rfl)) (fun _ h9 => h9) rfl dX1_isSame_465 ?_
                                                      refine lv_iload hx hb dX1_isSame_468 (lv_at hl 5 rfl) ?_
                                                      refine q_aald (cA := cR) (n := mNc u) (f := nr) (ty := .int) hx hb hK 1 hR.2.1 rfl (k := n5) (by omega) (by omega) dX1_isSame_470 ?_
                                                      refine lv_iconst (v := nI 1) hx hb dX1_isSame_471 (by decide +kernel) ?_
                                                      refine q_ialdH (cA := cI) (n := 2) (f := pr (mFr u n5) (mTo u n5)) (v := nI (bN u n5)) hx hb hK 0 (hR.2.2.2.1 n5 (by omega)) rfl (k := 1) (by decide) (by decide) ((hIg n5 (by omega)).2.1) dX1_isSame_472 ?_
                                                      obtain ⟨_, _, _, _⟩ := hIg n5 (by omega)
                                                      refine lv_aload_n hx hb dX1_isSame_473 rfl (lv_at hl 1 rfl) ?_
                                                      refine va_get (D := D) (ci := 1) (v := .ref (a1 1)) (C := RX1) (T := TX1) (N := 10) hx hb hts hin hown hK hP 8 rfl rfl 1 (by decide) (hts (.fieldLink RX1 14 "AfternoonMeterLaw$Sim" "naps" "[[I") (List.mem_of_getElem? (i := 4) rfl)) (fun _ h9 => h9) rfl dX1_isSame_474 ?_
                                                      refine lv_iload hx hb dX1_isSame_477 (lv_at hl 5 rfl) ?_
                                                      refine q_aald (cA := cR) (n := mNc u) (f := nr) (ty := .int) hx hb hK 1 hR.2.1 rfl (k := n5) (by omega) (by omega) dX1_isSame_479 ?_
                                                      refine lv_iconst (v := nI 0) hx hb dX1_isSame_480 (by decide +kernel) ?_
                                                      refine q_ialdH (cA := cI) (n := 2) (f := pr (mFr u n5) (mTo u n5)) (v := nI (aN u n5)) hx hb hK 0 (hR.2.2.2.1 n5 (by omega)) rfl (k := 0) (by decide) (by decide) ((hIg n5 (by omega)).1) dX1_isSame_481 ?_
                                                      obtain ⟨_, _, _, _⟩ := hIg n5 (by omega)
                                                      refine q_isubN hx hb (by omega) dX1_isSame_482 ?_
                                                      refine lv_icmp_ne (tgt := 497) hx hb dX1_isSame_483 (by decide) (fun c_483 => ?_) (fun c_483 => ?_)
                                                      · skip
                                                        replace c_483 : (bN u n5 - aN u n5) ≠ ((bN u n5) - (aN u n5)) := neN c_483
                                                        exact (by omega : False).elim
                                                      · skip
                                                        replace c_483 : (bN u n5 - aN u n5) = ((bN u n5) - (aN u n5)) := eN c_483
                                                        refine lv_aload_n hx hb dX1_isSame_486 rfl (lv_at hl 2 rfl) ?_
                                                        refine lv_iload hx hb dX1_isSame_487 (lv_at hl 5 rfl) ?_
                                                        refine vp_callSi (W.runV (As := [.int (nI n5)]) (rest := []) ⟨hx, hb, hml, hown, hts⟩ (c_X0_minutesAlone l D cI h0 a0 u on n5 hI (by omega)) (cwV 1 hts gX1_isSame_X0_minutesAlone rfl rfl rfl (by decide +kernel) ⟨Nat.le_of_ble_eq_true rfl, Nat.le_of_ble_eq_true rfl⟩) (pu_pre (hK.sub (tys' := [(cI, .int)]) [0] rfl) (hP.sub (ws' := pic0 cI h0 a0 u on) [0, 1, 2, 3, 4, 5, 6, 7] rfl) rfl rfl) rfl rfl hl.1 rfl (lv_room (Nat.le_of_ble_eq_true rfl)) dX1_isSame_489 ⟨Nat.le_of_ble_eq_true rfl, Nat.le_of_ble_eq_true rfl⟩) (fun r hr9 => ?_)
                                                        subst hr9
                                                        rw [fAl_eq u n5]
                                                        have hal_x := AL_le u n5
                                                        refine lv_iload hx hb dX1_isSame_492 (lv_at hl 0 rfl) ?_
                                                        refine lv_icmp_eq (tgt := 499) hx hb dX1_isSame_494 (by decide) (fun c_494 => ?_) (fun c_494 => ?_)
                                                        · skip
                                                          replace c_494 : (AL u n5) = (AL u n5) := eN c_494
                                                          refine lv_iload hx hb dX1_isSame_499 (lv_at hl 0 rfl) ?_
                                                          refine lv_iload hx hb dX1_isSame_501 (lv_at hl 4 rfl) ?_
                                                          refine lv_icmp_ge (tgt := 509) hx hb dX1_isSame_503 (by decide) (fun c_503 => ?_) (fun c_503 => ?_)
                                                          · skip
                                                            refine lv_iload hx hb dX1_isSame_509 (lv_at hl 5 rfl) ?_
                                                            refine lv_istore (lv' := [(5, .int (nI n5)), (8, .int (nI (AL u n5))), (0, .ref h1), (1, .ref h0), (6, .int M9), (7, .int (nI n5))]) hx hb dX1_isSame_511 hl (by decide) rfl (fun ls hl => ?_)
                                                            refine lv_iload hx hb dX1_isSame_513 (lv_at hl 1 rfl) ?_
                                                            refine lv_istore (lv' := [(6, .int (nI (AL u n5))), (5, .int (nI n5)), (8, .int (nI (AL u n5))), (0, .ref h1), (1, .ref h0), (7, .int (nI n5))]) hx hb dX1_isSame_515 hl (by decide) rfl (fun ls hl => ?_)
                                                            refine lv_iinc (v := nI n5 - nI 1) (lv' := [(7, .int (nI n5 - nI 1)), (6, .int (nI (AL u n5))), (5, .int (nI n5)), (8, .int (nI (AL u n5))), (0, .ref h1), (1, .ref h0)]) hx hb dX1_isSame_517 hl (k := 5) rfl (nI_im1 _) (by decide) rfl (fun ls hl => ?_)
                                                            refine lv_goto (tgt := 415) hx hb dX1_isSame_520 (by decide) ?_
                                                            exact ih5 (k5 + 1) (by omega) (nI n5 - nI 1) (nI n5) (nI (AL u n5)) (by rfl) (by exact UP_take (by omega) hUP c_503) _ (lv_sub hl [4, 5, 2, 1, 0] rfl)
                                                          · skip
                                                            refine lv_goto (tgt := 517) hx hb dX1_isSame_506 (by decide) ?_
                                                            refine lv_iinc (v := nI n5 - nI 1) (lv' := [(7, .int (nI n5 - nI 1)), (8, .int (nI (AL u n5))), (0, .ref h1), (1, .ref h0), (5, .int U9), (6, .int M9)]) hx hb dX1_isSame_517 hl (k := 5) rfl (nI_im1 _) (by decide) rfl (fun ls hl => ?_)
                                                            refine lv_goto (tgt := 415) hx hb dX1_isSame_520 (by decide) ?_
                                                            exact ih5 (k5 + 1) (by omega) (nI n5 - nI 1) U9 M9 (by rfl) (by exact UP_skip (by omega) hUP c_503) _ (lv_sub hl [2, 3, 4, 5, 0] rfl)
                                                        · skip
                                                          replace c_494 : (AL u n5) ≠ (AL u n5) := neN c_494
                                                          exact (by omega : False).elim
                                              exact lp415 _ 0 (Nat.zero_add _) ((nI (mNc u)) - (nI 1)) (-1) (-1) (by rfl) (by exact Or.inl ⟨rfl, rfl, rfl⟩) _ (lv_sub hl [3, 4, 2, 1, 0] rfl)
                                            · skip
                                              exact (c_395 (by rw [show (FP.dconst0 : UInt64) = fMean u by unfold fMean; rw [if_pos c_377], mean_cmp hI]; decide +kernel)).elim
                                      · skip
                                        replace c_268 : k3 < (mSc u) := nleN c_268
                                        exact (by omega : False).elim
                                    | succ n3 ih3 =>
                                      intro k3 hk3 X3 eX3 ls hl
                                      refine lv_iload hx hb dX1_isSame_261 (lv_at hl 3 rfl) ?_
                                      refine lv_aload_n hx hb dX1_isSame_263 rfl (lv_at hl 0 rfl) ?_
                                      refine va_get (D := D) (ci := 1) (v := .ref (a1 0)) (C := RX1) (T := TX1) (N := 10) hx hb hts hin hown hK hP 8 rfl rfl 0 (by decide) (hts (.fieldLink RX1 7 "AfternoonMeterLaw$Sim" "sticks" "[I") (List.mem_of_getElem? (i := 3) rfl)) (fun _ h9 => h9) rfl dX1_isSame_264 ?_
                                      refine va_alen (ws := [(a1 0, .inl (cI, mSc u, .inl (mHt u)))]) (v := nI (mSc u)) hx hb hK (P_one hR.1) 0 0 rfl rfl rfl dX1_isSame_267 ?_
                                      refine lv_icmp_ge (tgt := 356) hx hb dX1_isSame_268 (by decide) (fun c_268 => ?_) (fun c_268 => ?_)
                                      · skip
                                        replace c_268 : (mSc u) ≤ k3 := leN c_268
                                        exact (by omega : False).elim
                                      · skip
                                        replace c_268 : k3 < (mSc u) := nleN c_268
                                        refine lv_iload hx hb dX1_isSame_271 (lv_at hl 2 rfl) ?_
                                        refine lv_aload_n hx hb dX1_isSame_273 rfl (lv_at hl 0 rfl) ?_
                                        refine va_get (D := D) (ci := 1) (v := .ref (a1 0)) (C := RX1) (T := TX1) (N := 10) hx hb hts hin hown hK hP 8 rfl rfl 0 (by decide) (hts (.fieldLink RX1 7 "AfternoonMeterLaw$Sim" "sticks" "[I") (List.mem_of_getElem? (i := 3) rfl)) (fun _ h9 => h9) rfl dX1_isSame_274 ?_
                                        refine lv_iload hx hb dX1_isSame_277 (lv_at hl 3 rfl) ?_
                                        refine q_ialdH (cA := cI) (n := mSc u) (f := mHt u) (v := nI (hN u k3)) hx hb hK 0 hR.1 rfl (k := k3) (by omega) (by omega) ((hIi k3 (by omega)).1) dX1_isSame_279 ?_
                                        obtain ⟨_, _, _⟩ := hIi k3 (by omega)
                                        refine lv_sipush (v := nI 419) hx hb dX1_isSame_280 (by decide +kernel) ?_
                                        refine q_imulN hx hb dX1_isSame_283 ?_
                                        refine lv_bipush (v := nI 120) hx hb dX1_isSame_284 (by decide +kernel) ?_
                                        refine q_idivN hx hb (by omega) (by omega) (by omega) dX1_isSame_286 ?_
                                        refine lv_iadd hx hb dX1_isSame_287 ?_
                                        refine lv_istore (lv' := [(4, .int (X3 + (nI (((hN u k3) * 419) / 120)))), (0, .ref h1), (1, .ref h0), (5, .int (nI k3))]) hx hb dX1_isSame_288 hl (by decide) rfl (fun ls hl => ?_)
                                        refine lv_aload_n hx hb dX1_isSame_290 rfl (lv_at hl 2 rfl) ?_
                                        refine lv_iload hx hb dX1_isSame_291 (lv_at hl 3 rfl) ?_
                                        refine lv_iconst (v := nI 0) hx hb dX1_isSame_293 (by decide +kernel) ?_
                                        refine vp_callSi (W.runV (As := [.int (nI k3), .int (nI 0)]) (rest := []) ⟨hx, hb, hml, hown, hts⟩ (c_X0_shadowAt l D cI h0 a0 u on k3 0 hI (by omega) (by omega)) (cwV 2 hts gX1_isSame_X0_shadowAt rfl rfl rfl (by decide +kernel) ⟨Nat.le_of_ble_eq_true rfl, Nat.le_of_ble_eq_true rfl⟩) (pu_pre (hK.sub (tys' := [(cI, .int)]) [0] rfl) (hP.sub (ws' := pic0 cI h0 a0 u on) [0, 1, 2, 3, 4, 5, 6, 7] rfl) rfl rfl) rfl rfl hl.1 rfl (lv_room (Nat.le_of_ble_eq_true rfl)) dX1_isSame_294 ⟨Nat.le_of_ble_eq_true rfl, Nat.le_of_ble_eq_true rfl⟩) (fun r hr9 => ?_)
                                        subst hr9
                                        have hsh := sh_le hI (s := k3) (t := 0) (by omega) (by omega)
                                        rw [fShad_eq hI (s := k3) (t := 0) (by omega) (by omega)]
                                        refine lv_aload_n hx hb dX1_isSame_297 rfl (lv_at hl 1 rfl) ?_
                                        refine va_get (D := D) (ci := 1) (v := .ref (a1 0)) (C := RX1) (T := TX1) (N := 10) hx hb hts hin hown hK hP 8 rfl rfl 0 (by decide) (hts (.fieldLink RX1 7 "AfternoonMeterLaw$Sim" "sticks" "[I") (List.mem_of_getElem? (i := 3) rfl)) (fun _ h9 => h9) rfl dX1_isSame_298 ?_
                                        refine lv_iload hx hb dX1_isSame_301 (lv_at hl 3 rfl) ?_
                                        refine q_ialdH (cA := cI) (n := mSc u) (f := mHt u) (v := nI (hN u k3)) hx hb hK 0 hR.1 rfl (k := k3) (by omega) (by omega) ((hIi k3 (by omega)).1) dX1_isSame_303 ?_
                                        obtain ⟨_, _, _⟩ := hIi k3 (by omega)
                                        refine lv_iconst (v := nI 2) hx hb dX1_isSame_304 (by decide +kernel) ?_
                                        refine q_idivN hx hb (by omega) (by omega) (by omega) dX1_isSame_305 ?_
                                        refine lv_icmp_ne (tgt := 348) hx hb dX1_isSame_306 (by decide) (fun c_306 => ?_) (fun c_306 => ?_)
                                        · skip
                                          replace c_306 : (shN u k3 0) ≠ ((hN u k3) / 2) := neN c_306
                                          exact (c_306 (by unfold shN; omega)).elim
                                        · skip
                                          replace c_306 : (shN u k3 0) = ((hN u k3) / 2) := eN c_306
                                          refine lv_aload_n hx hb dX1_isSame_309 rfl (lv_at hl 2 rfl) ?_
                                          refine lv_iload hx hb dX1_isSame_310 (lv_at hl 3 rfl) ?_
                                          refine lv_aload_n hx hb dX1_isSame_312 rfl (lv_at hl 1 rfl) ?_
                                          refine va_get (D := D) (ci := 1) (v := .int (nI (mNow u))) (C := RX1) (T := TX1) (N := 10) hx hb hts hin hown hK hP 8 rfl rfl 7 (by decide) (hts (.fieldLink RX1 39 "AfternoonMeterLaw$Sim" "minute" "I") (List.mem_of_getElem? (i := 2) rfl)) (fun _ h9 => h9) rfl dX1_isSame_313 ?_
                                          refine lv_sipush (v := nI 360) hx hb dX1_isSame_316 (by decide +kernel) ?_
                                          have hm9 := Nat.mod_lt (mNow u) (show 0 < 360 by omega)
                                          refine q_iremN hx hb (by omega) (by omega) (by omega) dX1_isSame_319 ?_
                                          refine vp_callSi (W.runV (As := [.int (nI k3), .int (nI ((mNow u) % 360))]) (rest := []) ⟨hx, hb, hml, hown, hts⟩ (c_X0_shadowAt l D cI h0 a0 u on k3 ((mNow u) % 360) hI (by omega) (by omega)) (cwV 2 hts gX1_isSame_X0_shadowAt rfl rfl rfl (by decide +kernel) ⟨Nat.le_of_ble_eq_true rfl, Nat.le_of_ble_eq_true rfl⟩) (pu_pre (hK.sub (tys' := [(cI, .int)]) [0] rfl) (hP.sub (ws' := pic0 cI h0 a0 u on) [0, 1, 2, 3, 4, 5, 6, 7] rfl) rfl rfl) rfl rfl hl.1 rfl (lv_room (Nat.le_of_ble_eq_true rfl)) dX1_isSame_320 ⟨Nat.le_of_ble_eq_true rfl, Nat.le_of_ble_eq_true rfl⟩) (fun r hr9 => ?_)
                                          subst hr9
                                          have hsh := sh_le hI (s := k3) (t := ((mNow u) % 360)) (by omega) (by omega)
                                          rw [fShad_eq hI (s := k3) (t := ((mNow u) % 360)) (by omega) (by omega)]
                                          refine lv_aload_n hx hb dX1_isSame_323 rfl (lv_at hl 1 rfl) ?_
                                          refine va_get (D := D) (ci := 1) (v := .ref (a1 0)) (C := RX1) (T := TX1) (N := 10) hx hb hts hin hown hK hP 8 rfl rfl 0 (by decide) (hts (.fieldLink RX1 7 "AfternoonMeterLaw$Sim" "sticks" "[I") (List.mem_of_getElem? (i := 3) rfl)) (fun _ h9 => h9) rfl dX1_isSame_324 ?_
                                          refine lv_iload hx hb dX1_isSame_327 (lv_at hl 3 rfl) ?_
                                          refine q_ialdH (cA := cI) (n := mSc u) (f := mHt u) (v := nI (hN u k3)) hx hb hK 0 hR.1 rfl (k := k3) (by omega) (by omega) ((hIi k3 (by omega)).1) dX1_isSame_329 ?_
                                          obtain ⟨_, _, _⟩ := hIi k3 (by omega)
                                          refine lv_bipush (v := nI 60) hx hb dX1_isSame_330 (by decide +kernel) ?_
                                          refine lv_aload_n hx hb dX1_isSame_332 rfl (lv_at hl 1 rfl) ?_
                                          refine va_get (D := D) (ci := 1) (v := .int (nI (mNow u))) (C := RX1) (T := TX1) (N := 10) hx hb hts hin hown hK hP 8 rfl rfl 7 (by decide) (hts (.fieldLink RX1 39 "AfternoonMeterLaw$Sim" "minute" "I") (List.mem_of_getElem? (i := 2) rfl)) (fun _ h9 => h9) rfl dX1_isSame_333 ?_
                                          refine lv_sipush (v := nI 360) hx hb dX1_isSame_336 (by decide +kernel) ?_
                                          refine q_iremN hx hb (by omega) (by omega) (by omega) dX1_isSame_339 ?_
                                          refine q_iaddN hx hb dX1_isSame_340 ?_
                                          refine q_imulN hx hb dX1_isSame_341 ?_
                                          refine lv_bipush (v := nI 120) hx hb dX1_isSame_342 (by decide +kernel) ?_
                                          have hb9 := sh_b hI (s := k3) (t := mNow u % 360) (by omega) (by omega)
                                          refine q_idivN hx hb (by omega) (by omega) (by omega) dX1_isSame_344 ?_
                                          refine lv_icmp_eq (tgt := 350) hx hb dX1_isSame_345 (by decide) (fun c_345 => ?_) (fun c_345 => ?_)
                                          · skip
                                            replace c_345 : (shN u k3 ((mNow u) % 360)) = (((hN u k3) * (60 + ((mNow u) % 360))) / 120) := eN c_345
                                            refine lv_iinc (v := nI (k3 + 1)) (lv' := [(5, .int (nI (k3 + 1))), (4, .int (X3 + (nI (((hN u k3) * 419) / 120)))), (0, .ref h1), (1, .ref h0)]) hx hb dX1_isSame_350 hl (k := 3) rfl (nI_i1 _) (by decide) rfl (fun ls hl => ?_)
                                            refine lv_goto (tgt := 261) hx hb dX1_isSame_353 (by decide) ?_
                                            exact ih3 (k3 + 1) (by omega) (X3 + (nI (((hN u k3) * 419) / 120))) (by subst eX3; show _ = fz (shF u 359) k3 (nI 0) + fShad u k3 359; rw [fShad_eq hI (by omega) (by omega)]; rfl) _ (lv_sub hl [2, 3, 1, 0] rfl)
                                          · skip
                                            replace c_345 : (shN u k3 ((mNow u) % 360)) ≠ (((hN u k3) * (60 + ((mNow u) % 360))) / 120) := neN c_345
                                            exact (c_345 rfl).elim
                                  exact lp261 _ 0 (Nat.zero_add _) (nI 0) (by rfl) _ (lv_sub hl [2, 3, 1, 0] rfl)
                                · skip
                                  replace c_204 : T2 < 360 := nleN c_204
                                  exact (by omega : False).elim
                              | succ n2 ih2 =>
                                intro k2 hk2 T2 hT2 ls hl
                                refine lv_iload hx hb dX1_isSame_199 (lv_at hl 2 rfl) ?_
                                refine lv_sipush (v := nI 360) hx hb dX1_isSame_201 (by decide +kernel) ?_
                                refine lv_icmp_ge (tgt := 255) hx hb dX1_isSame_204 (by decide) (fun c_204 => ?_) (fun c_204 => ?_)
                                · skip
                                  replace c_204 : 360 ≤ T2 := leN c_204
                                  refine lv_iconst (v := nI 0) hx hb dX1_isSame_255 (by decide +kernel) ?_
                                  refine lv_istore (lv' := [(4, .int (nI 0)), (0, .ref h1), (1, .ref h0)]) hx hb dX1_isSame_256 hl (by decide) rfl (fun ls hl => ?_)
                                  refine lv_iconst (v := nI 0) hx hb dX1_isSame_258 (by decide +kernel) ?_
                                  refine lv_istore (lv' := [(5, .int (nI 0)), (4, .int (nI 0)), (0, .ref h1), (1, .ref h0)]) hx hb dX1_isSame_259 hl (by decide) rfl (fun ls hl => ?_)
                                  have lp261 : ∀ (n3 k3 : Nat), k3 + n3 = mSc u → ∀ (X3 : Int32), X3 = fz (shF u 359) k3 (nI 0) → ∀ (ls : Array Slot), lv_has ls 10 [(0, .ref h1), (1, .ref h0), (4, .int X3), (5, .int (nI k3))] → W p l e ({ frames := 6, cells := 0, slots := 0, locals := 134 } : Room) s m args below meth c s.heap [] 0 0 (MQ below (vp_Si (fun r => r = nI 1)) args s 0 0 (fun _ => False)) (F0 m 261 ls []) := by
                                    intro n3
                                    induction n3 with
                                    | zero =>
                                      intro k3 hk3 X3 eX3 ls hl
                                      have ek3 : k3 = mSc u := by omega
                                      have eF : fSum u 359 = X3 := by rw [eX3, ek3]; rfl
                                      refine lv_iload hx hb dX1_isSame_261 (lv_at hl 3 rfl) ?_
                                      refine lv_aload_n hx hb dX1_isSame_263 rfl (lv_at hl 0 rfl) ?_
                                      refine va_get (D := D) (ci := 1) (v := .ref (a1 0)) (C := RX1) (T := TX1) (N := 10) hx hb hts hin hown hK hP 8 rfl rfl 0 (by decide) (hts (.fieldLink RX1 7 "AfternoonMeterLaw$Sim" "sticks" "[I") (List.mem_of_getElem? (i := 3) rfl)) (fun _ h9 => h9) rfl dX1_isSame_264 ?_
                                      refine va_alen (ws := [(a1 0, .inl (cI, mSc u, .inl (mHt u)))]) (v := nI (mSc u)) hx hb hK (P_one hR.1) 0 0 rfl rfl rfl dX1_isSame_267 ?_
                                      refine lv_icmp_ge (tgt := 356) hx hb dX1_isSame_268 (by decide) (fun c_268 => ?_) (fun c_268 => ?_)
                                      · skip
                                        replace c_268 : (mSc u) ≤ k3 := leN c_268
                                        refine lv_aload_n hx hb dX1_isSame_356 rfl (lv_at hl 1 rfl) ?_
                                        refine lv_sipush (v := nI 359) hx hb dX1_isSame_357 (by decide +kernel) ?_
                                        refine vp_callSi (W.runV (As := [.int (nI 359)]) (rest := []) ⟨hx, hb, hml, hown, hts⟩ (c_X0_allShadows l D cI h0 a0 u on 359 hI (by omega)) (cwV 1 hts gX1_isSame_X0_allShadows rfl rfl rfl (by decide +kernel) ⟨Nat.le_of_ble_eq_true rfl, Nat.le_of_ble_eq_true rfl⟩) (pu_pre (hK.sub (tys' := [(cI, .int)]) [0] rfl) (hP.sub (ws' := pic0 cI h0 a0 u on) [0, 1, 2, 3, 4, 5, 6, 7] rfl) rfl rfl) rfl rfl hl.1 rfl (lv_room (Nat.le_of_ble_eq_true rfl)) dX1_isSame_360 ⟨Nat.le_of_ble_eq_true rfl, Nat.le_of_ble_eq_true rfl⟩) (fun r hr9 => ?_)
                                        subst hr9
                                        refine lv_iload hx hb dX1_isSame_363 (lv_at hl 2 rfl) ?_
                                        refine lv_icmp_ne (tgt := 398) hx hb dX1_isSame_365 (by decide) (fun c_365 => ?_) (fun c_365 => ?_)
                                        · skip
                                          exact (c_365 eF).elim
                                        · skip
                                          refine lv_aload_n hx hb dX1_isSame_368 rfl (lv_at hl 1 rfl) ?_
                                          refine vp_callSd (W.runV (As := []) (rest := []) ⟨hx, hb, hml, hown, hts⟩ (c_X0_meanLastShadow l D cI h0 a0 u on hI) (cwV 0 hts gX1_isSame_X0_meanLastShadow rfl rfl rfl (by decide +kernel) ⟨Nat.le_of_ble_eq_true rfl, Nat.le_of_ble_eq_true rfl⟩) (pu_pre (hK.sub (tys' := [(cI, .int)]) [0] rfl) (hP.sub (ws' := pic0 cI h0 a0 u on) [0, 1, 2, 3, 4, 5, 6, 7] rfl) rfl rfl) rfl rfl hl.1 rfl (lv_room (Nat.le_of_ble_eq_true rfl)) dX1_isSame_369 ⟨Nat.le_of_ble_eq_true rfl, Nat.le_of_ble_eq_true rfl⟩) (fun r hr9 => ?_)
                                          subst hr9
                                          refine lv_aload_n hx hb dX1_isSame_372 rfl (lv_at hl 0 rfl) ?_
                                          refine va_get (D := D) (ci := 1) (v := .ref (a1 0)) (C := RX1) (T := TX1) (N := 10) hx hb hts hin hown hK hP 8 rfl rfl 0 (by decide) (hts (.fieldLink RX1 7 "AfternoonMeterLaw$Sim" "sticks" "[I") (List.mem_of_getElem? (i := 3) rfl)) (fun _ h9 => h9) rfl dX1_isSame_373 ?_
                                          refine va_alen (ws := [(a1 0, .inl (cI, mSc u, .inl (mHt u)))]) (v := nI (mSc u)) hx hb hK (P_one hR.1) 0 0 rfl rfl rfl dX1_isSame_376 ?_
                                          refine lv_if_ne (tgt := 384) hx hb dX1_isSame_377 (by decide) (fun c_377 => ?_) (fun c_377 => ?_)
                                          · skip
                                            replace c_377 : (mSc u) ≠ 0 := neN c_377
                                            refine lv_iload hx hb dX1_isSame_384 (lv_at hl 2 rfl) ?_
                                            refine lv_i2d hx hb dX1_isSame_386 ?_
                                            refine lv_aload_n hx hb dX1_isSame_387 rfl (lv_at hl 0 rfl) ?_
                                            refine va_get (D := D) (ci := 1) (v := .ref (a1 0)) (C := RX1) (T := TX1) (N := 10) hx hb hts hin hown hK hP 8 rfl rfl 0 (by decide) (hts (.fieldLink RX1 7 "AfternoonMeterLaw$Sim" "sticks" "[I") (List.mem_of_getElem? (i := 3) rfl)) (fun _ h9 => h9) rfl dX1_isSame_388 ?_
                                            refine va_alen (ws := [(a1 0, .inl (cI, mSc u, .inl (mHt u)))]) (v := nI (mSc u)) hx hb hK (P_one hR.1) 0 0 rfl rfl rfl dX1_isSame_391 ?_
                                            refine lv_i2d hx hb dX1_isSame_392 ?_
                                            refine lv_ddiv hx hb dX1_isSame_393 (by rw [← eF]; exact mean_ok hI c_377) ?_
                                            refine lv_dcmp hx hb dX1_isSame_394 ?_
                                            refine lv_if_eq (tgt := 400) hx hb dX1_isSame_395 (by decide) (fun c_395 => ?_) (fun c_395 => ?_)
                                            · skip
                                              refine lv_iconst (v := (-1)) hx hb dX1_isSame_400 (by decide +kernel) ?_
                                              refine lv_istore (lv' := [(5, .int (-1)), (0, .ref h1), (1, .ref h0), (4, .int X3)]) hx hb dX1_isSame_401 hl (by decide) rfl (fun ls hl => ?_)
                                              refine lv_iconst (v := (-1)) hx hb dX1_isSame_403 (by decide +kernel) ?_
                                              refine lv_istore (lv' := [(6, .int (-1)), (5, .int (-1)), (0, .ref h1), (1, .ref h0), (4, .int X3)]) hx hb dX1_isSame_404 hl (by decide) rfl (fun ls hl => ?_)
                                              refine lv_aload_n hx hb dX1_isSame_406 rfl (lv_at hl 2 rfl) ?_
                                              refine va_get (D := D) (ci := 1) (v := .ref (a1 1)) (C := RX1) (T := TX1) (N := 10) hx hb hts hin hown hK hP 8 rfl rfl 1 (by decide) (hts (.fieldLink RX1 14 "AfternoonMeterLaw$Sim" "naps" "[[I") (List.mem_of_getElem? (i := 4) rfl)) (fun _ h9 => h9) rfl dX1_isSame_407 ?_
                                              refine va_alen (ws := [(a1 1, .inl (cR, mNc u, .inr (.inr (.inr (.inr (rfs nr))))))]) (v := nI (mNc u)) hx hb hK (P_one hR.2.1) 0 1 rfl rfl rfl dX1_isSame_410 ?_
                                              refine lv_iconst (v := nI 1) hx hb dX1_isSame_411 (by decide +kernel) ?_
                                              refine lv_isub hx hb dX1_isSame_412 ?_
                                              refine lv_istore (lv' := [(7, .int ((nI (mNc u)) - (nI 1))), (6, .int (-1)), (5, .int (-1)), (0, .ref h1), (1, .ref h0), (4, .int X3)]) hx hb dX1_isSame_413 hl (by decide) rfl (fun ls hl => ?_)
                                              have lp415 : ∀ (n5 k5 : Nat), k5 + n5 = mNc u → ∀ (K5 : Int32), ∀ (U9 : Int32), ∀ (M9 : Int32), K5 = nI n5 - nI 1 → UPp u n5 U9 M9 → ∀ (ls : Array Slot), lv_has ls 10 [(0, .ref h1), (1, .ref h0), (5, .int U9), (6, .int M9), (7, .int K5)] → W p l e ({ frames := 6, cells := 0, slots := 0, locals := 134 } : Room) s m args below meth c s.heap [] 0 0 (MQ below (vp_Si (fun r => r = nI 1)) args s 0 0 (fun _ => False)) (F0 m 415 ls []) := by
                                                intro n5
                                                induction n5 with
                                                | zero =>
                                                  intro k5 hk5 K5 U9 M9 eK5 hUP ls hl
                                                  refine lv_iload hx hb dX1_isSame_415 (lv_at hl 4 rfl) ?_
                                                  refine lv_if_lt (tgt := 523) hx hb dX1_isSame_417 (by decide) (fun c_417 => ?_) (fun c_417 => ?_)
                                                  · skip
                                                    refine lv_iconst (v := (-1)) hx hb dX1_isSame_523 (by decide +kernel) ?_
                                                    refine lv_istore (lv' := [(7, .int (-1)), (0, .ref h1), (1, .ref h0), (5, .int U9), (6, .int M9)]) hx hb dX1_isSame_524 hl (by decide) rfl (fun ls hl => ?_)
                                                    refine lv_aload_n hx hb dX1_isSame_526 rfl (lv_at hl 1 rfl) ?_
                                                    refine va_get (D := D) (ci := 1) (v := .ref (a1 2)) (C := RX1) (T := TX1) (N := 10) hx hb hts hin hown hK hP 8 rfl rfl 2 (by decide) (hts (.fieldLink RX1 18 "AfternoonMeterLaw$Sim" "bees" "[[I") (List.mem_of_getElem? (i := 5) rfl)) (fun _ h9 => h9) rfl dX1_isSame_527 ?_
                                                    refine va_alen (ws := [(a1 2, .inl (cR, mBc u, .inr (.inr (.inr (.inr (rfs br))))))]) (v := nI (mBc u)) hx hb hK (P_one hR.2.2.1) 0 1 rfl rfl rfl dX1_isSame_530 ?_
                                                    refine lv_iconst (v := nI 1) hx hb dX1_isSame_531 (by decide +kernel) ?_
                                                    refine lv_isub hx hb dX1_isSame_532 ?_
                                                    refine lv_istore (lv' := [(8, .int ((nI (mBc u)) - (nI 1))), (7, .int (-1)), (0, .ref h1), (1, .ref h0), (5, .int U9), (6, .int M9)]) hx hb dX1_isSame_533 hl (by decide) rfl (fun ls hl => ?_)
                                                    have lp535 : ∀ (n6 k6 : Nat), k6 + n6 = mBc u → ∀ (K6 : Int32), ∀ (B9 : Int32), K6 = nI n6 - nI 1 → BBq u n6 B9 → ∀ (ls : Array Slot), lv_has ls 10 [(0, .ref h1), (1, .ref h0), (5, .int U9), (7, .int B9), (8, .int K6)] → W p l e ({ frames := 6, cells := 0, slots := 0, locals := 134 } : Room) s m args below meth c s.heap [] 0 0 (MQ below (vp_Si (fun r => r = nI 1)) args s 0 0 (fun _ => False)) (F0 m 535 ls []) := by
                                                      intro n6
                                                      induction n6 with
                                                      | zero =>
                                                        intro k6 hk6 K6 B9 eK6 hBP ls hl
                                                        refine lv_iload hx hb dX1_isSame_535 (lv_at hl 4 rfl) ?_
                                                        refine lv_if_lt (tgt := 649) hx hb dX1_isSame_537 (by decide) (fun c_537 => ?_) (fun c_537 => ?_)
                                                        · skip
                                                          refine lv_aload_n hx hb dX1_isSame_649 rfl (lv_at hl 1 rfl) ?_
                                                          refine vp_callSi (W.runV (As := []) (rest := []) ⟨hx, hb, hml, hown, hts⟩ (c_X0_bestToGiveUp l D cI h0 a0 u on hI) (cwV 0 hts gX1_isSame_X0_bestToGiveUp rfl rfl rfl (by decide +kernel) ⟨Nat.le_of_ble_eq_true rfl, Nat.le_of_ble_eq_true rfl⟩) (pu_pre (hK.sub (tys' := [(cI, .int)]) [0] rfl) (hP.sub (ws' := pic0 cI h0 a0 u on) [0, 1, 2, 3, 4, 5, 6, 7] rfl) rfl rfl) rfl rfl hl.1 rfl (lv_room (Nat.le_of_ble_eq_true rfl)) dX1_isSame_650 ⟨Nat.le_of_ble_eq_true rfl, Nat.le_of_ble_eq_true rfl⟩) (fun r hr9 => ?_)
                                                          subst hr9
                                                          refine lv_iload hx hb dX1_isSame_653 (lv_at hl 2 rfl) ?_
                                                          refine lv_icmp_ne (tgt := 671) hx hb dX1_isSame_655 (by decide) (fun c_655 => ?_) (fun c_655 => ?_)
                                                          · skip
                                                            exact (c_655 (UP_end hIb hUP)).elim
                                                          · skip
                                                            refine lv_aload_n hx hb dX1_isSame_658 rfl (lv_at hl 1 rfl) ?_
                                                            refine vp_callSi (W.runV (As := []) (rest := []) ⟨hx, hb, hml, hown, hts⟩ (c_X0_bestBee l D cI h0 a0 u on hI) (cwV 0 hts gX1_isSame_X0_bestBee rfl rfl rfl (by decide +kernel) ⟨Nat.le_of_ble_eq_true rfl, Nat.le_of_ble_eq_true rfl⟩) (pu_pre (hK.sub (tys' := [(cI, .int)]) [0] rfl) (hP.sub (ws' := pic0 cI h0 a0 u on) [0, 1, 2, 3, 4, 5, 6, 7] rfl) rfl rfl) rfl rfl hl.1 rfl (lv_room (Nat.le_of_ble_eq_true rfl)) dX1_isSame_659 ⟨Nat.le_of_ble_eq_true rfl, Nat.le_of_ble_eq_true rfl⟩) (fun r hr9 => ?_)
                                                            subst hr9
                                                            refine lv_iload hx hb dX1_isSame_662 (lv_at hl 3 rfl) ?_
                                                            refine lv_icmp_ne (tgt := 671) hx hb dX1_isSame_664 (by decide) (fun c_664 => ?_) (fun c_664 => ?_)
                                                            · skip
                                                              exact (c_664 (BB_end hI hBP)).elim
                                                            · skip
                                                              refine lv_iconst (v := nI 1) hx hb dX1_isSame_667 (by decide +kernel) ?_
                                                              refine lv_goto (tgt := 672) hx hb dX1_isSame_668 (by decide) ?_
                                                              exact W.zret (ty := .boolean) hx hb hr (by decide +kernel) (fun t ht _ => ⟨_, rfl, rfl, ht⟩) (fun _ h9 => nomatch h9) dX1_isSame_672
                                                        · skip
                                                          exact (c_537 (by rw [eK6]; decide +kernel)).elim
                                                      | succ n6 ih6 =>
                                                        intro k6 hk6 K6 B9 eK6 hBP ls hl
                                                        have eK6b : K6 = nI n6 := by rw [eK6, nI_sub (by omega)]; rfl
                                                        subst eK6b
                                                        refine lv_iload hx hb dX1_isSame_535 (lv_at hl 4 rfl) ?_
                                                        refine lv_if_lt (tgt := 649) hx hb dX1_isSame_537 (by decide) (fun c_537 => ?_) (fun c_537 => ?_)
                                                        · skip
                                                          replace c_537 : n6 < 0 := ltN c_537
                                                          exact (by omega : False).elim
                                                        · skip
                                                          replace c_537 : 0 ≤ n6 := nltN c_537
                                                          refine lv_aload_n hx hb dX1_isSame_540 rfl (lv_at hl 0 rfl) ?_
                                                          refine lv_iload hx hb dX1_isSame_541 (lv_at hl 4 rfl) ?_
                                                          refine vp_callSi (W.runV (As := [.int (nI n6)]) (rest := []) ⟨hx, hb, hml, hown, hts⟩ (c_X1_ticked l D cI cR h1 a1 nr br u n6 (Inv.n hI) (by omega)) (cwV 1 hts gX1_isSame_X1_ticked rfl rfl rfl (by decide +kernel) ⟨Nat.le_of_ble_eq_true rfl, Nat.le_of_ble_eq_true rfl⟩) (pr_pre hK (hP.sub (ws' := picS h1 a1 u) [8] rfl) hR rfl rfl) rfl rfl hl.1 rfl (lv_room (Nat.le_of_ble_eq_true rfl)) dX1_isSame_543 ⟨Nat.le_of_ble_eq_true rfl, Nat.le_of_ble_eq_true rfl⟩) (fun r hr9 => ?_)
                                                          subst hr9
                                                          rw [show ct (tkB u n6) (mNow u) = TK u n6 from rfl]
                                                          have htk := TK_le u n6
                                                          refine lv_istore (lv' := [(9, .int (nI (TK u n6))), (0, .ref h1), (1, .ref h0), (5, .int U9), (7, .int B9), (8, .int (nI n6))]) hx hb dX1_isSame_546 hl (by decide) rfl (fun ls hl => ?_)
                                                          refine lv_aload_n hx hb dX1_isSame_548 rfl (lv_at hl 2 rfl) ?_
                                                          refine lv_iload hx hb dX1_isSame_549 (lv_at hl 5 rfl) ?_
                                                          refine vp_callSi (W.runV (As := [.int (nI n6)]) (rest := []) ⟨hx, hb, hml, hown, hts⟩ (c_X0_ticksOf l D cI h0 a0 u on n6 hI (by omega)) (cwV 1 hts gX1_isSame_X0_ticksOf rfl rfl rfl (by decide +kernel) ⟨Nat.le_of_ble_eq_true rfl, Nat.le_of_ble_eq_true rfl⟩) (pu_pre (hK.sub (tys' := [(cI, .int)]) [0] rfl) (hP.sub (ws' := pic0 cI h0 a0 u on) [0, 1, 2, 3, 4, 5, 6, 7] rfl) rfl rfl) rfl rfl hl.1 rfl (lv_room (Nat.le_of_ble_eq_true rfl)) dX1_isSame_551 ⟨Nat.le_of_ble_eq_true rfl, Nat.le_of_ble_eq_true rfl⟩) (fun r hr9 => ?_)
                                                          subst hr9
                                                          rw [fTk_eq u n6]
                                                          have htk := TK_le u n6
                                                          refine lv_iload hx hb dX1_isSame_554 (lv_at hl 0 rfl) ?_
                                                          refine lv_icmp_ne (tgt := 611) hx hb dX1_isSame_556 (by decide) (fun c_556 => ?_) (fun c_556 => ?_)
                                                          · skip
                                                            replace c_556 : (TK u n6) ≠ (TK u n6) := neN c_556
                                                            exact (by omega : False).elim
                                                          · skip
                                                            replace c_556 : (TK u n6) = (TK u n6) := eN c_556
                                                            refine lv_aload_n hx hb dX1_isSame_559 rfl (lv_at hl 2 rfl) ?_
                                                            refine lv_iload hx hb dX1_isSame_560 (lv_at hl 5 rfl) ?_
                                                            refine vp_callSi (W.runV (As := [.int (nI n6)]) (rest := []) ⟨hx, hb, hml, hown, hts⟩ (c_X0_measuredBy l D cI h0 a0 u on n6 hI (by omega)) (cwV 1 hts gX1_isSame_X0_measuredBy rfl rfl rfl (by decide +kernel) ⟨Nat.le_of_ble_eq_true rfl, Nat.le_of_ble_eq_true rfl⟩) (pu_pre (hK.sub (tys' := [(cI, .int)]) [0] rfl) (hP.sub (ws' := pic0 cI h0 a0 u on) [0, 1, 2, 3, 4, 5, 6, 7] rfl) rfl rfl) rfl rfl hl.1 rfl (lv_room (Nat.le_of_ble_eq_true rfl)) dX1_isSame_562 ⟨Nat.le_of_ble_eq_true rfl, Nat.le_of_ble_eq_true rfl⟩) (fun r hr9 => ?_)
                                                            subst hr9
                                                            rw [fMe_eq u n6]
                                                            have htp := tp_le hI (b := n6) (by omega)
                                                            refine lv_iload hx hb dX1_isSame_565 (lv_at hl 0 rfl) ?_
                                                            refine lv_aload_n hx hb dX1_isSame_567 rfl (lv_at hl 1 rfl) ?_
                                                            refine va_get (D := D) (ci := 1) (v := .ref (a1 2)) (C := RX1) (T := TX1) (N := 10) hx hb hts hin hown hK hP 8 rfl rfl 2 (by decide) (hts (.fieldLink RX1 18 "AfternoonMeterLaw$Sim" "bees" "[[I") (List.mem_of_getElem? (i := 5) rfl)) (fun _ h9 => h9) rfl dX1_isSame_568 ?_
                                                            refine lv_iload hx hb dX1_isSame_571 (lv_at hl 5 rfl) ?_
                                                            refine q_aald (cA := cR) (n := mBc u) (f := br) (ty := .int) hx hb hK 1 hR.2.2.1 rfl (k := n6) (by omega) (by omega) dX1_isSame_573 ?_
                                                            refine lv_iconst (v := nI 0) hx hb dX1_isSame_574 (by decide +kernel) ?_
                                                            refine q_ialdH (cA := cI) (n := 2) (f := pr (mPe u n6) (mBe u n6)) (v := nI (pN u n6)) hx hb hK 0 (hR.2.2.2.2 n6 (by omega)) rfl (k := 0) (by decide) (by decide) ((hIf n6 (by omega)).1) dX1_isSame_575 ?_
                                                            obtain ⟨_, _, _, _, _⟩ := hIf n6 (by omega)
                                                            refine q_imulN hx hb dX1_isSame_576 ?_
                                                            refine lv_icmp_ne (tgt := 611) hx hb dX1_isSame_577 (by decide) (fun c_577 => ?_) (fun c_577 => ?_)
                                                            · skip
                                                              replace c_577 : (TK u n6 * pN u n6) ≠ ((TK u n6) * (pN u n6)) := neN c_577
                                                              exact (by omega : False).elim
                                                            · skip
                                                              replace c_577 : (TK u n6 * pN u n6) = ((TK u n6) * (pN u n6)) := eN c_577
                                                              refine lv_aload_n hx hb dX1_isSame_580 rfl (lv_at hl 2 rfl) ?_
                                                              refine lv_iload hx hb dX1_isSame_581 (lv_at hl 5 rfl) ?_
                                                              refine vp_callSi (W.runV (As := [.int (nI n6)]) (rest := []) ⟨hx, hb, hml, hown, hts⟩ (c_X0_errorOf l D cI h0 a0 u on n6 hI (by omega)) (cwV 1 hts gX1_isSame_X0_errorOf rfl rfl rfl (by decide +kernel) ⟨Nat.le_of_ble_eq_true rfl, Nat.le_of_ble_eq_true rfl⟩) (pu_pre (hK.sub (tys' := [(cI, .int)]) [0] rfl) (hP.sub (ws' := pic0 cI h0 a0 u on) [0, 1, 2, 3, 4, 5, 6, 7] rfl) rfl rfl) rfl rfl hl.1 rfl (lv_room (Nat.le_of_ble_eq_true rfl)) dX1_isSame_583 ⟨Nat.le_of_ble_eq_true rfl, Nat.le_of_ble_eq_true rfl⟩) (fun r hr9 => ?_)
                                                              subst hr9
                                                              rw [fEr_eq u n6]
                                                              refine lv_iload hx hb dX1_isSame_586 (lv_at hl 0 rfl) ?_
                                                              refine lv_aload_n hx hb dX1_isSame_588 rfl (lv_at hl 1 rfl) ?_
                                                              refine va_get (D := D) (ci := 1) (v := .ref (a1 2)) (C := RX1) (T := TX1) (N := 10) hx hb hts hin hown hK hP 8 rfl rfl 2 (by decide) (hts (.fieldLink RX1 18 "AfternoonMeterLaw$Sim" "bees" "[[I") (List.mem_of_getElem? (i := 5) rfl)) (fun _ h9 => h9) rfl dX1_isSame_589 ?_
                                                              refine lv_iload hx hb dX1_isSame_592 (lv_at hl 5 rfl) ?_
                                                              refine q_aald (cA := cR) (n := mBc u) (f := br) (ty := .int) hx hb hK 1 hR.2.2.1 rfl (k := n6) (by omega) (by omega) dX1_isSame_594 ?_
                                                              refine lv_iconst (v := nI 0) hx hb dX1_isSame_595 (by decide +kernel) ?_
                                                              refine q_ialdH (cA := cI) (n := 2) (f := pr (mPe u n6) (mBe u n6)) (v := nI (pN u n6)) hx hb hK 0 (hR.2.2.2.2 n6 (by omega)) rfl (k := 0) (by decide) (by decide) ((hIf n6 (by omega)).1) dX1_isSame_596 ?_
                                                              obtain ⟨_, _, _, _, _⟩ := hIf n6 (by omega)
                                                              refine q_imulN hx hb dX1_isSame_597 ?_
                                                              refine lv_aload_n hx hb dX1_isSame_598 rfl (lv_at hl 1 rfl) ?_
                                                              refine lv_aload_n hx hb dX1_isSame_599 rfl (lv_at hl 1 rfl) ?_
                                                              refine va_get (D := D) (ci := 1) (v := .int (nI (mNow u))) (C := RX1) (T := TX1) (N := 10) hx hb hts hin hown hK hP 8 rfl rfl 7 (by decide) (hts (.fieldLink RX1 39 "AfternoonMeterLaw$Sim" "minute" "I") (List.mem_of_getElem? (i := 2) rfl)) (fun _ h9 => h9) rfl dX1_isSame_600 ?_
                                                              refine lv_iconst (v := (-1)) hx hb dX1_isSame_603 (by decide +kernel) ?_
                                                              refine vp_callSi (W.runV (As := [.int (nI (mNow u)), .int (-1)]) (rest := [.int (nI ((TK u n6) * (pN u n6))), .int (nI (TK u n6 * pN u n6) - nI (AW u))]) ⟨hx, hb, hml, hown, hts⟩ (c_X1_awake l D cI cR h1 a1 nr br u (mNow u) (-1) (Inv.n hI) (by omega)) (cwV 2 hts gX1_isSame_X1_awake rfl rfl rfl (by decide +kernel) ⟨Nat.le_of_ble_eq_true rfl, Nat.le_of_ble_eq_true rfl⟩) (pr_pre hK (hP.sub (ws' := picS h1 a1 u) [8] rfl) hR rfl rfl) rfl rfl hl.1 rfl (lv_room (Nat.le_of_ble_eq_true rfl)) dX1_isSame_604 ⟨Nat.le_of_ble_eq_true rfl, Nat.le_of_ble_eq_true rfl⟩) (fun r hr9 => ?_)
                                                              subst hr9
                                                              rw [awX_m1 hIb, show ct (awB u) (mNow u) = AW u from rfl]
                                                              have haw := AW_le u
                                                              refine lv_isub hx hb dX1_isSame_607 ?_
                                                              refine lv_icmp_eq (tgt := 613) hx hb dX1_isSame_608 (by decide) (fun c_608 => ?_) (fun c_608 => ?_)
                                                              · skip
                                                                refine lv_iload hx hb dX1_isSame_613 (lv_at hl 4 rfl) ?_
                                                                refine lv_if_lt (tgt := 639) hx hb dX1_isSame_615 (by decide) (fun c_615 => ?_) (fun c_615 => ?_)
                                                                · skip
                                                                  refine lv_iload hx hb dX1_isSame_639 (lv_at hl 5 rfl) ?_
                                                                  refine lv_istore (lv' := [(7, .int (nI n6)), (9, .int (nI (TK u n6))), (0, .ref h1), (1, .ref h0), (5, .int U9), (8, .int (nI n6))]) hx hb dX1_isSame_641 hl (by decide) rfl (fun ls hl => ?_)
                                                                  refine lv_iinc (v := nI n6 - nI 1) (lv' := [(8, .int (nI n6 - nI 1)), (7, .int (nI n6)), (9, .int (nI (TK u n6))), (0, .ref h1), (1, .ref h0), (5, .int U9)]) hx hb dX1_isSame_643 hl (k := 5) rfl (nI_im1 _) (by decide) rfl (fun ls hl => ?_)
                                                                  refine lv_goto (tgt := 535) hx hb dX1_isSame_646 (by decide) ?_
                                                                  exact ih6 (k6 + 1) (by omega) (nI n6 - nI 1) (nI n6) (by rfl) (by exact BB_neg hIc hBP c_615) _ (lv_sub hl [3, 4, 5, 1, 0] rfl)
                                                                · skip
                                                                  obtain ⟨j9, hj9, eB9⟩ := BB_pos hBP c_615
                                                                  subst eB9
                                                                  obtain ⟨hj9a, hj9b, _, _⟩ := id hj9
                                                                  refine lv_aload_n hx hb dX1_isSame_618 rfl (lv_at hl 2 rfl) ?_
                                                                  refine lv_iload hx hb dX1_isSame_619 (lv_at hl 5 rfl) ?_
                                                                  refine vp_callSi (W.runV (As := [.int (nI n6)]) (rest := []) ⟨hx, hb, hml, hown, hts⟩ (c_X0_errorOf l D cI h0 a0 u on n6 hI (by omega)) (cwV 1 hts gX1_isSame_X0_errorOf rfl rfl rfl (by decide +kernel) ⟨Nat.le_of_ble_eq_true rfl, Nat.le_of_ble_eq_true rfl⟩) (pu_pre (hK.sub (tys' := [(cI, .int)]) [0] rfl) (hP.sub (ws' := pic0 cI h0 a0 u on) [0, 1, 2, 3, 4, 5, 6, 7] rfl) rfl rfl) rfl rfl hl.1 rfl (lv_room (Nat.le_of_ble_eq_true rfl)) dX1_isSame_621 ⟨Nat.le_of_ble_eq_true rfl, Nat.le_of_ble_eq_true rfl⟩) (fun r hr9 => ?_)
                                                                  subst hr9
                                                                  rw [fEr_eq u n6]
                                                                  refine va_mabs hx hb (hml.trans hl.1.symm) hown (hts (.methodLink RX1 126 Lib.Math.abs.name) (List.mem_of_getElem? (i := 8) rfl)) (hts (.static Lib.Math.abs.name) (List.mem_of_getElem? (i := 9) rfl)) (hts (.initialized "java/lang/Math") (List.mem_of_getElem? (i := 10) rfl)) (hts _ (List.mem_of_getElem? (i := 11) rfl)) (Nat.le_of_ble_eq_true rfl) (Nat.le_of_ble_eq_true rfl) (Nat.le_of_ble_eq_true rfl) (Nat.le_of_ble_eq_true rfl) dX1_isSame_624 ?_
                                                                  rw [show (if 0 ≤ nI (TK u n6 * pN u n6) - nI (AW u) then nI (TK u n6 * pN u n6) - nI (AW u) else 0 - (nI (TK u n6 * pN u n6) - nI (AW u))) = nI (EN u n6) from by rw [← fEr_eq]; exact fEr_ab hI (by omega)]
                                                                  refine lv_aload_n hx hb dX1_isSame_627 rfl (lv_at hl 2 rfl) ?_
                                                                  refine lv_iload hx hb dX1_isSame_628 (lv_at hl 4 rfl) ?_
                                                                  refine vp_callSi (W.runV (As := [.int (nI j9)]) (rest := [.int (nI (EN u n6))]) ⟨hx, hb, hml, hown, hts⟩ (c_X0_errorOf l D cI h0 a0 u on j9 hI (by omega)) (cwV 1 hts gX1_isSame_X0_errorOf rfl rfl rfl (by decide +kernel) ⟨Nat.le_of_ble_eq_true rfl, Nat.le_of_ble_eq_true rfl⟩) (pu_pre (hK.sub (tys' := [(cI, .int)]) [0] rfl) (hP.sub (ws' := pic0 cI h0 a0 u on) [0, 1, 2, 3, 4, 5, 6, 7] rfl) rfl rfl) rfl rfl hl.1 rfl (lv_room (Nat.le_of_ble_eq_true rfl)) dX1_isSame_630 ⟨Nat.le_of_ble_eq_true rfl, Nat.le_of_ble_eq_true rfl⟩) (fun r hr9 => ?_)
                                                                  subst hr9
                                                                  rw [fEr_eq u j9]
                                                                  refine va_mabs hx hb (hml.trans hl.1.symm) hown (hts (.methodLink RX1 126 Lib.Math.abs.name) (List.mem_of_getElem? (i := 8) rfl)) (hts (.static Lib.Math.abs.name) (List.mem_of_getElem? (i := 9) rfl)) (hts (.initialized "java/lang/Math") (List.mem_of_getElem? (i := 10) rfl)) (hts _ (List.mem_of_getElem? (i := 11) rfl)) (Nat.le_of_ble_eq_true rfl) (Nat.le_of_ble_eq_true rfl) (Nat.le_of_ble_eq_true rfl) (Nat.le_of_ble_eq_true rfl) dX1_isSame_633 ?_
                                                                  rw [show (if 0 ≤ nI (TK u j9 * pN u j9) - nI (AW u) then nI (TK u j9 * pN u j9) - nI (AW u) else 0 - (nI (TK u j9 * pN u j9) - nI (AW u))) = nI (EN u j9) from by rw [← fEr_eq]; exact fEr_ab hI (by omega)]
                                                                  have hen1 := EN_le hI (b := n6) (by omega)
                                                                  have hen2 := EN_le hI (b := j9) (by omega)
                                                                  refine lv_icmp_gt (tgt := 643) hx hb dX1_isSame_636 (by decide) (fun c_636 => ?_) (fun c_636 => ?_)
                                                                  · skip
                                                                    replace c_636 : (EN u j9) < (EN u n6) := ltN c_636
                                                                    refine lv_iinc (v := nI n6 - nI 1) (lv' := [(8, .int (nI n6 - nI 1)), (9, .int (nI (TK u n6))), (0, .ref h1), (1, .ref h0), (5, .int U9), (7, .int (nI j9))]) hx hb dX1_isSame_643 hl (k := 5) rfl (nI_im1 _) (by decide) rfl (fun ls hl => ?_)
                                                                    refine lv_goto (tgt := 535) hx hb dX1_isSame_646 (by decide) ?_
                                                                    exact ih6 (k6 + 1) (by omega) (nI n6 - nI 1) (nI j9) (by rfl) (by exact Or.inr ⟨j9, hj9.skip c_636, rfl⟩) _ (lv_sub hl [2, 3, 4, 5, 0] rfl)
                                                                  · skip
                                                                    replace c_636 : (EN u n6) ≤ (EN u j9) := nltN c_636
                                                                    refine lv_iload hx hb dX1_isSame_639 (lv_at hl 5 rfl) ?_
                                                                    refine lv_istore (lv' := [(7, .int (nI n6)), (9, .int (nI (TK u n6))), (0, .ref h1), (1, .ref h0), (5, .int U9), (8, .int (nI n6))]) hx hb dX1_isSame_641 hl (by decide) rfl (fun ls hl => ?_)
                                                                    refine lv_iinc (v := nI n6 - nI 1) (lv' := [(8, .int (nI n6 - nI 1)), (7, .int (nI n6)), (9, .int (nI (TK u n6))), (0, .ref h1), (1, .ref h0), (5, .int U9)]) hx hb dX1_isSame_643 hl (k := 5) rfl (nI_im1 _) (by decide) rfl (fun ls hl => ?_)
                                                                    refine lv_goto (tgt := 535) hx hb dX1_isSame_646 (by decide) ?_
                                                                    exact ih6 (k6 + 1) (by omega) (nI n6 - nI 1) (nI n6) (by rfl) (by exact Or.inr ⟨n6, hj9.take c_636, rfl⟩) _ (lv_sub hl [3, 4, 5, 1, 0] rfl)
                                                              · skip
                                                                exact (c_608 rfl).elim
                                                    exact lp535 _ 0 (Nat.zero_add _) ((nI (mBc u)) - (nI 1)) (-1) (by rfl) (by exact Or.inl ⟨rfl, rfl⟩) _ (lv_sub hl [2, 3, 4, 1, 0] rfl)
                                                  · skip
                                                    exact (c_417 (by rw [eK5]; decide +kernel)).elim
                                                | succ n5 ih5 =>
                                                  intro k5 hk5 K5 U9 M9 eK5 hUP ls hl
                                                  have eK5b : K5 = nI n5 := by rw [eK5, nI_sub (by omega)]; rfl
                                                  subst eK5b
                                                  refine lv_iload hx hb dX1_isSame_415 (lv_at hl 4 rfl) ?_
                                                  refine lv_if_lt (tgt := 523) hx hb dX1_isSame_417 (by decide) (fun c_417 => ?_) (fun c_417 => ?_)
                                                  · skip
                                                    replace c_417 : n5 < 0 := ltN c_417
                                                    exact (by omega : False).elim
                                                  · skip
                                                    replace c_417 : 0 ≤ n5 := nltN c_417
                                                    refine lv_aload_n hx hb dX1_isSame_420 rfl (lv_at hl 0 rfl) ?_
                                                    refine lv_sipush (v := nI 360) hx hb dX1_isSame_421 (by decide +kernel) ?_
                                                    refine lv_iload hx hb dX1_isSame_424 (lv_at hl 4 rfl) ?_
                                                    refine vp_callSi (W.runV (As := [.int (nI 360), .int (nI n5)]) (rest := []) ⟨hx, hb, hml, hown, hts⟩ (c_X1_awake l D cI cR h1 a1 nr br u 360 (nI n5) (Inv.n hI) (by omega)) (cwV 2 hts gX1_isSame_X1_awake rfl rfl rfl (by decide +kernel) ⟨Nat.le_of_ble_eq_true rfl, Nat.le_of_ble_eq_true rfl⟩) (pr_pre hK (hP.sub (ws' := picS h1 a1 u) [8] rfl) hR rfl rfl) rfl rfl hl.1 rfl (lv_room (Nat.le_of_ble_eq_true rfl)) dX1_isSame_426 ⟨Nat.le_of_ble_eq_true rfl, Nat.le_of_ble_eq_true rfl⟩) (fun r hr9 => ?_)
                                                    subst hr9
                                                    rw [awX_j hIb (by omega)]
                                                    have hct := ct_le (awB u) 360
                                                    have hal_x := AL_le u n5
                                                    refine lv_aload_n hx hb dX1_isSame_429 rfl (lv_at hl 0 rfl) ?_
                                                    refine lv_sipush (v := nI 360) hx hb dX1_isSame_430 (by decide +kernel) ?_
                                                    refine lv_iconst (v := (-1)) hx hb dX1_isSame_433 (by decide +kernel) ?_
                                                    refine vp_callSi (W.runV (As := [.int (nI 360), .int (-1)]) (rest := [.int (nI (ct (awB u) 360 + AL u n5))]) ⟨hx, hb, hml, hown, hts⟩ (c_X1_awake l D cI cR h1 a1 nr br u 360 (-1) (Inv.n hI) (by omega)) (cwV 2 hts gX1_isSame_X1_awake rfl rfl rfl (by decide +kernel) ⟨Nat.le_of_ble_eq_true rfl, Nat.le_of_ble_eq_true rfl⟩) (pr_pre hK (hP.sub (ws' := picS h1 a1 u) [8] rfl) hR rfl rfl) rfl rfl hl.1 rfl (lv_room (Nat.le_of_ble_eq_true rfl)) dX1_isSame_434 ⟨Nat.le_of_ble_eq_true rfl, Nat.le_of_ble_eq_true rfl⟩) (fun r hr9 => ?_)
                                                    subst hr9
                                                    rw [awX_m1 hIb]
                                                    have hct := ct_le (awB u) 360
                                                    refine q_isubN hx hb (by omega) dX1_isSame_437 ?_
                                                    rw [show ct (awB u) 360 + AL u n5 - ct (awB u) 360 = AL u n5 from Nat.add_sub_cancel_left _ _]
                                                    refine lv_istore (lv' := [(8, .int (nI (AL u n5))), (0, .ref h1), (1, .ref h0), (5, .int U9), (6, .int M9), (7, .int (nI n5))]) hx hb dX1_isSame_438 hl (by decide) rfl (fun ls hl => ?_)
                                                    refine lv_aload_n hx hb dX1_isSame_440 rfl (lv_at hl 2 rfl) ?_
                                                    refine lv_iload hx hb dX1_isSame_441 (lv_at hl 5 rfl) ?_
                                                    refine vp_callSi (W.runV (As := [.int (nI n5)]) (rest := []) ⟨hx, hb, hml, hown, hts⟩ (c_X0_startOf l D cI h0 a0 u on n5 hI (by omega)) (cwV 1 hts gX1_isSame_X0_startOf rfl rfl rfl (by decide +kernel) ⟨Nat.le_of_ble_eq_true rfl, Nat.le_of_ble_eq_true rfl⟩) (pu_pre (hK.sub (tys' := [(cI, .int)]) [0] rfl) (hP.sub (ws' := pic0 cI h0 a0 u on) [0, 1, 2, 3, 4, 5, 6, 7] rfl) rfl rfl) rfl rfl hl.1 rfl (lv_room (Nat.le_of_ble_eq_true rfl)) dX1_isSame_443 ⟨Nat.le_of_ble_eq_true rfl, Nat.le_of_ble_eq_true rfl⟩) (fun r hr9 => ?_)
                                                    subst hr9
                                                    obtain ⟨_, _, _, _⟩ := hIg n5 (by omega)
                                                    refine lv_aload_n hx hb dX1_isSame_446 rfl (lv_at hl 1 rfl) ?_
                                                    refine va_get (D := D) (ci := 1) (v := .ref (a1 1)) (C := RX1) (T := TX1) (N := 10) hx hb hts hin hown hK hP 8 rfl rfl 1 (by decide) (hts (.fieldLink RX1 14 "AfternoonMeterLaw$Sim" "naps" "[[I") (List.mem_of_getElem? (i := 4) rfl)) (fun _ h9 => h9) rfl dX1_isSame_447 ?_
                                                    refine lv_iload hx hb dX1_isSame_450 (lv_at hl 5 rfl) ?_
                                                    refine q_aald (cA := cR) (n := mNc u) (f := nr) (ty := .int) hx hb hK 1 hR.2.1 rfl (k := n5) (by omega) (by omega) dX1_isSame_452 ?_
                                                    refine lv_iconst (v := nI 0) hx hb dX1_isSame_453 (by decide +kernel) ?_
                                                    refine q_ialdH (cA := cI) (n := 2) (f := pr (mFr u n5) (mTo u n5)) (v := nI (aN u n5)) hx hb hK 0 (hR.2.2.2.1 n5 (by omega)) rfl (k := 0) (by decide) (by decide) ((hIg n5 (by omega)).1) dX1_isSame_454 ?_
                                                    obtain ⟨_, _, _, _⟩ := hIg n5 (by omega)
                                                    refine lv_icmp_ne (tgt := 497) hx hb dX1_isSame_455 (by decide) (fun c_455 => ?_) (fun c_455 => ?_)
                                                    · skip
                                                      replace c_455 : (aN u n5) ≠ (aN u n5) := neN c_455
                                                      exact (by omega : False).elim
                                                    · skip
                                                      replace c_455 : (aN u n5) = (aN u n5) := eN c_455
                                                      refine lv_aload_n hx hb dX1_isSame_458 rfl (lv_at hl 2 rfl) ?_
                                                      refine lv_iload hx hb dX1_isSame_459 (lv_at hl 5 rfl) ?_
                                                      refine vp_callSi (W.runV (As := [.int (nI n5)]) (rest := []) ⟨hx, hb, hml, hown, hts⟩ (c_X0_lengthOf l D cI h0 a0 u on n5 hI (by omega)) (cwV 1 hts gX1_isSame_X0_lengthOf rfl rfl rfl (by decide +kernel) ⟨Nat.le_of_ble_eq_true rfl, Nat.le_of_ble_eq_true rfl⟩) (pu_pre (hK.sub (tys' := [(cI, .int)]) [0] rfl) (hP.sub (ws' := pic0 cI h0 a0 u on) [0, 1, 2, 3, 4, 5, 6, 7] rfl) rfl rfl) rfl rfl hl.1 rfl (lv_room (Nat.le_of_ble_eq_true rfl)) dX1_isSame_461 ⟨Nat.le_of_ble_eq_true rfl, Nat.le_of_ble_eq_true rfl⟩) (fun r hr9 => ?_)
                                                      subst hr9
                                                      obtain ⟨_, _, _, _⟩ := hIg n5 (by omega)
                                                      refine lv_aload_n hx hb dX1_isSame_464 rfl (lv_at hl 1 rfl) ?_
                                                      refine va_get (D := D) (ci := 1) (v := .ref (a1 1)) (C := RX1) (T := TX1) (N := 10) hx hb hts hin hown hK hP 8 rfl rfl 1 (by decide) (hts (.fieldLink RX1 14 "AfternoonMeterLaw$Sim" "naps" "[[I") (List.mem_of_getElem? (i := 4) rfl)) (fun _ h9 => h9) rfl dX1_isSame_465 ?_
                                                      refine lv_iload hx hb dX1_isSame_468 (lv_at hl 5 rfl) ?_
                                                      refine q_aald (cA := cR) (n := mNc u) (f := nr) (ty := .int) hx hb hK 1 hR.2.1 rfl (k := n5) (by omega) (by omega) dX1_isSame_470 ?_
                                                      refine lv_iconst (v := nI 1) hx hb dX1_isSame_471 (by decide +kernel) ?_
                                                      refine q_ialdH (cA := cI) (n := 2) (f := pr (mFr u n5) (mTo u n5)) (v := nI (bN u n5)) hx hb hK 0 (hR.2.2.2.1 n5 (by omega)) rfl (k := 1) (by decide) (by decide) ((hIg n5 (by omega)).2.1) dX1_isSame_472 ?_
                                                      obtain ⟨_, _, _, _⟩ := hIg n5 (by omega)
                                                      refine lv_aload_n hx hb dX1_isSame_473 rfl (lv_at hl 1 rfl) ?_
                                                      refine va_get (D := D) (ci := 1) (v := .ref (a1 1)) (C := RX1) (T := TX1) (N := 10) hx hb hts hin hown hK hP 8 rfl rfl 1 (by decide) (hts (.fieldLink RX1 14 "AfternoonMeterLaw$Sim" "naps" "[[I") (List.mem_of_getElem? (i := 4) rfl)) (fun _ h9 => h9) rfl dX1_isSame_474 ?_
                                                      refine lv_iload hx hb dX1_isSame_477 (lv_at hl 5 rfl) ?_
                                                      refine q_aald (cA := cR) (n := mNc u) (f := nr) (ty := .int) hx hb hK 1 hR.2.1 rfl (k := n5) (by omega) (by omega) dX1_isSame_479 ?_
                                                      refine lv_iconst (v := nI 0) hx hb dX1_isSame_480 (by decide +kernel) ?_
                                                      refine q_ialdH (cA := cI) (n := 2) (f := pr (mFr u n5) (mTo u n5)) (v := nI (aN u n5)) hx hb hK 0 (hR.2.2.2.1 n5 (by omega)) rfl (k := 0) (by decide) (by decide) ((hIg n5 (by omega)).1) dX1_isSame_481 ?_
                                                      obtain ⟨_, _, _, _⟩ := hIg n5 (by omega)
                                                      refine q_isubN hx hb (by omega) dX1_isSame_482 ?_
                                                      refine lv_icmp_ne (tgt := 497) hx hb dX1_isSame_483 (by decide) (fun c_483 => ?_) (fun c_483 => ?_)
                                                      · skip
                                                        replace c_483 : (bN u n5 - aN u n5) ≠ ((bN u n5) - (aN u n5)) := neN c_483
                                                        exact (by omega : False).elim
                                                      · skip
                                                        replace c_483 : (bN u n5 - aN u n5) = ((bN u n5) - (aN u n5)) := eN c_483
                                                        refine lv_aload_n hx hb dX1_isSame_486 rfl (lv_at hl 2 rfl) ?_
                                                        refine lv_iload hx hb dX1_isSame_487 (lv_at hl 5 rfl) ?_
                                                        refine vp_callSi (W.runV (As := [.int (nI n5)]) (rest := []) ⟨hx, hb, hml, hown, hts⟩ (c_X0_minutesAlone l D cI h0 a0 u on n5 hI (by omega)) (cwV 1 hts gX1_isSame_X0_minutesAlone rfl rfl rfl (by decide +kernel) ⟨Nat.le_of_ble_eq_true rfl, Nat.le_of_ble_eq_true rfl⟩) (pu_pre (hK.sub (tys' := [(cI, .int)]) [0] rfl) (hP.sub (ws' := pic0 cI h0 a0 u on) [0, 1, 2, 3, 4, 5, 6, 7] rfl) rfl rfl) rfl rfl hl.1 rfl (lv_room (Nat.le_of_ble_eq_true rfl)) dX1_isSame_489 ⟨Nat.le_of_ble_eq_true rfl, Nat.le_of_ble_eq_true rfl⟩) (fun r hr9 => ?_)
                                                        subst hr9
                                                        rw [fAl_eq u n5]
                                                        have hal_x := AL_le u n5
                                                        refine lv_iload hx hb dX1_isSame_492 (lv_at hl 0 rfl) ?_
                                                        refine lv_icmp_eq (tgt := 499) hx hb dX1_isSame_494 (by decide) (fun c_494 => ?_) (fun c_494 => ?_)
                                                        · skip
                                                          replace c_494 : (AL u n5) = (AL u n5) := eN c_494
                                                          refine lv_iload hx hb dX1_isSame_499 (lv_at hl 0 rfl) ?_
                                                          refine lv_iload hx hb dX1_isSame_501 (lv_at hl 4 rfl) ?_
                                                          refine lv_icmp_ge (tgt := 509) hx hb dX1_isSame_503 (by decide) (fun c_503 => ?_) (fun c_503 => ?_)
                                                          · skip
                                                            refine lv_iload hx hb dX1_isSame_509 (lv_at hl 5 rfl) ?_
                                                            refine lv_istore (lv' := [(5, .int (nI n5)), (8, .int (nI (AL u n5))), (0, .ref h1), (1, .ref h0), (6, .int M9), (7, .int (nI n5))]) hx hb dX1_isSame_511 hl (by decide) rfl (fun ls hl => ?_)
                                                            refine lv_iload hx hb dX1_isSame_513 (lv_at hl 1 rfl) ?_
                                                            refine lv_istore (lv' := [(6, .int (nI (AL u n5))), (5, .int (nI n5)), (8, .int (nI (AL u n5))), (0, .ref h1), (1, .ref h0), (7, .int (nI n5))]) hx hb dX1_isSame_515 hl (by decide) rfl (fun ls hl => ?_)
                                                            refine lv_iinc (v := nI n5 - nI 1) (lv' := [(7, .int (nI n5 - nI 1)), (6, .int (nI (AL u n5))), (5, .int (nI n5)), (8, .int (nI (AL u n5))), (0, .ref h1), (1, .ref h0)]) hx hb dX1_isSame_517 hl (k := 5) rfl (nI_im1 _) (by decide) rfl (fun ls hl => ?_)
                                                            refine lv_goto (tgt := 415) hx hb dX1_isSame_520 (by decide) ?_
                                                            exact ih5 (k5 + 1) (by omega) (nI n5 - nI 1) (nI n5) (nI (AL u n5)) (by rfl) (by exact UP_take (by omega) hUP c_503) _ (lv_sub hl [4, 5, 2, 1, 0] rfl)
                                                          · skip
                                                            refine lv_goto (tgt := 517) hx hb dX1_isSame_506 (by decide) ?_
                                                            refine lv_iinc (v := nI n5 - nI 1) (lv' := [(7, .int (nI n5 - nI 1)), (8, .int (nI (AL u n5))), (0, .ref h1), (1, .ref h0), (5, .int U9), (6, .int M9)]) hx hb dX1_isSame_517 hl (k := 5) rfl (nI_im1 _) (by decide) rfl (fun ls hl => ?_)
                                                            refine lv_goto (tgt := 415) hx hb dX1_isSame_520 (by decide) ?_
                                                            exact ih5 (k5 + 1) (by omega) (nI n5 - nI 1) U9 M9 (by rfl) (by exact UP_skip (by omega) hUP c_503) _ (lv_sub hl [2, 3, 4, 5, 0] rfl)
                                                        · skip
                                                          replace c_494 : (AL u n5) ≠ (AL u n5) := neN c_494
                                                          exact (by omega : False).elim
                                              exact lp415 _ 0 (Nat.zero_add _) ((nI (mNc u)) - (nI 1)) (-1) (-1) (by rfl) (by exact Or.inl ⟨rfl, rfl, rfl⟩) _ (lv_sub hl [3, 4, 2, 1, 0] rfl)
                                            · skip
                                              exact (c_395 (by rw [show FP.ddiv (FP.i2d X3) (FP.i2d (nI (mSc u))) = fMean u by unfold fMean; rw [if_neg c_377, ← eF], mean_cmp hI]; decide +kernel)).elim
                                          · skip
                                            replace c_377 : (mSc u) = 0 := eN c_377
                                            refine lv_dconst0 hx hb dX1_isSame_380 ?_
                                            refine lv_goto (tgt := 394) hx hb dX1_isSame_381 (by decide) ?_
                                            refine lv_dcmp hx hb dX1_isSame_394 ?_
                                            refine lv_if_eq (tgt := 400) hx hb dX1_isSame_395 (by decide) (fun c_395 => ?_) (fun c_395 => ?_)
                                            · skip
                                              refine lv_iconst (v := (-1)) hx hb dX1_isSame_400 (by decide +kernel) ?_
                                              refine lv_istore (lv' := [(5, .int (-1)), (0, .ref h1), (1, .ref h0), (4, .int X3)]) hx hb dX1_isSame_401 hl (by decide) rfl (fun ls hl => ?_)
                                              refine lv_iconst (v := (-1)) hx hb dX1_isSame_403 (by decide +kernel) ?_
                                              refine lv_istore (lv' := [(6, .int (-1)), (5, .int (-1)), (0, .ref h1), (1, .ref h0), (4, .int X3)]) hx hb dX1_isSame_404 hl (by decide) rfl (fun ls hl => ?_)
                                              refine lv_aload_n hx hb dX1_isSame_406 rfl (lv_at hl 2 rfl) ?_
                                              refine va_get (D := D) (ci := 1) (v := .ref (a1 1)) (C := RX1) (T := TX1) (N := 10) hx hb hts hin hown hK hP 8 rfl rfl 1 (by decide) (hts (.fieldLink RX1 14 "AfternoonMeterLaw$Sim" "naps" "[[I") (List.mem_of_getElem? (i := 4) rfl)) (fun _ h9 => h9) rfl dX1_isSame_407 ?_
                                              refine va_alen (ws := [(a1 1, .inl (cR, mNc u, .inr (.inr (.inr (.inr (rfs nr))))))]) (v := nI (mNc u)) hx hb hK (P_one hR.2.1) 0 1 rfl rfl rfl dX1_isSame_410 ?_
                                              refine lv_iconst (v := nI 1) hx hb dX1_isSame_411 (by decide +kernel) ?_
                                              refine lv_isub hx hb dX1_isSame_412 ?_
                                              refine lv_istore (lv' := [(7, .int ((nI (mNc u)) - (nI 1))), (6, .int (-1)), (5, .int (-1)), (0, .ref h1), (1, .ref h0), (4, .int X3)]) hx hb dX1_isSame_413 hl (by decide) rfl (fun ls hl => ?_)
                                              have lp415 : ∀ (n5 k5 : Nat), k5 + n5 = mNc u → ∀ (K5 : Int32), ∀ (U9 : Int32), ∀ (M9 : Int32), K5 = nI n5 - nI 1 → UPp u n5 U9 M9 → ∀ (ls : Array Slot), lv_has ls 10 [(0, .ref h1), (1, .ref h0), (5, .int U9), (6, .int M9), (7, .int K5)] → W p l e ({ frames := 6, cells := 0, slots := 0, locals := 134 } : Room) s m args below meth c s.heap [] 0 0 (MQ below (vp_Si (fun r => r = nI 1)) args s 0 0 (fun _ => False)) (F0 m 415 ls []) := by
                                                intro n5
                                                induction n5 with
                                                | zero =>
                                                  intro k5 hk5 K5 U9 M9 eK5 hUP ls hl
                                                  refine lv_iload hx hb dX1_isSame_415 (lv_at hl 4 rfl) ?_
                                                  refine lv_if_lt (tgt := 523) hx hb dX1_isSame_417 (by decide) (fun c_417 => ?_) (fun c_417 => ?_)
                                                  · skip
                                                    refine lv_iconst (v := (-1)) hx hb dX1_isSame_523 (by decide +kernel) ?_
                                                    refine lv_istore (lv' := [(7, .int (-1)), (0, .ref h1), (1, .ref h0), (5, .int U9), (6, .int M9)]) hx hb dX1_isSame_524 hl (by decide) rfl (fun ls hl => ?_)
                                                    refine lv_aload_n hx hb dX1_isSame_526 rfl (lv_at hl 1 rfl) ?_
                                                    refine va_get (D := D) (ci := 1) (v := .ref (a1 2)) (C := RX1) (T := TX1) (N := 10) hx hb hts hin hown hK hP 8 rfl rfl 2 (by decide) (hts (.fieldLink RX1 18 "AfternoonMeterLaw$Sim" "bees" "[[I") (List.mem_of_getElem? (i := 5) rfl)) (fun _ h9 => h9) rfl dX1_isSame_527 ?_
                                                    refine va_alen (ws := [(a1 2, .inl (cR, mBc u, .inr (.inr (.inr (.inr (rfs br))))))]) (v := nI (mBc u)) hx hb hK (P_one hR.2.2.1) 0 1 rfl rfl rfl dX1_isSame_530 ?_
                                                    refine lv_iconst (v := nI 1) hx hb dX1_isSame_531 (by decide +kernel) ?_
                                                    refine lv_isub hx hb dX1_isSame_532 ?_
                                                    refine lv_istore (lv' := [(8, .int ((nI (mBc u)) - (nI 1))), (7, .int (-1)), (0, .ref h1), (1, .ref h0), (5, .int U9), (6, .int M9)]) hx hb dX1_isSame_533 hl (by decide) rfl (fun ls hl => ?_)
                                                    have lp535 : ∀ (n6 k6 : Nat), k6 + n6 = mBc u → ∀ (K6 : Int32), ∀ (B9 : Int32), K6 = nI n6 - nI 1 → BBq u n6 B9 → ∀ (ls : Array Slot), lv_has ls 10 [(0, .ref h1), (1, .ref h0), (5, .int U9), (7, .int B9), (8, .int K6)] → W p l e ({ frames := 6, cells := 0, slots := 0, locals := 134 } : Room) s m args below meth c s.heap [] 0 0 (MQ below (vp_Si (fun r => r = nI 1)) args s 0 0 (fun _ => False)) (F0 m 535 ls []) := by
                                                      intro n6
                                                      induction n6 with
                                                      | zero =>
                                                        intro k6 hk6 K6 B9 eK6 hBP ls hl
                                                        refine lv_iload hx hb dX1_isSame_535 (lv_at hl 4 rfl) ?_
                                                        refine lv_if_lt (tgt := 649) hx hb dX1_isSame_537 (by decide) (fun c_537 => ?_) (fun c_537 => ?_)
                                                        · skip
                                                          refine lv_aload_n hx hb dX1_isSame_649 rfl (lv_at hl 1 rfl) ?_
                                                          refine vp_callSi (W.runV (As := []) (rest := []) ⟨hx, hb, hml, hown, hts⟩ (c_X0_bestToGiveUp l D cI h0 a0 u on hI) (cwV 0 hts gX1_isSame_X0_bestToGiveUp rfl rfl rfl (by decide +kernel) ⟨Nat.le_of_ble_eq_true rfl, Nat.le_of_ble_eq_true rfl⟩) (pu_pre (hK.sub (tys' := [(cI, .int)]) [0] rfl) (hP.sub (ws' := pic0 cI h0 a0 u on) [0, 1, 2, 3, 4, 5, 6, 7] rfl) rfl rfl) rfl rfl hl.1 rfl (lv_room (Nat.le_of_ble_eq_true rfl)) dX1_isSame_650 ⟨Nat.le_of_ble_eq_true rfl, Nat.le_of_ble_eq_true rfl⟩) (fun r hr9 => ?_)
                                                          subst hr9
                                                          refine lv_iload hx hb dX1_isSame_653 (lv_at hl 2 rfl) ?_
                                                          refine lv_icmp_ne (tgt := 671) hx hb dX1_isSame_655 (by decide) (fun c_655 => ?_) (fun c_655 => ?_)
                                                          · skip
                                                            exact (c_655 (UP_end hIb hUP)).elim
                                                          · skip
                                                            refine lv_aload_n hx hb dX1_isSame_658 rfl (lv_at hl 1 rfl) ?_
                                                            refine vp_callSi (W.runV (As := []) (rest := []) ⟨hx, hb, hml, hown, hts⟩ (c_X0_bestBee l D cI h0 a0 u on hI) (cwV 0 hts gX1_isSame_X0_bestBee rfl rfl rfl (by decide +kernel) ⟨Nat.le_of_ble_eq_true rfl, Nat.le_of_ble_eq_true rfl⟩) (pu_pre (hK.sub (tys' := [(cI, .int)]) [0] rfl) (hP.sub (ws' := pic0 cI h0 a0 u on) [0, 1, 2, 3, 4, 5, 6, 7] rfl) rfl rfl) rfl rfl hl.1 rfl (lv_room (Nat.le_of_ble_eq_true rfl)) dX1_isSame_659 ⟨Nat.le_of_ble_eq_true rfl, Nat.le_of_ble_eq_true rfl⟩) (fun r hr9 => ?_)
                                                            subst hr9
                                                            refine lv_iload hx hb dX1_isSame_662 (lv_at hl 3 rfl) ?_
                                                            refine lv_icmp_ne (tgt := 671) hx hb dX1_isSame_664 (by decide) (fun c_664 => ?_) (fun c_664 => ?_)
                                                            · skip
                                                              exact (c_664 (BB_end hI hBP)).elim
                                                            · skip
                                                              refine lv_iconst (v := nI 1) hx hb dX1_isSame_667 (by decide +kernel) ?_
                                                              refine lv_goto (tgt := 672) hx hb dX1_isSame_668 (by decide) ?_
                                                              exact W.zret (ty := .boolean) hx hb hr (by decide +kernel) (fun t ht _ => ⟨_, rfl, rfl, ht⟩) (fun _ h9 => nomatch h9) dX1_isSame_672
                                                        · skip
                                                          exact (c_537 (by rw [eK6]; decide +kernel)).elim
                                                      | succ n6 ih6 =>
                                                        intro k6 hk6 K6 B9 eK6 hBP ls hl
                                                        have eK6b : K6 = nI n6 := by rw [eK6, nI_sub (by omega)]; rfl
                                                        subst eK6b
                                                        refine lv_iload hx hb dX1_isSame_535 (lv_at hl 4 rfl) ?_
                                                        refine lv_if_lt (tgt := 649) hx hb dX1_isSame_537 (by decide) (fun c_537 => ?_) (fun c_537 => ?_)
                                                        · skip
                                                          replace c_537 : n6 < 0 := ltN c_537
                                                          exact (by omega : False).elim
                                                        · skip
                                                          replace c_537 : 0 ≤ n6 := nltN c_537
                                                          refine lv_aload_n hx hb dX1_isSame_540 rfl (lv_at hl 0 rfl) ?_
                                                          refine lv_iload hx hb dX1_isSame_541 (lv_at hl 4 rfl) ?_
                                                          refine vp_callSi (W.runV (As := [.int (nI n6)]) (rest := []) ⟨hx, hb, hml, hown, hts⟩ (c_X1_ticked l D cI cR h1 a1 nr br u n6 (Inv.n hI) (by omega)) (cwV 1 hts gX1_isSame_X1_ticked rfl rfl rfl (by decide +kernel) ⟨Nat.le_of_ble_eq_true rfl, Nat.le_of_ble_eq_true rfl⟩) (pr_pre hK (hP.sub (ws' := picS h1 a1 u) [8] rfl) hR rfl rfl) rfl rfl hl.1 rfl (lv_room (Nat.le_of_ble_eq_true rfl)) dX1_isSame_543 ⟨Nat.le_of_ble_eq_true rfl, Nat.le_of_ble_eq_true rfl⟩) (fun r hr9 => ?_)
                                                          subst hr9
                                                          rw [show ct (tkB u n6) (mNow u) = TK u n6 from rfl]
                                                          have htk := TK_le u n6
                                                          refine lv_istore (lv' := [(9, .int (nI (TK u n6))), (0, .ref h1), (1, .ref h0), (5, .int U9), (7, .int B9), (8, .int (nI n6))]) hx hb dX1_isSame_546 hl (by decide) rfl (fun ls hl => ?_)
                                                          refine lv_aload_n hx hb dX1_isSame_548 rfl (lv_at hl 2 rfl) ?_
                                                          refine lv_iload hx hb dX1_isSame_549 (lv_at hl 5 rfl) ?_
                                                          refine vp_callSi (W.runV (As := [.int (nI n6)]) (rest := []) ⟨hx, hb, hml, hown, hts⟩ (c_X0_ticksOf l D cI h0 a0 u on n6 hI (by omega)) (cwV 1 hts gX1_isSame_X0_ticksOf rfl rfl rfl (by decide +kernel) ⟨Nat.le_of_ble_eq_true rfl, Nat.le_of_ble_eq_true rfl⟩) (pu_pre (hK.sub (tys' := [(cI, .int)]) [0] rfl) (hP.sub (ws' := pic0 cI h0 a0 u on) [0, 1, 2, 3, 4, 5, 6, 7] rfl) rfl rfl) rfl rfl hl.1 rfl (lv_room (Nat.le_of_ble_eq_true rfl)) dX1_isSame_551 ⟨Nat.le_of_ble_eq_true rfl, Nat.le_of_ble_eq_true rfl⟩) (fun r hr9 => ?_)
                                                          subst hr9
                                                          rw [fTk_eq u n6]
                                                          have htk := TK_le u n6
                                                          refine lv_iload hx hb dX1_isSame_554 (lv_at hl 0 rfl) ?_
                                                          refine lv_icmp_ne (tgt := 611) hx hb dX1_isSame_556 (by decide) (fun c_556 => ?_) (fun c_556 => ?_)
                                                          · skip
                                                            replace c_556 : (TK u n6) ≠ (TK u n6) := neN c_556
                                                            exact (by omega : False).elim
                                                          · skip
                                                            replace c_556 : (TK u n6) = (TK u n6) := eN c_556
                                                            refine lv_aload_n hx hb dX1_isSame_559 rfl (lv_at hl 2 rfl) ?_
                                                            refine lv_iload hx hb dX1_isSame_560 (lv_at hl 5 rfl) ?_
                                                            refine vp_callSi (W.runV (As := [.int (nI n6)]) (rest := []) ⟨hx, hb, hml, hown, hts⟩ (c_X0_measuredBy l D cI h0 a0 u on n6 hI (by omega)) (cwV 1 hts gX1_isSame_X0_measuredBy rfl rfl rfl (by decide +kernel) ⟨Nat.le_of_ble_eq_true rfl, Nat.le_of_ble_eq_true rfl⟩) (pu_pre (hK.sub (tys' := [(cI, .int)]) [0] rfl) (hP.sub (ws' := pic0 cI h0 a0 u on) [0, 1, 2, 3, 4, 5, 6, 7] rfl) rfl rfl) rfl rfl hl.1 rfl (lv_room (Nat.le_of_ble_eq_true rfl)) dX1_isSame_562 ⟨Nat.le_of_ble_eq_true rfl, Nat.le_of_ble_eq_true rfl⟩) (fun r hr9 => ?_)
                                                            subst hr9
                                                            rw [fMe_eq u n6]
                                                            have htp := tp_le hI (b := n6) (by omega)
                                                            refine lv_iload hx hb dX1_isSame_565 (lv_at hl 0 rfl) ?_
                                                            refine lv_aload_n hx hb dX1_isSame_567 rfl (lv_at hl 1 rfl) ?_
                                                            refine va_get (D := D) (ci := 1) (v := .ref (a1 2)) (C := RX1) (T := TX1) (N := 10) hx hb hts hin hown hK hP 8 rfl rfl 2 (by decide) (hts (.fieldLink RX1 18 "AfternoonMeterLaw$Sim" "bees" "[[I") (List.mem_of_getElem? (i := 5) rfl)) (fun _ h9 => h9) rfl dX1_isSame_568 ?_
                                                            refine lv_iload hx hb dX1_isSame_571 (lv_at hl 5 rfl) ?_
                                                            refine q_aald (cA := cR) (n := mBc u) (f := br) (ty := .int) hx hb hK 1 hR.2.2.1 rfl (k := n6) (by omega) (by omega) dX1_isSame_573 ?_
                                                            refine lv_iconst (v := nI 0) hx hb dX1_isSame_574 (by decide +kernel) ?_
                                                            refine q_ialdH (cA := cI) (n := 2) (f := pr (mPe u n6) (mBe u n6)) (v := nI (pN u n6)) hx hb hK 0 (hR.2.2.2.2 n6 (by omega)) rfl (k := 0) (by decide) (by decide) ((hIf n6 (by omega)).1) dX1_isSame_575 ?_
                                                            obtain ⟨_, _, _, _, _⟩ := hIf n6 (by omega)
                                                            refine q_imulN hx hb dX1_isSame_576 ?_
                                                            refine lv_icmp_ne (tgt := 611) hx hb dX1_isSame_577 (by decide) (fun c_577 => ?_) (fun c_577 => ?_)
                                                            · skip
                                                              replace c_577 : (TK u n6 * pN u n6) ≠ ((TK u n6) * (pN u n6)) := neN c_577
                                                              exact (by omega : False).elim
                                                            · skip
                                                              replace c_577 : (TK u n6 * pN u n6) = ((TK u n6) * (pN u n6)) := eN c_577
                                                              refine lv_aload_n hx hb dX1_isSame_580 rfl (lv_at hl 2 rfl) ?_
                                                              refine lv_iload hx hb dX1_isSame_581 (lv_at hl 5 rfl) ?_
                                                              refine vp_callSi (W.runV (As := [.int (nI n6)]) (rest := []) ⟨hx, hb, hml, hown, hts⟩ (c_X0_errorOf l D cI h0 a0 u on n6 hI (by omega)) (cwV 1 hts gX1_isSame_X0_errorOf rfl rfl rfl (by decide +kernel) ⟨Nat.le_of_ble_eq_true rfl, Nat.le_of_ble_eq_true rfl⟩) (pu_pre (hK.sub (tys' := [(cI, .int)]) [0] rfl) (hP.sub (ws' := pic0 cI h0 a0 u on) [0, 1, 2, 3, 4, 5, 6, 7] rfl) rfl rfl) rfl rfl hl.1 rfl (lv_room (Nat.le_of_ble_eq_true rfl)) dX1_isSame_583 ⟨Nat.le_of_ble_eq_true rfl, Nat.le_of_ble_eq_true rfl⟩) (fun r hr9 => ?_)
                                                              subst hr9
                                                              rw [fEr_eq u n6]
                                                              refine lv_iload hx hb dX1_isSame_586 (lv_at hl 0 rfl) ?_
                                                              refine lv_aload_n hx hb dX1_isSame_588 rfl (lv_at hl 1 rfl) ?_
                                                              refine va_get (D := D) (ci := 1) (v := .ref (a1 2)) (C := RX1) (T := TX1) (N := 10) hx hb hts hin hown hK hP 8 rfl rfl 2 (by decide) (hts (.fieldLink RX1 18 "AfternoonMeterLaw$Sim" "bees" "[[I") (List.mem_of_getElem? (i := 5) rfl)) (fun _ h9 => h9) rfl dX1_isSame_589 ?_
                                                              refine lv_iload hx hb dX1_isSame_592 (lv_at hl 5 rfl) ?_
                                                              refine q_aald (cA := cR) (n := mBc u) (f := br) (ty := .int) hx hb hK 1 hR.2.2.1 rfl (k := n6) (by omega) (by omega) dX1_isSame_594 ?_
                                                              refine lv_iconst (v := nI 0) hx hb dX1_isSame_595 (by decide +kernel) ?_
                                                              refine q_ialdH (cA := cI) (n := 2) (f := pr (mPe u n6) (mBe u n6)) (v := nI (pN u n6)) hx hb hK 0 (hR.2.2.2.2 n6 (by omega)) rfl (k := 0) (by decide) (by decide) ((hIf n6 (by omega)).1) dX1_isSame_596 ?_
                                                              obtain ⟨_, _, _, _, _⟩ := hIf n6 (by omega)
                                                              refine q_imulN hx hb dX1_isSame_597 ?_
                                                              refine lv_aload_n hx hb dX1_isSame_598 rfl (lv_at hl 1 rfl) ?_
                                                              refine lv_aload_n hx hb dX1_isSame_599 rfl (lv_at hl 1 rfl) ?_
                                                              refine va_get (D := D) (ci := 1) (v := .int (nI (mNow u))) (C := RX1) (T := TX1) (N := 10) hx hb hts hin hown hK hP 8 rfl rfl 7 (by decide) (hts (.fieldLink RX1 39 "AfternoonMeterLaw$Sim" "minute" "I") (List.mem_of_getElem? (i := 2) rfl)) (fun _ h9 => h9) rfl dX1_isSame_600 ?_
                                                              refine lv_iconst (v := (-1)) hx hb dX1_isSame_603 (by decide +kernel) ?_
                                                              refine vp_callSi (W.runV (As := [.int (nI (mNow u)), .int (-1)]) (rest := [.int (nI ((TK u n6) * (pN u n6))), .int (nI (TK u n6 * pN u n6) - nI (AW u))]) ⟨hx, hb, hml, hown, hts⟩ (c_X1_awake l D cI cR h1 a1 nr br u (mNow u) (-1) (Inv.n hI) (by omega)) (cwV 2 hts gX1_isSame_X1_awake rfl rfl rfl (by decide +kernel) ⟨Nat.le_of_ble_eq_true rfl, Nat.le_of_ble_eq_true rfl⟩) (pr_pre hK (hP.sub (ws' := picS h1 a1 u) [8] rfl) hR rfl rfl) rfl rfl hl.1 rfl (lv_room (Nat.le_of_ble_eq_true rfl)) dX1_isSame_604 ⟨Nat.le_of_ble_eq_true rfl, Nat.le_of_ble_eq_true rfl⟩) (fun r hr9 => ?_)
                                                              subst hr9
                                                              rw [awX_m1 hIb, show ct (awB u) (mNow u) = AW u from rfl]
                                                              have haw := AW_le u
                                                              refine lv_isub hx hb dX1_isSame_607 ?_
                                                              refine lv_icmp_eq (tgt := 613) hx hb dX1_isSame_608 (by decide) (fun c_608 => ?_) (fun c_608 => ?_)
                                                              · skip
                                                                refine lv_iload hx hb dX1_isSame_613 (lv_at hl 4 rfl) ?_
                                                                refine lv_if_lt (tgt := 639) hx hb dX1_isSame_615 (by decide) (fun c_615 => ?_) (fun c_615 => ?_)
                                                                · skip
                                                                  refine lv_iload hx hb dX1_isSame_639 (lv_at hl 5 rfl) ?_
                                                                  refine lv_istore (lv' := [(7, .int (nI n6)), (9, .int (nI (TK u n6))), (0, .ref h1), (1, .ref h0), (5, .int U9), (8, .int (nI n6))]) hx hb dX1_isSame_641 hl (by decide) rfl (fun ls hl => ?_)
                                                                  refine lv_iinc (v := nI n6 - nI 1) (lv' := [(8, .int (nI n6 - nI 1)), (7, .int (nI n6)), (9, .int (nI (TK u n6))), (0, .ref h1), (1, .ref h0), (5, .int U9)]) hx hb dX1_isSame_643 hl (k := 5) rfl (nI_im1 _) (by decide) rfl (fun ls hl => ?_)
                                                                  refine lv_goto (tgt := 535) hx hb dX1_isSame_646 (by decide) ?_
                                                                  exact ih6 (k6 + 1) (by omega) (nI n6 - nI 1) (nI n6) (by rfl) (by exact BB_neg hIc hBP c_615) _ (lv_sub hl [3, 4, 5, 1, 0] rfl)
                                                                · skip
                                                                  obtain ⟨j9, hj9, eB9⟩ := BB_pos hBP c_615
                                                                  subst eB9
                                                                  obtain ⟨hj9a, hj9b, _, _⟩ := id hj9
                                                                  refine lv_aload_n hx hb dX1_isSame_618 rfl (lv_at hl 2 rfl) ?_
                                                                  refine lv_iload hx hb dX1_isSame_619 (lv_at hl 5 rfl) ?_
                                                                  refine vp_callSi (W.runV (As := [.int (nI n6)]) (rest := []) ⟨hx, hb, hml, hown, hts⟩ (c_X0_errorOf l D cI h0 a0 u on n6 hI (by omega)) (cwV 1 hts gX1_isSame_X0_errorOf rfl rfl rfl (by decide +kernel) ⟨Nat.le_of_ble_eq_true rfl, Nat.le_of_ble_eq_true rfl⟩) (pu_pre (hK.sub (tys' := [(cI, .int)]) [0] rfl) (hP.sub (ws' := pic0 cI h0 a0 u on) [0, 1, 2, 3, 4, 5, 6, 7] rfl) rfl rfl) rfl rfl hl.1 rfl (lv_room (Nat.le_of_ble_eq_true rfl)) dX1_isSame_621 ⟨Nat.le_of_ble_eq_true rfl, Nat.le_of_ble_eq_true rfl⟩) (fun r hr9 => ?_)
                                                                  subst hr9
                                                                  rw [fEr_eq u n6]
                                                                  refine va_mabs hx hb (hml.trans hl.1.symm) hown (hts (.methodLink RX1 126 Lib.Math.abs.name) (List.mem_of_getElem? (i := 8) rfl)) (hts (.static Lib.Math.abs.name) (List.mem_of_getElem? (i := 9) rfl)) (hts (.initialized "java/lang/Math") (List.mem_of_getElem? (i := 10) rfl)) (hts _ (List.mem_of_getElem? (i := 11) rfl)) (Nat.le_of_ble_eq_true rfl) (Nat.le_of_ble_eq_true rfl) (Nat.le_of_ble_eq_true rfl) (Nat.le_of_ble_eq_true rfl) dX1_isSame_624 ?_
                                                                  rw [show (if 0 ≤ nI (TK u n6 * pN u n6) - nI (AW u) then nI (TK u n6 * pN u n6) - nI (AW u) else 0 - (nI (TK u n6 * pN u n6) - nI (AW u))) = nI (EN u n6) from by rw [← fEr_eq]; exact fEr_ab hI (by omega)]
                                                                  refine lv_aload_n hx hb dX1_isSame_627 rfl (lv_at hl 2 rfl) ?_
                                                                  refine lv_iload hx hb dX1_isSame_628 (lv_at hl 4 rfl) ?_
                                                                  refine vp_callSi (W.runV (As := [.int (nI j9)]) (rest := [.int (nI (EN u n6))]) ⟨hx, hb, hml, hown, hts⟩ (c_X0_errorOf l D cI h0 a0 u on j9 hI (by omega)) (cwV 1 hts gX1_isSame_X0_errorOf rfl rfl rfl (by decide +kernel) ⟨Nat.le_of_ble_eq_true rfl, Nat.le_of_ble_eq_true rfl⟩) (pu_pre (hK.sub (tys' := [(cI, .int)]) [0] rfl) (hP.sub (ws' := pic0 cI h0 a0 u on) [0, 1, 2, 3, 4, 5, 6, 7] rfl) rfl rfl) rfl rfl hl.1 rfl (lv_room (Nat.le_of_ble_eq_true rfl)) dX1_isSame_630 ⟨Nat.le_of_ble_eq_true rfl, Nat.le_of_ble_eq_true rfl⟩) (fun r hr9 => ?_)
                                                                  subst hr9
                                                                  rw [fEr_eq u j9]
                                                                  refine va_mabs hx hb (hml.trans hl.1.symm) hown (hts (.methodLink RX1 126 Lib.Math.abs.name) (List.mem_of_getElem? (i := 8) rfl)) (hts (.static Lib.Math.abs.name) (List.mem_of_getElem? (i := 9) rfl)) (hts (.initialized "java/lang/Math") (List.mem_of_getElem? (i := 10) rfl)) (hts _ (List.mem_of_getElem? (i := 11) rfl)) (Nat.le_of_ble_eq_true rfl) (Nat.le_of_ble_eq_true rfl) (Nat.le_of_ble_eq_true rfl) (Nat.le_of_ble_eq_true rfl) dX1_isSame_633 ?_
                                                                  rw [show (if 0 ≤ nI (TK u j9 * pN u j9) - nI (AW u) then nI (TK u j9 * pN u j9) - nI (AW u) else 0 - (nI (TK u j9 * pN u j9) - nI (AW u))) = nI (EN u j9) from by rw [← fEr_eq]; exact fEr_ab hI (by omega)]
                                                                  have hen1 := EN_le hI (b := n6) (by omega)
                                                                  have hen2 := EN_le hI (b := j9) (by omega)
                                                                  refine lv_icmp_gt (tgt := 643) hx hb dX1_isSame_636 (by decide) (fun c_636 => ?_) (fun c_636 => ?_)
                                                                  · skip
                                                                    replace c_636 : (EN u j9) < (EN u n6) := ltN c_636
                                                                    refine lv_iinc (v := nI n6 - nI 1) (lv' := [(8, .int (nI n6 - nI 1)), (9, .int (nI (TK u n6))), (0, .ref h1), (1, .ref h0), (5, .int U9), (7, .int (nI j9))]) hx hb dX1_isSame_643 hl (k := 5) rfl (nI_im1 _) (by decide) rfl (fun ls hl => ?_)
                                                                    refine lv_goto (tgt := 535) hx hb dX1_isSame_646 (by decide) ?_
                                                                    exact ih6 (k6 + 1) (by omega) (nI n6 - nI 1) (nI j9) (by rfl) (by exact Or.inr ⟨j9, hj9.skip c_636, rfl⟩) _ (lv_sub hl [2, 3, 4, 5, 0] rfl)
                                                                  · skip
                                                                    replace c_636 : (EN u n6) ≤ (EN u j9) := nltN c_636
                                                                    refine lv_iload hx hb dX1_isSame_639 (lv_at hl 5 rfl) ?_
                                                                    refine lv_istore (lv' := [(7, .int (nI n6)), (9, .int (nI (TK u n6))), (0, .ref h1), (1, .ref h0), (5, .int U9), (8, .int (nI n6))]) hx hb dX1_isSame_641 hl (by decide) rfl (fun ls hl => ?_)
                                                                    refine lv_iinc (v := nI n6 - nI 1) (lv' := [(8, .int (nI n6 - nI 1)), (7, .int (nI n6)), (9, .int (nI (TK u n6))), (0, .ref h1), (1, .ref h0), (5, .int U9)]) hx hb dX1_isSame_643 hl (k := 5) rfl (nI_im1 _) (by decide) rfl (fun ls hl => ?_)
                                                                    refine lv_goto (tgt := 535) hx hb dX1_isSame_646 (by decide) ?_
                                                                    exact ih6 (k6 + 1) (by omega) (nI n6 - nI 1) (nI n6) (by rfl) (by exact Or.inr ⟨n6, hj9.take c_636, rfl⟩) _ (lv_sub hl [3, 4, 5, 1, 0] rfl)
                                                              · skip
                                                                exact (c_608 rfl).elim
                                                    exact lp535 _ 0 (Nat.zero_add _) ((nI (mBc u)) - (nI 1)) (-1) (by rfl) (by exact Or.inl ⟨rfl, rfl⟩) _ (lv_sub hl [2, 3, 4, 1, 0] rfl)
                                                  · skip
                                                    exact (c_417 (by rw [eK5]; decide +kernel)).elim
                                                | succ n5 ih5 =>
                                                  intro k5 hk5 K5 U9 M9 eK5 hUP ls hl
                                                  have eK5b : K5 = nI n5 := by rw [eK5, nI_sub (by omega)]; rfl
                                                  subst eK5b
                                                  refine lv_iload hx hb dX1_isSame_415 (lv_at hl 4 rfl) ?_
                                                  refine lv_if_lt (tgt := 523) hx hb dX1_isSame_417 (by decide) (fun c_417 => ?_) (fun c_417 => ?_)
                                                  · skip
                                                    replace c_417 : n5 < 0 := ltN c_417
                                                    exact (by omega : False).elim
                                                  · skip
                                                    replace c_417 : 0 ≤ n5 := nltN c_417
                                                    refine lv_aload_n hx hb dX1_isSame_420 rfl (lv_at hl 0 rfl) ?_
                                                    refine lv_sipush (v := nI 360) hx hb dX1_isSame_421 (by decide +kernel) ?_
                                                    refine lv_iload hx hb dX1_isSame_424 (lv_at hl 4 rfl) ?_
                                                    refine vp_callSi (W.runV (As := [.int (nI 360), .int (nI n5)]) (rest := []) ⟨hx, hb, hml, hown, hts⟩ (c_X1_awake l D cI cR h1 a1 nr br u 360 (nI n5) (Inv.n hI) (by omega)) (cwV 2 hts gX1_isSame_X1_awake rfl rfl rfl (by decide +kernel) ⟨Nat.le_of_ble_eq_true rfl, Nat.le_of_ble_eq_true rfl⟩) (pr_pre hK (hP.sub (ws' := picS h1 a1 u) [8] rfl) hR rfl rfl) rfl rfl hl.1 rfl (lv_room (Nat.le_of_ble_eq_true rfl)) dX1_isSame_426 ⟨Nat.le_of_ble_eq_true rfl, Nat.le_of_ble_eq_true rfl⟩) (fun r hr9 => ?_)
                                                    subst hr9
                                                    rw [awX_j hIb (by omega)]
                                                    have hct := ct_le (awB u) 360
                                                    have hal_x := AL_le u n5
                                                    refine lv_aload_n hx hb dX1_isSame_429 rfl (lv_at hl 0 rfl) ?_
                                                    refine lv_sipush (v := nI 360) hx hb dX1_isSame_430 (by decide +kernel) ?_
                                                    refine lv_iconst (v := (-1)) hx hb dX1_isSame_433 (by decide +kernel) ?_
                                                    refine vp_callSi (W.runV (As := [.int (nI 360), .int (-1)]) (rest := [.int (nI (ct (awB u) 360 + AL u n5))]) ⟨hx, hb, hml, hown, hts⟩ (c_X1_awake l D cI cR h1 a1 nr br u 360 (-1) (Inv.n hI) (by omega)) (cwV 2 hts gX1_isSame_X1_awake rfl rfl rfl (by decide +kernel) ⟨Nat.le_of_ble_eq_true rfl, Nat.le_of_ble_eq_true rfl⟩) (pr_pre hK (hP.sub (ws' := picS h1 a1 u) [8] rfl) hR rfl rfl) rfl rfl hl.1 rfl (lv_room (Nat.le_of_ble_eq_true rfl)) dX1_isSame_434 ⟨Nat.le_of_ble_eq_true rfl, Nat.le_of_ble_eq_true rfl⟩) (fun r hr9 => ?_)
                                                    subst hr9
                                                    rw [awX_m1 hIb]
                                                    have hct := ct_le (awB u) 360
                                                    refine q_isubN hx hb (by omega) dX1_isSame_437 ?_
                                                    rw [show ct (awB u) 360 + AL u n5 - ct (awB u) 360 = AL u n5 from Nat.add_sub_cancel_left _ _]
                                                    refine lv_istore (lv' := [(8, .int (nI (AL u n5))), (0, .ref h1), (1, .ref h0), (5, .int U9), (6, .int M9), (7, .int (nI n5))]) hx hb dX1_isSame_438 hl (by decide) rfl (fun ls hl => ?_)
                                                    refine lv_aload_n hx hb dX1_isSame_440 rfl (lv_at hl 2 rfl) ?_
                                                    refine lv_iload hx hb dX1_isSame_441 (lv_at hl 5 rfl) ?_
                                                    refine vp_callSi (W.runV (As := [.int (nI n5)]) (rest := []) ⟨hx, hb, hml, hown, hts⟩ (c_X0_startOf l D cI h0 a0 u on n5 hI (by omega)) (cwV 1 hts gX1_isSame_X0_startOf rfl rfl rfl (by decide +kernel) ⟨Nat.le_of_ble_eq_true rfl, Nat.le_of_ble_eq_true rfl⟩) (pu_pre (hK.sub (tys' := [(cI, .int)]) [0] rfl) (hP.sub (ws' := pic0 cI h0 a0 u on) [0, 1, 2, 3, 4, 5, 6, 7] rfl) rfl rfl) rfl rfl hl.1 rfl (lv_room (Nat.le_of_ble_eq_true rfl)) dX1_isSame_443 ⟨Nat.le_of_ble_eq_true rfl, Nat.le_of_ble_eq_true rfl⟩) (fun r hr9 => ?_)
                                                    subst hr9
                                                    obtain ⟨_, _, _, _⟩ := hIg n5 (by omega)
                                                    refine lv_aload_n hx hb dX1_isSame_446 rfl (lv_at hl 1 rfl) ?_
                                                    refine va_get (D := D) (ci := 1) (v := .ref (a1 1)) (C := RX1) (T := TX1) (N := 10) hx hb hts hin hown hK hP 8 rfl rfl 1 (by decide) (hts (.fieldLink RX1 14 "AfternoonMeterLaw$Sim" "naps" "[[I") (List.mem_of_getElem? (i := 4) rfl)) (fun _ h9 => h9) rfl dX1_isSame_447 ?_
                                                    refine lv_iload hx hb dX1_isSame_450 (lv_at hl 5 rfl) ?_
                                                    refine q_aald (cA := cR) (n := mNc u) (f := nr) (ty := .int) hx hb hK 1 hR.2.1 rfl (k := n5) (by omega) (by omega) dX1_isSame_452 ?_
                                                    refine lv_iconst (v := nI 0) hx hb dX1_isSame_453 (by decide +kernel) ?_
                                                    refine q_ialdH (cA := cI) (n := 2) (f := pr (mFr u n5) (mTo u n5)) (v := nI (aN u n5)) hx hb hK 0 (hR.2.2.2.1 n5 (by omega)) rfl (k := 0) (by decide) (by decide) ((hIg n5 (by omega)).1) dX1_isSame_454 ?_
                                                    obtain ⟨_, _, _, _⟩ := hIg n5 (by omega)
                                                    refine lv_icmp_ne (tgt := 497) hx hb dX1_isSame_455 (by decide) (fun c_455 => ?_) (fun c_455 => ?_)
                                                    · skip
                                                      replace c_455 : (aN u n5) ≠ (aN u n5) := neN c_455
                                                      exact (by omega : False).elim
                                                    · skip
                                                      replace c_455 : (aN u n5) = (aN u n5) := eN c_455
                                                      refine lv_aload_n hx hb dX1_isSame_458 rfl (lv_at hl 2 rfl) ?_
                                                      refine lv_iload hx hb dX1_isSame_459 (lv_at hl 5 rfl) ?_
                                                      refine vp_callSi (W.runV (As := [.int (nI n5)]) (rest := []) ⟨hx, hb, hml, hown, hts⟩ (c_X0_lengthOf l D cI h0 a0 u on n5 hI (by omega)) (cwV 1 hts gX1_isSame_X0_lengthOf rfl rfl rfl (by decide +kernel) ⟨Nat.le_of_ble_eq_true rfl, Nat.le_of_ble_eq_true rfl⟩) (pu_pre (hK.sub (tys' := [(cI, .int)]) [0] rfl) (hP.sub (ws' := pic0 cI h0 a0 u on) [0, 1, 2, 3, 4, 5, 6, 7] rfl) rfl rfl) rfl rfl hl.1 rfl (lv_room (Nat.le_of_ble_eq_true rfl)) dX1_isSame_461 ⟨Nat.le_of_ble_eq_true rfl, Nat.le_of_ble_eq_true rfl⟩) (fun r hr9 => ?_)
                                                      subst hr9
                                                      obtain ⟨_, _, _, _⟩ := hIg n5 (by omega)
                                                      refine lv_aload_n hx hb dX1_isSame_464 rfl (lv_at hl 1 rfl) ?_
                                                      refine va_get (D := D) (ci := 1) (v := .ref (a1 1)) (C := RX1) (T := TX1) (N := 10) hx hb hts hin hown hK hP 8 rfl rfl 1 (by decide) (hts (.fieldLink RX1 14 "AfternoonMeterLaw$Sim" "naps" "[[I") (List.mem_of_getElem? (i := 4) rfl)) (fun _ h9 => h9) rfl dX1_isSame_465 ?_
                                                      refine lv_iload hx hb dX1_isSame_468 (lv_at hl 5 rfl) ?_
                                                      refine q_aald (cA := cR) (n := mNc u) (f := nr) (ty := .int) hx hb hK 1 hR.2.1 rfl (k := n5) (by omega) (by omega) dX1_isSame_470 ?_
                                                      refine lv_iconst (v := nI 1) hx hb dX1_isSame_471 (by decide +kernel) ?_
                                                      refine q_ialdH (cA := cI) (n := 2) (f := pr (mFr u n5) (mTo u n5)) (v := nI (bN u n5)) hx hb hK 0 (hR.2.2.2.1 n5 (by omega)) rfl (k := 1) (by decide) (by decide) ((hIg n5 (by omega)).2.1) dX1_isSame_472 ?_
                                                      obtain ⟨_, _, _, _⟩ := hIg n5 (by omega)
                                                      refine lv_aload_n hx hb dX1_isSame_473 rfl (lv_at hl 1 rfl) ?_
                                                      refine va_get (D := D) (ci := 1) (v := .ref (a1 1)) (C := RX1) (T := TX1) (N := 10) hx hb hts hin hown hK hP 8 rfl rfl 1 (by decide) (hts (.fieldLink RX1 14 "AfternoonMeterLaw$Sim" "naps" "[[I") (List.mem_of_getElem? (i := 4) rfl)) (fun _ h9 => h9) rfl dX1_isSame_474 ?_
                                                      refine lv_iload hx hb dX1_isSame_477 (lv_at hl 5 rfl) ?_
                                                      refine q_aald (cA := cR) (n := mNc u) (f := nr) (ty := .int) hx hb hK 1 hR.2.1 rfl (k := n5) (by omega) (by omega) dX1_isSame_479 ?_
                                                      refine lv_iconst (v := nI 0) hx hb dX1_isSame_480 (by decide +kernel) ?_
                                                      refine q_ialdH (cA := cI) (n := 2) (f := pr (mFr u n5) (mTo u n5)) (v := nI (aN u n5)) hx hb hK 0 (hR.2.2.2.1 n5 (by omega)) rfl (k := 0) (by decide) (by decide) ((hIg n5 (by omega)).1) dX1_isSame_481 ?_
                                                      obtain ⟨_, _, _, _⟩ := hIg n5 (by omega)
                                                      refine q_isubN hx hb (by omega) dX1_isSame_482 ?_
                                                      refine lv_icmp_ne (tgt := 497) hx hb dX1_isSame_483 (by decide) (fun c_483 => ?_) (fun c_483 => ?_)
                                                      · skip
                                                        replace c_483 : (bN u n5 - aN u n5) ≠ ((bN u n5) - (aN u n5)) := neN c_483
                                                        exact (by omega : False).elim
                                                      · skip
                                                        replace c_483 : (bN u n5 - aN u n5) = ((bN u n5) - (aN u n5)) := eN c_483
                                                        refine lv_aload_n hx hb dX1_isSame_486 rfl (lv_at hl 2 rfl) ?_
                                                        refine lv_iload hx hb dX1_isSame_487 (lv_at hl 5 rfl) ?_
                                                        refine vp_callSi (W.runV (As := [.int (nI n5)]) (rest := []) ⟨hx, hb, hml, hown, hts⟩ (c_X0_minutesAlone l D cI h0 a0 u on n5 hI (by omega)) (cwV 1 hts gX1_isSame_X0_minutesAlone rfl rfl rfl (by decide +kernel) ⟨Nat.le_of_ble_eq_true rfl, Nat.le_of_ble_eq_true rfl⟩) (pu_pre (hK.sub (tys' := [(cI, .int)]) [0] rfl) (hP.sub (ws' := pic0 cI h0 a0 u on) [0, 1, 2, 3, 4, 5, 6, 7] rfl) rfl rfl) rfl rfl hl.1 rfl (lv_room (Nat.le_of_ble_eq_true rfl)) dX1_isSame_489 ⟨Nat.le_of_ble_eq_true rfl, Nat.le_of_ble_eq_true rfl⟩) (fun r hr9 => ?_)
                                                        subst hr9
                                                        rw [fAl_eq u n5]
                                                        have hal_x := AL_le u n5
                                                        refine lv_iload hx hb dX1_isSame_492 (lv_at hl 0 rfl) ?_
                                                        refine lv_icmp_eq (tgt := 499) hx hb dX1_isSame_494 (by decide) (fun c_494 => ?_) (fun c_494 => ?_)
                                                        · skip
                                                          replace c_494 : (AL u n5) = (AL u n5) := eN c_494
                                                          refine lv_iload hx hb dX1_isSame_499 (lv_at hl 0 rfl) ?_
                                                          refine lv_iload hx hb dX1_isSame_501 (lv_at hl 4 rfl) ?_
                                                          refine lv_icmp_ge (tgt := 509) hx hb dX1_isSame_503 (by decide) (fun c_503 => ?_) (fun c_503 => ?_)
                                                          · skip
                                                            refine lv_iload hx hb dX1_isSame_509 (lv_at hl 5 rfl) ?_
                                                            refine lv_istore (lv' := [(5, .int (nI n5)), (8, .int (nI (AL u n5))), (0, .ref h1), (1, .ref h0), (6, .int M9), (7, .int (nI n5))]) hx hb dX1_isSame_511 hl (by decide) rfl (fun ls hl => ?_)
                                                            refine lv_iload hx hb dX1_isSame_513 (lv_at hl 1 rfl) ?_
                                                            refine lv_istore (lv' := [(6, .int (nI (AL u n5))), (5, .int (nI n5)), (8, .int (nI (AL u n5))), (0, .ref h1), (1, .ref h0), (7, .int (nI n5))]) hx hb dX1_isSame_515 hl (by decide) rfl (fun ls hl => ?_)
                                                            refine lv_iinc (v := nI n5 - nI 1) (lv' := [(7, .int (nI n5 - nI 1)), (6, .int (nI (AL u n5))), (5, .int (nI n5)), (8, .int (nI (AL u n5))), (0, .ref h1), (1, .ref h0)]) hx hb dX1_isSame_517 hl (k := 5) rfl (nI_im1 _) (by decide) rfl (fun ls hl => ?_)
                                                            refine lv_goto (tgt := 415) hx hb dX1_isSame_520 (by decide) ?_
                                                            exact ih5 (k5 + 1) (by omega) (nI n5 - nI 1) (nI n5) (nI (AL u n5)) (by rfl) (by exact UP_take (by omega) hUP c_503) _ (lv_sub hl [4, 5, 2, 1, 0] rfl)
                                                          · skip
                                                            refine lv_goto (tgt := 517) hx hb dX1_isSame_506 (by decide) ?_
                                                            refine lv_iinc (v := nI n5 - nI 1) (lv' := [(7, .int (nI n5 - nI 1)), (8, .int (nI (AL u n5))), (0, .ref h1), (1, .ref h0), (5, .int U9), (6, .int M9)]) hx hb dX1_isSame_517 hl (k := 5) rfl (nI_im1 _) (by decide) rfl (fun ls hl => ?_)
                                                            refine lv_goto (tgt := 415) hx hb dX1_isSame_520 (by decide) ?_
                                                            exact ih5 (k5 + 1) (by omega) (nI n5 - nI 1) U9 M9 (by rfl) (by exact UP_skip (by omega) hUP c_503) _ (lv_sub hl [2, 3, 4, 5, 0] rfl)
                                                        · skip
                                                          replace c_494 : (AL u n5) ≠ (AL u n5) := neN c_494
                                                          exact (by omega : False).elim
                                              exact lp415 _ 0 (Nat.zero_add _) ((nI (mNc u)) - (nI 1)) (-1) (-1) (by rfl) (by exact Or.inl ⟨rfl, rfl, rfl⟩) _ (lv_sub hl [3, 4, 2, 1, 0] rfl)
                                            · skip
                                              exact (c_395 (by rw [show (FP.dconst0 : UInt64) = fMean u by unfold fMean; rw [if_pos c_377], mean_cmp hI]; decide +kernel)).elim
                                      · skip
                                        replace c_268 : k3 < (mSc u) := nleN c_268
                                        exact (by omega : False).elim
                                    | succ n3 ih3 =>
                                      intro k3 hk3 X3 eX3 ls hl
                                      refine lv_iload hx hb dX1_isSame_261 (lv_at hl 3 rfl) ?_
                                      refine lv_aload_n hx hb dX1_isSame_263 rfl (lv_at hl 0 rfl) ?_
                                      refine va_get (D := D) (ci := 1) (v := .ref (a1 0)) (C := RX1) (T := TX1) (N := 10) hx hb hts hin hown hK hP 8 rfl rfl 0 (by decide) (hts (.fieldLink RX1 7 "AfternoonMeterLaw$Sim" "sticks" "[I") (List.mem_of_getElem? (i := 3) rfl)) (fun _ h9 => h9) rfl dX1_isSame_264 ?_
                                      refine va_alen (ws := [(a1 0, .inl (cI, mSc u, .inl (mHt u)))]) (v := nI (mSc u)) hx hb hK (P_one hR.1) 0 0 rfl rfl rfl dX1_isSame_267 ?_
                                      refine lv_icmp_ge (tgt := 356) hx hb dX1_isSame_268 (by decide) (fun c_268 => ?_) (fun c_268 => ?_)
                                      · skip
                                        replace c_268 : (mSc u) ≤ k3 := leN c_268
                                        exact (by omega : False).elim
                                      · skip
                                        replace c_268 : k3 < (mSc u) := nleN c_268
                                        refine lv_iload hx hb dX1_isSame_271 (lv_at hl 2 rfl) ?_
                                        refine lv_aload_n hx hb dX1_isSame_273 rfl (lv_at hl 0 rfl) ?_
                                        refine va_get (D := D) (ci := 1) (v := .ref (a1 0)) (C := RX1) (T := TX1) (N := 10) hx hb hts hin hown hK hP 8 rfl rfl 0 (by decide) (hts (.fieldLink RX1 7 "AfternoonMeterLaw$Sim" "sticks" "[I") (List.mem_of_getElem? (i := 3) rfl)) (fun _ h9 => h9) rfl dX1_isSame_274 ?_
                                        refine lv_iload hx hb dX1_isSame_277 (lv_at hl 3 rfl) ?_
                                        refine q_ialdH (cA := cI) (n := mSc u) (f := mHt u) (v := nI (hN u k3)) hx hb hK 0 hR.1 rfl (k := k3) (by omega) (by omega) ((hIi k3 (by omega)).1) dX1_isSame_279 ?_
                                        obtain ⟨_, _, _⟩ := hIi k3 (by omega)
                                        refine lv_sipush (v := nI 419) hx hb dX1_isSame_280 (by decide +kernel) ?_
                                        refine q_imulN hx hb dX1_isSame_283 ?_
                                        refine lv_bipush (v := nI 120) hx hb dX1_isSame_284 (by decide +kernel) ?_
                                        refine q_idivN hx hb (by omega) (by omega) (by omega) dX1_isSame_286 ?_
                                        refine lv_iadd hx hb dX1_isSame_287 ?_
                                        refine lv_istore (lv' := [(4, .int (X3 + (nI (((hN u k3) * 419) / 120)))), (0, .ref h1), (1, .ref h0), (5, .int (nI k3))]) hx hb dX1_isSame_288 hl (by decide) rfl (fun ls hl => ?_)
                                        refine lv_aload_n hx hb dX1_isSame_290 rfl (lv_at hl 2 rfl) ?_
                                        refine lv_iload hx hb dX1_isSame_291 (lv_at hl 3 rfl) ?_
                                        refine lv_iconst (v := nI 0) hx hb dX1_isSame_293 (by decide +kernel) ?_
                                        refine vp_callSi (W.runV (As := [.int (nI k3), .int (nI 0)]) (rest := []) ⟨hx, hb, hml, hown, hts⟩ (c_X0_shadowAt l D cI h0 a0 u on k3 0 hI (by omega) (by omega)) (cwV 2 hts gX1_isSame_X0_shadowAt rfl rfl rfl (by decide +kernel) ⟨Nat.le_of_ble_eq_true rfl, Nat.le_of_ble_eq_true rfl⟩) (pu_pre (hK.sub (tys' := [(cI, .int)]) [0] rfl) (hP.sub (ws' := pic0 cI h0 a0 u on) [0, 1, 2, 3, 4, 5, 6, 7] rfl) rfl rfl) rfl rfl hl.1 rfl (lv_room (Nat.le_of_ble_eq_true rfl)) dX1_isSame_294 ⟨Nat.le_of_ble_eq_true rfl, Nat.le_of_ble_eq_true rfl⟩) (fun r hr9 => ?_)
                                        subst hr9
                                        have hsh := sh_le hI (s := k3) (t := 0) (by omega) (by omega)
                                        rw [fShad_eq hI (s := k3) (t := 0) (by omega) (by omega)]
                                        refine lv_aload_n hx hb dX1_isSame_297 rfl (lv_at hl 1 rfl) ?_
                                        refine va_get (D := D) (ci := 1) (v := .ref (a1 0)) (C := RX1) (T := TX1) (N := 10) hx hb hts hin hown hK hP 8 rfl rfl 0 (by decide) (hts (.fieldLink RX1 7 "AfternoonMeterLaw$Sim" "sticks" "[I") (List.mem_of_getElem? (i := 3) rfl)) (fun _ h9 => h9) rfl dX1_isSame_298 ?_
                                        refine lv_iload hx hb dX1_isSame_301 (lv_at hl 3 rfl) ?_
                                        refine q_ialdH (cA := cI) (n := mSc u) (f := mHt u) (v := nI (hN u k3)) hx hb hK 0 hR.1 rfl (k := k3) (by omega) (by omega) ((hIi k3 (by omega)).1) dX1_isSame_303 ?_
                                        obtain ⟨_, _, _⟩ := hIi k3 (by omega)
                                        refine lv_iconst (v := nI 2) hx hb dX1_isSame_304 (by decide +kernel) ?_
                                        refine q_idivN hx hb (by omega) (by omega) (by omega) dX1_isSame_305 ?_
                                        refine lv_icmp_ne (tgt := 348) hx hb dX1_isSame_306 (by decide) (fun c_306 => ?_) (fun c_306 => ?_)
                                        · skip
                                          replace c_306 : (shN u k3 0) ≠ ((hN u k3) / 2) := neN c_306
                                          exact (c_306 (by unfold shN; omega)).elim
                                        · skip
                                          replace c_306 : (shN u k3 0) = ((hN u k3) / 2) := eN c_306
                                          refine lv_aload_n hx hb dX1_isSame_309 rfl (lv_at hl 2 rfl) ?_
                                          refine lv_iload hx hb dX1_isSame_310 (lv_at hl 3 rfl) ?_
                                          refine lv_aload_n hx hb dX1_isSame_312 rfl (lv_at hl 1 rfl) ?_
                                          refine va_get (D := D) (ci := 1) (v := .int (nI (mNow u))) (C := RX1) (T := TX1) (N := 10) hx hb hts hin hown hK hP 8 rfl rfl 7 (by decide) (hts (.fieldLink RX1 39 "AfternoonMeterLaw$Sim" "minute" "I") (List.mem_of_getElem? (i := 2) rfl)) (fun _ h9 => h9) rfl dX1_isSame_313 ?_
                                          refine lv_sipush (v := nI 360) hx hb dX1_isSame_316 (by decide +kernel) ?_
                                          have hm9 := Nat.mod_lt (mNow u) (show 0 < 360 by omega)
                                          refine q_iremN hx hb (by omega) (by omega) (by omega) dX1_isSame_319 ?_
                                          refine vp_callSi (W.runV (As := [.int (nI k3), .int (nI ((mNow u) % 360))]) (rest := []) ⟨hx, hb, hml, hown, hts⟩ (c_X0_shadowAt l D cI h0 a0 u on k3 ((mNow u) % 360) hI (by omega) (by omega)) (cwV 2 hts gX1_isSame_X0_shadowAt rfl rfl rfl (by decide +kernel) ⟨Nat.le_of_ble_eq_true rfl, Nat.le_of_ble_eq_true rfl⟩) (pu_pre (hK.sub (tys' := [(cI, .int)]) [0] rfl) (hP.sub (ws' := pic0 cI h0 a0 u on) [0, 1, 2, 3, 4, 5, 6, 7] rfl) rfl rfl) rfl rfl hl.1 rfl (lv_room (Nat.le_of_ble_eq_true rfl)) dX1_isSame_320 ⟨Nat.le_of_ble_eq_true rfl, Nat.le_of_ble_eq_true rfl⟩) (fun r hr9 => ?_)
                                          subst hr9
                                          have hsh := sh_le hI (s := k3) (t := ((mNow u) % 360)) (by omega) (by omega)
                                          rw [fShad_eq hI (s := k3) (t := ((mNow u) % 360)) (by omega) (by omega)]
                                          refine lv_aload_n hx hb dX1_isSame_323 rfl (lv_at hl 1 rfl) ?_
                                          refine va_get (D := D) (ci := 1) (v := .ref (a1 0)) (C := RX1) (T := TX1) (N := 10) hx hb hts hin hown hK hP 8 rfl rfl 0 (by decide) (hts (.fieldLink RX1 7 "AfternoonMeterLaw$Sim" "sticks" "[I") (List.mem_of_getElem? (i := 3) rfl)) (fun _ h9 => h9) rfl dX1_isSame_324 ?_
                                          refine lv_iload hx hb dX1_isSame_327 (lv_at hl 3 rfl) ?_
                                          refine q_ialdH (cA := cI) (n := mSc u) (f := mHt u) (v := nI (hN u k3)) hx hb hK 0 hR.1 rfl (k := k3) (by omega) (by omega) ((hIi k3 (by omega)).1) dX1_isSame_329 ?_
                                          obtain ⟨_, _, _⟩ := hIi k3 (by omega)
                                          refine lv_bipush (v := nI 60) hx hb dX1_isSame_330 (by decide +kernel) ?_
                                          refine lv_aload_n hx hb dX1_isSame_332 rfl (lv_at hl 1 rfl) ?_
                                          refine va_get (D := D) (ci := 1) (v := .int (nI (mNow u))) (C := RX1) (T := TX1) (N := 10) hx hb hts hin hown hK hP 8 rfl rfl 7 (by decide) (hts (.fieldLink RX1 39 "AfternoonMeterLaw$Sim" "minute" "I") (List.mem_of_getElem? (i := 2) rfl)) (fun _ h9 => h9) rfl dX1_isSame_333 ?_
                                          refine lv_sipush (v := nI 360) hx hb dX1_isSame_336 (by decide +kernel) ?_
                                          refine q_iremN hx hb (by omega) (by omega) (by omega) dX1_isSame_339 ?_
                                          refine q_iaddN hx hb dX1_isSame_340 ?_
                                          refine q_imulN hx hb dX1_isSame_341 ?_
                                          refine lv_bipush (v := nI 120) hx hb dX1_isSame_342 (by decide +kernel) ?_
                                          have hb9 := sh_b hI (s := k3) (t := mNow u % 360) (by omega) (by omega)
                                          refine q_idivN hx hb (by omega) (by omega) (by omega) dX1_isSame_344 ?_
                                          refine lv_icmp_eq (tgt := 350) hx hb dX1_isSame_345 (by decide) (fun c_345 => ?_) (fun c_345 => ?_)
                                          · skip
                                            replace c_345 : (shN u k3 ((mNow u) % 360)) = (((hN u k3) * (60 + ((mNow u) % 360))) / 120) := eN c_345
                                            refine lv_iinc (v := nI (k3 + 1)) (lv' := [(5, .int (nI (k3 + 1))), (4, .int (X3 + (nI (((hN u k3) * 419) / 120)))), (0, .ref h1), (1, .ref h0)]) hx hb dX1_isSame_350 hl (k := 3) rfl (nI_i1 _) (by decide) rfl (fun ls hl => ?_)
                                            refine lv_goto (tgt := 261) hx hb dX1_isSame_353 (by decide) ?_
                                            exact ih3 (k3 + 1) (by omega) (X3 + (nI (((hN u k3) * 419) / 120))) (by subst eX3; show _ = fz (shF u 359) k3 (nI 0) + fShad u k3 359; rw [fShad_eq hI (by omega) (by omega)]; rfl) _ (lv_sub hl [2, 3, 1, 0] rfl)
                                          · skip
                                            replace c_345 : (shN u k3 ((mNow u) % 360)) ≠ (((hN u k3) * (60 + ((mNow u) % 360))) / 120) := neN c_345
                                            exact (c_345 rfl).elim
                                  exact lp261 _ 0 (Nat.zero_add _) (nI 0) (by rfl) _ (lv_sub hl [2, 3, 1, 0] rfl)
                                · skip
                                  replace c_204 : T2 < 360 := nleN c_204
                                  refine lv_aload_n hx hb dX1_isSame_207 rfl (lv_at hl 1 rfl) ?_
                                  refine lv_iload hx hb dX1_isSame_208 (lv_at hl 2 rfl) ?_
                                  refine vp_callSi (W.runV (As := [.int (nI T2)]) (rest := []) ⟨hx, hb, hml, hown, hts⟩ (c_X0_napsAt l D cI h0 a0 u on T2 hI (by omega)) (cwV 1 hts gX1_isSame_X0_napsAt rfl rfl rfl (by decide +kernel) ⟨Nat.le_of_ble_eq_true rfl, Nat.le_of_ble_eq_true rfl⟩) (pu_pre (hK.sub (tys' := [(cI, .int)]) [0] rfl) (hP.sub (ws' := pic0 cI h0 a0 u on) [0, 1, 2, 3, 4, 5, 6, 7] rfl) rfl rfl) rfl rfl hl.1 rfl (lv_room (Nat.le_of_ble_eq_true rfl)) dX1_isSame_210 ⟨Nat.le_of_ble_eq_true rfl, Nat.le_of_ble_eq_true rfl⟩) (fun r hr9 => ?_)
                                  subst hr9
                                  have hcn := cN_le u T2
                                  refine lv_aload_n hx hb dX1_isSame_213 rfl (lv_at hl 0 rfl) ?_
                                  refine lv_iload hx hb dX1_isSame_214 (lv_at hl 2 rfl) ?_
                                  refine lv_iconst (v := (-1)) hx hb dX1_isSame_216 (by decide +kernel) ?_
                                  refine vp_callSi (W.runV (As := [.int (nI T2), .int (-1)]) (rest := [.int (nI (cN u T2))]) ⟨hx, hb, hml, hown, hts⟩ (c_X1_napsAt l D cI cR h1 a1 nr br u T2 (-1) (Inv.n hI) (by omega)) (cwV 2 hts gX1_isSame_X1_napsAt rfl rfl rfl (by decide +kernel) ⟨Nat.le_of_ble_eq_true rfl, Nat.le_of_ble_eq_true rfl⟩) (pr_pre hK (hP.sub (ws' := picS h1 a1 u) [8] rfl) hR rfl rfl) rfl rfl hl.1 rfl (lv_room (Nat.le_of_ble_eq_true rfl)) dX1_isSame_217 ⟨Nat.le_of_ble_eq_true rfl, Nat.le_of_ble_eq_true rfl⟩) (fun r hr9 => ?_)
                                  subst hr9
                                  rw [cB_m1 hIb]
                                  have hcn := cN_le u T2
                                  refine lv_icmp_ne (tgt := 247) hx hb dX1_isSame_220 (by decide) (fun c_220 => ?_) (fun c_220 => ?_)
                                  · skip
                                    replace c_220 : (cN u T2) ≠ (cN u T2) := neN c_220
                                    exact (by omega : False).elim
                                  · skip
                                    replace c_220 : (cN u T2) = (cN u T2) := eN c_220
                                    refine lv_aload_n hx hb dX1_isSame_223 rfl (lv_at hl 1 rfl) ?_
                                    refine lv_iload hx hb dX1_isSame_224 (lv_at hl 2 rfl) ?_
                                    refine vp_callSi (W.runV (As := [.int (nI T2)]) (rest := []) ⟨hx, hb, hml, hown, hts⟩ (c_X0_isAsleep l D cI h0 a0 u on T2 hI (by omega)) (cwV 1 hts gX1_isSame_X0_isAsleep rfl rfl rfl (by decide +kernel) ⟨Nat.le_of_ble_eq_true rfl, Nat.le_of_ble_eq_true rfl⟩) (pu_pre (hK.sub (tys' := [(cI, .int)]) [0] rfl) (hP.sub (ws' := pic0 cI h0 a0 u on) [0, 1, 2, 3, 4, 5, 6, 7] rfl) rfl rfl) rfl rfl hl.1 rfl (lv_room (Nat.le_of_ble_eq_true rfl)) dX1_isSame_226 ⟨Nat.le_of_ble_eq_true rfl, Nat.le_of_ble_eq_true rfl⟩) (fun r hr9 => ?_)
                                    subst hr9
                                    refine lv_aload_n hx hb dX1_isSame_229 rfl (lv_at hl 0 rfl) ?_
                                    refine lv_iload hx hb dX1_isSame_230 (lv_at hl 2 rfl) ?_
                                    refine lv_iconst (v := (-1)) hx hb dX1_isSame_232 (by decide +kernel) ?_
                                    refine vp_callSi (W.runV (As := [.int (nI T2), .int (-1)]) (rest := [.int (bI (decide (0 < cN u T2)))]) ⟨hx, hb, hml, hown, hts⟩ (c_X1_napsAt l D cI cR h1 a1 nr br u T2 (-1) (Inv.n hI) (by omega)) (cwV 2 hts gX1_isSame_X1_napsAt rfl rfl rfl (by decide +kernel) ⟨Nat.le_of_ble_eq_true rfl, Nat.le_of_ble_eq_true rfl⟩) (pr_pre hK (hP.sub (ws' := picS h1 a1 u) [8] rfl) hR rfl rfl) rfl rfl hl.1 rfl (lv_room (Nat.le_of_ble_eq_true rfl)) dX1_isSame_233 ⟨Nat.le_of_ble_eq_true rfl, Nat.le_of_ble_eq_true rfl⟩) (fun r hr9 => ?_)
                                    subst hr9
                                    rw [cB_m1 hIb]
                                    have hcn := cN_le u T2
                                    refine lv_if_le (tgt := 243) hx hb dX1_isSame_236 (by decide) (fun c_236 => ?_) (fun c_236 => ?_)
                                    · skip
                                      replace c_236 : (cN u T2) ≤ 0 := leN c_236
                                      refine lv_iconst (v := nI 0) hx hb dX1_isSame_243 (by decide +kernel) ?_
                                      refine lv_icmp_eq (tgt := 249) hx hb dX1_isSame_244 (by decide) (fun c_244 => ?_) (fun c_244 => ?_)
                                      · skip
                                        refine lv_iinc (v := nI (T2 + 7)) (lv' := [(4, .int (nI (T2 + 7))), (0, .ref h1), (1, .ref h0)]) hx hb dX1_isSame_249 hl (k := 2) rfl (by rw [show Int32.ofInt 7 = nI 7 from by decide +kernel]; exact nI_add _ 7) (by decide) rfl (fun ls hl => ?_)
                                        refine lv_goto (tgt := 199) hx hb dX1_isSame_252 (by decide) ?_
                                        exact ih2 (k2 + 1) (by omega) (T2 + 7) (by omega) _ (lv_sub hl [1, 2, 0] rfl)
                                      · skip
                                        exact (c_244 (by rw [decide_eq_false (Nat.not_lt.mpr c_236)]; rfl)).elim
                                    · skip
                                      replace c_236 : 0 < (cN u T2) := nleN c_236
                                      refine lv_iconst (v := nI 1) hx hb dX1_isSame_239 (by decide +kernel) ?_
                                      refine lv_goto (tgt := 244) hx hb dX1_isSame_240 (by decide) ?_
                                      refine lv_icmp_eq (tgt := 249) hx hb dX1_isSame_244 (by decide) (fun c_244 => ?_) (fun c_244 => ?_)
                                      · skip
                                        refine lv_iinc (v := nI (T2 + 7)) (lv' := [(4, .int (nI (T2 + 7))), (0, .ref h1), (1, .ref h0)]) hx hb dX1_isSame_249 hl (k := 2) rfl (by rw [show Int32.ofInt 7 = nI 7 from by decide +kernel]; exact nI_add _ 7) (by decide) rfl (fun ls hl => ?_)
                                        refine lv_goto (tgt := 199) hx hb dX1_isSame_252 (by decide) ?_
                                        exact ih2 (k2 + 1) (by omega) (T2 + 7) (by omega) _ (lv_sub hl [1, 2, 0] rfl)
                                      · skip
                                        exact (c_244 (by rw [decide_eq_true c_236]; rfl)).elim
                            exact lp199 _ 0 (Nat.zero_add _) ((mNow u) % 7) (by omega) _ (lv_sub hl [1, 2, 0] rfl)
                          · skip
                            exact (c_185 eL).elim
                        · skip
                          replace c_126 : k1 ≤ 360 := nltN c_126
                          exact (by omega : False).elim
                      | succ n1 ih1 =>
                        intro k1 hk1 X1 A1 hX1 hA1 ls hl
                        obtain ⟨hl1, hl2, _⟩ := lgN_le u k1
                        have eS := lg_str hl2 hA1
                        refine lv_iload hx hb dX1_isSame_121 (lv_at hl 4 rfl) ?_
                        refine lv_sipush (v := nI 360) hx hb dX1_isSame_123 (by decide +kernel) ?_
                        refine lv_icmp_gt (tgt := 180) hx hb dX1_isSame_126 (by decide) (fun c_126 => ?_) (fun c_126 => ?_)
                        · skip
                          replace c_126 : 360 < k1 := ltN c_126
                          exact (by omega : False).elim
                        · skip
                          replace c_126 : k1 ≤ 360 := nltN c_126
                          refine lv_iload hx hb dX1_isSame_129 (lv_at hl 4 rfl) ?_
                          refine lv_sipush (v := nI 360) hx hb dX1_isSame_131 (by decide +kernel) ?_
                          refine lv_icmp_ge (tgt := 150) hx hb dX1_isSame_134 (by decide) (fun c_134 => ?_) (fun c_134 => ?_)
                          · skip
                            replace c_134 : 360 ≤ k1 := leN c_134
                            refine lv_iload hx hb dX1_isSame_150 (lv_at hl 4 rfl) ?_
                            refine lv_iload_n hx hb dX1_isSame_152 rfl (lv_at hl 3 rfl) ?_
                            refine lv_isub hx hb dX1_isSame_153 ?_
                            refine lv_iconst (v := nI 1) hx hb dX1_isSame_154 (by decide +kernel) ?_
                            refine lv_isub hx hb dX1_isSame_155 ?_
                            rw [eS]
                            refine lv_iload_n hx hb dX1_isSame_156 rfl (lv_at hl 2 rfl) ?_
                            refine lv_icmp_le (tgt := 169) hx hb dX1_isSame_157 (by decide) (fun c_157 => ?_) (fun c_157 => ?_)
                            · skip
                              replace c_157 : ((lgN u k1).2) ≤ X1 := leN c_157
                              refine lv_iload_n hx hb dX1_isSame_169 rfl (lv_at hl 2 rfl) ?_
                              refine lv_istore_n (lv' := [(2, .int (nI X1)), (0, .ref h1), (1, .ref h0), (3, .int A1), (4, .int (nI k1))]) hx hb dX1_isSame_170 rfl hl (by decide) rfl (fun ls hl => ?_)
                              refine lv_iload hx hb dX1_isSame_171 (lv_at hl 4 rfl) ?_
                              refine lv_istore_n (lv' := [(3, .int (nI k1)), (2, .int (nI X1)), (0, .ref h1), (1, .ref h0), (4, .int (nI k1))]) hx hb dX1_isSame_173 rfl hl (by decide) rfl (fun ls hl => ?_)
                              refine lv_iinc (v := nI (k1 + 1)) (lv' := [(4, .int (nI (k1 + 1))), (3, .int (nI k1)), (2, .int (nI X1)), (0, .ref h1), (1, .ref h0)]) hx hb dX1_isSame_174 hl (k := 4) rfl (nI_i1 _) (by decide) rfl (fun ls hl => ?_)
                              refine lv_goto (tgt := 121) hx hb dX1_isSame_177 (by decide) ?_
                              exact ih1 (k1 + 1) (by omega) X1 (nI k1) (by rw [lgN_n (fun z => by omega)]; show max _ 0 = _; rw [← hX1]; omega) (by rw [lgN_n (fun z => by omega)]; show nI k1 = nI (k1 + 1 - 0) - nI 1; rw [nI_sub (by omega)]; rfl) _ (lv_sub hl [3, 4, 2, 1, 0] rfl)
                            · skip
                              replace c_157 : X1 < ((lgN u k1).2) := nleN c_157
                              refine lv_iload hx hb dX1_isSame_160 (lv_at hl 4 rfl) ?_
                              refine lv_iload_n hx hb dX1_isSame_162 rfl (lv_at hl 3 rfl) ?_
                              refine lv_isub hx hb dX1_isSame_163 ?_
                              refine lv_iconst (v := nI 1) hx hb dX1_isSame_164 (by decide +kernel) ?_
                              refine lv_isub hx hb dX1_isSame_165 ?_
                              rw [eS]
                              refine lv_goto (tgt := 170) hx hb dX1_isSame_166 (by decide) ?_
                              refine lv_istore_n (lv' := [(2, .int (nI ((lgN u k1).2))), (0, .ref h1), (1, .ref h0), (3, .int A1), (4, .int (nI k1))]) hx hb dX1_isSame_170 rfl hl (by decide) rfl (fun ls hl => ?_)
                              refine lv_iload hx hb dX1_isSame_171 (lv_at hl 4 rfl) ?_
                              refine lv_istore_n (lv' := [(3, .int (nI k1)), (2, .int (nI ((lgN u k1).2))), (0, .ref h1), (1, .ref h0), (4, .int (nI k1))]) hx hb dX1_isSame_173 rfl hl (by decide) rfl (fun ls hl => ?_)
                              refine lv_iinc (v := nI (k1 + 1)) (lv' := [(4, .int (nI (k1 + 1))), (3, .int (nI k1)), (2, .int (nI ((lgN u k1).2))), (0, .ref h1), (1, .ref h0)]) hx hb dX1_isSame_174 hl (k := 4) rfl (nI_i1 _) (by decide) rfl (fun ls hl => ?_)
                              refine lv_goto (tgt := 121) hx hb dX1_isSame_177 (by decide) ?_
                              exact ih1 (k1 + 1) (by omega) ((lgN u k1).2) (nI k1) (by rw [lgN_n (fun z => by omega)]; show max _ 0 = _; rw [← hX1]; omega) (by rw [lgN_n (fun z => by omega)]; show nI k1 = nI (k1 + 1 - 0) - nI 1; rw [nI_sub (by omega)]; rfl) _ (lv_sub hl [3, 4, 2, 1, 0] rfl)
                          · skip
                            replace c_134 : k1 < 360 := nleN c_134
                            refine lv_aload_n hx hb dX1_isSame_137 rfl (lv_at hl 0 rfl) ?_
                            refine lv_iload hx hb dX1_isSame_138 (lv_at hl 4 rfl) ?_
                            refine lv_iconst (v := (-1)) hx hb dX1_isSame_140 (by decide +kernel) ?_
                            refine vp_callSi (W.runV (As := [.int (nI k1), .int (-1)]) (rest := []) ⟨hx, hb, hml, hown, hts⟩ (c_X1_napsAt l D cI cR h1 a1 nr br u k1 (-1) (Inv.n hI) (by omega)) (cwV 2 hts gX1_isSame_X1_napsAt rfl rfl rfl (by decide +kernel) ⟨Nat.le_of_ble_eq_true rfl, Nat.le_of_ble_eq_true rfl⟩) (pr_pre hK (hP.sub (ws' := picS h1 a1 u) [8] rfl) hR rfl rfl) rfl rfl hl.1 rfl (lv_room (Nat.le_of_ble_eq_true rfl)) dX1_isSame_141 ⟨Nat.le_of_ble_eq_true rfl, Nat.le_of_ble_eq_true rfl⟩) (fun r hr9 => ?_)
                            subst hr9
                            rw [cB_m1 hIb]
                            have hcn := cN_le u k1
                            refine lv_if_ne (tgt := 150) hx hb dX1_isSame_144 (by decide) (fun c_144 => ?_) (fun c_144 => ?_)
                            · skip
                              replace c_144 : (cN u k1) ≠ 0 := neN c_144
                              refine lv_iload hx hb dX1_isSame_150 (lv_at hl 4 rfl) ?_
                              refine lv_iload_n hx hb dX1_isSame_152 rfl (lv_at hl 3 rfl) ?_
                              refine lv_isub hx hb dX1_isSame_153 ?_
                              refine lv_iconst (v := nI 1) hx hb dX1_isSame_154 (by decide +kernel) ?_
                              refine lv_isub hx hb dX1_isSame_155 ?_
                              rw [eS]
                              refine lv_iload_n hx hb dX1_isSame_156 rfl (lv_at hl 2 rfl) ?_
                              refine lv_icmp_le (tgt := 169) hx hb dX1_isSame_157 (by decide) (fun c_157 => ?_) (fun c_157 => ?_)
                              · skip
                                replace c_157 : ((lgN u k1).2) ≤ X1 := leN c_157
                                refine lv_iload_n hx hb dX1_isSame_169 rfl (lv_at hl 2 rfl) ?_
                                refine lv_istore_n (lv' := [(2, .int (nI X1)), (0, .ref h1), (1, .ref h0), (3, .int A1), (4, .int (nI k1))]) hx hb dX1_isSame_170 rfl hl (by decide) rfl (fun ls hl => ?_)
                                refine lv_iload hx hb dX1_isSame_171 (lv_at hl 4 rfl) ?_
                                refine lv_istore_n (lv' := [(3, .int (nI k1)), (2, .int (nI X1)), (0, .ref h1), (1, .ref h0), (4, .int (nI k1))]) hx hb dX1_isSame_173 rfl hl (by decide) rfl (fun ls hl => ?_)
                                refine lv_iinc (v := nI (k1 + 1)) (lv' := [(4, .int (nI (k1 + 1))), (3, .int (nI k1)), (2, .int (nI X1)), (0, .ref h1), (1, .ref h0)]) hx hb dX1_isSame_174 hl (k := 4) rfl (nI_i1 _) (by decide) rfl (fun ls hl => ?_)
                                refine lv_goto (tgt := 121) hx hb dX1_isSame_177 (by decide) ?_
                                exact ih1 (k1 + 1) (by omega) X1 (nI k1) (by rw [lgN_n (fun z => by omega)]; show max _ 0 = _; rw [← hX1]; omega) (by rw [lgN_n (fun z => by omega)]; show nI k1 = nI (k1 + 1 - 0) - nI 1; rw [nI_sub (by omega)]; rfl) _ (lv_sub hl [3, 4, 2, 1, 0] rfl)
                              · skip
                                replace c_157 : X1 < ((lgN u k1).2) := nleN c_157
                                refine lv_iload hx hb dX1_isSame_160 (lv_at hl 4 rfl) ?_
                                refine lv_iload_n hx hb dX1_isSame_162 rfl (lv_at hl 3 rfl) ?_
                                refine lv_isub hx hb dX1_isSame_163 ?_
                                refine lv_iconst (v := nI 1) hx hb dX1_isSame_164 (by decide +kernel) ?_
                                refine lv_isub hx hb dX1_isSame_165 ?_
                                rw [eS]
                                refine lv_goto (tgt := 170) hx hb dX1_isSame_166 (by decide) ?_
                                refine lv_istore_n (lv' := [(2, .int (nI ((lgN u k1).2))), (0, .ref h1), (1, .ref h0), (3, .int A1), (4, .int (nI k1))]) hx hb dX1_isSame_170 rfl hl (by decide) rfl (fun ls hl => ?_)
                                refine lv_iload hx hb dX1_isSame_171 (lv_at hl 4 rfl) ?_
                                refine lv_istore_n (lv' := [(3, .int (nI k1)), (2, .int (nI ((lgN u k1).2))), (0, .ref h1), (1, .ref h0), (4, .int (nI k1))]) hx hb dX1_isSame_173 rfl hl (by decide) rfl (fun ls hl => ?_)
                                refine lv_iinc (v := nI (k1 + 1)) (lv' := [(4, .int (nI (k1 + 1))), (3, .int (nI k1)), (2, .int (nI ((lgN u k1).2))), (0, .ref h1), (1, .ref h0)]) hx hb dX1_isSame_174 hl (k := 4) rfl (nI_i1 _) (by decide) rfl (fun ls hl => ?_)
                                refine lv_goto (tgt := 121) hx hb dX1_isSame_177 (by decide) ?_
                                exact ih1 (k1 + 1) (by omega) ((lgN u k1).2) (nI k1) (by rw [lgN_n (fun z => by omega)]; show max _ 0 = _; rw [← hX1]; omega) (by rw [lgN_n (fun z => by omega)]; show nI k1 = nI (k1 + 1 - 0) - nI 1; rw [nI_sub (by omega)]; rfl) _ (lv_sub hl [3, 4, 2, 1, 0] rfl)
                            · skip
                              replace c_144 : (cN u k1) = 0 := eN c_144
                              refine lv_goto (tgt := 174) hx hb dX1_isSame_147 (by decide) ?_
                              refine lv_iinc (v := nI (k1 + 1)) (lv' := [(4, .int (nI (k1 + 1))), (0, .ref h1), (1, .ref h0), (2, .int (nI X1)), (3, .int A1)]) hx hb dX1_isSame_174 hl (k := 4) rfl (nI_i1 _) (by decide) rfl (fun ls hl => ?_)
                              refine lv_goto (tgt := 121) hx hb dX1_isSame_177 (by decide) ?_
                              exact ih1 (k1 + 1) (by omega) X1 A1 (by rw [lgN_y c_134 c_144]; show max X1 _ = max _ _; rw [← hX1]; omega) (by rw [hA1, lgN_y c_134 c_144, show k1 + 1 - ((lgN u k1).2 + 1) = k1 - (lgN u k1).2 by omega]) _ (lv_sub hl [1, 2, 3, 4, 0] rfl)
                    exact lp121 _ 0 (Nat.zero_add _) 0 (-1) (by rfl) (by show (-1 : Int32) = nI (0 - 0) - nI 1; decide +kernel) _ (lv_sub hl [3, 4, 2, 1, 0] rfl)
                  · skip
                    exact (c_109 rfl).elim
