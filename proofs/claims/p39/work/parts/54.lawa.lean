set_option maxHeartbeats 8000000 in
set_option maxRecDepth 100000 in
theorem sg_82 {p : Program} {l : Launch} {e : Env} {s : State} {m : MethodId} {below : List Frame} {meth : Method} {c : Code} {D : va_G} {cI cR : ClassId} {b L h0 h1 : Nat} {a0 : Nat → Nat} {xs : Nat → Int32} {tm : Nat} {x0 : Int32} (hL : L ≤ 260) (C0 : lw_At p s m meth c b L xs) (hAO : AOI s) (hK : va_K D vwCl (tyR cI cR) s) {u : MS} {on : Nat → Int32} {a1 nr br : Nat → Nat} {H : Heap} {locs : List Loc} {C Sl : Nat} (hC : C + 100 ≤ 754895) (hSl : Sl + 1000 ≤ 6836784) (hT : TW D cI cR h0 a0 h1 u on a1 nr br H) (hD : va_D (LA s) (picT cI h0 a0 h1 a1 u u on)) (hS : va_S (LA s) s.heap H locs) {ls : Array Slot} (hl : lv_has ls 21 [(0, .ref b), (1, .ref h0), (2, .ref h1), (3, .int (nI tm)), (4, .int x0)]) (kk : ∀ (ls : Array Slot), lv_has ls 21 [(0, .ref b), (1, .ref h0), (2, .ref h1), (3, .int (nI tm)), (4, .int x0), (5, .long (fDig u)), (7, .int (nI (mNow u))), (11, .int (nI (ct (awB u) 360)))] → W p l e room_1 s m #[Value.ref b] below meth c H locs C Sl (lw_Z below #[Value.ref b] s) (F0 m 312 ls [])) : W p l e room_1 s m #[Value.ref b] below meth c H locs C Sl (lw_Z below #[Value.ref b] s) (F0 m 82 ls []) := by
  obtain ⟨hx, hb, hr, hml, hown, hts0, hX, hbl, hlocks, hgv⟩ := id C0
  have hown : s.vm.findClass RL = some m.cls := hown
  have hts : ∀ w ∈ wsL_law, w.before #[Value.ref b] s = true := fun w h => hts0 w (wsL_law_in w h)
  have hin : ∀ w ∈ wsX10, w ∈ wsL_law := inlX1
  have hA : ∀ q : Nat, s.heap.size ≤ q → LA s q := fun _ h => h
  have hbA : ¬ LA s b := Nat.not_le.mpr hbl
  obtain ⟨hI, hO, hIS, hNM, hP, hR⟩ := id hT
  obtain ⟨hIa, hIb, hIc, hId, hIe, hIf, hIg, hIh, hIi, hIj⟩ := id hI
  have hXH : va_X b L xs s H := hX.kept (hS.2.1 b hbl hbA)
  refine lv_aload_n hx hb dL_law_82 rfl (lv_at hl 1 rfl) ?_
  refine vp_callSl (W.runV (As := []) (rest := []) ⟨hx, hb, hml, hown, hts⟩ (c_X0_digest l D cI h0 a0 u on hI hO) (cwV 0 hts gL_law_X0_digest rfl rfl rfl (by decide +kernel) ⟨Nat.le_of_ble_eq_true rfl, Nat.le_of_ble_eq_true rfl⟩) (pu_pre (hK.sub (tys' := [(cI, .int)]) [0] rfl) (hP.sub (ws' := pic0 cI h0 a0 u on) [0, 1, 2, 3, 4, 5, 6, 7] rfl) rfl rfl) rfl rfl hl.1 rfl (lv_room (Nat.le_of_ble_eq_true rfl)) dL_law_83 ⟨show C + 0 ≤ 754895 by omega, show Sl + 0 ≤ 6836784 by omega⟩) (fun r hr9 => ?_)
  subst hr9
  refine lv_lstore (lv' := [(5, .long (fDig u)), (0, .ref b), (1, .ref h0), (2, .ref h1), (3, .int (nI tm)), (4, .int x0)]) hx hb dL_law_86 hl (by decide) rfl (fun ls hl => ?_)
  refine lv_aload_n hx hb dL_law_88 rfl (lv_at hl 2 rfl) ?_
  refine vp_callSi (W.runV (As := []) (rest := []) ⟨hx, hb, hml, hown, hts⟩ (c_X0_minute l D cI h0 a0 u on ) (cwV 0 hts gL_law_X0_minute rfl rfl rfl (by decide +kernel) ⟨Nat.le_of_ble_eq_true rfl, Nat.le_of_ble_eq_true rfl⟩) (pu_pre (hK.sub (tys' := [(cI, .int)]) [0] rfl) (hP.sub (ws' := pic0 cI h0 a0 u on) [0, 1, 2, 3, 4, 5, 6, 7] rfl) rfl rfl) rfl rfl hl.1 rfl (lv_room (Nat.le_of_ble_eq_true rfl)) dL_law_89 ⟨show C + 0 ≤ 754895 by omega, show Sl + 0 ≤ 6836784 by omega⟩) (fun r hr9 => ?_)
  subst hr9
  refine lv_istore (lv' := [(7, .int (nI (mNow u))), (5, .long (fDig u)), (0, .ref b), (1, .ref h0), (2, .ref h1), (3, .int (nI tm)), (4, .int x0)]) hx hb dL_law_92 hl (by decide) rfl (fun ls hl => ?_)
  refine lv_iconst (v := nI 0) hx hb dL_law_94 (by decide +kernel) ?_
  refine lv_istore (lv' := [(8, .int (nI 0)), (7, .int (nI (mNow u))), (5, .long (fDig u)), (0, .ref b), (1, .ref h0), (2, .ref h1), (3, .int (nI tm)), (4, .int x0)]) hx hb dL_law_95 hl (by decide) rfl (fun ls hl => ?_)
  refine lv_iconst (v := nI 0) hx hb dL_law_97 (by decide +kernel) ?_
  refine lv_istore (lv' := [(9, .int (nI 0)), (8, .int (nI 0)), (7, .int (nI (mNow u))), (5, .long (fDig u)), (0, .ref b), (1, .ref h0), (2, .ref h1), (3, .int (nI tm)), (4, .int x0)]) hx hb dL_law_98 hl (by decide) rfl (fun ls hl => ?_)
  refine lv_iconst (v := nI 0) hx hb dL_law_100 (by decide +kernel) ?_
  refine lv_istore (lv' := [(10, .int (nI 0)), (9, .int (nI 0)), (8, .int (nI 0)), (7, .int (nI (mNow u))), (5, .long (fDig u)), (0, .ref b), (1, .ref h0), (2, .ref h1), (3, .int (nI tm)), (4, .int x0)]) hx hb dL_law_101 hl (by decide) rfl (fun ls hl => ?_)
  refine lv_iconst (v := nI 0) hx hb dL_law_103 (by decide +kernel) ?_
  refine lv_istore (lv' := [(11, .int (nI 0)), (10, .int (nI 0)), (9, .int (nI 0)), (8, .int (nI 0)), (7, .int (nI (mNow u))), (5, .long (fDig u)), (0, .ref b), (1, .ref h0), (2, .ref h1), (3, .int (nI tm)), (4, .int x0)]) hx hb dL_law_104 hl (by decide) rfl (fun ls hl => ?_)
  refine lv_iconst (v := nI 0) hx hb dL_law_106 (by decide +kernel) ?_
  refine lv_istore (lv' := [(12, .int (nI 0)), (11, .int (nI 0)), (10, .int (nI 0)), (9, .int (nI 0)), (8, .int (nI 0)), (7, .int (nI (mNow u))), (5, .long (fDig u)), (0, .ref b), (1, .ref h0), (2, .ref h1), (3, .int (nI tm)), (4, .int x0)]) hx hb dL_law_107 hl (by decide) rfl (fun ls hl => ?_)
  have lp109 : ∀ (nA kA : Nat), kA + nA = 360 → ∀ (X8 : Nat), X8 = ct (slB u) kA → ∀ (X9 : Int32), X9 = (lgS u kA).1 → ∀ (X10 : Int32), X10 = (lgS u kA).2 → ∀ (X11 : Nat), X11 = ct (awB u) kA → ∀ (ls : Array Slot), lv_has ls 21 [(0, .ref b), (1, .ref h0), (2, .ref h1), (3, .int (nI tm)), (4, .int x0), (5, .long (fDig u)), (7, .int (nI (mNow u))), (8, .int (nI X8)), (9, .int X9), (10, .int X10), (11, .int (nI X11)), (12, .int (nI kA))] → W p l e room_1 s m #[Value.ref b] below meth c H locs C Sl (lw_Z below #[Value.ref b] s) (F0 m 109 ls []) := by
    intro nA
    induction nA with
    | zero =>
      intro kA hkA X8 eX8 X9 eX9 X10 eX10 X11 eX11 ls hl
      have ekA : kA = 360 := by omega
      have esl : X8 + AW u = mNow u := by rw [eX8, ekA]; exact sl_all hId
      have eaw : X11 = ct (awB u) 360 := by rw [eX11, ekA]
      subst eaw
      refine lv_iload hx hb dL_law_109 (lv_at hl 11 rfl) ?_
      refine lv_sipush (v := nI 360) hx hb dL_law_111 (by decide +kernel) ?_
      refine lv_icmp_ge (tgt := 280) hx hb dL_law_114 (by decide) (fun c_114 => ?_) (fun c_114 => ?_)
      · skip
        replace c_114 : 360 ≤ kA := leN c_114
        refine lv_aload_n hx hb dL_law_280 rfl (lv_at hl 1 rfl) ?_
        refine vp_callSi (W.runV (As := []) (rest := []) ⟨hx, hb, hml, hown, hts⟩ (c_X0_sleptMinutes l D cI h0 a0 u on hI) (cwV 0 hts gL_law_X0_sleptMinutes rfl rfl rfl (by decide +kernel) ⟨Nat.le_of_ble_eq_true rfl, Nat.le_of_ble_eq_true rfl⟩) (pu_pre (hK.sub (tys' := [(cI, .int)]) [0] rfl) (hP.sub (ws' := pic0 cI h0 a0 u on) [0, 1, 2, 3, 4, 5, 6, 7] rfl) rfl rfl) rfl rfl hl.1 rfl (lv_room (Nat.le_of_ble_eq_true rfl)) dL_law_281 ⟨show C + 0 ≤ 754895 by omega, show Sl + 0 ≤ 6836784 by omega⟩) (fun r hr9 => ?_)
        subst hr9
        have haw := AW_le u
        rw [fAw_eq u, nI_sub haw]
        refine lv_iload hx hb dL_law_284 (lv_at hl 7 rfl) ?_
        refine lv_icmp_ne (tgt := 310) hx hb dL_law_286 (by decide) (fun c_286 => ?_) (fun c_286 => ?_)
        · skip
          replace c_286 : (mNow u - AW u) ≠ X8 := neN c_286
          exact (by omega : False).elim
        · skip
          replace c_286 : (mNow u - AW u) = X8 := eN c_286
          refine lv_aload_n hx hb dL_law_289 rfl (lv_at hl 1 rfl) ?_
          refine vp_callSi (W.runV (As := []) (rest := []) ⟨hx, hb, hml, hown, hts⟩ (c_X0_awakeMinutes l D cI h0 a0 u on hI) (cwV 0 hts gL_law_X0_awakeMinutes rfl rfl rfl (by decide +kernel) ⟨Nat.le_of_ble_eq_true rfl, Nat.le_of_ble_eq_true rfl⟩) (pu_pre (hK.sub (tys' := [(cI, .int)]) [0] rfl) (hP.sub (ws' := pic0 cI h0 a0 u on) [0, 1, 2, 3, 4, 5, 6, 7] rfl) rfl rfl) rfl rfl hl.1 rfl (lv_room (Nat.le_of_ble_eq_true rfl)) dL_law_290 ⟨show C + 0 ≤ 754895 by omega, show Sl + 0 ≤ 6836784 by omega⟩) (fun r hr9 => ?_)
          subst hr9
          rw [fAw_eq u]
          have haw := AW_le u
          refine lv_iload hx hb dL_law_293 (lv_at hl 7 rfl) ?_
          refine q_iaddN hx hb dL_law_295 ?_
          refine lv_iload hx hb dL_law_296 (lv_at hl 6 rfl) ?_
          refine lv_icmp_ne (tgt := 310) hx hb dL_law_298 (by decide) (fun c_298 => ?_) (fun c_298 => ?_)
          · skip
            replace c_298 : ((AW u) + X8) ≠ (mNow u) := neN c_298
            exact (by omega : False).elim
          · skip
            replace c_298 : ((AW u) + X8) = (mNow u) := eN c_298
            refine lv_aload_n hx hb dL_law_301 rfl (lv_at hl 1 rfl) ?_
            refine vp_callSi (W.runV (As := []) (rest := []) ⟨hx, hb, hml, hown, hts⟩ (c_X0_longestAwake l D cI h0 a0 u on hI) (cwV 0 hts gL_law_X0_longestAwake rfl rfl rfl (by decide +kernel) ⟨Nat.le_of_ble_eq_true rfl, Nat.le_of_ble_eq_true rfl⟩) (pu_pre (hK.sub (tys' := [(cI, .int)]) [0] rfl) (hP.sub (ws' := pic0 cI h0 a0 u on) [0, 1, 2, 3, 4, 5, 6, 7] rfl) rfl rfl) rfl rfl hl.1 rfl (lv_room (Nat.le_of_ble_eq_true rfl)) dL_law_302 ⟨show C + 0 ≤ 754895 by omega, show Sl + 0 ≤ 6836784 by omega⟩) (fun r hr9 => ?_)
            subst hr9
            refine lv_iload hx hb dL_law_305 (lv_at hl 8 rfl) ?_
            refine lv_icmp_eq (tgt := 312) hx hb dL_law_307 (by decide) (fun c_307 => ?_) (fun c_307 => ?_)
            · skip
              exact kk _ (lv_sub hl [0, 1, 2, 3, 4, 5, 6, 10] rfl)
            · skip
              exact (c_307 (by rw [eX9, ekA]; rfl)).elim
      · skip
        replace c_114 : kA < 360 := nleN c_114
        exact (by omega : False).elim
    | succ nA ihA =>
      intro kA hkA X8 eX8 X9 eX9 X10 eX10 X11 eX11 ls hl
      have hc8 := ct_le (slB u) kA
      have hc11 := ct_le (awB u) kA
      refine lv_iload hx hb dL_law_109 (lv_at hl 11 rfl) ?_
      refine lv_sipush (v := nI 360) hx hb dL_law_111 (by decide +kernel) ?_
      refine lv_icmp_ge (tgt := 280) hx hb dL_law_114 (by decide) (fun c_114 => ?_) (fun c_114 => ?_)
      · skip
        replace c_114 : 360 ≤ kA := leN c_114
        exact (by omega : False).elim
      · skip
        replace c_114 : kA < 360 := nleN c_114
        refine lv_aload_n hx hb dL_law_117 rfl (lv_at hl 1 rfl) ?_
        refine lv_iload hx hb dL_law_118 (lv_at hl 11 rfl) ?_
        refine vp_callSi (W.runV (As := [.int (nI kA)]) (rest := []) ⟨hx, hb, hml, hown, hts⟩ (c_X0_isAsleep l D cI h0 a0 u on kA hI (by omega)) (cwV 1 hts gL_law_X0_isAsleep rfl rfl rfl (by decide +kernel) ⟨Nat.le_of_ble_eq_true rfl, Nat.le_of_ble_eq_true rfl⟩) (pu_pre (hK.sub (tys' := [(cI, .int)]) [0] rfl) (hP.sub (ws' := pic0 cI h0 a0 u on) [0, 1, 2, 3, 4, 5, 6, 7] rfl) rfl rfl) rfl rfl hl.1 rfl (lv_room (Nat.le_of_ble_eq_true rfl)) dL_law_120 ⟨show C + 0 ≤ 754895 by omega, show Sl + 0 ≤ 6836784 by omega⟩) (fun r hr9 => ?_)
        subst hr9
        refine lv_istore (lv' := [(13, .int (bI (decide (0 < cN u kA)))), (0, .ref b), (1, .ref h0), (2, .ref h1), (3, .int (nI tm)), (4, .int x0), (5, .long (fDig u)), (7, .int (nI (mNow u))), (8, .int (nI X8)), (9, .int X9), (10, .int X10), (11, .int (nI X11)), (12, .int (nI kA))]) hx hb dL_law_123 hl (by decide) rfl (fun ls hl => ?_)
        refine lv_iconst (v := nI 0) hx hb dL_law_125 (by decide +kernel) ?_
        refine lv_istore (lv' := [(14, .int (nI 0)), (13, .int (bI (decide (0 < cN u kA)))), (0, .ref b), (1, .ref h0), (2, .ref h1), (3, .int (nI tm)), (4, .int x0), (5, .long (fDig u)), (7, .int (nI (mNow u))), (8, .int (nI X8)), (9, .int X9), (10, .int X10), (11, .int (nI X11)), (12, .int (nI kA))]) hx hb dL_law_126 hl (by decide) rfl (fun ls hl => ?_)
        refine lv_iconst (v := nI 0) hx hb dL_law_128 (by decide +kernel) ?_
        refine lv_istore (lv' := [(15, .int (nI 0)), (14, .int (nI 0)), (13, .int (bI (decide (0 < cN u kA)))), (0, .ref b), (1, .ref h0), (2, .ref h1), (3, .int (nI tm)), (4, .int x0), (5, .long (fDig u)), (7, .int (nI (mNow u))), (8, .int (nI X8)), (9, .int X9), (10, .int X10), (11, .int (nI X11)), (12, .int (nI kA))]) hx hb dL_law_129 hl (by decide) rfl (fun ls hl => ?_)
        have lp131 : ∀ (nB kB : Nat), kB + nB = mNc u → ∀ (X14 : Nat), X14 = ct (fun n9 => cvB u n9 kA) kB → ∀ (ls : Array Slot), lv_has ls 21 [(0, .ref b), (1, .ref h0), (2, .ref h1), (3, .int (nI tm)), (4, .int x0), (5, .long (fDig u)), (7, .int (nI (mNow u))), (8, .int (nI X8)), (9, .int X9), (10, .int X10), (11, .int (nI X11)), (12, .int (nI kA)), (13, .int (bI (decide (0 < cN u kA)))), (14, .int (nI X14)), (15, .int (nI kB))] → W p l e room_1 s m #[Value.ref b] below meth c H locs C Sl (lw_Z below #[Value.ref b] s) (F0 m 131 ls []) := by
          intro nB
          induction nB with
          | zero =>
            intro kB hkB X14 eX14 ls hl
            have ekB : kB = mNc u := by omega
            have em : X14 = cN u kA := by rw [eX14, ekB]; rfl
            have hcn9 := cN_le u kA
            refine lv_iload hx hb dL_law_131 (lv_at hl 14 rfl) ?_
            refine lv_aload_n hx hb dL_law_133 rfl (lv_at hl 1 rfl) ?_
            refine vp_callSi (W.runV (As := []) (rest := [.int (nI kB)]) ⟨hx, hb, hml, hown, hts⟩ (c_X0_naps l D cI h0 a0 u on ) (cwV 0 hts gL_law_X0_naps rfl rfl rfl (by decide +kernel) ⟨Nat.le_of_ble_eq_true rfl, Nat.le_of_ble_eq_true rfl⟩) (pu_pre (hK.sub (tys' := [(cI, .int)]) [0] rfl) (hP.sub (ws' := pic0 cI h0 a0 u on) [0, 1, 2, 3, 4, 5, 6, 7] rfl) rfl rfl) rfl rfl hl.1 rfl (lv_room (Nat.le_of_ble_eq_true rfl)) dL_law_134 ⟨show C + 0 ≤ 754895 by omega, show Sl + 0 ≤ 6836784 by omega⟩) (fun r hr9 => ?_)
            subst hr9
            refine lv_icmp_ge (tgt := 185) hx hb dL_law_137 (by decide) (fun c_137 => ?_) (fun c_137 => ?_)
            · skip
              replace c_137 : (mNc u) ≤ kB := leN c_137
              refine lv_aload_n hx hb dL_law_185 rfl (lv_at hl 1 rfl) ?_
              refine lv_iload hx hb dL_law_186 (lv_at hl 11 rfl) ?_
              refine vp_callSi (W.runV (As := [.int (nI kA)]) (rest := []) ⟨hx, hb, hml, hown, hts⟩ (c_X0_napsAt l D cI h0 a0 u on kA hI (by omega)) (cwV 1 hts gL_law_X0_napsAt rfl rfl rfl (by decide +kernel) ⟨Nat.le_of_ble_eq_true rfl, Nat.le_of_ble_eq_true rfl⟩) (pu_pre (hK.sub (tys' := [(cI, .int)]) [0] rfl) (hP.sub (ws' := pic0 cI h0 a0 u on) [0, 1, 2, 3, 4, 5, 6, 7] rfl) rfl rfl) rfl rfl hl.1 rfl (lv_room (Nat.le_of_ble_eq_true rfl)) dL_law_188 ⟨show C + 0 ≤ 754895 by omega, show Sl + 0 ≤ 6836784 by omega⟩) (fun r hr9 => ?_)
              subst hr9
              have hcn := cN_le u kA
              refine lv_iload hx hb dL_law_191 (lv_at hl 13 rfl) ?_
              refine lv_icmp_ne (tgt := 211) hx hb dL_law_193 (by decide) (fun c_193 => ?_) (fun c_193 => ?_)
              · skip
                replace c_193 : (cN u kA) ≠ X14 := neN c_193
                exact (by omega : False).elim
              · skip
                replace c_193 : (cN u kA) = X14 := eN c_193
                refine lv_iload hx hb dL_law_196 (lv_at hl 12 rfl) ?_
                refine lv_iload hx hb dL_law_198 (lv_at hl 13 rfl) ?_
                refine lv_if_le (tgt := 207) hx hb dL_law_200 (by decide) (fun c_200 => ?_) (fun c_200 => ?_)
                · skip
                  replace c_200 : X14 ≤ 0 := leN c_200
                  refine lv_iconst (v := nI 0) hx hb dL_law_207 (by decide +kernel) ?_
                  refine lv_icmp_eq (tgt := 213) hx hb dL_law_208 (by decide) (fun c_208 => ?_) (fun c_208 => ?_)
                  · skip
                    refine lv_iload hx hb dL_law_213 (lv_at hl 7 rfl) ?_
                    refine lv_iload hx hb dL_law_215 (lv_at hl 12 rfl) ?_
                    refine lv_if_eq (tgt := 231) hx hb dL_law_217 (by decide) (fun c_217 => ?_) (fun c_217 => ?_)
                    · skip
                      replace c_217 : (decide (0 < cN u kA)) = false := bI_eq0 c_217
                      refine lv_iconst (v := nI 0) hx hb dL_law_231 (by decide +kernel) ?_
                      refine q_iaddN hx hb dL_law_232 ?_
                      refine lv_istore (lv' := [(8, .int (nI (X8 + 0))), (0, .ref b), (1, .ref h0), (2, .ref h1), (3, .int (nI tm)), (4, .int x0), (5, .long (fDig u)), (7, .int (nI (mNow u))), (9, .int X9), (10, .int X10), (11, .int (nI X11)), (12, .int (nI kA)), (13, .int (bI (decide (0 < cN u kA)))), (14, .int (nI X14)), (15, .int (nI kB))]) hx hb dL_law_233 hl (by decide) rfl (fun ls hl => ?_)
                      refine lv_iload hx hb dL_law_235 (lv_at hl 10 rfl) ?_
                      refine lv_iload hx hb dL_law_237 (lv_at hl 12 rfl) ?_
                      refine lv_if_eq (tgt := 246) hx hb dL_law_239 (by decide) (fun c_239 => ?_) (fun c_239 => ?_)
                      · skip
                        replace c_239 : (decide (0 < cN u kA)) = false := bI_eq0 c_239
                        refine lv_iconst (v := nI 1) hx hb dL_law_246 (by decide +kernel) ?_
                        refine q_iaddN hx hb dL_law_247 ?_
                        refine lv_istore (lv' := [(11, .int (nI (X11 + 1))), (8, .int (nI (X8 + 0))), (0, .ref b), (1, .ref h0), (2, .ref h1), (3, .int (nI tm)), (4, .int x0), (5, .long (fDig u)), (7, .int (nI (mNow u))), (9, .int X9), (10, .int X10), (12, .int (nI kA)), (13, .int (bI (decide (0 < cN u kA)))), (14, .int (nI X14)), (15, .int (nI kB))]) hx hb dL_law_248 hl (by decide) rfl (fun ls hl => ?_)
                        refine lv_iload hx hb dL_law_250 (lv_at hl 12 rfl) ?_
                        refine lv_if_eq (tgt := 259) hx hb dL_law_252 (by decide) (fun c_252 => ?_) (fun c_252 => ?_)
                        · skip
                          replace c_252 : (decide (0 < cN u kA)) = false := bI_eq0 c_252
                          refine lv_iload hx hb dL_law_259 (lv_at hl 10 rfl) ?_
                          refine lv_iconst (v := nI 1) hx hb dL_law_261 (by decide +kernel) ?_
                          refine lv_iadd hx hb dL_law_262 ?_
                          refine lv_istore (lv' := [(10, .int (X10 + (nI 1))), (11, .int (nI (X11 + 1))), (8, .int (nI (X8 + 0))), (0, .ref b), (1, .ref h0), (2, .ref h1), (3, .int (nI tm)), (4, .int x0), (5, .long (fDig u)), (7, .int (nI (mNow u))), (9, .int X9), (12, .int (nI kA)), (13, .int (bI (decide (0 < cN u kA)))), (14, .int (nI X14)), (15, .int (nI kB))]) hx hb dL_law_263 hl (by decide) rfl (fun ls hl => ?_)
                          refine lv_iload hx hb dL_law_265 (lv_at hl 10 rfl) ?_
                          refine lv_iload hx hb dL_law_267 (lv_at hl 0 rfl) ?_
                          refine va_mmax hx hb (hml.trans hl.1.symm) hown (hts (.methodLink RL 128 Lib.Math.max.name) (List.mem_of_getElem? (i := 3) rfl)) (hts (.static Lib.Math.max.name) (List.mem_of_getElem? (i := 4) rfl)) (hts (.initialized "java/lang/Math") (List.mem_of_getElem? (i := 5) rfl)) (hts _ (List.mem_of_getElem? (i := 6) rfl)) (by first | exact Nat.le_of_ble_eq_true rfl | (show C ≤ 754895; omega) | (show Sl ≤ 6836784; omega)) (by first | exact Nat.le_of_ble_eq_true rfl | (show C ≤ 754895; omega) | (show Sl ≤ 6836784; omega)) (by first | exact Nat.le_of_ble_eq_true rfl | (show C ≤ 754895; omega) | (show Sl ≤ 6836784; omega)) (by first | exact Nat.le_of_ble_eq_true rfl | (show C ≤ 754895; omega) | (show Sl ≤ 6836784; omega)) dL_law_269 ?_
                          refine lv_istore (lv' := [(9, .int (if X9 < X10 + (nI 1) then X10 + (nI 1) else X9)), (10, .int (X10 + (nI 1))), (11, .int (nI (X11 + 1))), (8, .int (nI (X8 + 0))), (0, .ref b), (1, .ref h0), (2, .ref h1), (3, .int (nI tm)), (4, .int x0), (5, .long (fDig u)), (7, .int (nI (mNow u))), (12, .int (nI kA)), (13, .int (bI (decide (0 < cN u kA)))), (14, .int (nI X14)), (15, .int (nI kB))]) hx hb dL_law_272 hl (by decide) rfl (fun ls hl => ?_)
                          refine lv_iinc (v := nI (kA + 1)) (lv' := [(12, .int (nI (kA + 1))), (9, .int (if X9 < X10 + (nI 1) then X10 + (nI 1) else X9)), (10, .int (X10 + (nI 1))), (11, .int (nI (X11 + 1))), (8, .int (nI (X8 + 0))), (0, .ref b), (1, .ref h0), (2, .ref h1), (3, .int (nI tm)), (4, .int x0), (5, .long (fDig u)), (7, .int (nI (mNow u))), (13, .int (bI (decide (0 < cN u kA)))), (14, .int (nI X14)), (15, .int (nI kB))]) hx hb dL_law_274 hl (k := 11) rfl (nI_i1 _) (by decide) rfl (fun ls hl => ?_)
                          refine lv_goto (tgt := 109) hx hb dL_law_277 (by decide) ?_
                          exact ihA (kA + 1) (by omega) (X8 + 0) (by subst eX8; exact (ct_n (P := slB u) (decide_eq_false (fun z => by have h8 := of_decide_eq_false c_217; omega))).symm) (if X9 < X10 + (nI 1) then X10 + (nI 1) else X9) (by subst eX9 eX10; show _ = (lgF u kA (lgS u kA)).1; rw [lg_yes (by have h8 := of_decide_eq_false c_217; omega)]) (X10 + (nI 1)) (by subst eX9 eX10; show _ = (lgF u kA (lgS u kA)).2; rw [lg_yes (by have h8 := of_decide_eq_false c_217; omega)]) (X11 + 1) (by subst eX11; exact (ct_y (P := awB u) (decide_eq_true (by have h8 := of_decide_eq_false c_217; omega))).symm) _ (lv_sub hl [5, 6, 7, 8, 9, 10, 11, 4, 1, 2, 3, 0] rfl)
                        · skip
                          replace c_252 : (decide (0 < cN u kA)) = true := bI_ne0 c_252
                          exact ((absurd (c_217.symm.trans c_252) (by decide) : False)).elim
                      · skip
                        replace c_239 : (decide (0 < cN u kA)) = true := bI_ne0 c_239
                        exact ((absurd (c_217.symm.trans c_239) (by decide) : False)).elim
                    · skip
                      replace c_217 : (decide (0 < cN u kA)) = true := bI_ne0 c_217
                      refine lv_iload hx hb dL_law_220 (lv_at hl 11 rfl) ?_
                      refine lv_iload hx hb dL_law_222 (lv_at hl 6 rfl) ?_
                      refine lv_icmp_ge (tgt := 231) hx hb dL_law_224 (by decide) (fun c_224 => ?_) (fun c_224 => ?_)
                      · skip
                        replace c_224 : (mNow u) ≤ kA := leN c_224
                        refine lv_iconst (v := nI 0) hx hb dL_law_231 (by decide +kernel) ?_
                        refine q_iaddN hx hb dL_law_232 ?_
                        refine lv_istore (lv' := [(8, .int (nI (X8 + 0))), (0, .ref b), (1, .ref h0), (2, .ref h1), (3, .int (nI tm)), (4, .int x0), (5, .long (fDig u)), (7, .int (nI (mNow u))), (9, .int X9), (10, .int X10), (11, .int (nI X11)), (12, .int (nI kA)), (13, .int (bI (decide (0 < cN u kA)))), (14, .int (nI X14)), (15, .int (nI kB))]) hx hb dL_law_233 hl (by decide) rfl (fun ls hl => ?_)
                        refine lv_iload hx hb dL_law_235 (lv_at hl 10 rfl) ?_
                        refine lv_iload hx hb dL_law_237 (lv_at hl 12 rfl) ?_
                        refine lv_if_eq (tgt := 246) hx hb dL_law_239 (by decide) (fun c_239 => ?_) (fun c_239 => ?_)
                        · skip
                          replace c_239 : (decide (0 < cN u kA)) = false := bI_eq0 c_239
                          exact ((absurd (c_217.symm.trans c_239) (by decide) : False)).elim
                        · skip
                          replace c_239 : (decide (0 < cN u kA)) = true := bI_ne0 c_239
                          refine lv_iconst (v := nI 0) hx hb dL_law_242 (by decide +kernel) ?_
                          refine lv_goto (tgt := 247) hx hb dL_law_243 (by decide) ?_
                          refine q_iaddN hx hb dL_law_247 ?_
                          refine lv_istore (lv' := [(11, .int (nI (X11 + 0))), (8, .int (nI (X8 + 0))), (0, .ref b), (1, .ref h0), (2, .ref h1), (3, .int (nI tm)), (4, .int x0), (5, .long (fDig u)), (7, .int (nI (mNow u))), (9, .int X9), (10, .int X10), (12, .int (nI kA)), (13, .int (bI (decide (0 < cN u kA)))), (14, .int (nI X14)), (15, .int (nI kB))]) hx hb dL_law_248 hl (by decide) rfl (fun ls hl => ?_)
                          refine lv_iload hx hb dL_law_250 (lv_at hl 12 rfl) ?_
                          refine lv_if_eq (tgt := 259) hx hb dL_law_252 (by decide) (fun c_252 => ?_) (fun c_252 => ?_)
                          · skip
                            replace c_252 : (decide (0 < cN u kA)) = false := bI_eq0 c_252
                            exact ((absurd (c_217.symm.trans c_252) (by decide) : False)).elim
                          · skip
                            replace c_252 : (decide (0 < cN u kA)) = true := bI_ne0 c_252
                            refine lv_iconst (v := nI 0) hx hb dL_law_255 (by decide +kernel) ?_
                            refine lv_goto (tgt := 263) hx hb dL_law_256 (by decide) ?_
                            refine lv_istore (lv' := [(10, .int (nI 0)), (11, .int (nI (X11 + 0))), (8, .int (nI (X8 + 0))), (0, .ref b), (1, .ref h0), (2, .ref h1), (3, .int (nI tm)), (4, .int x0), (5, .long (fDig u)), (7, .int (nI (mNow u))), (9, .int X9), (12, .int (nI kA)), (13, .int (bI (decide (0 < cN u kA)))), (14, .int (nI X14)), (15, .int (nI kB))]) hx hb dL_law_263 hl (by decide) rfl (fun ls hl => ?_)
                            refine lv_iload hx hb dL_law_265 (lv_at hl 10 rfl) ?_
                            refine lv_iload hx hb dL_law_267 (lv_at hl 0 rfl) ?_
                            refine va_mmax hx hb (hml.trans hl.1.symm) hown (hts (.methodLink RL 128 Lib.Math.max.name) (List.mem_of_getElem? (i := 3) rfl)) (hts (.static Lib.Math.max.name) (List.mem_of_getElem? (i := 4) rfl)) (hts (.initialized "java/lang/Math") (List.mem_of_getElem? (i := 5) rfl)) (hts _ (List.mem_of_getElem? (i := 6) rfl)) (by first | exact Nat.le_of_ble_eq_true rfl | (show C ≤ 754895; omega) | (show Sl ≤ 6836784; omega)) (by first | exact Nat.le_of_ble_eq_true rfl | (show C ≤ 754895; omega) | (show Sl ≤ 6836784; omega)) (by first | exact Nat.le_of_ble_eq_true rfl | (show C ≤ 754895; omega) | (show Sl ≤ 6836784; omega)) (by first | exact Nat.le_of_ble_eq_true rfl | (show C ≤ 754895; omega) | (show Sl ≤ 6836784; omega)) dL_law_269 ?_
                            refine lv_istore (lv' := [(9, .int (if X9 < nI 0 then nI 0 else X9)), (10, .int (nI 0)), (11, .int (nI (X11 + 0))), (8, .int (nI (X8 + 0))), (0, .ref b), (1, .ref h0), (2, .ref h1), (3, .int (nI tm)), (4, .int x0), (5, .long (fDig u)), (7, .int (nI (mNow u))), (12, .int (nI kA)), (13, .int (bI (decide (0 < cN u kA)))), (14, .int (nI X14)), (15, .int (nI kB))]) hx hb dL_law_272 hl (by decide) rfl (fun ls hl => ?_)
                            refine lv_iinc (v := nI (kA + 1)) (lv' := [(12, .int (nI (kA + 1))), (9, .int (if X9 < nI 0 then nI 0 else X9)), (10, .int (nI 0)), (11, .int (nI (X11 + 0))), (8, .int (nI (X8 + 0))), (0, .ref b), (1, .ref h0), (2, .ref h1), (3, .int (nI tm)), (4, .int x0), (5, .long (fDig u)), (7, .int (nI (mNow u))), (13, .int (bI (decide (0 < cN u kA)))), (14, .int (nI X14)), (15, .int (nI kB))]) hx hb dL_law_274 hl (k := 11) rfl (nI_i1 _) (by decide) rfl (fun ls hl => ?_)
                            refine lv_goto (tgt := 109) hx hb dL_law_277 (by decide) ?_
                            exact ihA (kA + 1) (by omega) (X8 + 0) (by subst eX8; exact (ct_n (P := slB u) (decide_eq_false (fun z => by omega))).symm) (if X9 < nI 0 then nI 0 else X9) (by subst eX9 eX10; show _ = (lgF u kA (lgS u kA)).1; rw [lg_no (fun z => by have h8 := of_decide_eq_true c_217; omega)]) (nI 0) (by subst eX9 eX10; show _ = (lgF u kA (lgS u kA)).2; rw [lg_no (fun z => by have h8 := of_decide_eq_true c_217; omega)]) (X11 + 0) (by subst eX11; exact (ct_n (P := awB u) (decide_eq_false (fun z => by have h8 := of_decide_eq_true c_217; omega))).symm) _ (lv_sub hl [5, 6, 7, 8, 9, 10, 11, 4, 1, 2, 3, 0] rfl)
                      · skip
                        replace c_224 : kA < (mNow u) := nleN c_224
                        refine lv_iconst (v := nI 1) hx hb dL_law_227 (by decide +kernel) ?_
                        refine lv_goto (tgt := 232) hx hb dL_law_228 (by decide) ?_
                        refine q_iaddN hx hb dL_law_232 ?_
                        refine lv_istore (lv' := [(8, .int (nI (X8 + 1))), (0, .ref b), (1, .ref h0), (2, .ref h1), (3, .int (nI tm)), (4, .int x0), (5, .long (fDig u)), (7, .int (nI (mNow u))), (9, .int X9), (10, .int X10), (11, .int (nI X11)), (12, .int (nI kA)), (13, .int (bI (decide (0 < cN u kA)))), (14, .int (nI X14)), (15, .int (nI kB))]) hx hb dL_law_233 hl (by decide) rfl (fun ls hl => ?_)
                        refine lv_iload hx hb dL_law_235 (lv_at hl 10 rfl) ?_
                        refine lv_iload hx hb dL_law_237 (lv_at hl 12 rfl) ?_
                        refine lv_if_eq (tgt := 246) hx hb dL_law_239 (by decide) (fun c_239 => ?_) (fun c_239 => ?_)
                        · skip
                          replace c_239 : (decide (0 < cN u kA)) = false := bI_eq0 c_239
                          exact ((absurd (c_217.symm.trans c_239) (by decide) : False)).elim
                        · skip
                          replace c_239 : (decide (0 < cN u kA)) = true := bI_ne0 c_239
                          refine lv_iconst (v := nI 0) hx hb dL_law_242 (by decide +kernel) ?_
                          refine lv_goto (tgt := 247) hx hb dL_law_243 (by decide) ?_
                          refine q_iaddN hx hb dL_law_247 ?_
                          refine lv_istore (lv' := [(11, .int (nI (X11 + 0))), (8, .int (nI (X8 + 1))), (0, .ref b), (1, .ref h0), (2, .ref h1), (3, .int (nI tm)), (4, .int x0), (5, .long (fDig u)), (7, .int (nI (mNow u))), (9, .int X9), (10, .int X10), (12, .int (nI kA)), (13, .int (bI (decide (0 < cN u kA)))), (14, .int (nI X14)), (15, .int (nI kB))]) hx hb dL_law_248 hl (by decide) rfl (fun ls hl => ?_)
                          refine lv_iload hx hb dL_law_250 (lv_at hl 12 rfl) ?_
                          refine lv_if_eq (tgt := 259) hx hb dL_law_252 (by decide) (fun c_252 => ?_) (fun c_252 => ?_)
                          · skip
                            replace c_252 : (decide (0 < cN u kA)) = false := bI_eq0 c_252
                            exact ((absurd (c_217.symm.trans c_252) (by decide) : False)).elim
                          · skip
                            replace c_252 : (decide (0 < cN u kA)) = true := bI_ne0 c_252
                            refine lv_iconst (v := nI 0) hx hb dL_law_255 (by decide +kernel) ?_
                            refine lv_goto (tgt := 263) hx hb dL_law_256 (by decide) ?_
                            refine lv_istore (lv' := [(10, .int (nI 0)), (11, .int (nI (X11 + 0))), (8, .int (nI (X8 + 1))), (0, .ref b), (1, .ref h0), (2, .ref h1), (3, .int (nI tm)), (4, .int x0), (5, .long (fDig u)), (7, .int (nI (mNow u))), (9, .int X9), (12, .int (nI kA)), (13, .int (bI (decide (0 < cN u kA)))), (14, .int (nI X14)), (15, .int (nI kB))]) hx hb dL_law_263 hl (by decide) rfl (fun ls hl => ?_)
                            refine lv_iload hx hb dL_law_265 (lv_at hl 10 rfl) ?_
                            refine lv_iload hx hb dL_law_267 (lv_at hl 0 rfl) ?_
                            refine va_mmax hx hb (hml.trans hl.1.symm) hown (hts (.methodLink RL 128 Lib.Math.max.name) (List.mem_of_getElem? (i := 3) rfl)) (hts (.static Lib.Math.max.name) (List.mem_of_getElem? (i := 4) rfl)) (hts (.initialized "java/lang/Math") (List.mem_of_getElem? (i := 5) rfl)) (hts _ (List.mem_of_getElem? (i := 6) rfl)) (by first | exact Nat.le_of_ble_eq_true rfl | (show C ≤ 754895; omega) | (show Sl ≤ 6836784; omega)) (by first | exact Nat.le_of_ble_eq_true rfl | (show C ≤ 754895; omega) | (show Sl ≤ 6836784; omega)) (by first | exact Nat.le_of_ble_eq_true rfl | (show C ≤ 754895; omega) | (show Sl ≤ 6836784; omega)) (by first | exact Nat.le_of_ble_eq_true rfl | (show C ≤ 754895; omega) | (show Sl ≤ 6836784; omega)) dL_law_269 ?_
                            refine lv_istore (lv' := [(9, .int (if X9 < nI 0 then nI 0 else X9)), (10, .int (nI 0)), (11, .int (nI (X11 + 0))), (8, .int (nI (X8 + 1))), (0, .ref b), (1, .ref h0), (2, .ref h1), (3, .int (nI tm)), (4, .int x0), (5, .long (fDig u)), (7, .int (nI (mNow u))), (12, .int (nI kA)), (13, .int (bI (decide (0 < cN u kA)))), (14, .int (nI X14)), (15, .int (nI kB))]) hx hb dL_law_272 hl (by decide) rfl (fun ls hl => ?_)
                            refine lv_iinc (v := nI (kA + 1)) (lv' := [(12, .int (nI (kA + 1))), (9, .int (if X9 < nI 0 then nI 0 else X9)), (10, .int (nI 0)), (11, .int (nI (X11 + 0))), (8, .int (nI (X8 + 1))), (0, .ref b), (1, .ref h0), (2, .ref h1), (3, .int (nI tm)), (4, .int x0), (5, .long (fDig u)), (7, .int (nI (mNow u))), (13, .int (bI (decide (0 < cN u kA)))), (14, .int (nI X14)), (15, .int (nI kB))]) hx hb dL_law_274 hl (k := 11) rfl (nI_i1 _) (by decide) rfl (fun ls hl => ?_)
                            refine lv_goto (tgt := 109) hx hb dL_law_277 (by decide) ?_
                            exact ihA (kA + 1) (by omega) (X8 + 1) (by subst eX8; exact (ct_y (P := slB u) (decide_eq_true ⟨of_decide_eq_true c_217, c_224⟩)).symm) (if X9 < nI 0 then nI 0 else X9) (by subst eX9 eX10; show _ = (lgF u kA (lgS u kA)).1; rw [lg_no (fun z => by have h8 := of_decide_eq_true c_217; omega)]) (nI 0) (by subst eX9 eX10; show _ = (lgF u kA (lgS u kA)).2; rw [lg_no (fun z => by have h8 := of_decide_eq_true c_217; omega)]) (X11 + 0) (by subst eX11; exact (ct_n (P := awB u) (decide_eq_false (fun z => by have h8 := of_decide_eq_true c_217; omega))).symm) _ (lv_sub hl [5, 6, 7, 8, 9, 10, 11, 4, 1, 2, 3, 0] rfl)
                  · skip
                    exact (c_208 (by rw [decide_eq_false (show ¬ 0 < cN u kA by omega)]; rfl)).elim
                · skip
                  replace c_200 : 0 < X14 := nleN c_200
                  refine lv_iconst (v := nI 1) hx hb dL_law_203 (by decide +kernel) ?_
                  refine lv_goto (tgt := 208) hx hb dL_law_204 (by decide) ?_
                  refine lv_icmp_eq (tgt := 213) hx hb dL_law_208 (by decide) (fun c_208 => ?_) (fun c_208 => ?_)
                  · skip
                    refine lv_iload hx hb dL_law_213 (lv_at hl 7 rfl) ?_
                    refine lv_iload hx hb dL_law_215 (lv_at hl 12 rfl) ?_
                    refine lv_if_eq (tgt := 231) hx hb dL_law_217 (by decide) (fun c_217 => ?_) (fun c_217 => ?_)
                    · skip
                      replace c_217 : (decide (0 < cN u kA)) = false := bI_eq0 c_217
                      refine lv_iconst (v := nI 0) hx hb dL_law_231 (by decide +kernel) ?_
                      refine q_iaddN hx hb dL_law_232 ?_
                      refine lv_istore (lv' := [(8, .int (nI (X8 + 0))), (0, .ref b), (1, .ref h0), (2, .ref h1), (3, .int (nI tm)), (4, .int x0), (5, .long (fDig u)), (7, .int (nI (mNow u))), (9, .int X9), (10, .int X10), (11, .int (nI X11)), (12, .int (nI kA)), (13, .int (bI (decide (0 < cN u kA)))), (14, .int (nI X14)), (15, .int (nI kB))]) hx hb dL_law_233 hl (by decide) rfl (fun ls hl => ?_)
                      refine lv_iload hx hb dL_law_235 (lv_at hl 10 rfl) ?_
                      refine lv_iload hx hb dL_law_237 (lv_at hl 12 rfl) ?_
                      refine lv_if_eq (tgt := 246) hx hb dL_law_239 (by decide) (fun c_239 => ?_) (fun c_239 => ?_)
                      · skip
                        replace c_239 : (decide (0 < cN u kA)) = false := bI_eq0 c_239
                        refine lv_iconst (v := nI 1) hx hb dL_law_246 (by decide +kernel) ?_
                        refine q_iaddN hx hb dL_law_247 ?_
                        refine lv_istore (lv' := [(11, .int (nI (X11 + 1))), (8, .int (nI (X8 + 0))), (0, .ref b), (1, .ref h0), (2, .ref h1), (3, .int (nI tm)), (4, .int x0), (5, .long (fDig u)), (7, .int (nI (mNow u))), (9, .int X9), (10, .int X10), (12, .int (nI kA)), (13, .int (bI (decide (0 < cN u kA)))), (14, .int (nI X14)), (15, .int (nI kB))]) hx hb dL_law_248 hl (by decide) rfl (fun ls hl => ?_)
                        refine lv_iload hx hb dL_law_250 (lv_at hl 12 rfl) ?_
                        refine lv_if_eq (tgt := 259) hx hb dL_law_252 (by decide) (fun c_252 => ?_) (fun c_252 => ?_)
                        · skip
                          replace c_252 : (decide (0 < cN u kA)) = false := bI_eq0 c_252
                          refine lv_iload hx hb dL_law_259 (lv_at hl 10 rfl) ?_
                          refine lv_iconst (v := nI 1) hx hb dL_law_261 (by decide +kernel) ?_
                          refine lv_iadd hx hb dL_law_262 ?_
                          refine lv_istore (lv' := [(10, .int (X10 + (nI 1))), (11, .int (nI (X11 + 1))), (8, .int (nI (X8 + 0))), (0, .ref b), (1, .ref h0), (2, .ref h1), (3, .int (nI tm)), (4, .int x0), (5, .long (fDig u)), (7, .int (nI (mNow u))), (9, .int X9), (12, .int (nI kA)), (13, .int (bI (decide (0 < cN u kA)))), (14, .int (nI X14)), (15, .int (nI kB))]) hx hb dL_law_263 hl (by decide) rfl (fun ls hl => ?_)
                          refine lv_iload hx hb dL_law_265 (lv_at hl 10 rfl) ?_
                          refine lv_iload hx hb dL_law_267 (lv_at hl 0 rfl) ?_
                          refine va_mmax hx hb (hml.trans hl.1.symm) hown (hts (.methodLink RL 128 Lib.Math.max.name) (List.mem_of_getElem? (i := 3) rfl)) (hts (.static Lib.Math.max.name) (List.mem_of_getElem? (i := 4) rfl)) (hts (.initialized "java/lang/Math") (List.mem_of_getElem? (i := 5) rfl)) (hts _ (List.mem_of_getElem? (i := 6) rfl)) (by first | exact Nat.le_of_ble_eq_true rfl | (show C ≤ 754895; omega) | (show Sl ≤ 6836784; omega)) (by first | exact Nat.le_of_ble_eq_true rfl | (show C ≤ 754895; omega) | (show Sl ≤ 6836784; omega)) (by first | exact Nat.le_of_ble_eq_true rfl | (show C ≤ 754895; omega) | (show Sl ≤ 6836784; omega)) (by first | exact Nat.le_of_ble_eq_true rfl | (show C ≤ 754895; omega) | (show Sl ≤ 6836784; omega)) dL_law_269 ?_
                          refine lv_istore (lv' := [(9, .int (if X9 < X10 + (nI 1) then X10 + (nI 1) else X9)), (10, .int (X10 + (nI 1))), (11, .int (nI (X11 + 1))), (8, .int (nI (X8 + 0))), (0, .ref b), (1, .ref h0), (2, .ref h1), (3, .int (nI tm)), (4, .int x0), (5, .long (fDig u)), (7, .int (nI (mNow u))), (12, .int (nI kA)), (13, .int (bI (decide (0 < cN u kA)))), (14, .int (nI X14)), (15, .int (nI kB))]) hx hb dL_law_272 hl (by decide) rfl (fun ls hl => ?_)
                          refine lv_iinc (v := nI (kA + 1)) (lv' := [(12, .int (nI (kA + 1))), (9, .int (if X9 < X10 + (nI 1) then X10 + (nI 1) else X9)), (10, .int (X10 + (nI 1))), (11, .int (nI (X11 + 1))), (8, .int (nI (X8 + 0))), (0, .ref b), (1, .ref h0), (2, .ref h1), (3, .int (nI tm)), (4, .int x0), (5, .long (fDig u)), (7, .int (nI (mNow u))), (13, .int (bI (decide (0 < cN u kA)))), (14, .int (nI X14)), (15, .int (nI kB))]) hx hb dL_law_274 hl (k := 11) rfl (nI_i1 _) (by decide) rfl (fun ls hl => ?_)
                          refine lv_goto (tgt := 109) hx hb dL_law_277 (by decide) ?_
                          exact ihA (kA + 1) (by omega) (X8 + 0) (by subst eX8; exact (ct_n (P := slB u) (decide_eq_false (fun z => by have h8 := of_decide_eq_false c_217; omega))).symm) (if X9 < X10 + (nI 1) then X10 + (nI 1) else X9) (by subst eX9 eX10; show _ = (lgF u kA (lgS u kA)).1; rw [lg_yes (by have h8 := of_decide_eq_false c_217; omega)]) (X10 + (nI 1)) (by subst eX9 eX10; show _ = (lgF u kA (lgS u kA)).2; rw [lg_yes (by have h8 := of_decide_eq_false c_217; omega)]) (X11 + 1) (by subst eX11; exact (ct_y (P := awB u) (decide_eq_true (by have h8 := of_decide_eq_false c_217; omega))).symm) _ (lv_sub hl [5, 6, 7, 8, 9, 10, 11, 4, 1, 2, 3, 0] rfl)
                        · skip
                          replace c_252 : (decide (0 < cN u kA)) = true := bI_ne0 c_252
                          exact ((absurd (c_217.symm.trans c_252) (by decide) : False)).elim
                      · skip
                        replace c_239 : (decide (0 < cN u kA)) = true := bI_ne0 c_239
                        exact ((absurd (c_217.symm.trans c_239) (by decide) : False)).elim
                    · skip
                      replace c_217 : (decide (0 < cN u kA)) = true := bI_ne0 c_217
                      refine lv_iload hx hb dL_law_220 (lv_at hl 11 rfl) ?_
                      refine lv_iload hx hb dL_law_222 (lv_at hl 6 rfl) ?_
                      refine lv_icmp_ge (tgt := 231) hx hb dL_law_224 (by decide) (fun c_224 => ?_) (fun c_224 => ?_)
                      · skip
                        replace c_224 : (mNow u) ≤ kA := leN c_224
                        refine lv_iconst (v := nI 0) hx hb dL_law_231 (by decide +kernel) ?_
                        refine q_iaddN hx hb dL_law_232 ?_
                        refine lv_istore (lv' := [(8, .int (nI (X8 + 0))), (0, .ref b), (1, .ref h0), (2, .ref h1), (3, .int (nI tm)), (4, .int x0), (5, .long (fDig u)), (7, .int (nI (mNow u))), (9, .int X9), (10, .int X10), (11, .int (nI X11)), (12, .int (nI kA)), (13, .int (bI (decide (0 < cN u kA)))), (14, .int (nI X14)), (15, .int (nI kB))]) hx hb dL_law_233 hl (by decide) rfl (fun ls hl => ?_)
                        refine lv_iload hx hb dL_law_235 (lv_at hl 10 rfl) ?_
                        refine lv_iload hx hb dL_law_237 (lv_at hl 12 rfl) ?_
                        refine lv_if_eq (tgt := 246) hx hb dL_law_239 (by decide) (fun c_239 => ?_) (fun c_239 => ?_)
                        · skip
                          replace c_239 : (decide (0 < cN u kA)) = false := bI_eq0 c_239
                          exact ((absurd (c_217.symm.trans c_239) (by decide) : False)).elim
                        · skip
                          replace c_239 : (decide (0 < cN u kA)) = true := bI_ne0 c_239
                          refine lv_iconst (v := nI 0) hx hb dL_law_242 (by decide +kernel) ?_
                          refine lv_goto (tgt := 247) hx hb dL_law_243 (by decide) ?_
                          refine q_iaddN hx hb dL_law_247 ?_
                          refine lv_istore (lv' := [(11, .int (nI (X11 + 0))), (8, .int (nI (X8 + 0))), (0, .ref b), (1, .ref h0), (2, .ref h1), (3, .int (nI tm)), (4, .int x0), (5, .long (fDig u)), (7, .int (nI (mNow u))), (9, .int X9), (10, .int X10), (12, .int (nI kA)), (13, .int (bI (decide (0 < cN u kA)))), (14, .int (nI X14)), (15, .int (nI kB))]) hx hb dL_law_248 hl (by decide) rfl (fun ls hl => ?_)
                          refine lv_iload hx hb dL_law_250 (lv_at hl 12 rfl) ?_
                          refine lv_if_eq (tgt := 259) hx hb dL_law_252 (by decide) (fun c_252 => ?_) (fun c_252 => ?_)
                          · skip
                            replace c_252 : (decide (0 < cN u kA)) = false := bI_eq0 c_252
                            exact ((absurd (c_217.symm.trans c_252) (by decide) : False)).elim
                          · skip
                            replace c_252 : (decide (0 < cN u kA)) = true := bI_ne0 c_252
                            refine lv_iconst (v := nI 0) hx hb dL_law_255 (by decide +kernel) ?_
                            refine lv_goto (tgt := 263) hx hb dL_law_256 (by decide) ?_
                            refine lv_istore (lv' := [(10, .int (nI 0)), (11, .int (nI (X11 + 0))), (8, .int (nI (X8 + 0))), (0, .ref b), (1, .ref h0), (2, .ref h1), (3, .int (nI tm)), (4, .int x0), (5, .long (fDig u)), (7, .int (nI (mNow u))), (9, .int X9), (12, .int (nI kA)), (13, .int (bI (decide (0 < cN u kA)))), (14, .int (nI X14)), (15, .int (nI kB))]) hx hb dL_law_263 hl (by decide) rfl (fun ls hl => ?_)
                            refine lv_iload hx hb dL_law_265 (lv_at hl 10 rfl) ?_
                            refine lv_iload hx hb dL_law_267 (lv_at hl 0 rfl) ?_
                            refine va_mmax hx hb (hml.trans hl.1.symm) hown (hts (.methodLink RL 128 Lib.Math.max.name) (List.mem_of_getElem? (i := 3) rfl)) (hts (.static Lib.Math.max.name) (List.mem_of_getElem? (i := 4) rfl)) (hts (.initialized "java/lang/Math") (List.mem_of_getElem? (i := 5) rfl)) (hts _ (List.mem_of_getElem? (i := 6) rfl)) (by first | exact Nat.le_of_ble_eq_true rfl | (show C ≤ 754895; omega) | (show Sl ≤ 6836784; omega)) (by first | exact Nat.le_of_ble_eq_true rfl | (show C ≤ 754895; omega) | (show Sl ≤ 6836784; omega)) (by first | exact Nat.le_of_ble_eq_true rfl | (show C ≤ 754895; omega) | (show Sl ≤ 6836784; omega)) (by first | exact Nat.le_of_ble_eq_true rfl | (show C ≤ 754895; omega) | (show Sl ≤ 6836784; omega)) dL_law_269 ?_
                            refine lv_istore (lv' := [(9, .int (if X9 < nI 0 then nI 0 else X9)), (10, .int (nI 0)), (11, .int (nI (X11 + 0))), (8, .int (nI (X8 + 0))), (0, .ref b), (1, .ref h0), (2, .ref h1), (3, .int (nI tm)), (4, .int x0), (5, .long (fDig u)), (7, .int (nI (mNow u))), (12, .int (nI kA)), (13, .int (bI (decide (0 < cN u kA)))), (14, .int (nI X14)), (15, .int (nI kB))]) hx hb dL_law_272 hl (by decide) rfl (fun ls hl => ?_)
                            refine lv_iinc (v := nI (kA + 1)) (lv' := [(12, .int (nI (kA + 1))), (9, .int (if X9 < nI 0 then nI 0 else X9)), (10, .int (nI 0)), (11, .int (nI (X11 + 0))), (8, .int (nI (X8 + 0))), (0, .ref b), (1, .ref h0), (2, .ref h1), (3, .int (nI tm)), (4, .int x0), (5, .long (fDig u)), (7, .int (nI (mNow u))), (13, .int (bI (decide (0 < cN u kA)))), (14, .int (nI X14)), (15, .int (nI kB))]) hx hb dL_law_274 hl (k := 11) rfl (nI_i1 _) (by decide) rfl (fun ls hl => ?_)
                            refine lv_goto (tgt := 109) hx hb dL_law_277 (by decide) ?_
                            exact ihA (kA + 1) (by omega) (X8 + 0) (by subst eX8; exact (ct_n (P := slB u) (decide_eq_false (fun z => by omega))).symm) (if X9 < nI 0 then nI 0 else X9) (by subst eX9 eX10; show _ = (lgF u kA (lgS u kA)).1; rw [lg_no (fun z => by have h8 := of_decide_eq_true c_217; omega)]) (nI 0) (by subst eX9 eX10; show _ = (lgF u kA (lgS u kA)).2; rw [lg_no (fun z => by have h8 := of_decide_eq_true c_217; omega)]) (X11 + 0) (by subst eX11; exact (ct_n (P := awB u) (decide_eq_false (fun z => by have h8 := of_decide_eq_true c_217; omega))).symm) _ (lv_sub hl [5, 6, 7, 8, 9, 10, 11, 4, 1, 2, 3, 0] rfl)
                      · skip
                        replace c_224 : kA < (mNow u) := nleN c_224
                        refine lv_iconst (v := nI 1) hx hb dL_law_227 (by decide +kernel) ?_
                        refine lv_goto (tgt := 232) hx hb dL_law_228 (by decide) ?_
                        refine q_iaddN hx hb dL_law_232 ?_
                        refine lv_istore (lv' := [(8, .int (nI (X8 + 1))), (0, .ref b), (1, .ref h0), (2, .ref h1), (3, .int (nI tm)), (4, .int x0), (5, .long (fDig u)), (7, .int (nI (mNow u))), (9, .int X9), (10, .int X10), (11, .int (nI X11)), (12, .int (nI kA)), (13, .int (bI (decide (0 < cN u kA)))), (14, .int (nI X14)), (15, .int (nI kB))]) hx hb dL_law_233 hl (by decide) rfl (fun ls hl => ?_)
                        refine lv_iload hx hb dL_law_235 (lv_at hl 10 rfl) ?_
                        refine lv_iload hx hb dL_law_237 (lv_at hl 12 rfl) ?_
                        refine lv_if_eq (tgt := 246) hx hb dL_law_239 (by decide) (fun c_239 => ?_) (fun c_239 => ?_)
                        · skip
                          replace c_239 : (decide (0 < cN u kA)) = false := bI_eq0 c_239
                          exact ((absurd (c_217.symm.trans c_239) (by decide) : False)).elim
                        · skip
                          replace c_239 : (decide (0 < cN u kA)) = true := bI_ne0 c_239
                          refine lv_iconst (v := nI 0) hx hb dL_law_242 (by decide +kernel) ?_
                          refine lv_goto (tgt := 247) hx hb dL_law_243 (by decide) ?_
                          refine q_iaddN hx hb dL_law_247 ?_
                          refine lv_istore (lv' := [(11, .int (nI (X11 + 0))), (8, .int (nI (X8 + 1))), (0, .ref b), (1, .ref h0), (2, .ref h1), (3, .int (nI tm)), (4, .int x0), (5, .long (fDig u)), (7, .int (nI (mNow u))), (9, .int X9), (10, .int X10), (12, .int (nI kA)), (13, .int (bI (decide (0 < cN u kA)))), (14, .int (nI X14)), (15, .int (nI kB))]) hx hb dL_law_248 hl (by decide) rfl (fun ls hl => ?_)
                          refine lv_iload hx hb dL_law_250 (lv_at hl 12 rfl) ?_
                          refine lv_if_eq (tgt := 259) hx hb dL_law_252 (by decide) (fun c_252 => ?_) (fun c_252 => ?_)
                          · skip
                            replace c_252 : (decide (0 < cN u kA)) = false := bI_eq0 c_252
                            exact ((absurd (c_217.symm.trans c_252) (by decide) : False)).elim
                          · skip
                            replace c_252 : (decide (0 < cN u kA)) = true := bI_ne0 c_252
                            refine lv_iconst (v := nI 0) hx hb dL_law_255 (by decide +kernel) ?_
                            refine lv_goto (tgt := 263) hx hb dL_law_256 (by decide) ?_
                            refine lv_istore (lv' := [(10, .int (nI 0)), (11, .int (nI (X11 + 0))), (8, .int (nI (X8 + 1))), (0, .ref b), (1, .ref h0), (2, .ref h1), (3, .int (nI tm)), (4, .int x0), (5, .long (fDig u)), (7, .int (nI (mNow u))), (9, .int X9), (12, .int (nI kA)), (13, .int (bI (decide (0 < cN u kA)))), (14, .int (nI X14)), (15, .int (nI kB))]) hx hb dL_law_263 hl (by decide) rfl (fun ls hl => ?_)
                            refine lv_iload hx hb dL_law_265 (lv_at hl 10 rfl) ?_
                            refine lv_iload hx hb dL_law_267 (lv_at hl 0 rfl) ?_
                            refine va_mmax hx hb (hml.trans hl.1.symm) hown (hts (.methodLink RL 128 Lib.Math.max.name) (List.mem_of_getElem? (i := 3) rfl)) (hts (.static Lib.Math.max.name) (List.mem_of_getElem? (i := 4) rfl)) (hts (.initialized "java/lang/Math") (List.mem_of_getElem? (i := 5) rfl)) (hts _ (List.mem_of_getElem? (i := 6) rfl)) (by first | exact Nat.le_of_ble_eq_true rfl | (show C ≤ 754895; omega) | (show Sl ≤ 6836784; omega)) (by first | exact Nat.le_of_ble_eq_true rfl | (show C ≤ 754895; omega) | (show Sl ≤ 6836784; omega)) (by first | exact Nat.le_of_ble_eq_true rfl | (show C ≤ 754895; omega) | (show Sl ≤ 6836784; omega)) (by first | exact Nat.le_of_ble_eq_true rfl | (show C ≤ 754895; omega) | (show Sl ≤ 6836784; omega)) dL_law_269 ?_
                            refine lv_istore (lv' := [(9, .int (if X9 < nI 0 then nI 0 else X9)), (10, .int (nI 0)), (11, .int (nI (X11 + 0))), (8, .int (nI (X8 + 1))), (0, .ref b), (1, .ref h0), (2, .ref h1), (3, .int (nI tm)), (4, .int x0), (5, .long (fDig u)), (7, .int (nI (mNow u))), (12, .int (nI kA)), (13, .int (bI (decide (0 < cN u kA)))), (14, .int (nI X14)), (15, .int (nI kB))]) hx hb dL_law_272 hl (by decide) rfl (fun ls hl => ?_)
                            refine lv_iinc (v := nI (kA + 1)) (lv' := [(12, .int (nI (kA + 1))), (9, .int (if X9 < nI 0 then nI 0 else X9)), (10, .int (nI 0)), (11, .int (nI (X11 + 0))), (8, .int (nI (X8 + 1))), (0, .ref b), (1, .ref h0), (2, .ref h1), (3, .int (nI tm)), (4, .int x0), (5, .long (fDig u)), (7, .int (nI (mNow u))), (13, .int (bI (decide (0 < cN u kA)))), (14, .int (nI X14)), (15, .int (nI kB))]) hx hb dL_law_274 hl (k := 11) rfl (nI_i1 _) (by decide) rfl (fun ls hl => ?_)
                            refine lv_goto (tgt := 109) hx hb dL_law_277 (by decide) ?_
                            exact ihA (kA + 1) (by omega) (X8 + 1) (by subst eX8; exact (ct_y (P := slB u) (decide_eq_true ⟨of_decide_eq_true c_217, c_224⟩)).symm) (if X9 < nI 0 then nI 0 else X9) (by subst eX9 eX10; show _ = (lgF u kA (lgS u kA)).1; rw [lg_no (fun z => by have h8 := of_decide_eq_true c_217; omega)]) (nI 0) (by subst eX9 eX10; show _ = (lgF u kA (lgS u kA)).2; rw [lg_no (fun z => by have h8 := of_decide_eq_true c_217; omega)]) (X11 + 0) (by subst eX11; exact (ct_n (P := awB u) (decide_eq_false (fun z => by have h8 := of_decide_eq_true c_217; omega))).symm) _ (lv_sub hl [5, 6, 7, 8, 9, 10, 11, 4, 1, 2, 3, 0] rfl)
                  · skip
                    exact (c_208 (by rw [decide_eq_true (show 0 < cN u kA by omega)]; rfl)).elim
            · skip
              replace c_137 : kB < (mNc u) := nleN c_137
              exact (by omega : False).elim
          | succ nB ihB =>
            intro kB hkB X14 eX14 ls hl
            refine lv_iload hx hb dL_law_131 (lv_at hl 14 rfl) ?_
            refine lv_aload_n hx hb dL_law_133 rfl (lv_at hl 1 rfl) ?_
            refine vp_callSi (W.runV (As := []) (rest := [.int (nI kB)]) ⟨hx, hb, hml, hown, hts⟩ (c_X0_naps l D cI h0 a0 u on ) (cwV 0 hts gL_law_X0_naps rfl rfl rfl (by decide +kernel) ⟨Nat.le_of_ble_eq_true rfl, Nat.le_of_ble_eq_true rfl⟩) (pu_pre (hK.sub (tys' := [(cI, .int)]) [0] rfl) (hP.sub (ws' := pic0 cI h0 a0 u on) [0, 1, 2, 3, 4, 5, 6, 7] rfl) rfl rfl) rfl rfl hl.1 rfl (lv_room (Nat.le_of_ble_eq_true rfl)) dL_law_134 ⟨show C + 0 ≤ 754895 by omega, show Sl + 0 ≤ 6836784 by omega⟩) (fun r hr9 => ?_)
            subst hr9
            refine lv_icmp_ge (tgt := 185) hx hb dL_law_137 (by decide) (fun c_137 => ?_) (fun c_137 => ?_)
            · skip
              replace c_137 : (mNc u) ≤ kB := leN c_137
              exact (by omega : False).elim
            · skip
              replace c_137 : kB < (mNc u) := nleN c_137
              refine lv_iload hx hb dL_law_140 (lv_at hl 13 rfl) ?_
              refine lv_iload hx hb dL_law_142 (lv_at hl 11 rfl) ?_
              refine lv_aload_n hx hb dL_law_144 rfl (lv_at hl 1 rfl) ?_
              refine lv_iload hx hb dL_law_145 (lv_at hl 14 rfl) ?_
              refine vp_callSi (W.runV (As := [.int (nI kB)]) (rest := [.int (nI kA), .int (nI X14)]) ⟨hx, hb, hml, hown, hts⟩ (c_X0_startOf l D cI h0 a0 u on kB hI (by omega)) (cwV 1 hts gL_law_X0_startOf rfl rfl rfl (by decide +kernel) ⟨Nat.le_of_ble_eq_true rfl, Nat.le_of_ble_eq_true rfl⟩) (pu_pre (hK.sub (tys' := [(cI, .int)]) [0] rfl) (hP.sub (ws' := pic0 cI h0 a0 u on) [0, 1, 2, 3, 4, 5, 6, 7] rfl) rfl rfl) rfl rfl hl.1 rfl (lv_room (Nat.le_of_ble_eq_true rfl)) dL_law_147 ⟨show C + 0 ≤ 754895 by omega, show Sl + 0 ≤ 6836784 by omega⟩) (fun r hr9 => ?_)
              subst hr9
              obtain ⟨_, _, _, _⟩ := hIg kB (by omega)
              refine lv_icmp_lt (tgt := 175) hx hb dL_law_150 (by decide) (fun c_150 => ?_) (fun c_150 => ?_)
              · skip
                replace c_150 : kA < (aN u kB) := ltN c_150
                refine lv_iconst (v := nI 0) hx hb dL_law_175 (by decide +kernel) ?_
                refine q_iaddN hx hb dL_law_176 ?_
                refine lv_istore (lv' := [(14, .int (nI (X14 + 0))), (0, .ref b), (1, .ref h0), (2, .ref h1), (3, .int (nI tm)), (4, .int x0), (5, .long (fDig u)), (7, .int (nI (mNow u))), (8, .int (nI X8)), (9, .int X9), (10, .int X10), (11, .int (nI X11)), (12, .int (nI kA)), (13, .int (bI (decide (0 < cN u kA)))), (15, .int (nI kB))]) hx hb dL_law_177 hl (by decide) rfl (fun ls hl => ?_)
                refine lv_iinc (v := nI (kB + 1)) (lv' := [(15, .int (nI (kB + 1))), (14, .int (nI (X14 + 0))), (0, .ref b), (1, .ref h0), (2, .ref h1), (3, .int (nI tm)), (4, .int x0), (5, .long (fDig u)), (7, .int (nI (mNow u))), (8, .int (nI X8)), (9, .int X9), (10, .int X10), (11, .int (nI X11)), (12, .int (nI kA)), (13, .int (bI (decide (0 < cN u kA))))]) hx hb dL_law_179 hl (k := 14) rfl (nI_i1 _) (by decide) rfl (fun ls hl => ?_)
                refine lv_goto (tgt := 131) hx hb dL_law_182 (by decide) ?_
                exact ihB (kB + 1) (by omega) (X14 + 0) (by subst eX14; exact (ct_n (P := fun n9 => cvB u n9 kA) (decide_eq_false (fun z => by omega))).symm) _ (lv_sub hl [2, 3, 4, 5, 6, 7, 8, 9, 10, 11, 12, 13, 14, 1, 0] rfl)
              · skip
                replace c_150 : (aN u kB) ≤ kA := nltN c_150
                refine lv_iload hx hb dL_law_153 (lv_at hl 11 rfl) ?_
                refine lv_aload_n hx hb dL_law_155 rfl (lv_at hl 1 rfl) ?_
                refine lv_iload hx hb dL_law_156 (lv_at hl 14 rfl) ?_
                refine vp_callSi (W.runV (As := [.int (nI kB)]) (rest := [.int (nI kA), .int (nI X14)]) ⟨hx, hb, hml, hown, hts⟩ (c_X0_startOf l D cI h0 a0 u on kB hI (by omega)) (cwV 1 hts gL_law_X0_startOf rfl rfl rfl (by decide +kernel) ⟨Nat.le_of_ble_eq_true rfl, Nat.le_of_ble_eq_true rfl⟩) (pu_pre (hK.sub (tys' := [(cI, .int)]) [0] rfl) (hP.sub (ws' := pic0 cI h0 a0 u on) [0, 1, 2, 3, 4, 5, 6, 7] rfl) rfl rfl) rfl rfl hl.1 rfl (lv_room (Nat.le_of_ble_eq_true rfl)) dL_law_158 ⟨show C + 0 ≤ 754895 by omega, show Sl + 0 ≤ 6836784 by omega⟩) (fun r hr9 => ?_)
                subst hr9
                obtain ⟨_, _, _, _⟩ := hIg kB (by omega)
                refine lv_aload_n hx hb dL_law_161 rfl (lv_at hl 1 rfl) ?_
                refine lv_iload hx hb dL_law_162 (lv_at hl 14 rfl) ?_
                refine vp_callSi (W.runV (As := [.int (nI kB)]) (rest := [.int (nI (aN u kB)), .int (nI kA), .int (nI X14)]) ⟨hx, hb, hml, hown, hts⟩ (c_X0_lengthOf l D cI h0 a0 u on kB hI (by omega)) (cwV 1 hts gL_law_X0_lengthOf rfl rfl rfl (by decide +kernel) ⟨Nat.le_of_ble_eq_true rfl, Nat.le_of_ble_eq_true rfl⟩) (pu_pre (hK.sub (tys' := [(cI, .int)]) [0] rfl) (hP.sub (ws' := pic0 cI h0 a0 u on) [0, 1, 2, 3, 4, 5, 6, 7] rfl) rfl rfl) rfl rfl hl.1 rfl (lv_room (Nat.le_of_ble_eq_true rfl)) dL_law_164 ⟨show C + 0 ≤ 754895 by omega, show Sl + 0 ≤ 6836784 by omega⟩) (fun r hr9 => ?_)
                subst hr9
                obtain ⟨_, _, _, _⟩ := hIg kB (by omega)
                refine q_iaddN hx hb dL_law_167 ?_
                refine lv_icmp_ge (tgt := 175) hx hb dL_law_168 (by decide) (fun c_168 => ?_) (fun c_168 => ?_)
                · skip
                  replace c_168 : ((aN u kB) + (bN u kB - aN u kB)) ≤ kA := leN c_168
                  refine lv_iconst (v := nI 0) hx hb dL_law_175 (by decide +kernel) ?_
                  refine q_iaddN hx hb dL_law_176 ?_
                  refine lv_istore (lv' := [(14, .int (nI (X14 + 0))), (0, .ref b), (1, .ref h0), (2, .ref h1), (3, .int (nI tm)), (4, .int x0), (5, .long (fDig u)), (7, .int (nI (mNow u))), (8, .int (nI X8)), (9, .int X9), (10, .int X10), (11, .int (nI X11)), (12, .int (nI kA)), (13, .int (bI (decide (0 < cN u kA)))), (15, .int (nI kB))]) hx hb dL_law_177 hl (by decide) rfl (fun ls hl => ?_)
                  refine lv_iinc (v := nI (kB + 1)) (lv' := [(15, .int (nI (kB + 1))), (14, .int (nI (X14 + 0))), (0, .ref b), (1, .ref h0), (2, .ref h1), (3, .int (nI tm)), (4, .int x0), (5, .long (fDig u)), (7, .int (nI (mNow u))), (8, .int (nI X8)), (9, .int X9), (10, .int X10), (11, .int (nI X11)), (12, .int (nI kA)), (13, .int (bI (decide (0 < cN u kA))))]) hx hb dL_law_179 hl (k := 14) rfl (nI_i1 _) (by decide) rfl (fun ls hl => ?_)
                  refine lv_goto (tgt := 131) hx hb dL_law_182 (by decide) ?_
                  exact ihB (kB + 1) (by omega) (X14 + 0) (by subst eX14; exact (ct_n (P := fun n9 => cvB u n9 kA) (decide_eq_false (fun z => by omega))).symm) _ (lv_sub hl [2, 3, 4, 5, 6, 7, 8, 9, 10, 11, 12, 13, 14, 1, 0] rfl)
                · skip
                  replace c_168 : kA < ((aN u kB) + (bN u kB - aN u kB)) := nleN c_168
                  refine lv_iconst (v := nI 1) hx hb dL_law_171 (by decide +kernel) ?_
                  refine lv_goto (tgt := 176) hx hb dL_law_172 (by decide) ?_
                  refine q_iaddN hx hb dL_law_176 ?_
                  refine lv_istore (lv' := [(14, .int (nI (X14 + 1))), (0, .ref b), (1, .ref h0), (2, .ref h1), (3, .int (nI tm)), (4, .int x0), (5, .long (fDig u)), (7, .int (nI (mNow u))), (8, .int (nI X8)), (9, .int X9), (10, .int X10), (11, .int (nI X11)), (12, .int (nI kA)), (13, .int (bI (decide (0 < cN u kA)))), (15, .int (nI kB))]) hx hb dL_law_177 hl (by decide) rfl (fun ls hl => ?_)
                  refine lv_iinc (v := nI (kB + 1)) (lv' := [(15, .int (nI (kB + 1))), (14, .int (nI (X14 + 1))), (0, .ref b), (1, .ref h0), (2, .ref h1), (3, .int (nI tm)), (4, .int x0), (5, .long (fDig u)), (7, .int (nI (mNow u))), (8, .int (nI X8)), (9, .int X9), (10, .int X10), (11, .int (nI X11)), (12, .int (nI kA)), (13, .int (bI (decide (0 < cN u kA))))]) hx hb dL_law_179 hl (k := 14) rfl (nI_i1 _) (by decide) rfl (fun ls hl => ?_)
                  refine lv_goto (tgt := 131) hx hb dL_law_182 (by decide) ?_
                  exact ihB (kB + 1) (by omega) (X14 + 1) (by subst eX14; exact (ct_y (P := fun n9 => cvB u n9 kA) (decide_eq_true (by omega))).symm) _ (lv_sub hl [2, 3, 4, 5, 6, 7, 8, 9, 10, 11, 12, 13, 14, 1, 0] rfl)
        exact lp131 _ 0 (Nat.zero_add _) 0 (by rfl) _ (lv_sub hl [3, 4, 5, 6, 7, 8, 9, 10, 11, 12, 13, 14, 2, 1, 0] rfl)
  exact lp109 _ 0 (Nat.zero_add _) 0 (by rfl) (nI 0) (by rfl) (nI 0) (by rfl) 0 (by rfl) _ (lv_sub hl [7, 8, 9, 10, 11, 6, 5, 4, 3, 2, 1, 0] rfl)
