set_option maxHeartbeats 8000000 in
set_option maxRecDepth 100000 in
theorem sg_312 {p : Program} {l : Launch} {e : Env} {s : State} {m : MethodId} {below : List Frame} {meth : Method} {c : Code} {D : va_G} {cI cR : ClassId} {b L h0 h1 : Nat} {a0 : Nat → Nat} {xs : Nat → Int32} {tm : Nat} {x0 : Int32} (hL : L ≤ 260) (C0 : lw_At p s m meth c b L xs) (hAO : AOI s) (hK : va_K D vwCl (tyR cI cR) s) {u : MS} {on : Nat → Int32} {a1 nr br : Nat → Nat} {H : Heap} {locs : List Loc} {C Sl : Nat} (hC : C + 100 ≤ 754895) (hSl : Sl + 1000 ≤ 6836784) (hT : TW D cI cR h0 a0 h1 u on a1 nr br H) (hD : va_D (LA s) (picT cI h0 a0 h1 a1 u u on)) (hS : va_S (LA s) s.heap H locs) {ls : Array Slot} (hl : lv_has ls 21 [(0, .ref b), (1, .ref h0), (2, .ref h1), (3, .int (nI tm)), (4, .int x0), (5, .long (fDig u)), (7, .int (nI (mNow u))), (11, .int (nI (ct (awB u) 360)))]) (kk : ∀ (ls : Array Slot), lv_has ls 21 [(0, .ref b), (1, .ref h0), (2, .ref h1), (3, .int (nI tm)), (4, .int x0), (5, .long (fDig u)), (7, .int (nI (mNow u))), (11, .int (nI (ct (awB u) 360)))] → W p l e room_1 s m #[Value.ref b] below meth c H locs C Sl (lw_Z below #[Value.ref b] s) (F0 m 430 ls [])) : W p l e room_1 s m #[Value.ref b] below meth c H locs C Sl (lw_Z below #[Value.ref b] s) (F0 m 312 ls []) := by
  obtain ⟨hx, hb, hr, hml, hown, hts0, hX, hbl, hlocks, hgv⟩ := id C0
  have hown : s.vm.findClass RL = some m.cls := hown
  have hts : ∀ w ∈ wsL_law, w.before #[Value.ref b] s = true := fun w h => hts0 w (wsL_law_in w h)
  have hin : ∀ w ∈ wsX10, w ∈ wsL_law := inlX1
  have hA : ∀ q : Nat, s.heap.size ≤ q → LA s q := fun _ h => h
  have hbA : ¬ LA s b := Nat.not_le.mpr hbl
  obtain ⟨hI, hO, hIS, hNM, hP, hR⟩ := id hT
  obtain ⟨hIa, hIb, hIc, hId, hIe, hIf, hIg, hIh, hIi, hIj⟩ := id hI
  have hXH : va_X b L xs s H := hX.kept (hS.2.1 b hbl hbA)
  refine lv_iconst (v := nI 0) hx hb dL_law_312 (by decide +kernel) ?_
  refine lv_istore (lv' := [(12, .int (nI 0)), (0, .ref b), (1, .ref h0), (2, .ref h1), (3, .int (nI tm)), (4, .int x0), (5, .long (fDig u)), (7, .int (nI (mNow u))), (11, .int (nI (ct (awB u) 360)))]) hx hb dL_law_313 hl (by decide) rfl (fun ls hl => ?_)
  have lp315 : ∀ (nA kA : Nat), kA + nA = mSc u → ∀ (ls : Array Slot), lv_has ls 21 [(0, .ref b), (1, .ref h0), (2, .ref h1), (3, .int (nI tm)), (4, .int x0), (5, .long (fDig u)), (7, .int (nI (mNow u))), (11, .int (nI (ct (awB u) 360))), (12, .int (nI kA))] → W p l e room_1 s m #[Value.ref b] below meth c H locs C Sl (lw_Z below #[Value.ref b] s) (F0 m 315 ls []) := by
    intro nA
    induction nA with
    | zero =>
      intro kA hkA ls hl
      refine lv_iload hx hb dL_law_315 (lv_at hl 8 rfl) ?_
      refine lv_aload_n hx hb dL_law_317 rfl (lv_at hl 1 rfl) ?_
      refine vp_callSi (W.runV (As := []) (rest := [.int (nI kA)]) ⟨hx, hb, hml, hown, hts⟩ (c_X0_sticks l D cI h0 a0 u on ) (cwV 0 hts gL_law_X0_sticks rfl rfl rfl (by decide +kernel) ⟨Nat.le_of_ble_eq_true rfl, Nat.le_of_ble_eq_true rfl⟩) (pu_pre (hK.sub (tys' := [(cI, .int)]) [0] rfl) (hP.sub (ws' := pic0 cI h0 a0 u on) [0, 1, 2, 3, 4, 5, 6, 7] rfl) rfl rfl) rfl rfl hl.1 rfl (lv_room (Nat.le_of_ble_eq_true rfl)) dL_law_318 ⟨show C + 0 ≤ 754895 by omega, show Sl + 0 ≤ 6836784 by omega⟩) (fun r hr9 => ?_)
      subst hr9
      refine lv_icmp_ge (tgt := 430) hx hb dL_law_321 (by decide) (fun c_321 => ?_) (fun c_321 => ?_)
      · skip
        replace c_321 : (mSc u) ≤ kA := leN c_321
        exact kk _ (lv_sub hl [0, 1, 2, 3, 4, 5, 6, 7] rfl)
      · skip
        replace c_321 : kA < (mSc u) := nleN c_321
        exact (by omega : False).elim
    | succ nA ihA =>
      intro kA hkA ls hl
      refine lv_iload hx hb dL_law_315 (lv_at hl 8 rfl) ?_
      refine lv_aload_n hx hb dL_law_317 rfl (lv_at hl 1 rfl) ?_
      refine vp_callSi (W.runV (As := []) (rest := [.int (nI kA)]) ⟨hx, hb, hml, hown, hts⟩ (c_X0_sticks l D cI h0 a0 u on ) (cwV 0 hts gL_law_X0_sticks rfl rfl rfl (by decide +kernel) ⟨Nat.le_of_ble_eq_true rfl, Nat.le_of_ble_eq_true rfl⟩) (pu_pre (hK.sub (tys' := [(cI, .int)]) [0] rfl) (hP.sub (ws' := pic0 cI h0 a0 u on) [0, 1, 2, 3, 4, 5, 6, 7] rfl) rfl rfl) rfl rfl hl.1 rfl (lv_room (Nat.le_of_ble_eq_true rfl)) dL_law_318 ⟨show C + 0 ≤ 754895 by omega, show Sl + 0 ≤ 6836784 by omega⟩) (fun r hr9 => ?_)
      subst hr9
      refine lv_icmp_ge (tgt := 430) hx hb dL_law_321 (by decide) (fun c_321 => ?_) (fun c_321 => ?_)
      · skip
        replace c_321 : (mSc u) ≤ kA := leN c_321
        exact (by omega : False).elim
      · skip
        replace c_321 : kA < (mSc u) := nleN c_321
        refine lv_iload hx hb dL_law_324 (lv_at hl 4 rfl) ?_
        refine lv_iconst (v := nI 4) hx hb dL_law_326 (by decide +kernel) ?_
        refine lv_ishr hx hb dL_law_327 ?_
        refine lv_topi (fun z_327 _ => ?_)
        refine lv_sipush (v := nI 359) hx hb dL_law_328 (by decide +kernel) ?_
        refine vp_callSi (W.runS (As := [.int z_327, .int (nI 359)]) (rest := []) ⟨hx, hb, hml, hown, hts⟩ (c_L_below l z_327 359 (by omega) (by omega)) (va_cwS 2 hts gL_law_L_below rfl rfl rfl (by decide +kernel) ⟨Nat.le_of_ble_eq_true rfl, Nat.le_of_ble_eq_true rfl⟩) preEq rfl rfl hl.1 rfl (lv_room (Nat.le_of_ble_eq_true rfl)) dL_law_331 ⟨show C + 0 ≤ 754895 by omega, show Sl + 0 ≤ 6836784 by omega⟩) (fun r hr9 => ?_)
        obtain ⟨j_331, hj_331, rfl⟩ := hr9
        refine lv_istore (lv' := [(13, .int (nI j_331)), (0, .ref b), (1, .ref h0), (2, .ref h1), (3, .int (nI tm)), (4, .int x0), (5, .long (fDig u)), (7, .int (nI (mNow u))), (11, .int (nI (ct (awB u) 360))), (12, .int (nI kA))]) hx hb dL_law_334 hl (by decide) rfl (fun ls hl => ?_)
        refine lv_aload_n hx hb dL_law_336 rfl (lv_at hl 2 rfl) ?_
        refine lv_iload hx hb dL_law_337 (lv_at hl 9 rfl) ?_
        refine lv_iload hx hb dL_law_339 (lv_at hl 0 rfl) ?_
        refine vp_callSi (W.runV (As := [.int (nI kA), .int (nI j_331)]) (rest := []) ⟨hx, hb, hml, hown, hts⟩ (c_X0_shadowAt l D cI h0 a0 u on kA j_331 hI (by omega) (by omega)) (cwV 2 hts gL_law_X0_shadowAt rfl rfl rfl (by decide +kernel) ⟨Nat.le_of_ble_eq_true rfl, Nat.le_of_ble_eq_true rfl⟩) (pu_pre (hK.sub (tys' := [(cI, .int)]) [0] rfl) (hP.sub (ws' := pic0 cI h0 a0 u on) [0, 1, 2, 3, 4, 5, 6, 7] rfl) rfl rfl) rfl rfl hl.1 rfl (lv_room (Nat.le_of_ble_eq_true rfl)) dL_law_341 ⟨show C + 0 ≤ 754895 by omega, show Sl + 0 ≤ 6836784 by omega⟩) (fun r hr9 => ?_)
        subst hr9
        have hsh := sh_le hI (s := kA) (t := j_331) (by omega) (by omega)
        rw [fShad_eq hI (s := kA) (t := j_331) (by omega) (by omega)]
        refine lv_istore (lv' := [(14, .int (nI (shN u kA j_331))), (13, .int (nI j_331)), (0, .ref b), (1, .ref h0), (2, .ref h1), (3, .int (nI tm)), (4, .int x0), (5, .long (fDig u)), (7, .int (nI (mNow u))), (11, .int (nI (ct (awB u) 360))), (12, .int (nI kA))]) hx hb dL_law_344 hl (by decide) rfl (fun ls hl => ?_)
        refine lv_aload_n hx hb dL_law_346 rfl (lv_at hl 3 rfl) ?_
        refine lv_iload hx hb dL_law_347 (lv_at hl 10 rfl) ?_
        refine lv_iload hx hb dL_law_349 (lv_at hl 0 rfl) ?_
        refine vp_callSi (W.runV (As := [.int (nI kA), .int (nI (shN u kA j_331))]) (rest := []) ⟨hx, hb, hml, hown, hts⟩ (c_X0_minuteOfShadow l D cI h0 a0 u on kA (nI (shN u kA j_331)) hI (by omega)) (cwV 2 hts gL_law_X0_minuteOfShadow rfl rfl rfl (by decide +kernel) ⟨Nat.le_of_ble_eq_true rfl, Nat.le_of_ble_eq_true rfl⟩) (pu_pre (hK.sub (tys' := [(cI, .int)]) [0] rfl) (hP.sub (ws' := pic0 cI h0 a0 u on) [0, 1, 2, 3, 4, 5, 6, 7] rfl) rfl rfl) rfl rfl hl.1 rfl (lv_room (Nat.le_of_ble_eq_true rfl)) dL_law_351 ⟨show C + 0 ≤ 754895 by omega, show Sl + 0 ≤ 6836784 by omega⟩) (fun r hr9 => ?_)
        subst hr9
        obtain ⟨f9, ef9, hf1, hf2, hf3⟩ := mos_spec hI (s := kA) (t := j_331) (by omega) (by omega)
        rw [ef9]
        have hmo := sh_mono (u := u) (s := kA) (show j_331 ≤ j_331 + 1 by omega)
        refine lv_istore (lv' := [(15, .int (nI f9)), (14, .int (nI (shN u kA j_331))), (13, .int (nI j_331)), (0, .ref b), (1, .ref h0), (2, .ref h1), (3, .int (nI tm)), (4, .int x0), (5, .long (fDig u)), (7, .int (nI (mNow u))), (11, .int (nI (ct (awB u) 360))), (12, .int (nI kA))]) hx hb dL_law_354 hl (by decide) rfl (fun ls hl => ?_)
        refine lv_aload_n hx hb dL_law_356 rfl (lv_at hl 4 rfl) ?_
        refine lv_iload hx hb dL_law_357 (lv_at hl 11 rfl) ?_
        refine lv_iload hx hb dL_law_359 (lv_at hl 2 rfl) ?_
        refine lv_iconst (v := nI 1) hx hb dL_law_361 (by decide +kernel) ?_
        refine q_iaddN hx hb dL_law_362 ?_
        refine vp_callSi (W.runV (As := [.int (nI kA), .int (nI (j_331 + 1))]) (rest := []) ⟨hx, hb, hml, hown, hts⟩ (c_X0_shadowAt l D cI h0 a0 u on kA (j_331 + 1) hI (by omega) (by omega)) (cwV 2 hts gL_law_X0_shadowAt rfl rfl rfl (by decide +kernel) ⟨Nat.le_of_ble_eq_true rfl, Nat.le_of_ble_eq_true rfl⟩) (pu_pre (hK.sub (tys' := [(cI, .int)]) [0] rfl) (hP.sub (ws' := pic0 cI h0 a0 u on) [0, 1, 2, 3, 4, 5, 6, 7] rfl) rfl rfl) rfl rfl hl.1 rfl (lv_room (Nat.le_of_ble_eq_true rfl)) dL_law_363 ⟨show C + 0 ≤ 754895 by omega, show Sl + 0 ≤ 6836784 by omega⟩) (fun r hr9 => ?_)
        subst hr9
        have hsh := sh_le hI (s := kA) (t := (j_331 + 1)) (by omega) (by omega)
        rw [fShad_eq hI (s := kA) (t := (j_331 + 1)) (by omega) (by omega)]
        refine lv_iload hx hb dL_law_366 (lv_at hl 1 rfl) ?_
        refine lv_icmp_lt (tgt := 422) hx hb dL_law_368 (by decide) (fun c_368 => ?_) (fun c_368 => ?_)
        · skip
          replace c_368 : (shN u kA (j_331 + 1)) < (shN u kA j_331) := ltN c_368
          exact (by omega : False).elim
        · skip
          replace c_368 : (shN u kA j_331) ≤ (shN u kA (j_331 + 1)) := nltN c_368
          refine lv_iload hx hb dL_law_371 (lv_at hl 0 rfl) ?_
          refine lv_iload hx hb dL_law_373 (lv_at hl 2 rfl) ?_
          refine lv_icmp_gt (tgt := 422) hx hb dL_law_375 (by decide) (fun c_375 => ?_) (fun c_375 => ?_)
          · skip
            replace c_375 : j_331 < f9 := ltN c_375
            exact (by omega : False).elim
          · skip
            replace c_375 : f9 ≤ j_331 := nltN c_375
            refine lv_aload_n hx hb dL_law_378 rfl (lv_at hl 4 rfl) ?_
            refine lv_iload hx hb dL_law_379 (lv_at hl 11 rfl) ?_
            refine lv_iload hx hb dL_law_381 (lv_at hl 0 rfl) ?_
            refine vp_callSi (W.runV (As := [.int (nI kA), .int (nI f9)]) (rest := []) ⟨hx, hb, hml, hown, hts⟩ (c_X0_shadowAt l D cI h0 a0 u on kA f9 hI (by omega) (by omega)) (cwV 2 hts gL_law_X0_shadowAt rfl rfl rfl (by decide +kernel) ⟨Nat.le_of_ble_eq_true rfl, Nat.le_of_ble_eq_true rfl⟩) (pu_pre (hK.sub (tys' := [(cI, .int)]) [0] rfl) (hP.sub (ws' := pic0 cI h0 a0 u on) [0, 1, 2, 3, 4, 5, 6, 7] rfl) rfl rfl) rfl rfl hl.1 rfl (lv_room (Nat.le_of_ble_eq_true rfl)) dL_law_383 ⟨show C + 0 ≤ 754895 by omega, show Sl + 0 ≤ 6836784 by omega⟩) (fun r hr9 => ?_)
            subst hr9
            have hsh := sh_le hI (s := kA) (t := f9) (by omega) (by omega)
            rw [fShad_eq hI (s := kA) (t := f9) (by omega) (by omega)]
            refine lv_iload hx hb dL_law_386 (lv_at hl 1 rfl) ?_
            refine lv_icmp_ne (tgt := 422) hx hb dL_law_388 (by decide) (fun c_388 => ?_) (fun c_388 => ?_)
            · skip
              replace c_388 : (shN u kA f9) ≠ (shN u kA j_331) := neN c_388
              exact (by omega : False).elim
            · skip
              replace c_388 : (shN u kA f9) = (shN u kA j_331) := eN c_388
              refine lv_iload hx hb dL_law_391 (lv_at hl 0 rfl) ?_
              refine lv_if_le (tgt := 411) hx hb dL_law_393 (by decide) (fun c_393 => ?_) (fun c_393 => ?_)
              · skip
                replace c_393 : f9 ≤ 0 := leN c_393
                refine lv_aload_n hx hb dL_law_411 rfl (lv_at hl 4 rfl) ?_
                refine lv_iload hx hb dL_law_412 (lv_at hl 2 rfl) ?_
                refine vp_callSi (W.runV (As := [.int (nI j_331)]) (rest := []) ⟨hx, hb, hml, hown, hts⟩ (c_X0_allShadows l D cI h0 a0 u on j_331 hI (by omega)) (cwV 1 hts gL_law_X0_allShadows rfl rfl rfl (by decide +kernel) ⟨Nat.le_of_ble_eq_true rfl, Nat.le_of_ble_eq_true rfl⟩) (pu_pre (hK.sub (tys' := [(cI, .int)]) [0] rfl) (hP.sub (ws' := pic0 cI h0 a0 u on) [0, 1, 2, 3, 4, 5, 6, 7] rfl) rfl rfl) rfl rfl hl.1 rfl (lv_room (Nat.le_of_ble_eq_true rfl)) dL_law_414 ⟨show C + 0 ≤ 754895 by omega, show Sl + 0 ≤ 6836784 by omega⟩) (fun r hr9 => ?_)
                subst hr9
                obtain ⟨S9, eS9, hS8, hS9⟩ := sum_all hI (t := j_331) (by omega) (mSc u) (Nat.le_refl _)
                rw [show fSum u j_331 = nI S9 from eS9]
                have hS7 := hS9 kA (by omega)
                refine lv_iload hx hb dL_law_417 (lv_at hl 1 rfl) ?_
                refine lv_icmp_ge (tgt := 424) hx hb dL_law_419 (by decide) (fun c_419 => ?_) (fun c_419 => ?_)
                · skip
                  replace c_419 : (shN u kA j_331) ≤ S9 := leN c_419
                  refine lv_iinc (v := nI (kA + 1)) (lv' := [(12, .int (nI (kA + 1))), (15, .int (nI f9)), (14, .int (nI (shN u kA j_331))), (13, .int (nI j_331)), (0, .ref b), (1, .ref h0), (2, .ref h1), (3, .int (nI tm)), (4, .int x0), (5, .long (fDig u)), (7, .int (nI (mNow u))), (11, .int (nI (ct (awB u) 360)))]) hx hb dL_law_424 hl (k := 11) rfl (nI_i1 _) (by decide) rfl (fun ls hl => ?_)
                  refine lv_goto (tgt := 315) hx hb dL_law_427 (by decide) ?_
                  exact ihA (kA + 1) (by omega) _ (lv_sub hl [4, 5, 6, 7, 8, 9, 10, 11, 0] rfl)
                · skip
                  replace c_419 : S9 < (shN u kA j_331) := nleN c_419
                  exact (by omega : False).elim
              · skip
                replace c_393 : 0 < f9 := nleN c_393
                refine lv_aload_n hx hb dL_law_396 rfl (lv_at hl 4 rfl) ?_
                refine lv_iload hx hb dL_law_397 (lv_at hl 11 rfl) ?_
                refine lv_iload hx hb dL_law_399 (lv_at hl 0 rfl) ?_
                have hf4 := hf3 (by omega)
                refine lv_iconst (v := nI 1) hx hb dL_law_401 (by decide +kernel) ?_
                refine q_isubN hx hb (by omega) dL_law_402 ?_
                refine vp_callSi (W.runV (As := [.int (nI kA), .int (nI (f9 - 1))]) (rest := []) ⟨hx, hb, hml, hown, hts⟩ (c_X0_shadowAt l D cI h0 a0 u on kA (f9 - 1) hI (by omega) (by omega)) (cwV 2 hts gL_law_X0_shadowAt rfl rfl rfl (by decide +kernel) ⟨Nat.le_of_ble_eq_true rfl, Nat.le_of_ble_eq_true rfl⟩) (pu_pre (hK.sub (tys' := [(cI, .int)]) [0] rfl) (hP.sub (ws' := pic0 cI h0 a0 u on) [0, 1, 2, 3, 4, 5, 6, 7] rfl) rfl rfl) rfl rfl hl.1 rfl (lv_room (Nat.le_of_ble_eq_true rfl)) dL_law_403 ⟨show C + 0 ≤ 754895 by omega, show Sl + 0 ≤ 6836784 by omega⟩) (fun r hr9 => ?_)
                subst hr9
                have hsh := sh_le hI (s := kA) (t := (f9 - 1)) (by omega) (by omega)
                rw [fShad_eq hI (s := kA) (t := (f9 - 1)) (by omega) (by omega)]
                refine lv_iload hx hb dL_law_406 (lv_at hl 1 rfl) ?_
                refine lv_icmp_ge (tgt := 422) hx hb dL_law_408 (by decide) (fun c_408 => ?_) (fun c_408 => ?_)
                · skip
                  replace c_408 : (shN u kA j_331) ≤ (shN u kA (f9 - 1)) := leN c_408
                  exact (by omega : False).elim
                · skip
                  replace c_408 : (shN u kA (f9 - 1)) < (shN u kA j_331) := nleN c_408
                  refine lv_aload_n hx hb dL_law_411 rfl (lv_at hl 4 rfl) ?_
                  refine lv_iload hx hb dL_law_412 (lv_at hl 2 rfl) ?_
                  refine vp_callSi (W.runV (As := [.int (nI j_331)]) (rest := []) ⟨hx, hb, hml, hown, hts⟩ (c_X0_allShadows l D cI h0 a0 u on j_331 hI (by omega)) (cwV 1 hts gL_law_X0_allShadows rfl rfl rfl (by decide +kernel) ⟨Nat.le_of_ble_eq_true rfl, Nat.le_of_ble_eq_true rfl⟩) (pu_pre (hK.sub (tys' := [(cI, .int)]) [0] rfl) (hP.sub (ws' := pic0 cI h0 a0 u on) [0, 1, 2, 3, 4, 5, 6, 7] rfl) rfl rfl) rfl rfl hl.1 rfl (lv_room (Nat.le_of_ble_eq_true rfl)) dL_law_414 ⟨show C + 0 ≤ 754895 by omega, show Sl + 0 ≤ 6836784 by omega⟩) (fun r hr9 => ?_)
                  subst hr9
                  obtain ⟨S9, eS9, hS8, hS9⟩ := sum_all hI (t := j_331) (by omega) (mSc u) (Nat.le_refl _)
                  rw [show fSum u j_331 = nI S9 from eS9]
                  have hS7 := hS9 kA (by omega)
                  refine lv_iload hx hb dL_law_417 (lv_at hl 1 rfl) ?_
                  refine lv_icmp_ge (tgt := 424) hx hb dL_law_419 (by decide) (fun c_419 => ?_) (fun c_419 => ?_)
                  · skip
                    replace c_419 : (shN u kA j_331) ≤ S9 := leN c_419
                    refine lv_iinc (v := nI (kA + 1)) (lv' := [(12, .int (nI (kA + 1))), (15, .int (nI f9)), (14, .int (nI (shN u kA j_331))), (13, .int (nI j_331)), (0, .ref b), (1, .ref h0), (2, .ref h1), (3, .int (nI tm)), (4, .int x0), (5, .long (fDig u)), (7, .int (nI (mNow u))), (11, .int (nI (ct (awB u) 360)))]) hx hb dL_law_424 hl (k := 11) rfl (nI_i1 _) (by decide) rfl (fun ls hl => ?_)
                    refine lv_goto (tgt := 315) hx hb dL_law_427 (by decide) ?_
                    exact ihA (kA + 1) (by omega) _ (lv_sub hl [4, 5, 6, 7, 8, 9, 10, 11, 0] rfl)
                  · skip
                    replace c_419 : S9 < (shN u kA j_331) := nleN c_419
                    exact (by omega : False).elim
  exact lp315 _ 0 (Nat.zero_add _) _ (lv_sub hl [1, 2, 3, 4, 5, 6, 7, 8, 0] rfl)
set_option maxHeartbeats 8000000 in
set_option maxRecDepth 100000 in
theorem sg_430 {p : Program} {l : Launch} {e : Env} {s : State} {m : MethodId} {below : List Frame} {meth : Method} {c : Code} {D : va_G} {cI cR : ClassId} {b L h0 h1 : Nat} {a0 : Nat → Nat} {xs : Nat → Int32} {tm : Nat} {x0 : Int32} (hL : L ≤ 260) (C0 : lw_At p s m meth c b L xs) (hAO : AOI s) (hK : va_K D vwCl (tyR cI cR) s) {u : MS} {on : Nat → Int32} {a1 nr br : Nat → Nat} {H : Heap} {locs : List Loc} {C Sl : Nat} (hC : C + 100 ≤ 754895) (hSl : Sl + 1000 ≤ 6836784) (hT : TW D cI cR h0 a0 h1 u on a1 nr br H) (hD : va_D (LA s) (picT cI h0 a0 h1 a1 u u on)) (hS : va_S (LA s) s.heap H locs) {ls : Array Slot} (hl : lv_has ls 21 [(0, .ref b), (1, .ref h0), (2, .ref h1), (3, .int (nI tm)), (4, .int x0), (5, .long (fDig u)), (7, .int (nI (mNow u))), (11, .int (nI (ct (awB u) 360)))]) (kk : ∀ (ls : Array Slot), lv_has ls 21 [(0, .ref b), (1, .ref h0), (2, .ref h1), (3, .int (nI tm)), (4, .int x0), (5, .long (fDig u)), (7, .int (nI (mNow u))), (11, .int (nI (ct (awB u) 360))), (12, .int (fBG u))] → W p l e room_1 s m #[Value.ref b] below meth c H locs C Sl (lw_Z below #[Value.ref b] s) (F0 m 495 ls [])) : W p l e room_1 s m #[Value.ref b] below meth c H locs C Sl (lw_Z below #[Value.ref b] s) (F0 m 430 ls []) := by
  obtain ⟨hx, hb, hr, hml, hown, hts0, hX, hbl, hlocks, hgv⟩ := id C0
  have hown : s.vm.findClass RL = some m.cls := hown
  have hts : ∀ w ∈ wsL_law, w.before #[Value.ref b] s = true := fun w h => hts0 w (wsL_law_in w h)
  have hin : ∀ w ∈ wsX10, w ∈ wsL_law := inlX1
  have hA : ∀ q : Nat, s.heap.size ≤ q → LA s q := fun _ h => h
  have hbA : ¬ LA s b := Nat.not_le.mpr hbl
  obtain ⟨hI, hO, hIS, hNM, hP, hR⟩ := id hT
  obtain ⟨hIa, hIb, hIc, hId, hIe, hIf, hIg, hIh, hIi, hIj⟩ := id hI
  have hXH : va_X b L xs s H := hX.kept (hS.2.1 b hbl hbA)
  refine lv_aload_n hx hb dL_law_430 rfl (lv_at hl 1 rfl) ?_
  refine vp_callSi (W.runV (As := []) (rest := []) ⟨hx, hb, hml, hown, hts⟩ (c_X0_bestToGiveUp l D cI h0 a0 u on hI) (cwV 0 hts gL_law_X0_bestToGiveUp rfl rfl rfl (by decide +kernel) ⟨Nat.le_of_ble_eq_true rfl, Nat.le_of_ble_eq_true rfl⟩) (pu_pre (hK.sub (tys' := [(cI, .int)]) [0] rfl) (hP.sub (ws' := pic0 cI h0 a0 u on) [0, 1, 2, 3, 4, 5, 6, 7] rfl) rfl rfl) rfl rfl hl.1 rfl (lv_room (Nat.le_of_ble_eq_true rfl)) dL_law_431 ⟨show C + 0 ≤ 754895 by omega, show Sl + 0 ≤ 6836784 by omega⟩) (fun r hr9 => ?_)
  subst hr9
  refine lv_istore (lv' := [(12, .int (fBG u)), (0, .ref b), (1, .ref h0), (2, .ref h1), (3, .int (nI tm)), (4, .int x0), (5, .long (fDig u)), (7, .int (nI (mNow u))), (11, .int (nI (ct (awB u) 360)))]) hx hb dL_law_434 hl (by decide) rfl (fun ls hl => ?_)
  refine lv_iconst (v := nI 0) hx hb dL_law_436 (by decide +kernel) ?_
  refine lv_istore (lv' := [(13, .int (nI 0)), (12, .int (fBG u)), (0, .ref b), (1, .ref h0), (2, .ref h1), (3, .int (nI tm)), (4, .int x0), (5, .long (fDig u)), (7, .int (nI (mNow u))), (11, .int (nI (ct (awB u) 360)))]) hx hb dL_law_437 hl (by decide) rfl (fun ls hl => ?_)
  have lp439 : ∀ (nA kA : Nat), kA + nA = mNc u → ∀ (ls : Array Slot), lv_has ls 21 [(0, .ref b), (1, .ref h0), (2, .ref h1), (3, .int (nI tm)), (4, .int x0), (5, .long (fDig u)), (7, .int (nI (mNow u))), (11, .int (nI (ct (awB u) 360))), (12, .int (fBG u)), (13, .int (nI kA))] → W p l e room_1 s m #[Value.ref b] below meth c H locs C Sl (lw_Z below #[Value.ref b] s) (F0 m 439 ls []) := by
    intro nA
    induction nA with
    | zero =>
      intro kA hkA ls hl
      refine lv_iload hx hb dL_law_439 (lv_at hl 9 rfl) ?_
      refine lv_aload_n hx hb dL_law_441 rfl (lv_at hl 1 rfl) ?_
      refine vp_callSi (W.runV (As := []) (rest := [.int (nI kA)]) ⟨hx, hb, hml, hown, hts⟩ (c_X0_naps l D cI h0 a0 u on ) (cwV 0 hts gL_law_X0_naps rfl rfl rfl (by decide +kernel) ⟨Nat.le_of_ble_eq_true rfl, Nat.le_of_ble_eq_true rfl⟩) (pu_pre (hK.sub (tys' := [(cI, .int)]) [0] rfl) (hP.sub (ws' := pic0 cI h0 a0 u on) [0, 1, 2, 3, 4, 5, 6, 7] rfl) rfl rfl) rfl rfl hl.1 rfl (lv_room (Nat.le_of_ble_eq_true rfl)) dL_law_442 ⟨show C + 0 ≤ 754895 by omega, show Sl + 0 ≤ 6836784 by omega⟩) (fun r hr9 => ?_)
      subst hr9
      refine lv_icmp_ge (tgt := 495) hx hb dL_law_445 (by decide) (fun c_445 => ?_) (fun c_445 => ?_)
      · skip
        replace c_445 : (mNc u) ≤ kA := leN c_445
        exact kk _ (lv_sub hl [0, 1, 2, 3, 4, 5, 6, 7, 8] rfl)
      · skip
        replace c_445 : kA < (mNc u) := nleN c_445
        exact (by omega : False).elim
    | succ nA ihA =>
      intro kA hkA ls hl
      obtain ⟨j8, ej8, hj8⟩ := bg_some hIb (by omega)
      have hj8a := hj8.2.1
      have hj8b := hj8.2.2.1 kA (Nat.zero_le _) (by omega)
      refine lv_iload hx hb dL_law_439 (lv_at hl 9 rfl) ?_
      refine lv_aload_n hx hb dL_law_441 rfl (lv_at hl 1 rfl) ?_
      refine vp_callSi (W.runV (As := []) (rest := [.int (nI kA)]) ⟨hx, hb, hml, hown, hts⟩ (c_X0_naps l D cI h0 a0 u on ) (cwV 0 hts gL_law_X0_naps rfl rfl rfl (by decide +kernel) ⟨Nat.le_of_ble_eq_true rfl, Nat.le_of_ble_eq_true rfl⟩) (pu_pre (hK.sub (tys' := [(cI, .int)]) [0] rfl) (hP.sub (ws' := pic0 cI h0 a0 u on) [0, 1, 2, 3, 4, 5, 6, 7] rfl) rfl rfl) rfl rfl hl.1 rfl (lv_room (Nat.le_of_ble_eq_true rfl)) dL_law_442 ⟨show C + 0 ≤ 754895 by omega, show Sl + 0 ≤ 6836784 by omega⟩) (fun r hr9 => ?_)
      subst hr9
      refine lv_icmp_ge (tgt := 495) hx hb dL_law_445 (by decide) (fun c_445 => ?_) (fun c_445 => ?_)
      · skip
        replace c_445 : (mNc u) ≤ kA := leN c_445
        exact (by omega : False).elim
      · skip
        replace c_445 : kA < (mNc u) := nleN c_445
        refine lv_aload_n hx hb dL_law_448 rfl (lv_at hl 1 rfl) ?_
        refine lv_iload hx hb dL_law_449 (lv_at hl 9 rfl) ?_
        refine vp_callSi (W.runV (As := [.int (nI kA)]) (rest := []) ⟨hx, hb, hml, hown, hts⟩ (c_X0_minutesAlone l D cI h0 a0 u on kA hI (by omega)) (cwV 1 hts gL_law_X0_minutesAlone rfl rfl rfl (by decide +kernel) ⟨Nat.le_of_ble_eq_true rfl, Nat.le_of_ble_eq_true rfl⟩) (pu_pre (hK.sub (tys' := [(cI, .int)]) [0] rfl) (hP.sub (ws' := pic0 cI h0 a0 u on) [0, 1, 2, 3, 4, 5, 6, 7] rfl) rfl rfl) rfl rfl hl.1 rfl (lv_room (Nat.le_of_ble_eq_true rfl)) dL_law_451 ⟨show C + 0 ≤ 754895 by omega, show Sl + 0 ≤ 6836784 by omega⟩) (fun r hr9 => ?_)
        subst hr9
        rw [fAl_eq u kA]
        have hal_x := AL_le u kA
        refine lv_if_lt (tgt := 487) hx hb dL_law_454 (by decide) (fun c_454 => ?_) (fun c_454 => ?_)
        · skip
          replace c_454 : (AL u kA) < 0 := ltN c_454
          exact (by omega : False).elim
        · skip
          replace c_454 : 0 ≤ (AL u kA) := nltN c_454
          refine lv_aload_n hx hb dL_law_457 rfl (lv_at hl 1 rfl) ?_
          refine lv_iload hx hb dL_law_458 (lv_at hl 9 rfl) ?_
          refine vp_callSi (W.runV (As := [.int (nI kA)]) (rest := []) ⟨hx, hb, hml, hown, hts⟩ (c_X0_minutesAlone l D cI h0 a0 u on kA hI (by omega)) (cwV 1 hts gL_law_X0_minutesAlone rfl rfl rfl (by decide +kernel) ⟨Nat.le_of_ble_eq_true rfl, Nat.le_of_ble_eq_true rfl⟩) (pu_pre (hK.sub (tys' := [(cI, .int)]) [0] rfl) (hP.sub (ws' := pic0 cI h0 a0 u on) [0, 1, 2, 3, 4, 5, 6, 7] rfl) rfl rfl) rfl rfl hl.1 rfl (lv_room (Nat.le_of_ble_eq_true rfl)) dL_law_460 ⟨show C + 0 ≤ 754895 by omega, show Sl + 0 ≤ 6836784 by omega⟩) (fun r hr9 => ?_)
          subst hr9
          rw [fAl_eq u kA]
          have hal_x := AL_le u kA
          have hln := AL_len hI (n := kA) (by omega)
          refine lv_aload_n hx hb dL_law_463 rfl (lv_at hl 1 rfl) ?_
          refine lv_iload hx hb dL_law_464 (lv_at hl 9 rfl) ?_
          refine vp_callSi (W.runV (As := [.int (nI kA)]) (rest := [.int (nI (AL u kA))]) ⟨hx, hb, hml, hown, hts⟩ (c_X0_lengthOf l D cI h0 a0 u on kA hI (by omega)) (cwV 1 hts gL_law_X0_lengthOf rfl rfl rfl (by decide +kernel) ⟨Nat.le_of_ble_eq_true rfl, Nat.le_of_ble_eq_true rfl⟩) (pu_pre (hK.sub (tys' := [(cI, .int)]) [0] rfl) (hP.sub (ws' := pic0 cI h0 a0 u on) [0, 1, 2, 3, 4, 5, 6, 7] rfl) rfl rfl) rfl rfl hl.1 rfl (lv_room (Nat.le_of_ble_eq_true rfl)) dL_law_466 ⟨show C + 0 ≤ 754895 by omega, show Sl + 0 ≤ 6836784 by omega⟩) (fun r hr9 => ?_)
          subst hr9
          obtain ⟨_, _, _, _⟩ := hIg kA (by omega)
          refine lv_icmp_gt (tgt := 487) hx hb dL_law_469 (by decide) (fun c_469 => ?_) (fun c_469 => ?_)
          · skip
            replace c_469 : (bN u kA - aN u kA) < (AL u kA) := ltN c_469
            exact (by omega : False).elim
          · skip
            replace c_469 : (AL u kA) ≤ (bN u kA - aN u kA) := nltN c_469
            refine lv_aload_n hx hb dL_law_472 rfl (lv_at hl 1 rfl) ?_
            refine lv_iload hx hb dL_law_473 (lv_at hl 9 rfl) ?_
            refine vp_callSi (W.runV (As := [.int (nI kA)]) (rest := []) ⟨hx, hb, hml, hown, hts⟩ (c_X0_minutesAlone l D cI h0 a0 u on kA hI (by omega)) (cwV 1 hts gL_law_X0_minutesAlone rfl rfl rfl (by decide +kernel) ⟨Nat.le_of_ble_eq_true rfl, Nat.le_of_ble_eq_true rfl⟩) (pu_pre (hK.sub (tys' := [(cI, .int)]) [0] rfl) (hP.sub (ws' := pic0 cI h0 a0 u on) [0, 1, 2, 3, 4, 5, 6, 7] rfl) rfl rfl) rfl rfl hl.1 rfl (lv_room (Nat.le_of_ble_eq_true rfl)) dL_law_475 ⟨show C + 0 ≤ 754895 by omega, show Sl + 0 ≤ 6836784 by omega⟩) (fun r hr9 => ?_)
            subst hr9
            rw [fAl_eq u kA]
            have hal_x := AL_le u kA
            refine lv_aload_n hx hb dL_law_478 rfl (lv_at hl 1 rfl) ?_
            refine lv_iload hx hb dL_law_479 (lv_at hl 8 rfl) ?_
            rw [ej8]
            refine vp_callSi (W.runV (As := [.int (nI j8)]) (rest := [.int (nI (AL u kA))]) ⟨hx, hb, hml, hown, hts⟩ (c_X0_minutesAlone l D cI h0 a0 u on j8 hI (by omega)) (cwV 1 hts gL_law_X0_minutesAlone rfl rfl rfl (by decide +kernel) ⟨Nat.le_of_ble_eq_true rfl, Nat.le_of_ble_eq_true rfl⟩) (pu_pre (hK.sub (tys' := [(cI, .int)]) [0] rfl) (hP.sub (ws' := pic0 cI h0 a0 u on) [0, 1, 2, 3, 4, 5, 6, 7] rfl) rfl rfl) rfl rfl hl.1 rfl (lv_room (Nat.le_of_ble_eq_true rfl)) dL_law_481 ⟨show C + 0 ≤ 754895 by omega, show Sl + 0 ≤ 6836784 by omega⟩) (fun r hr9 => ?_)
            subst hr9
            rw [fAl_eq u j8]
            have hal_x := AL_le u j8
            refine lv_icmp_le (tgt := 489) hx hb dL_law_484 (by decide) (fun c_484 => ?_) (fun c_484 => ?_)
            · skip
              replace c_484 : (AL u kA) ≤ (AL u j8) := leN c_484
              refine lv_iinc (v := nI (kA + 1)) (lv' := [(13, .int (nI (kA + 1))), (0, .ref b), (1, .ref h0), (2, .ref h1), (3, .int (nI tm)), (4, .int x0), (5, .long (fDig u)), (7, .int (nI (mNow u))), (11, .int (nI (ct (awB u) 360))), (12, .int (fBG u))]) hx hb dL_law_489 hl (k := 9) rfl (nI_i1 _) (by decide) rfl (fun ls hl => ?_)
              refine lv_goto (tgt := 439) hx hb dL_law_492 (by decide) ?_
              exact ihA (kA + 1) (by omega) _ (lv_sub hl [1, 2, 3, 4, 5, 6, 7, 8, 9, 0] rfl)
            · skip
              replace c_484 : (AL u j8) < (AL u kA) := nleN c_484
              exact (by omega : False).elim
  exact lp439 _ 0 (Nat.zero_add _) _ (lv_sub hl [2, 3, 4, 5, 6, 7, 8, 9, 1, 0] rfl)
