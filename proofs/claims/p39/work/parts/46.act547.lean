set_option maxHeartbeats 8000000 in
set_option maxRecDepth 100000 in
theorem ac_547 {p : Program} {l : Launch} {e : Env} {s : State} {m : MethodId} {args : Array Value} {below : List Frame} {meth : Method} {c : Code} {D : va_G} {cI cR : ClassId} {h0 h1 : Nat} {a0 a1 nr br : Nat → Nat} {u : MS} {on : Nat → Int32} {A : Nat → Prop} {H : Heap} {locs : List Loc} {ls : Array Slot} {x0 : Int32} (hx : p.tables.exec = Jvm.exec) (hb : c.code = cL_act) (hml : c.maxLocals = 5) (hr : meth.sig.returnType = some .boolean) (hlocks : meth.locks = false) (hts : ∀ w ∈ wsL_act, w.before args s = true) (hown : s.vm.findClass RL = some m.cls) (hAO : AOI s) (hI : Inv u) (hO : InvO u on) (hIS : InvS u) (hNM : NM (fun q => q ∈ adr h0 a0 h1) a1 nr br u) (hRk : ∀ (H2 : Heap) (locs2 : List Loc), va_S A s.heap H2 locs2 → RO cI cR a1 nr br u H2) (hlt : ∀ q : Nat, q ∈ adr h0 a0 h1 → q < s.heap.size) (hK : va_K D vwCl (tyR cI cR) s) (hP : va_P D vwCl (picT cI h0 a0 h1 a1 u u on) H) (hD : va_D A (picT cI h0 a0 h1 a1 u u on)) (hA : ∀ q : Nat, s.heap.size ≤ q → A q) (hS : va_S A s.heap H locs) (hl : lv_has ls 5 [(0, .ref h0), (1, .ref h1), (2, .int x0)]) : W p l e ({ frames := 4, cells := 8, slots := 63, locals := 91 } : Room) s m args below meth c H locs 0 0 (MQ below ((fun A : Nat → Prop => va_Qi (fun (r : Int32) (_ : Unit) => r = nI 1) (fun (_ : Unit) (t : State) => ∃ (u2 : MS) (on2 : Nat → Int32) (a2 nr2 br2 : Nat → Nat), Inv u2 ∧ InvO u2 on2 ∧ InvS u2 ∧ NM (fun q => q ∈ adr h0 a0 h1) a2 nr2 br2 u2 ∧ va_P D vwCl (picT cI h0 a0 h1 a2 u2 u2 on2) t.heap ∧ RO cI cR a2 nr2 br2 u2 t.heap) A) A) args s 8 63 A) (F0 m 547 ls []) := by
  have hin : ∀ w ∈ wsX10, w ∈ wsL_act := fun _ h9 => List.mem_cons_of_mem _ (List.mem_append_left _ (List.mem_append_left _ (List.mem_append_left _ (List.mem_append_left _ (List.mem_append_right _ h9)))))
  obtain ⟨hIa, hIb, hIc, hId, hIe, hIf, hIg, hIh, hIi, hIj⟩ := id hI
  have hR := hRk _ _ hS
  refine lv_iconst (v := nI 1) hx hb dL_act_547 (by decide +kernel) ?_
  refine lv_iload_n hx hb dL_act_548 rfl (lv_at hl 2 rfl) ?_
  refine lv_iconst (v := nI 4) hx hb dL_act_549 (by decide +kernel) ?_
  refine lv_ishr hx hb dL_act_550 ?_
  refine lv_topi (fun z_550 _ => ?_)
  refine lv_iload_n hx hb dL_act_551 rfl (lv_at hl 2 rfl) ?_
  refine lv_bipush (v := nI 8) hx hb dL_act_552 (by decide +kernel) ?_
  refine lv_ishr hx hb dL_act_554 ?_
  refine lv_topi (fun z_554 _ => ?_)
  refine lv_iconst (v := nI 4) hx hb dL_act_555 (by decide +kernel) ?_
  refine vp_callSi (W.runS (As := [.int z_554, .int (nI 4)]) (rest := [.int z_550, .int (nI 1)]) ⟨hx, hb, hml, hown, hts⟩ (c_L_below l z_554 4 (by omega) (by omega)) (va_cwS 2 hts gL_act_L_below rfl rfl rfl (by decide +kernel) ⟨Nat.le_of_ble_eq_true rfl, Nat.le_of_ble_eq_true rfl⟩) preEq rfl rfl hl.1 rfl (lv_room (Nat.le_of_ble_eq_true rfl)) dL_act_556 ⟨Nat.le_of_ble_eq_true rfl, Nat.le_of_ble_eq_true rfl⟩) (fun r hr9 => ?_)
  obtain ⟨j_556, hj_556, rfl⟩ := hr9
  refine lv_if_ne (tgt := 568) hx hb dL_act_559 (by decide) (fun c_559 => ?_) (fun c_559 => ?_)
  · skip
    replace c_559 : j_556 ≠ 0 := neN c_559
    refine lv_bipush (v := nI 30) hx hb dL_act_568 (by decide +kernel) ?_
    refine vp_callSi (W.runS (As := [.int z_550, .int (nI 30)]) (rest := [.int (nI 1)]) ⟨hx, hb, hml, hown, hts⟩ (c_L_below l z_550 30 (by omega) (by omega)) (va_cwS 2 hts gL_act_L_below rfl rfl rfl (by decide +kernel) ⟨Nat.le_of_ble_eq_true rfl, Nat.le_of_ble_eq_true rfl⟩) preEq rfl rfl hl.1 rfl (lv_room (Nat.le_of_ble_eq_true rfl)) dL_act_570 ⟨Nat.le_of_ble_eq_true rfl, Nat.le_of_ble_eq_true rfl⟩) (fun r hr9 => ?_)
    obtain ⟨j_570, hj_570, rfl⟩ := hr9
    refine q_iaddN hx hb dL_act_573 ?_
    refine lv_istore_n (lv' := [(3, .int (nI (1 + j_570))), (0, .ref h0), (1, .ref h1), (2, .int x0)]) hx hb dL_act_574 rfl hl (by decide) rfl (fun ls hl => ?_)
    refine lv_aload_n hx hb dL_act_575 rfl (lv_at hl 2 rfl) ?_
    refine va_get (D := D) (ci := 1) (v := .int (nI (mNow u))) (C := RX1) (T := TX1) (N := 10) hx hb hts hin hown hK hP 8 rfl rfl 7 (by decide) (hts (.fieldLink RL 82 "AfternoonMeterLaw$Sim" "minute" "I") (List.mem_of_getElem? (i := 15) rfl)) (fun _ h9 => h9) rfl dL_act_576 ?_
    refine lv_iload_n hx hb dL_act_579 rfl (lv_at hl 0 rfl) ?_
    refine q_iaddN hx hb dL_act_580 ?_
    refine lv_sipush (v := nI 360) hx hb dL_act_581 (by decide +kernel) ?_
    refine lv_icmp_le (tgt := 589) hx hb dL_act_584 (by decide) (fun c_584 => ?_) (fun c_584 => ?_)
    · skip
      replace c_584 : ((mNow u) + (1 + j_570)) ≤ 360 := leN c_584
      refine lv_aload_n hx hb dL_act_589 rfl (lv_at hl 1 rfl) ?_
      refine lv_iload_n hx hb dL_act_590 rfl (lv_at hl 0 rfl) ?_
      have hPc := hP.sub (ws' := [(h0, .inr (0, [.ref (a0 0), .int (nI (mSc u)), .ref (a0 1), .ref (a0 2), .int (nI (mNc u)), .ref (a0 3), .ref (a0 4), .ref (a0 5), .int (nI (mBc u)), .ref (a0 6), .int (nI (mRoom u)), .int (nI (mRate u)), .int (nI (mSip u)), .int (nI (mTea u)), .int (mSpl u), .int (nI (mNow u)), .int (mAft u)])), (a0 0, .inl (cI, 4, .inl (mHt u))), (a0 1, .inl (cI, 8, .inl (mFr u))), (a0 2, .inl (cI, 8, .inl (mTo u))), (a0 3, .inl (cI, 360, .inl (mCov u))), (a0 4, .inl (cI, 6, .inl (mPe u))), (a0 5, .inl (cI, 6, .inl (mBe u))), (a0 6, .inl (cI, 360, .inl on))]) [0, 1, 2, 3, 4, 5, 6, 7] rfl
      have hDc := hD.sub (ws' := [(h0, .inr (0, [.ref (a0 0), .int (nI (mSc u)), .ref (a0 1), .ref (a0 2), .int (nI (mNc u)), .ref (a0 3), .ref (a0 4), .ref (a0 5), .int (nI (mBc u)), .ref (a0 6), .int (nI (mRoom u)), .int (nI (mRate u)), .int (nI (mSip u)), .int (nI (mTea u)), .int (mSpl u), .int (nI (mNow u)), .int (mAft u)])), (a0 0, .inl (cI, 4, .inl (mHt u))), (a0 1, .inl (cI, 8, .inl (mFr u))), (a0 2, .inl (cI, 8, .inl (mTo u))), (a0 3, .inl (cI, 360, .inl (mCov u))), (a0 4, .inl (cI, 6, .inl (mPe u))), (a0 5, .inl (cI, 6, .inl (mBe u))), (a0 6, .inl (cI, 360, .inl on))]) [0, 1, 2, 3, 4, 5, 6, 7] (by decide) rfl
      have hKc := hK.sub (tys' := [(cI, .int)]) [0] rfl
      have hFc := va_free (wc := [(h0, .inr (0, [.ref (a0 0), .int (nI (mSc u)), .ref (a0 1), .ref (a0 2), .int (nI (mNc u)), .ref (a0 3), .ref (a0 4), .ref (a0 5), .int (nI (mBc u)), .ref (a0 6), .int (nI (mRoom u)), .int (nI (mRate u)), .int (nI (mSip u)), .int (nI (mTea u)), .int (mSpl u), .int (nI (mNow u)), .int (mAft u)])), (a0 0, .inl (cI, 4, .inl (mHt u))), (a0 1, .inl (cI, 8, .inl (mFr u))), (a0 2, .inl (cI, 8, .inl (mTo u))), (a0 3, .inl (cI, 360, .inl (mCov u))), (a0 4, .inl (cI, 6, .inl (mPe u))), (a0 5, .inl (cI, 6, .inl (mBe u))), (a0 6, .inl (cI, 360, .inl on))]) hD hS hA [0, 1, 2, 3, 4, 5, 6, 7] rfl
      refine va_calli (va_runV (As := [.int (nI (1 + j_570))]) (rest := []) ⟨hx, hb, hml, hown, hts⟩ (c_X0_pass l D cI h0 a0 u on H.size (1 + j_570) hI hO (by omega)) (cwV 1 hts gL_act_X0_pass rfl rfl rfl (by decide +kernel) ⟨Nat.le_of_ble_eq_true rfl, Nat.le_of_ble_eq_true rfl⟩) ⟨wr_blind, va_recv (ci := 0) (q0 := 0) hKc hPc rfl rfl, fun U hU hW => ⟨rfl, by rw [hU], by rw [hU]; exact hPc, va_K.moved hW.alike hKc, hDc.weaken (fun _ _ _ _ => trivial)⟩⟩ rfl rfl hl.1 rfl (lv_room (Nat.le_of_ble_eq_true rfl)) dL_act_591 ⟨Nat.le_of_ble_eq_true rfl, Nat.le_of_ble_eq_true rfl⟩) hS (fun q _ h => hFc q h) hFc (fun r w t H1 locs ht hvm hw hB hz1 hk1 hS1 => ?_)
      obtain ⟨rfl, rfl⟩ := hw
      obtain ⟨hP1, hK1, hD1⟩ := hB
      rw [ht] at hP1
      obtain ⟨hP, hD⟩ := va_join (wr := [(h1, .inr (1, [.ref (a1 0), .ref (a1 1), .ref (a1 2), .int (nI (mRoom u)), .int (nI (mRate u)), .int (nI (mSip u)), .int (mAft u), .int (nI (mNow u)), .int (nI (mTea u)), .int (mSpl u)]))]) (w1 := [(h0, .inr (0, [.ref (a0 0), .int (nI (mSc u)), .ref (a0 1), .ref (a0 2), .int (nI (mNc u)), .ref (a0 3), .ref (a0 4), .ref (a0 5), .int (nI (mBc u)), .ref (a0 6), .int (nI (mRoom u)), .int (nI (mRate u)), .int (nI (mSip u)), .int (nI ((psS u (1 + j_570)).2)), .int (mSpl u + (psS u (1 + j_570)).1), .int (nI (mNow u + (1 + j_570))), .int (mAft u)])), (a0 0, .inl (cI, 4, .inl (mHt u))), (a0 1, .inl (cI, 8, .inl (mFr u))), (a0 2, .inl (cI, 8, .inl (mTo u))), (a0 3, .inl (cI, 360, .inl (mCov u))), (a0 4, .inl (cI, 6, .inl (mPe u))), (a0 5, .inl (cI, 6, .inl (mBe u))), (a0 6, .inl (cI, 360, .inl on))]) hP hD [0, 1, 2, 3, 4, 5, 6, 7] [8] rfl rfl (by decide) (by decide) hk1 hFc hP1 hD1
      generalize H1 = H at hP hS1 ⊢
      have hS := hS1
      have hP : va_P D vwCl [(h0, .inr (0, [.ref (a0 0), .int (nI (mSc u)), .ref (a0 1), .ref (a0 2), .int (nI (mNc u)), .ref (a0 3), .ref (a0 4), .ref (a0 5), .int (nI (mBc u)), .ref (a0 6), .int (nI (mRoom u)), .int (nI (mRate u)), .int (nI (mSip u)), .int (nI ((psS u (1 + j_570)).2)), .int (mSpl u + (psS u (1 + j_570)).1), .int (nI (mNow u + (1 + j_570))), .int (mAft u)])), (a0 0, .inl (cI, 4, .inl (mHt u))), (a0 1, .inl (cI, 8, .inl (mFr u))), (a0 2, .inl (cI, 8, .inl (mTo u))), (a0 3, .inl (cI, 360, .inl (mCov u))), (a0 4, .inl (cI, 6, .inl (mPe u))), (a0 5, .inl (cI, 6, .inl (mBe u))), (a0 6, .inl (cI, 360, .inl on)), (h1, .inr (1, [.ref (a1 0), .ref (a1 1), .ref (a1 2), .int (nI (mRoom u)), .int (nI (mRate u)), .int (nI (mSip u)), .int (mAft u), .int (nI (mNow u)), .int (nI (mTea u)), .int (mSpl u)]))] H := hP.sub [1, 2, 3, 4, 5, 6, 7, 8, 0] rfl
      have hD : va_D A [(h0, .inr (0, [.ref (a0 0), .int (nI (mSc u)), .ref (a0 1), .ref (a0 2), .int (nI (mNc u)), .ref (a0 3), .ref (a0 4), .ref (a0 5), .int (nI (mBc u)), .ref (a0 6), .int (nI (mRoom u)), .int (nI (mRate u)), .int (nI (mSip u)), .int (nI ((psS u (1 + j_570)).2)), .int (mSpl u + (psS u (1 + j_570)).1), .int (nI (mNow u + (1 + j_570))), .int (mAft u)])), (a0 0, .inl (cI, 4, .inl (mHt u))), (a0 1, .inl (cI, 8, .inl (mFr u))), (a0 2, .inl (cI, 8, .inl (mTo u))), (a0 3, .inl (cI, 360, .inl (mCov u))), (a0 4, .inl (cI, 6, .inl (mPe u))), (a0 5, .inl (cI, 6, .inl (mBe u))), (a0 6, .inl (cI, 360, .inl on)), (h1, .inr (1, [.ref (a1 0), .ref (a1 1), .ref (a1 2), .int (nI (mRoom u)), .int (nI (mRate u)), .int (nI (mSip u)), .int (mAft u), .int (nI (mNow u)), .int (nI (mTea u)), .int (mSpl u)]))] := hD.sub [1, 2, 3, 4, 5, 6, 7, 8, 0] (by decide) rfl
      have hR := hRk _ _ hS
      refine lv_aload_n hx hb dL_act_594 rfl (lv_at hl 2 rfl) ?_
      refine lv_iload_n hx hb dL_act_595 rfl (lv_at hl 0 rfl) ?_
      have hPc := hP.sub (ws' := [(h1, .inr (1, [.ref (a1 0), .ref (a1 1), .ref (a1 2), .int (nI (mRoom u)), .int (nI (mRate u)), .int (nI (mSip u)), .int (mAft u), .int (nI (mNow u)), .int (nI (mTea u)), .int (mSpl u)]))]) [8] rfl
      have hFc := va_free (wc := [(h1, .inr (1, [.ref (a1 0), .ref (a1 1), .ref (a1 2), .int (nI (mRoom u)), .int (nI (mRate u)), .int (nI (mSip u)), .int (mAft u), .int (nI (mNow u)), .int (nI (mTea u)), .int (mSpl u)]))]) hD hS hA [8] rfl
      refine va_calli (va_runV (As := [.int (nI (1 + j_570))]) (rest := [.int ((psS u (1 + j_570)).1)]) ⟨hx, hb, hml, hown, hts⟩ (c_X1_pass_ l D cI cR h1 a1 nr br u H.size (1 + j_570) (Inv.n hI) (hNM.weak (fun q z => z ▸ List.mem_of_getElem? (l := adr h0 a0 h1) (i := 8) rfl)) (by omega) (by omega) (by omega)) (cwV 1 hts gL_act_X1_pass_ rfl rfl rfl (by decide +kernel) ⟨Nat.le_of_ble_eq_true rfl, Nat.le_of_ble_eq_true rfl⟩) ⟨ws_blind, va_recv (ci := 1) (q0 := 0) hK hPc rfl rfl, fun U hU hW => ⟨rfl, by rw [hU], by rw [hU]; exact hPc, by rw [hU]; exact hR, va_K.moved hW.alike hK⟩⟩ rfl rfl hl.1 rfl (lv_room (Nat.le_of_ble_eq_true rfl)) dL_act_596 ⟨Nat.le_of_ble_eq_true rfl, Nat.le_of_ble_eq_true rfl⟩) hS (fun q _ h => hFc q h) hFc (fun r w t H1 locs ht hvm hw hB hz1 hk1 hS1 => ?_)
      obtain ⟨rfl, rfl⟩ := hw
      have hB := P_of hB ht
      obtain ⟨hP, hD⟩ := va_join (wr := [(h0, .inr (0, [.ref (a0 0), .int (nI (mSc u)), .ref (a0 1), .ref (a0 2), .int (nI (mNc u)), .ref (a0 3), .ref (a0 4), .ref (a0 5), .int (nI (mBc u)), .ref (a0 6), .int (nI (mRoom u)), .int (nI (mRate u)), .int (nI (mSip u)), .int (nI ((psS u (1 + j_570)).2)), .int (mSpl u + (psS u (1 + j_570)).1), .int (nI (mNow u + (1 + j_570))), .int (mAft u)])), (a0 0, .inl (cI, 4, .inl (mHt u))), (a0 1, .inl (cI, 8, .inl (mFr u))), (a0 2, .inl (cI, 8, .inl (mTo u))), (a0 3, .inl (cI, 360, .inl (mCov u))), (a0 4, .inl (cI, 6, .inl (mPe u))), (a0 5, .inl (cI, 6, .inl (mBe u))), (a0 6, .inl (cI, 360, .inl on))]) (w1 := [(h1, .inr (1, [.ref (a1 0), .ref (a1 1), .ref (a1 2), .int (nI (mRoom u)), .int (nI (mRate u)), .int (nI (mSip u)), .int (mAft u), .int (nI (mNow u + (1 + j_570))), .int (nI ((psS u (1 + j_570)).2)), .int (mSpl u + (psS u (1 + j_570)).1)]))]) hP hD [8] [0, 1, 2, 3, 4, 5, 6, 7] rfl rfl (by decide) (by decide) hk1 hFc hB (D_one (Or.inl ⟨0, _, rfl⟩))
      generalize H1 = H at hP hS1 ⊢
      have hS := hS1
      have hP : va_P D vwCl [(h0, .inr (0, [.ref (a0 0), .int (nI (mSc u)), .ref (a0 1), .ref (a0 2), .int (nI (mNc u)), .ref (a0 3), .ref (a0 4), .ref (a0 5), .int (nI (mBc u)), .ref (a0 6), .int (nI (mRoom u)), .int (nI (mRate u)), .int (nI (mSip u)), .int (nI ((psS u (1 + j_570)).2)), .int (mSpl u + (psS u (1 + j_570)).1), .int (nI (mNow u + (1 + j_570))), .int (mAft u)])), (a0 0, .inl (cI, 4, .inl (mHt u))), (a0 1, .inl (cI, 8, .inl (mFr u))), (a0 2, .inl (cI, 8, .inl (mTo u))), (a0 3, .inl (cI, 360, .inl (mCov u))), (a0 4, .inl (cI, 6, .inl (mPe u))), (a0 5, .inl (cI, 6, .inl (mBe u))), (a0 6, .inl (cI, 360, .inl on)), (h1, .inr (1, [.ref (a1 0), .ref (a1 1), .ref (a1 2), .int (nI (mRoom u)), .int (nI (mRate u)), .int (nI (mSip u)), .int (mAft u), .int (nI (mNow u + (1 + j_570))), .int (nI ((psS u (1 + j_570)).2)), .int (mSpl u + (psS u (1 + j_570)).1)]))] H := hP
      have hD : va_D A [(h0, .inr (0, [.ref (a0 0), .int (nI (mSc u)), .ref (a0 1), .ref (a0 2), .int (nI (mNc u)), .ref (a0 3), .ref (a0 4), .ref (a0 5), .int (nI (mBc u)), .ref (a0 6), .int (nI (mRoom u)), .int (nI (mRate u)), .int (nI (mSip u)), .int (nI ((psS u (1 + j_570)).2)), .int (mSpl u + (psS u (1 + j_570)).1), .int (nI (mNow u + (1 + j_570))), .int (mAft u)])), (a0 0, .inl (cI, 4, .inl (mHt u))), (a0 1, .inl (cI, 8, .inl (mFr u))), (a0 2, .inl (cI, 8, .inl (mTo u))), (a0 3, .inl (cI, 360, .inl (mCov u))), (a0 4, .inl (cI, 6, .inl (mPe u))), (a0 5, .inl (cI, 6, .inl (mBe u))), (a0 6, .inl (cI, 360, .inl on)), (h1, .inr (1, [.ref (a1 0), .ref (a1 1), .ref (a1 2), .int (nI (mRoom u)), .int (nI (mRate u)), .int (nI (mSip u)), .int (mAft u), .int (nI (mNow u + (1 + j_570))), .int (nI ((psS u (1 + j_570)).2)), .int (mSpl u + (psS u (1 + j_570)).1)]))] := hD
      have hR := hRk _ _ hS
      refine lv_icmp_ne (tgt := 606) hx hb dL_act_599 (by decide) (fun c_599 => ?_) (fun c_599 => ?_)
      · skip
        exact (c_599 rfl).elim
      · skip
        refine lv_iconst (v := nI 1) hx hb dL_act_602 (by decide +kernel) ?_
        refine lv_goto (tgt := 607) hx hb dL_act_603 (by decide) ?_
        refine W.widen (k := 8) (n := 63) (Nat.le_of_ble_eq_true rfl) (Nat.le_of_ble_eq_true rfl) ?_
        have hP9 : va_P D vwCl (picT cI h0 a0 h1 (a1) (uPass u (1 + j_570)) (uPass u (1 + j_570)) on) H := hP.sub (ws' := picT cI h0 a0 h1 (a1) (uPass u (1 + j_570)) (uPass u (1 + j_570)) on) [0, 1, 2, 3, 4, 5, 6, 7, 8] rfl
        have hR9 : RO cI cR (a1) (nr) (br) (uPass u (1 + j_570)) H := hR
        have hI9 : Inv (uPass u (1 + j_570)) := iv_pass hI (by omega)
        have hO9 : InvO (uPass u (1 + j_570)) on := hO
        have hS9 : InvS (uPass u (1 + j_570)) := is_pass (by omega) hIS
        have hN9 : NM (fun q => q ∈ adr h0 a0 h1) (a1) (nr) (br) (uPass u (1 + j_570)) := hNM
        exact W.zret (ty := .boolean) hx hb hr (by decide +kernel) (fun t ht hW => ⟨⟨_, (), rfl, rfl, uPass u (1 + j_570), on, a1, nr, br, hI9, hO9, hS9, hN9, by rw [ht]; exact hP9, by rw [ht]; exact hR9⟩, hS.F ht⟩) hS.2.2 dL_act_607
    · skip
      replace c_584 : 360 < ((mNow u) + (1 + j_570)) := nleN c_584
      refine lv_iconst (v := nI 1) hx hb dL_act_587 (by decide +kernel) ?_
      refine W.widen (k := 8) (n := 63) (Nat.le_of_ble_eq_true rfl) (Nat.le_of_ble_eq_true rfl) ?_
      have hP9 : va_P D vwCl (picT cI h0 a0 h1 (a1) (u) (u) on) H := hP.sub (ws' := picT cI h0 a0 h1 (a1) (u) (u) on) [0, 1, 2, 3, 4, 5, 6, 7, 8] rfl
      have hR9 : RO cI cR (a1) (nr) (br) (u) H := hR
      have hI9 : Inv (u) := hI
      have hO9 : InvO (u) on := hO
      have hS9 : InvS (u) := hIS
      have hN9 : NM (fun q => q ∈ adr h0 a0 h1) (a1) (nr) (br) (u) := hNM
      exact W.zret (ty := .boolean) hx hb hr (by decide +kernel) (fun t ht hW => ⟨⟨_, (), rfl, rfl, u, on, a1, nr, br, hI9, hO9, hS9, hN9, by rw [ht]; exact hP9, by rw [ht]; exact hR9⟩, hS.F ht⟩) hS.2.2 dL_act_588
  · skip
    replace c_559 : j_556 = 0 := eN c_559
    refine lv_sipush (v := nI 360) hx hb dL_act_562 (by decide +kernel) ?_
    refine lv_goto (tgt := 570) hx hb dL_act_565 (by decide) ?_
    refine vp_callSi (W.runS (As := [.int z_550, .int (nI 360)]) (rest := [.int (nI 1)]) ⟨hx, hb, hml, hown, hts⟩ (c_L_below l z_550 360 (by omega) (by omega)) (va_cwS 2 hts gL_act_L_below rfl rfl rfl (by decide +kernel) ⟨Nat.le_of_ble_eq_true rfl, Nat.le_of_ble_eq_true rfl⟩) preEq rfl rfl hl.1 rfl (lv_room (Nat.le_of_ble_eq_true rfl)) dL_act_570 ⟨Nat.le_of_ble_eq_true rfl, Nat.le_of_ble_eq_true rfl⟩) (fun r hr9 => ?_)
    obtain ⟨j_570, hj_570, rfl⟩ := hr9
    refine q_iaddN hx hb dL_act_573 ?_
    refine lv_istore_n (lv' := [(3, .int (nI (1 + j_570))), (0, .ref h0), (1, .ref h1), (2, .int x0)]) hx hb dL_act_574 rfl hl (by decide) rfl (fun ls hl => ?_)
    refine lv_aload_n hx hb dL_act_575 rfl (lv_at hl 2 rfl) ?_
    refine va_get (D := D) (ci := 1) (v := .int (nI (mNow u))) (C := RX1) (T := TX1) (N := 10) hx hb hts hin hown hK hP 8 rfl rfl 7 (by decide) (hts (.fieldLink RL 82 "AfternoonMeterLaw$Sim" "minute" "I") (List.mem_of_getElem? (i := 15) rfl)) (fun _ h9 => h9) rfl dL_act_576 ?_
    refine lv_iload_n hx hb dL_act_579 rfl (lv_at hl 0 rfl) ?_
    refine q_iaddN hx hb dL_act_580 ?_
    refine lv_sipush (v := nI 360) hx hb dL_act_581 (by decide +kernel) ?_
    refine lv_icmp_le (tgt := 589) hx hb dL_act_584 (by decide) (fun c_584 => ?_) (fun c_584 => ?_)
    · skip
      replace c_584 : ((mNow u) + (1 + j_570)) ≤ 360 := leN c_584
      refine lv_aload_n hx hb dL_act_589 rfl (lv_at hl 1 rfl) ?_
      refine lv_iload_n hx hb dL_act_590 rfl (lv_at hl 0 rfl) ?_
      have hPc := hP.sub (ws' := [(h0, .inr (0, [.ref (a0 0), .int (nI (mSc u)), .ref (a0 1), .ref (a0 2), .int (nI (mNc u)), .ref (a0 3), .ref (a0 4), .ref (a0 5), .int (nI (mBc u)), .ref (a0 6), .int (nI (mRoom u)), .int (nI (mRate u)), .int (nI (mSip u)), .int (nI (mTea u)), .int (mSpl u), .int (nI (mNow u)), .int (mAft u)])), (a0 0, .inl (cI, 4, .inl (mHt u))), (a0 1, .inl (cI, 8, .inl (mFr u))), (a0 2, .inl (cI, 8, .inl (mTo u))), (a0 3, .inl (cI, 360, .inl (mCov u))), (a0 4, .inl (cI, 6, .inl (mPe u))), (a0 5, .inl (cI, 6, .inl (mBe u))), (a0 6, .inl (cI, 360, .inl on))]) [0, 1, 2, 3, 4, 5, 6, 7] rfl
      have hDc := hD.sub (ws' := [(h0, .inr (0, [.ref (a0 0), .int (nI (mSc u)), .ref (a0 1), .ref (a0 2), .int (nI (mNc u)), .ref (a0 3), .ref (a0 4), .ref (a0 5), .int (nI (mBc u)), .ref (a0 6), .int (nI (mRoom u)), .int (nI (mRate u)), .int (nI (mSip u)), .int (nI (mTea u)), .int (mSpl u), .int (nI (mNow u)), .int (mAft u)])), (a0 0, .inl (cI, 4, .inl (mHt u))), (a0 1, .inl (cI, 8, .inl (mFr u))), (a0 2, .inl (cI, 8, .inl (mTo u))), (a0 3, .inl (cI, 360, .inl (mCov u))), (a0 4, .inl (cI, 6, .inl (mPe u))), (a0 5, .inl (cI, 6, .inl (mBe u))), (a0 6, .inl (cI, 360, .inl on))]) [0, 1, 2, 3, 4, 5, 6, 7] (by decide) rfl
      have hKc := hK.sub (tys' := [(cI, .int)]) [0] rfl
      have hFc := va_free (wc := [(h0, .inr (0, [.ref (a0 0), .int (nI (mSc u)), .ref (a0 1), .ref (a0 2), .int (nI (mNc u)), .ref (a0 3), .ref (a0 4), .ref (a0 5), .int (nI (mBc u)), .ref (a0 6), .int (nI (mRoom u)), .int (nI (mRate u)), .int (nI (mSip u)), .int (nI (mTea u)), .int (mSpl u), .int (nI (mNow u)), .int (mAft u)])), (a0 0, .inl (cI, 4, .inl (mHt u))), (a0 1, .inl (cI, 8, .inl (mFr u))), (a0 2, .inl (cI, 8, .inl (mTo u))), (a0 3, .inl (cI, 360, .inl (mCov u))), (a0 4, .inl (cI, 6, .inl (mPe u))), (a0 5, .inl (cI, 6, .inl (mBe u))), (a0 6, .inl (cI, 360, .inl on))]) hD hS hA [0, 1, 2, 3, 4, 5, 6, 7] rfl
      refine va_calli (va_runV (As := [.int (nI (1 + j_570))]) (rest := []) ⟨hx, hb, hml, hown, hts⟩ (c_X0_pass l D cI h0 a0 u on H.size (1 + j_570) hI hO (by omega)) (cwV 1 hts gL_act_X0_pass rfl rfl rfl (by decide +kernel) ⟨Nat.le_of_ble_eq_true rfl, Nat.le_of_ble_eq_true rfl⟩) ⟨wr_blind, va_recv (ci := 0) (q0 := 0) hKc hPc rfl rfl, fun U hU hW => ⟨rfl, by rw [hU], by rw [hU]; exact hPc, va_K.moved hW.alike hKc, hDc.weaken (fun _ _ _ _ => trivial)⟩⟩ rfl rfl hl.1 rfl (lv_room (Nat.le_of_ble_eq_true rfl)) dL_act_591 ⟨Nat.le_of_ble_eq_true rfl, Nat.le_of_ble_eq_true rfl⟩) hS (fun q _ h => hFc q h) hFc (fun r w t H1 locs ht hvm hw hB hz1 hk1 hS1 => ?_)
      obtain ⟨rfl, rfl⟩ := hw
      obtain ⟨hP1, hK1, hD1⟩ := hB
      rw [ht] at hP1
      obtain ⟨hP, hD⟩ := va_join (wr := [(h1, .inr (1, [.ref (a1 0), .ref (a1 1), .ref (a1 2), .int (nI (mRoom u)), .int (nI (mRate u)), .int (nI (mSip u)), .int (mAft u), .int (nI (mNow u)), .int (nI (mTea u)), .int (mSpl u)]))]) (w1 := [(h0, .inr (0, [.ref (a0 0), .int (nI (mSc u)), .ref (a0 1), .ref (a0 2), .int (nI (mNc u)), .ref (a0 3), .ref (a0 4), .ref (a0 5), .int (nI (mBc u)), .ref (a0 6), .int (nI (mRoom u)), .int (nI (mRate u)), .int (nI (mSip u)), .int (nI ((psS u (1 + j_570)).2)), .int (mSpl u + (psS u (1 + j_570)).1), .int (nI (mNow u + (1 + j_570))), .int (mAft u)])), (a0 0, .inl (cI, 4, .inl (mHt u))), (a0 1, .inl (cI, 8, .inl (mFr u))), (a0 2, .inl (cI, 8, .inl (mTo u))), (a0 3, .inl (cI, 360, .inl (mCov u))), (a0 4, .inl (cI, 6, .inl (mPe u))), (a0 5, .inl (cI, 6, .inl (mBe u))), (a0 6, .inl (cI, 360, .inl on))]) hP hD [0, 1, 2, 3, 4, 5, 6, 7] [8] rfl rfl (by decide) (by decide) hk1 hFc hP1 hD1
      generalize H1 = H at hP hS1 ⊢
      have hS := hS1
      have hP : va_P D vwCl [(h0, .inr (0, [.ref (a0 0), .int (nI (mSc u)), .ref (a0 1), .ref (a0 2), .int (nI (mNc u)), .ref (a0 3), .ref (a0 4), .ref (a0 5), .int (nI (mBc u)), .ref (a0 6), .int (nI (mRoom u)), .int (nI (mRate u)), .int (nI (mSip u)), .int (nI ((psS u (1 + j_570)).2)), .int (mSpl u + (psS u (1 + j_570)).1), .int (nI (mNow u + (1 + j_570))), .int (mAft u)])), (a0 0, .inl (cI, 4, .inl (mHt u))), (a0 1, .inl (cI, 8, .inl (mFr u))), (a0 2, .inl (cI, 8, .inl (mTo u))), (a0 3, .inl (cI, 360, .inl (mCov u))), (a0 4, .inl (cI, 6, .inl (mPe u))), (a0 5, .inl (cI, 6, .inl (mBe u))), (a0 6, .inl (cI, 360, .inl on)), (h1, .inr (1, [.ref (a1 0), .ref (a1 1), .ref (a1 2), .int (nI (mRoom u)), .int (nI (mRate u)), .int (nI (mSip u)), .int (mAft u), .int (nI (mNow u)), .int (nI (mTea u)), .int (mSpl u)]))] H := hP.sub [1, 2, 3, 4, 5, 6, 7, 8, 0] rfl
      have hD : va_D A [(h0, .inr (0, [.ref (a0 0), .int (nI (mSc u)), .ref (a0 1), .ref (a0 2), .int (nI (mNc u)), .ref (a0 3), .ref (a0 4), .ref (a0 5), .int (nI (mBc u)), .ref (a0 6), .int (nI (mRoom u)), .int (nI (mRate u)), .int (nI (mSip u)), .int (nI ((psS u (1 + j_570)).2)), .int (mSpl u + (psS u (1 + j_570)).1), .int (nI (mNow u + (1 + j_570))), .int (mAft u)])), (a0 0, .inl (cI, 4, .inl (mHt u))), (a0 1, .inl (cI, 8, .inl (mFr u))), (a0 2, .inl (cI, 8, .inl (mTo u))), (a0 3, .inl (cI, 360, .inl (mCov u))), (a0 4, .inl (cI, 6, .inl (mPe u))), (a0 5, .inl (cI, 6, .inl (mBe u))), (a0 6, .inl (cI, 360, .inl on)), (h1, .inr (1, [.ref (a1 0), .ref (a1 1), .ref (a1 2), .int (nI (mRoom u)), .int (nI (mRate u)), .int (nI (mSip u)), .int (mAft u), .int (nI (mNow u)), .int (nI (mTea u)), .int (mSpl u)]))] := hD.sub [1, 2, 3, 4, 5, 6, 7, 8, 0] (by decide) rfl
      have hR := hRk _ _ hS
      refine lv_aload_n hx hb dL_act_594 rfl (lv_at hl 2 rfl) ?_
      refine lv_iload_n hx hb dL_act_595 rfl (lv_at hl 0 rfl) ?_
      have hPc := hP.sub (ws' := [(h1, .inr (1, [.ref (a1 0), .ref (a1 1), .ref (a1 2), .int (nI (mRoom u)), .int (nI (mRate u)), .int (nI (mSip u)), .int (mAft u), .int (nI (mNow u)), .int (nI (mTea u)), .int (mSpl u)]))]) [8] rfl
      have hFc := va_free (wc := [(h1, .inr (1, [.ref (a1 0), .ref (a1 1), .ref (a1 2), .int (nI (mRoom u)), .int (nI (mRate u)), .int (nI (mSip u)), .int (mAft u), .int (nI (mNow u)), .int (nI (mTea u)), .int (mSpl u)]))]) hD hS hA [8] rfl
      refine va_calli (va_runV (As := [.int (nI (1 + j_570))]) (rest := [.int ((psS u (1 + j_570)).1)]) ⟨hx, hb, hml, hown, hts⟩ (c_X1_pass_ l D cI cR h1 a1 nr br u H.size (1 + j_570) (Inv.n hI) (hNM.weak (fun q z => z ▸ List.mem_of_getElem? (l := adr h0 a0 h1) (i := 8) rfl)) (by omega) (by omega) (by omega)) (cwV 1 hts gL_act_X1_pass_ rfl rfl rfl (by decide +kernel) ⟨Nat.le_of_ble_eq_true rfl, Nat.le_of_ble_eq_true rfl⟩) ⟨ws_blind, va_recv (ci := 1) (q0 := 0) hK hPc rfl rfl, fun U hU hW => ⟨rfl, by rw [hU], by rw [hU]; exact hPc, by rw [hU]; exact hR, va_K.moved hW.alike hK⟩⟩ rfl rfl hl.1 rfl (lv_room (Nat.le_of_ble_eq_true rfl)) dL_act_596 ⟨Nat.le_of_ble_eq_true rfl, Nat.le_of_ble_eq_true rfl⟩) hS (fun q _ h => hFc q h) hFc (fun r w t H1 locs ht hvm hw hB hz1 hk1 hS1 => ?_)
      obtain ⟨rfl, rfl⟩ := hw
      have hB := P_of hB ht
      obtain ⟨hP, hD⟩ := va_join (wr := [(h0, .inr (0, [.ref (a0 0), .int (nI (mSc u)), .ref (a0 1), .ref (a0 2), .int (nI (mNc u)), .ref (a0 3), .ref (a0 4), .ref (a0 5), .int (nI (mBc u)), .ref (a0 6), .int (nI (mRoom u)), .int (nI (mRate u)), .int (nI (mSip u)), .int (nI ((psS u (1 + j_570)).2)), .int (mSpl u + (psS u (1 + j_570)).1), .int (nI (mNow u + (1 + j_570))), .int (mAft u)])), (a0 0, .inl (cI, 4, .inl (mHt u))), (a0 1, .inl (cI, 8, .inl (mFr u))), (a0 2, .inl (cI, 8, .inl (mTo u))), (a0 3, .inl (cI, 360, .inl (mCov u))), (a0 4, .inl (cI, 6, .inl (mPe u))), (a0 5, .inl (cI, 6, .inl (mBe u))), (a0 6, .inl (cI, 360, .inl on))]) (w1 := [(h1, .inr (1, [.ref (a1 0), .ref (a1 1), .ref (a1 2), .int (nI (mRoom u)), .int (nI (mRate u)), .int (nI (mSip u)), .int (mAft u), .int (nI (mNow u + (1 + j_570))), .int (nI ((psS u (1 + j_570)).2)), .int (mSpl u + (psS u (1 + j_570)).1)]))]) hP hD [8] [0, 1, 2, 3, 4, 5, 6, 7] rfl rfl (by decide) (by decide) hk1 hFc hB (D_one (Or.inl ⟨0, _, rfl⟩))
      generalize H1 = H at hP hS1 ⊢
      have hS := hS1
      have hP : va_P D vwCl [(h0, .inr (0, [.ref (a0 0), .int (nI (mSc u)), .ref (a0 1), .ref (a0 2), .int (nI (mNc u)), .ref (a0 3), .ref (a0 4), .ref (a0 5), .int (nI (mBc u)), .ref (a0 6), .int (nI (mRoom u)), .int (nI (mRate u)), .int (nI (mSip u)), .int (nI ((psS u (1 + j_570)).2)), .int (mSpl u + (psS u (1 + j_570)).1), .int (nI (mNow u + (1 + j_570))), .int (mAft u)])), (a0 0, .inl (cI, 4, .inl (mHt u))), (a0 1, .inl (cI, 8, .inl (mFr u))), (a0 2, .inl (cI, 8, .inl (mTo u))), (a0 3, .inl (cI, 360, .inl (mCov u))), (a0 4, .inl (cI, 6, .inl (mPe u))), (a0 5, .inl (cI, 6, .inl (mBe u))), (a0 6, .inl (cI, 360, .inl on)), (h1, .inr (1, [.ref (a1 0), .ref (a1 1), .ref (a1 2), .int (nI (mRoom u)), .int (nI (mRate u)), .int (nI (mSip u)), .int (mAft u), .int (nI (mNow u + (1 + j_570))), .int (nI ((psS u (1 + j_570)).2)), .int (mSpl u + (psS u (1 + j_570)).1)]))] H := hP
      have hD : va_D A [(h0, .inr (0, [.ref (a0 0), .int (nI (mSc u)), .ref (a0 1), .ref (a0 2), .int (nI (mNc u)), .ref (a0 3), .ref (a0 4), .ref (a0 5), .int (nI (mBc u)), .ref (a0 6), .int (nI (mRoom u)), .int (nI (mRate u)), .int (nI (mSip u)), .int (nI ((psS u (1 + j_570)).2)), .int (mSpl u + (psS u (1 + j_570)).1), .int (nI (mNow u + (1 + j_570))), .int (mAft u)])), (a0 0, .inl (cI, 4, .inl (mHt u))), (a0 1, .inl (cI, 8, .inl (mFr u))), (a0 2, .inl (cI, 8, .inl (mTo u))), (a0 3, .inl (cI, 360, .inl (mCov u))), (a0 4, .inl (cI, 6, .inl (mPe u))), (a0 5, .inl (cI, 6, .inl (mBe u))), (a0 6, .inl (cI, 360, .inl on)), (h1, .inr (1, [.ref (a1 0), .ref (a1 1), .ref (a1 2), .int (nI (mRoom u)), .int (nI (mRate u)), .int (nI (mSip u)), .int (mAft u), .int (nI (mNow u + (1 + j_570))), .int (nI ((psS u (1 + j_570)).2)), .int (mSpl u + (psS u (1 + j_570)).1)]))] := hD
      have hR := hRk _ _ hS
      refine lv_icmp_ne (tgt := 606) hx hb dL_act_599 (by decide) (fun c_599 => ?_) (fun c_599 => ?_)
      · skip
        exact (c_599 rfl).elim
      · skip
        refine lv_iconst (v := nI 1) hx hb dL_act_602 (by decide +kernel) ?_
        refine lv_goto (tgt := 607) hx hb dL_act_603 (by decide) ?_
        refine W.widen (k := 8) (n := 63) (Nat.le_of_ble_eq_true rfl) (Nat.le_of_ble_eq_true rfl) ?_
        have hP9 : va_P D vwCl (picT cI h0 a0 h1 (a1) (uPass u (1 + j_570)) (uPass u (1 + j_570)) on) H := hP.sub (ws' := picT cI h0 a0 h1 (a1) (uPass u (1 + j_570)) (uPass u (1 + j_570)) on) [0, 1, 2, 3, 4, 5, 6, 7, 8] rfl
        have hR9 : RO cI cR (a1) (nr) (br) (uPass u (1 + j_570)) H := hR
        have hI9 : Inv (uPass u (1 + j_570)) := iv_pass hI (by omega)
        have hO9 : InvO (uPass u (1 + j_570)) on := hO
        have hS9 : InvS (uPass u (1 + j_570)) := is_pass (by omega) hIS
        have hN9 : NM (fun q => q ∈ adr h0 a0 h1) (a1) (nr) (br) (uPass u (1 + j_570)) := hNM
        exact W.zret (ty := .boolean) hx hb hr (by decide +kernel) (fun t ht hW => ⟨⟨_, (), rfl, rfl, uPass u (1 + j_570), on, a1, nr, br, hI9, hO9, hS9, hN9, by rw [ht]; exact hP9, by rw [ht]; exact hR9⟩, hS.F ht⟩) hS.2.2 dL_act_607
    · skip
      replace c_584 : 360 < ((mNow u) + (1 + j_570)) := nleN c_584
      refine lv_iconst (v := nI 1) hx hb dL_act_587 (by decide +kernel) ?_
      refine W.widen (k := 8) (n := 63) (Nat.le_of_ble_eq_true rfl) (Nat.le_of_ble_eq_true rfl) ?_
      have hP9 : va_P D vwCl (picT cI h0 a0 h1 (a1) (u) (u) on) H := hP.sub (ws' := picT cI h0 a0 h1 (a1) (u) (u) on) [0, 1, 2, 3, 4, 5, 6, 7, 8] rfl
      have hR9 : RO cI cR (a1) (nr) (br) (u) H := hR
      have hI9 : Inv (u) := hI
      have hO9 : InvO (u) on := hO
      have hS9 : InvS (u) := hIS
      have hN9 : NM (fun q => q ∈ adr h0 a0 h1) (a1) (nr) (br) (u) := hNM
      exact W.zret (ty := .boolean) hx hb hr (by decide +kernel) (fun t ht hW => ⟨⟨_, (), rfl, rfl, u, on, a1, nr, br, hI9, hO9, hS9, hN9, by rw [ht]; exact hP9, by rw [ht]; exact hR9⟩, hS.F ht⟩) hS.2.2 dL_act_588
