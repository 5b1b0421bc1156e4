set_option maxHeartbeats 8000000 in
set_option maxRecDepth 100000 in
theorem ac_56 {p : Program} {l : Launch} {e : Env} {s : State} {m : MethodId} {args : Array Value} {below : List Frame} {meth : Method} {c : Code} {D : va_G} {cI cR : ClassId} {h0 h1 : Nat} {a0 a1 nr br : Nat → Nat} {u : MS} {on : Nat → Int32} {A : Nat → Prop} {H : Heap} {locs : List Loc} {ls : Array Slot} {x0 : Int32} (hx : p.tables.exec = Jvm.exec) (hb : c.code = cL_act) (hml : c.maxLocals = 5) (hr : meth.sig.returnType = some .boolean) (hlocks : meth.locks = false) (hts : ∀ w ∈ wsL_act, w.before args s = true) (hown : s.vm.findClass RL = some m.cls) (hAO : AOI s) (hI : Inv u) (hO : InvO u on) (hIS : InvS u) (hNM : NM (fun q => q ∈ adr h0 a0 h1) a1 nr br u) (hRk : ∀ (H2 : Heap) (locs2 : List Loc), va_S A s.heap H2 locs2 → RO cI cR a1 nr br u H2) (hlt : ∀ q : Nat, q ∈ adr h0 a0 h1 → q < s.heap.size) (hK : va_K D vwCl (tyR cI cR) s) (hP : va_P D vwCl (picT cI h0 a0 h1 a1 u u on) H) (hD : va_D A (picT cI h0 a0 h1 a1 u u on)) (hA : ∀ q : Nat, s.heap.size ≤ q → A q) (hS : va_S A s.heap H locs) (hl : lv_has ls 5 [(0, .ref h0), (1, .ref h1), (2, .int x0)]) : W p l e ({ frames := 4, cells := 8, slots := 63, locals := 91 } : Room) s m args below meth c H locs 0 0 (MQ below ((fun A : Nat → Prop => va_Qi (fun (r : Int32) (_ : Unit) => r = nI 1) (fun (_ : Unit) (t : State) => ∃ (u2 : MS) (on2 : Nat → Int32) (a2 nr2 br2 : Nat → Nat), Inv u2 ∧ InvO u2 on2 ∧ InvS u2 ∧ NM (fun q => q ∈ adr h0 a0 h1) a2 nr2 br2 u2 ∧ va_P D vwCl (picT cI h0 a0 h1 a2 u2 u2 on2) t.heap ∧ RO cI cR a2 nr2 br2 u2 t.heap) A) A) args s 8 63 A) (F0 m 56 ls []) := by
  have hin : ∀ w ∈ wsX10, w ∈ wsL_act := fun _ h9 => List.mem_cons_of_mem _ (List.mem_append_left _ (List.mem_append_left _ (List.mem_append_left _ (List.mem_append_left _ (List.mem_append_right _ h9)))))
  obtain ⟨hIa, hIb, hIc, hId, hIe, hIf, hIg, hIh, hIi, hIj⟩ := id hI
  have hR := hRk _ _ hS
  refine lv_aload_n hx hb dL_act_56 rfl (lv_at hl 1 rfl) ?_
  refine va_get (D := D) (ci := 1) (v := .ref (a1 0)) (C := RX1) (T := TX1) (N := 10) hx hb hts hin hown hK hP 8 rfl rfl 0 (by decide) (hts (.fieldLink RL 15 "AfternoonMeterLaw$Sim" "sticks" "[I") (List.mem_of_getElem? (i := 1) rfl)) (fun _ h9 => h9) rfl dL_act_57 ?_
  refine va_alen (ws := [(a1 0, .inl (cI, mSc u, .inl (mHt u)))]) (v := nI (mSc u)) hx hb hK (P_one hR.1) 0 0 rfl rfl rfl dL_act_60 ?_
  refine lv_iconst (v := nI 4) hx hb dL_act_61 (by decide +kernel) ?_
  refine lv_icmp_ne (tgt := 67) hx hb dL_act_62 (by decide) (fun c_62 => ?_) (fun c_62 => ?_)
  · skip
    replace c_62 : (mSc u) ≠ 4 := neN c_62
    refine lv_iconst (v := nI 1) hx hb dL_act_67 (by decide +kernel) ?_
    refine lv_iload_n hx hb dL_act_68 rfl (lv_at hl 2 rfl) ?_
    refine lv_iconst (v := nI 4) hx hb dL_act_69 (by decide +kernel) ?_
    refine lv_ishr hx hb dL_act_70 ?_
    refine lv_topi (fun z_70 _ => ?_)
    refine lv_bipush (v := nI 30) hx hb dL_act_71 (by decide +kernel) ?_
    refine vp_callSi (W.runS (As := [.int z_70, .int (nI 30)]) (rest := [.int (nI 1)]) ⟨hx, hb, hml, hown, hts⟩ (c_L_below l z_70 30 (by omega) (by omega)) (va_cwS 2 hts gL_act_L_below rfl rfl rfl (by decide +kernel) ⟨Nat.le_of_ble_eq_true rfl, Nat.le_of_ble_eq_true rfl⟩) preEq rfl rfl hl.1 rfl (lv_room (Nat.le_of_ble_eq_true rfl)) dL_act_73 ⟨Nat.le_of_ble_eq_true rfl, Nat.le_of_ble_eq_true rfl⟩) (fun r hr9 => ?_)
    obtain ⟨j_73, hj_73, rfl⟩ := hr9
    refine q_iaddN hx hb dL_act_76 ?_
    refine lv_istore_n (lv' := [(3, .int (nI (1 + j_73))), (0, .ref h0), (1, .ref h1), (2, .int x0)]) hx hb dL_act_77 rfl hl (by decide) rfl (fun ls hl => ?_)
    refine lv_aload_n hx hb dL_act_78 rfl (lv_at hl 2 rfl) ?_
    refine lv_iload_n hx hb dL_act_79 rfl (lv_at hl 0 rfl) ?_
    have hPc := hP.sub (ws' := [(h1, .inr (1, [.ref (a1 0), .ref (a1 1), .ref (a1 2), .int (nI (mRoom u)), .int (nI (mRate u)), .int (nI (mSip u)), .int (mAft u), .int (nI (mNow u)), .int (nI (mTea u)), .int (mSpl u)]))]) [8] rfl
    have hFc := va_free (wc := [(h1, .inr (1, [.ref (a1 0), .ref (a1 1), .ref (a1 2), .int (nI (mRoom u)), .int (nI (mRate u)), .int (nI (mSip u)), .int (mAft u), .int (nI (mNow u)), .int (nI (mTea u)), .int (mSpl u)]))]) hD hS hA [8] rfl
    refine va_callv (va_runV (As := [.int (nI (1 + j_73))]) (rest := []) ⟨hx, hb, hml, hown, hts⟩ (c_X1_addStick l D cI cR h1 a1 nr br u H.size (1 + j_73) (Inv.n hI) (hNM.weak (fun q z => z ▸ List.mem_of_getElem? (l := adr h0 a0 h1) (i := 8) rfl)) (by omega)) (cwV 1 hts gL_act_X1_addStick rfl rfl rfl (by decide +kernel) ⟨Nat.le_of_ble_eq_true rfl, Nat.le_of_ble_eq_true rfl⟩) ⟨ws_blind, va_recv (ci := 1) (q0 := 0) hK hPc rfl rfl, fun U hU hW => ⟨rfl, by rw [hU], by rw [hU]; exact hPc, by rw [hU]; exact hR, va_K.moved hW.alike hK⟩⟩ rfl rfl hl.1 rfl (lv_room (Nat.le_of_ble_eq_true rfl)) dL_act_80 ⟨Nat.le_of_ble_eq_true rfl, Nat.le_of_ble_eq_true rfl⟩) hS (fun q _ h => hFc q h) hFc (fun w t H1 locs ht hvm hw hB hz1 hk1 hS1 => ?_)
    try dsimp only at hB
    rw [ht] at hB
    obtain ⟨q80, hq9, hB1, hB2⟩ := hB
    have hq80s : s.heap.size ≤ q80 := Nat.le_trans hS.1 hq9
    have hlt9 : h1 < H.size := (hPc 0 _ rfl).lt
    obtain ⟨hP, hD⟩ := va_join (wr := [(h0, .inr (0, [.ref (a0 0), .int (nI (mSc u)), .ref (a0 1), .ref (a0 2), .int (nI (mNc u)), .ref (a0 3), .ref (a0 4), .ref (a0 5), .int (nI (mBc u)), .ref (a0 6), .int (nI (mRoom u)), .int (nI (mRate u)), .int (nI (mSip u)), .int (nI (mTea u)), .int (mSpl u), .int (nI (mNow u)), .int (mAft u)])), (a0 0, .inl (cI, 4, .inl (mHt u))), (a0 1, .inl (cI, 8, .inl (mFr u))), (a0 2, .inl (cI, 8, .inl (mTo u))), (a0 3, .inl (cI, 360, .inl (mCov u))), (a0 4, .inl (cI, 6, .inl (mPe u))), (a0 5, .inl (cI, 6, .inl (mBe u))), (a0 6, .inl (cI, 360, .inl on))]) (w1 := [(h1, .inr (1, [.ref q80, .ref (a1 1), .ref (a1 2), .int (nI (mRoom u)), .int (nI (mRate u)), .int (nI (mSip u)), .int (mAft u), .int (nI (mNow u)), .int (nI (mTea u)), .int (mSpl u)])), (q80, .inl (cI, (mSc u + 1), .inl (upd (mHt u) (mSc u) (nI (1 + j_73)))))]) hP hD [8] [0, 1, 2, 3, 4, 5, 6, 7] rfl rfl (by decide) (by decide) hk1 hFc (P_two (hB1 0 _ rfl) hB2) (D_two (Or.inl ⟨0, _, rfl⟩) (Or.inr hq9) (by omega))
    generalize H1 = H at hP hS1 ⊢
    have hS := hS1
    have hP : va_P D vwCl [(h0, .inr (0, [.ref (a0 0), .int (nI (mSc u)), .ref (a0 1), .ref (a0 2), .int (nI (mNc u)), .ref (a0 3), .ref (a0 4), .ref (a0 5), .int (nI (mBc u)), .ref (a0 6), .int (nI (mRoom u)), .int (nI (mRate u)), .int (nI (mSip u)), .int (nI (mTea u)), .int (mSpl u), .int (nI (mNow u)), .int (mAft u)])), (a0 0, .inl (cI, 4, .inl (mHt u))), (a0 1, .inl (cI, 8, .inl (mFr u))), (a0 2, .inl (cI, 8, .inl (mTo u))), (a0 3, .inl (cI, 360, .inl (mCov u))), (a0 4, .inl (cI, 6, .inl (mPe u))), (a0 5, .inl (cI, 6, .inl (mBe u))), (a0 6, .inl (cI, 360, .inl on)), (h1, .inr (1, [.ref q80, .ref (a1 1), .ref (a1 2), .int (nI (mRoom u)), .int (nI (mRate u)), .int (nI (mSip u)), .int (mAft u), .int (nI (mNow u)), .int (nI (mTea u)), .int (mSpl u)])), (q80, .inl (cI, (mSc u + 1), .inl (upd (mHt u) (mSc u) (nI (1 + j_73)))))] H := hP
    have hD : va_D A [(h0, .inr (0, [.ref (a0 0), .int (nI (mSc u)), .ref (a0 1), .ref (a0 2), .int (nI (mNc u)), .ref (a0 3), .ref (a0 4), .ref (a0 5), .int (nI (mBc u)), .ref (a0 6), .int (nI (mRoom u)), .int (nI (mRate u)), .int (nI (mSip u)), .int (nI (mTea u)), .int (mSpl u), .int (nI (mNow u)), .int (mAft u)])), (a0 0, .inl (cI, 4, .inl (mHt u))), (a0 1, .inl (cI, 8, .inl (mFr u))), (a0 2, .inl (cI, 8, .inl (mTo u))), (a0 3, .inl (cI, 360, .inl (mCov u))), (a0 4, .inl (cI, 6, .inl (mPe u))), (a0 5, .inl (cI, 6, .inl (mBe u))), (a0 6, .inl (cI, 360, .inl on)), (h1, .inr (1, [.ref q80, .ref (a1 1), .ref (a1 2), .int (nI (mRoom u)), .int (nI (mRate u)), .int (nI (mSip u)), .int (mAft u), .int (nI (mNow u)), .int (nI (mTea u)), .int (mSpl u)])), (q80, .inl (cI, (mSc u + 1), .inl (upd (mHt u) (mSc u) (nI (1 + j_73)))))] := hD
    have hR := hRk _ _ hS
    refine lv_aload_n hx hb dL_act_83 rfl (lv_at hl 1 rfl) ?_
    refine lv_iload_n hx hb dL_act_84 rfl (lv_at hl 0 rfl) ?_
    have hPc := hP.sub (ws' := [(h0, .inr (0, [.ref (a0 0), .int (nI (mSc u)), .ref (a0 1), .ref (a0 2), .int (nI (mNc u)), .ref (a0 3), .ref (a0 4), .ref (a0 5), .int (nI (mBc u)), .ref (a0 6), .int (nI (mRoom u)), .int (nI (mRate u)), .int (nI (mSip u)), .int (nI (mTea u)), .int (mSpl u), .int (nI (mNow u)), .int (mAft u)])), (a0 0, .inl (cI, 4, .inl (mHt u))), (a0 1, .inl (cI, 8, .inl (mFr u))), (a0 2, .inl (cI, 8, .inl (mTo u))), (a0 3, .inl (cI, 360, .inl (mCov u))), (a0 4, .inl (cI, 6, .inl (mPe u))), (a0 5, .inl (cI, 6, .inl (mBe u))), (a0 6, .inl (cI, 360, .inl on))]) [0, 1, 2, 3, 4, 5, 6, 7] rfl
    have hDc := hD.sub (ws' := [(h0, .inr (0, [.ref (a0 0), .int (nI (mSc u)), .ref (a0 1), .ref (a0 2), .int (nI (mNc u)), .ref (a0 3), .ref (a0 4), .ref (a0 5), .int (nI (mBc u)), .ref (a0 6), .int (nI (mRoom u)), .int (nI (mRate u)), .int (nI (mSip u)), .int (nI (mTea u)), .int (mSpl u), .int (nI (mNow u)), .int (mAft u)])), (a0 0, .inl (cI, 4, .inl (mHt u))), (a0 1, .inl (cI, 8, .inl (mFr u))), (a0 2, .inl (cI, 8, .inl (mTo u))), (a0 3, .inl (cI, 360, .inl (mCov u))), (a0 4, .inl (cI, 6, .inl (mPe u))), (a0 5, .inl (cI, 6, .inl (mBe u))), (a0 6, .inl (cI, 360, .inl on))]) [0, 1, 2, 3, 4, 5, 6, 7] (by decide) rfl
    have hKc := hK.sub (tys' := [(cI, .int)]) [0] rfl
    have hFc := va_free (wc := [(h0, .inr (0, [.ref (a0 0), .int (nI (mSc u)), .ref (a0 1), .ref (a0 2), .int (nI (mNc u)), .ref (a0 3), .ref (a0 4), .ref (a0 5), .int (nI (mBc u)), .ref (a0 6), .int (nI (mRoom u)), .int (nI (mRate u)), .int (nI (mSip u)), .int (nI (mTea u)), .int (mSpl u), .int (nI (mNow u)), .int (mAft u)])), (a0 0, .inl (cI, 4, .inl (mHt u))), (a0 1, .inl (cI, 8, .inl (mFr u))), (a0 2, .inl (cI, 8, .inl (mTo u))), (a0 3, .inl (cI, 360, .inl (mCov u))), (a0 4, .inl (cI, 6, .inl (mPe u))), (a0 5, .inl (cI, 6, .inl (mBe u))), (a0 6, .inl (cI, 360, .inl on))]) hD hS hA [0, 1, 2, 3, 4, 5, 6, 7] rfl
    refine va_calli (va_runV (As := [.int (nI (1 + j_73))]) (rest := []) ⟨hx, hb, hml, hown, hts⟩ (c_X0_addStick l D cI h0 a0 u on H.size (1 + j_73) hI (by omega) (by omega)) (cwV 1 hts gL_act_X0_addStick rfl rfl rfl (by decide +kernel) ⟨Nat.le_of_ble_eq_true rfl, Nat.le_of_ble_eq_true rfl⟩) ⟨wr_blind, va_recv (ci := 0) (q0 := 0) hKc hPc rfl rfl, fun U hU hW => ⟨rfl, by rw [hU], by rw [hU]; exact hPc, va_K.moved hW.alike hKc, hDc.weaken (fun _ _ _ _ => trivial)⟩⟩ rfl rfl hl.1 rfl (lv_room (Nat.le_of_ble_eq_true rfl)) dL_act_85 ⟨Nat.le_of_ble_eq_true rfl, Nat.le_of_ble_eq_true rfl⟩) hS (fun q _ h => hFc q h) hFc (fun r w t H1 locs ht hvm hw hB hz1 hk1 hS1 => ?_)
    obtain ⟨rfl, rfl⟩ := hw
    obtain ⟨hP1, hK1, hD1⟩ := hB
    rw [ht] at hP1
    obtain ⟨hP, hD⟩ := va_join (wr := [(h1, .inr (1, [.ref q80, .ref (a1 1), .ref (a1 2), .int (nI (mRoom u)), .int (nI (mRate u)), .int (nI (mSip u)), .int (mAft u), .int (nI (mNow u)), .int (nI (mTea u)), .int (mSpl u)])), (q80, .inl (cI, (mSc u + 1), .inl (upd (mHt u) (mSc u) (nI (1 + j_73)))))]) (w1 := [(h0, .inr (0, [.ref (a0 0), .int (nI (mSc u + 1)), .ref (a0 1), .ref (a0 2), .int (nI (mNc u)), .ref (a0 3), .ref (a0 4), .ref (a0 5), .int (nI (mBc u)), .ref (a0 6), .int (nI (mRoom u)), .int (nI (mRate u)), .int (nI (mSip u)), .int (nI (mTea u)), .int (mSpl u), .int (nI (mNow u)), .int (mAft u)])), (a0 0, .inl (cI, 4, .inl (upd (mHt u) (mSc u) (nI (1 + j_73))))), (a0 1, .inl (cI, 8, .inl (mFr u))), (a0 2, .inl (cI, 8, .inl (mTo u))), (a0 3, .inl (cI, 360, .inl (mCov u))), (a0 4, .inl (cI, 6, .inl (mPe u))), (a0 5, .inl (cI, 6, .inl (mBe u))), (a0 6, .inl (cI, 360, .inl on))]) hP hD [0, 1, 2, 3, 4, 5, 6, 7] [8, 9] rfl rfl (by decide) (by decide) hk1 hFc hP1 hD1
    generalize H1 = H at hP hS1 ⊢
    have hS := hS1
    have hP : va_P D vwCl [(h0, .inr (0, [.ref (a0 0), .int (nI (mSc u + 1)), .ref (a0 1), .ref (a0 2), .int (nI (mNc u)), .ref (a0 3), .ref (a0 4), .ref (a0 5), .int (nI (mBc u)), .ref (a0 6), .int (nI (mRoom u)), .int (nI (mRate u)), .int (nI (mSip u)), .int (nI (mTea u)), .int (mSpl u), .int (nI (mNow u)), .int (mAft u)])), (a0 0, .inl (cI, 4, .inl (upd (mHt u) (mSc u) (nI (1 + j_73))))), (a0 1, .inl (cI, 8, .inl (mFr u))), (a0 2, .inl (cI, 8, .inl (mTo u))), (a0 3, .inl (cI, 360, .inl (mCov u))), (a0 4, .inl (cI, 6, .inl (mPe u))), (a0 5, .inl (cI, 6, .inl (mBe u))), (a0 6, .inl (cI, 360, .inl on)), (h1, .inr (1, [.ref q80, .ref (a1 1), .ref (a1 2), .int (nI (mRoom u)), .int (nI (mRate u)), .int (nI (mSip u)), .int (mAft u), .int (nI (mNow u)), .int (nI (mTea u)), .int (mSpl u)])), (q80, .inl (cI, (mSc u + 1), .inl (upd (mHt u) (mSc u) (nI (1 + j_73)))))] H := hP.sub [2, 3, 4, 5, 6, 7, 8, 9, 0, 1] rfl
    have hD : va_D A [(h0, .inr (0, [.ref (a0 0), .int (nI (mSc u + 1)), .ref (a0 1), .ref (a0 2), .int (nI (mNc u)), .ref (a0 3), .ref (a0 4), .ref (a0 5), .int (nI (mBc u)), .ref (a0 6), .int (nI (mRoom u)), .int (nI (mRate u)), .int (nI (mSip u)), .int (nI (mTea u)), .int (mSpl u), .int (nI (mNow u)), .int (mAft u)])), (a0 0, .inl (cI, 4, .inl (upd (mHt u) (mSc u) (nI (1 + j_73))))), (a0 1, .inl (cI, 8, .inl (mFr u))), (a0 2, .inl (cI, 8, .inl (mTo u))), (a0 3, .inl (cI, 360, .inl (mCov u))), (a0 4, .inl (cI, 6, .inl (mPe u))), (a0 5, .inl (cI, 6, .inl (mBe u))), (a0 6, .inl (cI, 360, .inl on)), (h1, .inr (1, [.ref q80, .ref (a1 1), .ref (a1 2), .int (nI (mRoom u)), .int (nI (mRate u)), .int (nI (mSip u)), .int (mAft u), .int (nI (mNow u)), .int (nI (mTea u)), .int (mSpl u)])), (q80, .inl (cI, (mSc u + 1), .inl (upd (mHt u) (mSc u) (nI (1 + j_73)))))] := hD.sub [2, 3, 4, 5, 6, 7, 8, 9, 0, 1] (by decide) rfl
    have hR := hRk _ _ hS
    refine lv_aload_n hx hb dL_act_88 rfl (lv_at hl 2 rfl) ?_
    refine va_get (D := D) (ci := 1) (v := .ref q80) (C := RX1) (T := TX1) (N := 10) hx hb hts hin hown hK hP 8 rfl rfl 0 (by decide) (hts (.fieldLink RL 15 "AfternoonMeterLaw$Sim" "sticks" "[I") (List.mem_of_getElem? (i := 1) rfl)) (fun _ h9 => h9) rfl dL_act_89 ?_
    refine va_alen (v := nI (mSc u + 1)) hx hb hK hP 9 0 rfl rfl rfl dL_act_92 ?_
    refine lv_iconst (v := nI 1) hx hb dL_act_93 (by decide +kernel) ?_
    refine q_isubN hx hb (by omega) dL_act_94 ?_
    refine lv_icmp_ne (tgt := 102) hx hb dL_act_95 (by decide) (fun c_95 => ?_) (fun c_95 => ?_)
    · skip
      replace c_95 : (mSc u) ≠ ((mSc u + 1) - 1) := neN c_95
      exact (by omega : False).elim
    · skip
      replace c_95 : (mSc u) = ((mSc u + 1) - 1) := eN c_95
      refine lv_iconst (v := nI 1) hx hb dL_act_98 (by decide +kernel) ?_
      refine lv_goto (tgt := 103) hx hb dL_act_99 (by decide) ?_
      refine W.widen (k := 8) (n := 63) (Nat.le_of_ble_eq_true rfl) (Nat.le_of_ble_eq_true rfl) ?_
      have hP9 : va_P D vwCl (picT cI h0 a0 h1 (upN a1 0 q80) (uStick u (1 + j_73)) (uStick u (1 + j_73)) on) H := hP.sub (ws' := picT cI h0 a0 h1 (upN a1 0 q80) (uStick u (1 + j_73)) (uStick u (1 + j_73)) on) [0, 1, 2, 3, 4, 5, 6, 7, 8] rfl
      have hR9 : RO cI cR (upN a1 0 q80) (nr) (br) (uStick u (1 + j_73)) H := RO_stick (x := (1 + j_73)) hR (hP 9 _ rfl)
      have hI9 : Inv (uStick u (1 + j_73)) := iv_stick hI (by omega) (by omega)
      have hO9 : InvO (uStick u (1 + j_73)) on := hO
      have hS9 : InvS (uStick u (1 + j_73)) := hIS
      have hN9 : NM (fun q => q ∈ adr h0 a0 h1) (upN a1 0 q80) (nr) (br) (uStick u (1 + j_73)) := NM_stick hNM (fun z => absurd (hlt _ z) (Nat.not_lt.mpr hq80s))
      exact W.zret (ty := .boolean) hx hb hr (by decide +kernel) (fun t ht hW => ⟨⟨_, (), rfl, rfl, uStick u (1 + j_73), on, upN a1 0 q80, nr, br, hI9, hO9, hS9, hN9, by rw [ht]; exact hP9, by rw [ht]; exact hR9⟩, hS.F ht⟩) hS.2.2 dL_act_103
  · skip
    replace c_62 : (mSc u) = 4 := eN c_62
    refine lv_iconst (v := nI 1) hx hb dL_act_65 (by decide +kernel) ?_
    refine W.widen (k := 8) (n := 63) (Nat.le_of_ble_eq_true rfl) (Nat.le_of_ble_eq_true rfl) ?_
    have hP9 : va_P D vwCl (picT cI h0 a0 h1 (a1) (u) (u) on) H := hP.sub (ws' := picT cI h0 a0 h1 (a1) (u) (u) on) [0, 1, 2, 3, 4, 5, 6, 7, 8] rfl
    have hR9 : RO cI cR (a1) (nr) (br) (u) H := hR
    have hI9 : Inv (u) := hI
    have hO9 : InvO (u) on := hO
    have hS9 : InvS (u) := hIS
    have hN9 : NM (fun q => q ∈ adr h0 a0 h1) (a1) (nr) (br) (u) := hNM
    exact W.zret (ty := .boolean) hx hb hr (by decide +kernel) (fun t ht hW => ⟨⟨_, (), rfl, rfl, u, on, a1, nr, br, hI9, hO9, hS9, hN9, by rw [ht]; exact hP9, by rw [ht]; exact hR9⟩, hS.F ht⟩) hS.2.2 dL_act_66
