set_option maxHeartbeats 8000000 in
set_option maxRecDepth 100000 in
theorem lc_12 {p : Program} {l : Launch} {e : Env} {s : State} {m : MethodId} {below : List Frame} {meth : Method} {c : Code} {D : va_G} {cI cJ : ClassId} {b L h0 h1 o : Nat} {a0 a1 : Nat → Nat} {xs : Nat → Int32} (htr : l.stackTraces = false) (hL : L ≤ 2048) (C0 : lw_At p s m meth c b L xs) (hK : va_K D vwCl [(cI, .int), (cJ, .long)] s) (hE : tE (fun q : Nat => s.heap.size ≤ q) s) {i C Sl : Nat} (hi : i + 3 < L) (hC : C + 2 ≤ 601024) (hC2 : Sl + 20 ≤ 7293034) (kk : lwK p l e s m below meth c D cI cJ b h0 h1 o a0 a1 i (C + 1) (Sl + 13)) (u : MS) (on : Nat → Int32) (th : Int32) (f : Nat → Int64) (H : Heap) (locs : List Loc) (ls : Array Slot) (hw : lwI D cI cJ h0 h1 o a0 a1 s u on th f H locs) (hl : lv_has ls 9 [(0, .ref b), (1, .ref h0), (2, .ref h1), (3, .ref o), (4, .int (nI i))]) : W p l e room_1 s m #[Value.ref b] below meth c H locs C Sl (lw_Z below #[Value.ref b] s) (F0 m 708 ls []) := by
  obtain ⟨hx, hb, hr, hml, hown, hts0, hX, hbl, hlocks, hgv⟩ := id C0
  have hown : s.vm.findClass RL = some m.cls := hown
  have hts : ∀ w ∈ wsL_law, w.before #[Value.ref b] s = true := fun w h => hts0 w (wsL_law_in w h)
  have hA : ∀ q : Nat, s.heap.size ≤ q → (fun q : Nat => s.heap.size ≤ q) q := fun _ h => h
  have hbA : ¬ (fun q : Nat => s.heap.size ≤ q) b := Nat.not_le.mpr hbl
  obtain ⟨hI, hO, hP, hD, hS⟩ := hw
  refine lv_aload_n hx hb dL_law_708 rfl (lv_at hl 1 rfl) ?_
  refine vp_callSi (W.runV (As := []) (rest := []) ⟨hx, hb, hml, hown, hts⟩ (c_X0_longestAwake l D cI h0 a0 u on hI) (cwV 0 hts gL_law_X0_longestAwake rfl rfl rfl (by decide +kernel) ⟨Nat.le_of_ble_eq_true rfl, Nat.le_of_ble_eq_true rfl⟩) (pu_pre (hK.sub (tys' := [(cI, .int)]) [0] rfl) (hP.sub (ws' := (pic0 cI h0 a0 u on)) [0, 1, 2, 3, 4, 5, 6, 7] rfl) rfl rfl) rfl rfl hl.1 rfl (lv_room (Nat.le_of_ble_eq_true rfl)) dL_law_709 ⟨show C + 0 ≤ 601024 by omega, show Sl + 0 ≤ 7293034 by omega⟩) (fun r hr9 => ?_)
  subst hr9
  refine lv_aload_n hx hb dL_law_712 rfl (lv_at hl 2 rfl) ?_
  have hPc := hP.sub (ws' := (pic1 cI h1 a1 u th)) [8, 9, 10, 11, 12, 13, 14] rfl
  have hDc := hD.sub (ws' := (pic1 cI h1 a1 u th)) [8, 9, 10, 11, 12, 13, 14] (by decide) rfl
  have hKc := hK.sub (tys' := [(cI, .int)]) [0] rfl
  have hFc := va_free (wc := (pic1 cI h1 a1 u th)) hD hS hA [8, 9, 10, 11, 12, 13, 14] rfl
  refine va_calli (va_runV (As := []) (rest := [.int (fLong u)]) ⟨hx, hb, hml, hown, hts⟩ (c_X1_longestAwake l D cI h1 a1 u th H.size  hI) (cwV 0 hts gL_law_X1_longestAwake rfl rfl rfl (by decide +kernel) ⟨Nat.le_of_ble_eq_true rfl, Nat.le_of_ble_eq_true rfl⟩) ⟨wr_blind, va_recv (ci := 1) (q0 := 0) hKc hPc rfl rfl, fun U hU hW => ⟨rfl, by rw [hU], by rw [hU]; exact hPc, va_K.moved hW.alike hKc, hDc.weaken (fun _ _ _ _ => trivial)⟩⟩ rfl rfl hl.1 rfl (lv_room (Nat.le_of_ble_eq_true rfl)) dL_law_713 ⟨show C + 0 ≤ 601024 by omega, show Sl + 0 ≤ 7293034 by omega⟩) hS (fun q _ h => hFc q h) hFc (fun r w t H1 locs ht hvm hw hB hz1 hk1 hS => ?_)
  obtain ⟨rfl, rfl⟩ := hw
  obtain ⟨hP1, hK1, hD1⟩ := hB
  rw [ht] at hP1
  obtain ⟨hP, hD⟩ := va_join (wr := (picL cI cJ h0 a0 o u on f)) (w1 := (pic1 cI h1 a1 u (nI 0))) hP hD [8, 9, 10, 11, 12, 13, 14] [0, 1, 2, 3, 4, 5, 6, 7, 15] rfl rfl (by decide) (by decide) hk1 hFc hP1 hD1
  generalize H1 = H at hP hS ⊢
  have hP : va_P D vwCl (picW cI cJ h0 a0 h1 a1 o u on u (nI 0) f) H := hP.sub [0, 1, 2, 3, 4, 5, 6, 7, 9, 10, 11, 12, 13, 14, 15, 8] rfl
  have hD : va_D (fun q : Nat => s.heap.size ≤ q) (picW cI cJ h0 a0 h1 a1 o u on u (nI 0) f) := hD.sub [0, 1, 2, 3, 4, 5, 6, 7, 9, 10, 11, 12, 13, 14, 15, 8] (by decide) rfl
  refine lv_icmp_eq (tgt := 1546) hx hb dL_law_716 (by decide) (fun c_716 => ?_) (fun c_716 => ?_)
  · skip
    refine W.widen (k := C + 1) (n := Sl + 13) (by omega) (by omega) ?_
    exact kk u on (nI 0) f H _ _ ⟨hI, hO, hP, hD, hS⟩ (lv_sub hl [0, 1, 2, 3, 4] rfl)
  · skip
    exact (c_716 rfl).elim
set_option maxHeartbeats 8000000 in
set_option maxRecDepth 100000 in
theorem lc_13 {p : Program} {l : Launch} {e : Env} {s : State} {m : MethodId} {below : List Frame} {meth : Method} {c : Code} {D : va_G} {cI cJ : ClassId} {b L h0 h1 o : Nat} {a0 a1 : Nat → Nat} {xs : Nat → Int32} (htr : l.stackTraces = false) (hL : L ≤ 2048) (C0 : lw_At p s m meth c b L xs) (hK : va_K D vwCl [(cI, .int), (cJ, .long)] s) (hE : tE (fun q : Nat => s.heap.size ≤ q) s) {i C Sl : Nat} (hi : i + 3 < L) (hC : C + 2 ≤ 601024) (hC2 : Sl + 20 ≤ 7293034) (kk : lwK p l e s m below meth c D cI cJ b h0 h1 o a0 a1 i (C + 1) (Sl + 13)) (u : MS) (on : Nat → Int32) (th : Int32) (f : Nat → Int64) (H : Heap) (locs : List Loc) (ls : Array Slot) (hw : lwI D cI cJ h0 h1 o a0 a1 s u on th f H locs) (hl : lv_has ls 9 [(0, .ref b), (1, .ref h0), (2, .ref h1), (3, .ref o), (4, .int (nI i))]) : W p l e room_1 s m #[Value.ref b] below meth c H locs C Sl (lw_Z below #[Value.ref b] s) (F0 m 721 ls []) := by
  obtain ⟨hx, hb, hr, hml, hown, hts0, hX, hbl, hlocks, hgv⟩ := id C0
  have hown : s.vm.findClass RL = some m.cls := hown
  have hts : ∀ w ∈ wsL_law, w.before #[Value.ref b] s = true := fun w h => hts0 w (wsL_law_in w h)
  have hA : ∀ q : Nat, s.heap.size ≤ q → (fun q : Nat => s.heap.size ≤ q) q := fun _ h => h
  have hbA : ¬ (fun q : Nat => s.heap.size ≤ q) b := Nat.not_le.mpr hbl
  obtain ⟨hI, hO, hP, hD, hS⟩ := hw
  refine lv_aload_n hx hb dL_law_721 rfl (lv_at hl 1 rfl) ?_
  refine vp_callSi (W.runV (As := []) (rest := []) ⟨hx, hb, hml, hown, hts⟩ (c_X0_sticks l D cI h0 a0 u on ) (cwV 0 hts gL_law_X0_sticks rfl rfl rfl (by decide +kernel) ⟨Nat.le_of_ble_eq_true rfl, Nat.le_of_ble_eq_true rfl⟩) (pu_pre (hK.sub (tys' := [(cI, .int)]) [0] rfl) (hP.sub (ws' := (pic0 cI h0 a0 u on)) [0, 1, 2, 3, 4, 5, 6, 7] rfl) rfl rfl) rfl rfl hl.1 rfl (lv_room (Nat.le_of_ble_eq_true rfl)) dL_law_722 ⟨show C + 0 ≤ 601024 by omega, show Sl + 0 ≤ 7293034 by omega⟩) (fun r hr9 => ?_)
  subst hr9
  refine lv_aload_n hx hb dL_law_725 rfl (lv_at hl 2 rfl) ?_
  have hPc := hP.sub (ws' := (pic1 cI h1 a1 u th)) [8, 9, 10, 11, 12, 13, 14] rfl
  have hDc := hD.sub (ws' := (pic1 cI h1 a1 u th)) [8, 9, 10, 11, 12, 13, 14] (by decide) rfl
  have hKc := hK.sub (tys' := [(cI, .int)]) [0] rfl
  have hFc := va_free (wc := (pic1 cI h1 a1 u th)) hD hS hA [8, 9, 10, 11, 12, 13, 14] rfl
  refine va_calli (va_runV (As := []) (rest := [.int (nI (mSc u))]) ⟨hx, hb, hml, hown, hts⟩ (c_X1_sticks l D cI h1 a1 u th H.size  ) (cwV 0 hts gL_law_X1_sticks rfl rfl rfl (by decide +kernel) ⟨Nat.le_of_ble_eq_true rfl, Nat.le_of_ble_eq_true rfl⟩) ⟨wr_blind, va_recv (ci := 1) (q0 := 0) hKc hPc rfl rfl, fun U hU hW => ⟨rfl, by rw [hU], by rw [hU]; exact hPc, va_K.moved hW.alike hKc, hDc.weaken (fun _ _ _ _ => trivial)⟩⟩ rfl rfl hl.1 rfl (lv_room (Nat.le_of_ble_eq_true rfl)) dL_law_726 ⟨show C + 0 ≤ 601024 by omega, show Sl + 0 ≤ 7293034 by omega⟩) hS (fun q _ h => hFc q h) hFc (fun r w t H1 locs ht hvm hw hB hz1 hk1 hS => ?_)
  obtain ⟨rfl, rfl⟩ := hw
  obtain ⟨hP1, hK1, hD1⟩ := hB
  rw [ht] at hP1
  obtain ⟨hP, hD⟩ := va_join (wr := (picL cI cJ h0 a0 o u on f)) (w1 := (pic1 cI h1 a1 u (nI 0))) hP hD [8, 9, 10, 11, 12, 13, 14] [0, 1, 2, 3, 4, 5, 6, 7, 15] rfl rfl (by decide) (by decide) hk1 hFc hP1 hD1
  generalize H1 = H at hP hS ⊢
  have hP : va_P D vwCl (picW cI cJ h0 a0 h1 a1 o u on u (nI 0) f) H := hP.sub [0, 1, 2, 3, 4, 5, 6, 7, 9, 10, 11, 12, 13, 14, 15, 8] rfl
  have hD : va_D (fun q : Nat => s.heap.size ≤ q) (picW cI cJ h0 a0 h1 a1 o u on u (nI 0) f) := hD.sub [0, 1, 2, 3, 4, 5, 6, 7, 9, 10, 11, 12, 13, 14, 15, 8] (by decide) rfl
  refine lv_icmp_eq (tgt := 1546) hx hb dL_law_729 (by decide) (fun c_729 => ?_) (fun c_729 => ?_)
  · skip
    refine W.widen (k := C + 1) (n := Sl + 13) (by omega) (by omega) ?_
    exact kk u on (nI 0) f H _ _ ⟨hI, hO, hP, hD, hS⟩ (lv_sub hl [0, 1, 2, 3, 4] rfl)
  · skip
    exact (c_729 rfl).elim
set_option maxHeartbeats 8000000 in
set_option maxRecDepth 100000 in
theorem lc_14 {p : Program} {l : Launch} {e : Env} {s : State} {m : MethodId} {below : List Frame} {meth : Method} {c : Code} {D : va_G} {cI cJ : ClassId} {b L h0 h1 o : Nat} {a0 a1 : Nat → Nat} {xs : Nat → Int32} (htr : l.stackTraces = false) (hL : L ≤ 2048) (C0 : lw_At p s m meth c b L xs) (hK : va_K D vwCl [(cI, .int), (cJ, .long)] s) (hE : tE (fun q : Nat => s.heap.size ≤ q) s) {i C Sl : Nat} (hi : i + 3 < L) (hC : C + 2 ≤ 601024) (hC2 : Sl + 20 ≤ 7293034) (kk : lwK p l e s m below meth c D cI cJ b h0 h1 o a0 a1 i (C + 1) (Sl + 13)) (u : MS) (on : Nat → Int32) (th : Int32) (f : Nat → Int64) (H : Heap) (locs : List Loc) (ls : Array Slot) (hw : lwI D cI cJ h0 h1 o a0 a1 s u on th f H locs) (hl : lv_has ls 9 [(0, .ref b), (1, .ref h0), (2, .ref h1), (3, .ref o), (4, .int (nI i))]) : W p l e room_1 s m #[Value.ref b] below meth c H locs C Sl (lw_Z below #[Value.ref b] s) (F0 m 734 ls []) := by
  obtain ⟨hx, hb, hr, hml, hown, hts0, hX, hbl, hlocks, hgv⟩ := id C0
  have hown : s.vm.findClass RL = some m.cls := hown
  have hts : ∀ w ∈ wsL_law, w.before #[Value.ref b] s = true := fun w h => hts0 w (wsL_law_in w h)
  have hA : ∀ q : Nat, s.heap.size ≤ q → (fun q : Nat => s.heap.size ≤ q) q := fun _ h => h
  have hbA : ¬ (fun q : Nat => s.heap.size ≤ q) b := Nat.not_le.mpr hbl
  obtain ⟨hI, hO, hP, hD, hS⟩ := hw
  refine lv_aload_n hx hb dL_law_734 rfl (lv_at hl 1 rfl) ?_
  refine lv_aload_n hx hb dL_law_735 rfl (lv_at hl 0 rfl) ?_
  refine lv_iload hx hb dL_law_736 (lv_at hl 4 rfl) ?_
  refine lv_iconst (v := nI 1) hx hb dL_law_738 (by decide +kernel) ?_
  refine q_iaddN hx hb dL_law_739 ?_
  refine q_sld hx hb hX hbl hbA hS (k := i + 1) (by omega) (by omega) dL_law_740 ?_
  refine lv_aload_n hx hb dL_law_741 rfl (lv_at hl 0 rfl) ?_
  refine lv_iload hx hb dL_law_742 (lv_at hl 4 rfl) ?_
  refine lv_iconst (v := nI 2) hx hb dL_law_744 (by decide +kernel) ?_
  refine q_iaddN hx hb dL_law_745 ?_
  refine q_sld hx hb hX hbl hbA hS (k := i + 2) (by omega) (by omega) dL_law_746 ?_
  refine lv_aload_n hx hb dL_law_747 rfl (lv_at hl 3 rfl) ?_
  have hPc := hP.sub (ws' := (picL cI cJ h0 a0 o u on f)) [0, 1, 2, 3, 4, 5, 6, 7, 15] rfl
  have hDc := hD.sub (ws' := (picL cI cJ h0 a0 o u on f)) [0, 1, 2, 3, 4, 5, 6, 7, 15] (by decide) rfl
  have hFc := va_free (wc := (picL cI cJ h0 a0 o u on f)) hD hS hA [0, 1, 2, 3, 4, 5, 6, 7, 15] rfl
  refine va_calli (vx_runSW (As := [.ref h0, .int (xs (i + 1)), .int (xs (i + 2)), .ref o]) (rest := []) ⟨hx, hb, hml, hown, hts⟩ (c_L_shadowAt l htr D cI cJ h0 a0 o u on f H.size (xs (i + 1)) (xs (i + 2)) hI hO) (vx_cwSW 4 hts gL_law_L_shadowAt rfl rfl rfl (by decide +kernel) ⟨Nat.le_of_ble_eq_true rfl, Nat.le_of_ble_eq_true rfl⟩) ⟨lh_blind, fun U hU hW => ⟨rfl, by rw [hU], by rw [hU]; exact hPc, va_K.moved hW.alike hK, hDc.weaken (fun _ _ _ _ => trivial), hE.go hS hW hU (fun q h9 => hFc q h9)⟩⟩ rfl rfl hl.1 rfl (lv_room (Nat.le_of_ble_eq_true rfl)) dL_law_748 ⟨show C + 1 ≤ 601024 by omega, show Sl + 6 ≤ 7293034 by omega⟩) hS (fun q _ h => hFc q h) hFc (fun r w t H1 locs ht hvm hw hB hz1 hk1 hS => ?_)
  obtain ⟨u2, on2, f2⟩ := w
  obtain ⟨eu, hO2, er, hv⟩ := hw
  have eu : u = u2 := Eq.symm eu
  have er : r = kdShad u (xs (i + 1)) (xs (i + 2)) := er
  have hv9 : kdShad u (xs (i + 1)) (xs (i + 2)) = nI 0 → f2 0 = Int32.toInt64 (fShad u (tn (xs (i + 1))) (tn (xs (i + 2)))) := hv
  have hO2 : InvO u2 on2 := hO2
  subst eu
  subst er
  obtain ⟨hP1, hK1, hD1⟩ := hB
  rw [ht] at hP1
  obtain ⟨hP, hD⟩ := va_join (wr := (pic1 cI h1 a1 u th)) (w1 := (picL cI cJ h0 a0 o u on2 f2)) hP hD [0, 1, 2, 3, 4, 5, 6, 7, 15] [8, 9, 10, 11, 12, 13, 14] rfl rfl (by decide) (by decide) hk1 hFc hP1 hD1
  generalize H1 = H at hP hS ⊢
  have hP : va_P D vwCl (picW cI cJ h0 a0 h1 a1 o u on2 u th f2) H := hP.sub [7, 8, 9, 10, 11, 12, 13, 14, 0, 1, 2, 3, 4, 5, 6, 15] rfl
  have hD : va_D (fun q : Nat => s.heap.size ≤ q) (picW cI cJ h0 a0 h1 a1 o u on2 u th f2) := hD.sub [7, 8, 9, 10, 11, 12, 13, 14, 0, 1, 2, 3, 4, 5, 6, 15] (by decide) rfl
  refine lv_istore (lv' := [(5, .int (kdShad u (xs (i + 1)) (xs (i + 2)))), (0, .ref b), (1, .ref h0), (2, .ref h1), (3, .ref o), (4, .int (nI i))]) hx hb dL_law_751 hl (by decide) rfl (fun ls hl => ?_)
  refine lv_aload_n hx hb dL_law_753 rfl (lv_at hl 3 rfl) ?_
  refine lv_aload_n hx hb dL_law_754 rfl (lv_at hl 1 rfl) ?_
  refine lv_iload hx hb dL_law_755 (lv_at hl 5 rfl) ?_
  refine lv_iconst (v := nI 1) hx hb dL_law_757 (by decide +kernel) ?_
  refine q_iaddN hx hb dL_law_758 ?_
  refine q_sld hx hb hX hbl hbA hS (k := i + 1) (by omega) (by omega) dL_law_759 ?_
  refine lv_aload_n hx hb dL_law_760 rfl (lv_at hl 1 rfl) ?_
  refine lv_iload hx hb dL_law_761 (lv_at hl 5 rfl) ?_
  refine lv_iconst (v := nI 2) hx hb dL_law_763 (by decide +kernel) ?_
  refine q_iaddN hx hb dL_law_764 ?_
  refine q_sld hx hb hX hbl hbA hS (k := i + 2) (by omega) (by omega) dL_law_765 ?_
  have hPc := hP.sub (ws' := (pic1 cI h1 a1 u th)) [8, 9, 10, 11, 12, 13, 14] rfl
  have hDc := hD.sub (ws' := (pic1 cI h1 a1 u th)) [8, 9, 10, 11, 12, 13, 14] (by decide) rfl
  have hKc := hK.sub (tys' := [(cI, .int)]) [0] rfl
  have hFc := va_free (wc := (pic1 cI h1 a1 u th)) hD hS hA [8, 9, 10, 11, 12, 13, 14] rfl
  refine va_calli (va_runV (As := [.int (xs (i + 1)), .int (xs (i + 2))]) (rest := []) ⟨hx, hb, hml, hown, hts⟩ (c_X1_shadowAt l D cI h1 a1 u th H.size (xs (i + 1)) (xs (i + 2)) hI) (cwV 2 hts gL_law_X1_shadowAt rfl rfl rfl (by decide +kernel) ⟨Nat.le_of_ble_eq_true rfl, Nat.le_of_ble_eq_true rfl⟩) ⟨wr_blind, va_recv (ci := 1) (q0 := 0) hKc hPc rfl rfl, fun U hU hW => ⟨rfl, by rw [hU], by rw [hU]; exact hPc, va_K.moved hW.alike hKc, hDc.weaken (fun _ _ _ _ => trivial)⟩⟩ rfl rfl hl.1 rfl (lv_room (Nat.le_of_ble_eq_true rfl)) dL_law_766 ⟨show C + 1 + 0 ≤ 601024 by omega, show Sl + 6 + 0 ≤ 7293034 by omega⟩) hS (fun q _ h => hFc q h) hFc (fun r w t H1 locs ht hvm hw hB hz1 hk1 hS => ?_)
  obtain ⟨hw1, hv2⟩ := hw
  subst hw1
  have hv2 : kdShad u (xs (i + 1)) (xs (i + 2)) = nI 0 → r = fShad u (tn (xs (i + 1))) (tn (xs (i + 2))) := hv2
  obtain ⟨r2, hr2⟩ : ∃ z, z = r := ⟨_, rfl⟩
  subst hr2
  have hv2 : kdShad u (xs (i + 1)) (xs (i + 2)) = nI 0 → r2 = fShad u (tn (xs (i + 1))) (tn (xs (i + 2))) := hv2
  obtain ⟨hP1, hK1, hD1⟩ := hB
  rw [ht] at hP1
  obtain ⟨hP, hD⟩ := va_join (wr := (picL cI cJ h0 a0 o u on2 f2)) (w1 := (pic1 cI h1 a1 u (kdShad u (xs (i + 1)) (xs (i + 2))))) hP hD [8, 9, 10, 11, 12, 13, 14] [0, 1, 2, 3, 4, 5, 6, 7, 15] rfl rfl (by decide) (by decide) hk1 hFc hP1 hD1
  generalize H1 = H at hP hS ⊢
  have hP : va_P D vwCl (picW cI cJ h0 a0 h1 a1 o u on2 u (kdShad u (xs (i + 1)) (xs (i + 2))) f2) H := hP.sub [0, 1, 2, 3, 4, 5, 6, 7, 9, 10, 11, 12, 13, 14, 15, 8] rfl
  have hD : va_D (fun q : Nat => s.heap.size ≤ q) (picW cI cJ h0 a0 h1 a1 o u on2 u (kdShad u (xs (i + 1)) (xs (i + 2))) f2) := hD.sub [0, 1, 2, 3, 4, 5, 6, 7, 9, 10, 11, 12, 13, 14, 15, 8] (by decide) rfl
  refine lv_istore (lv' := [(6, .int r2), (5, .int (kdShad u (xs (i + 1)) (xs (i + 2)))), (0, .ref b), (1, .ref h0), (2, .ref h1), (3, .ref o), (4, .int (nI i))]) hx hb dL_law_769 hl (by decide) rfl (fun ls hl => ?_)
  refine lv_aload_n hx hb dL_law_771 rfl (lv_at hl 4 rfl) ?_
  refine vp_callSi (W.runV (As := []) (rest := []) ⟨hx, hb, hml, hown, hts⟩ (c_X1_thrown l D cI h1 a1 u (kdShad u (xs (i + 1)) (xs (i + 2))) ) (cwV 0 hts gL_law_X1_thrown rfl rfl rfl (by decide +kernel) ⟨Nat.le_of_ble_eq_true rfl, Nat.le_of_ble_eq_true rfl⟩) (pu_pre (hK.sub (tys' := [(cI, .int)]) [0] rfl) (hP.sub (ws' := (pic1 cI h1 a1 u (kdShad u (xs (i + 1)) (xs (i + 2))))) [8, 9, 10, 11, 12, 13, 14] rfl) rfl rfl) rfl rfl hl.1 rfl (lv_room (Nat.le_of_ble_eq_true rfl)) dL_law_772 ⟨show C + 1 + 0 ≤ 601024 by omega, show Sl + 6 + 0 ≤ 7293034 by omega⟩) (fun r hr9 => ?_)
  subst hr9
  refine lv_iload hx hb dL_law_775 (lv_at hl 1 rfl) ?_
  refine lv_icmp_eq (tgt := 782) hx hb dL_law_777 (by decide) (fun c_777 => ?_) (fun c_777 => ?_)
  · skip
    refine lv_iload hx hb dL_law_782 (lv_at hl 1 rfl) ?_
    refine lv_if_ne (tgt := 799) hx hb dL_law_784 (by decide) (fun c_784 => ?_) (fun c_784 => ?_)
    · skip
      refine lv_goto (tgt := 1546) hx hb dL_law_799 (by decide) ?_
      refine W.widen (k := C + 1) (n := Sl + 13) (by omega) (by omega) ?_
      exact kk u on2 (kdShad u (xs (i + 1)) (xs (i + 2))) f2 H _ _ ⟨hI, hO2, hP, hD, hS⟩ (lv_sub hl [2, 3, 4, 5, 6] rfl)
    · skip
      have ex9 := (hv9 c_784).trans (congrArg Int32.toInt64 (hv2 c_784)).symm
      refine lv_aload_n hx hb dL_law_787 rfl (lv_at hl 5 rfl) ?_
      refine lv_iconst (v := nI 0) hx hb dL_law_788 (by decide +kernel) ?_
      refine q_lald hx hb hK hP 15 1 rfl rfl (by omega) (by decide) dL_law_789 ?_
      refine lv_iload hx hb dL_law_790 (lv_at hl 0 rfl) ?_
      refine lv_i2l (v := Int32.toInt64 r2) hx hb dL_law_792 rfl ?_
      refine W.lcmp hx hb dL_law_793 ?_
      refine lv_if_eq (tgt := 799) hx hb dL_law_794 (by decide) (fun c_794 => ?_) (fun c_794 => ?_)
      · skip
        refine lv_goto (tgt := 1546) hx hb dL_law_799 (by decide) ?_
        refine W.widen (k := C + 1) (n := Sl + 13) (by omega) (by omega) ?_
        exact kk u on2 (kdShad u (xs (i + 1)) (xs (i + 2))) f2 H _ _ ⟨hI, hO2, hP, hD, hS⟩ (lv_sub hl [2, 3, 4, 5, 6] rfl)
      · skip
        exact (c_794 (by rw [ex9]; exact lcmp_self)).elim
  · skip
    exact (c_777 rfl).elim
set_option maxHeartbeats 8000000 in
set_option maxRecDepth 100000 in
theorem lc_15 {p : Program} {l : Launch} {e : Env} {s : State} {m : MethodId} {below : List Frame} {meth : Method} {c : Code} {D : va_G} {cI cJ : ClassId} {b L h0 h1 o : Nat} {a0 a1 : Nat → Nat} {xs : Nat → Int32} (htr : l.stackTraces = false) (hL : L ≤ 2048) (C0 : lw_At p s m meth c b L xs) (hK : va_K D vwCl [(cI, .int), (cJ, .long)] s) (hE : tE (fun q : Nat => s.heap.size ≤ q) s) {i C Sl : Nat} (hi : i + 3 < L) (hC : C + 2 ≤ 601024) (hC2 : Sl + 20 ≤ 7293034) (kk : lwK p l e s m below meth c D cI cJ b h0 h1 o a0 a1 i (C + 1) (Sl + 13)) (u : MS) (on : Nat → Int32) (th : Int32) (f : Nat → Int64) (H : Heap) (locs : List Loc) (ls : Array Slot) (hw : lwI D cI cJ h0 h1 o a0 a1 s u on th f H locs) (hl : lv_has ls 9 [(0, .ref b), (1, .ref h0), (2, .ref h1), (3, .ref o), (4, .int (nI i))]) : W p l e room_1 s m #[Value.ref b] below meth c H locs C Sl (lw_Z below #[Value.ref b] s) (F0 m 802 ls []) := by
  obtain ⟨hx, hb, hr, hml, hown, hts0, hX, hbl, hlocks, hgv⟩ := id C0
  have hown : s.vm.findClass RL = some m.cls := hown
  have hts : ∀ w ∈ wsL_law, w.before #[Value.ref b] s = true := fun w h => hts0 w (wsL_law_in w h)
  have hA : ∀ q : Nat, s.heap.size ≤ q → (fun q : Nat => s.heap.size ≤ q) q := fun _ h => h
  have hbA : ¬ (fun q : Nat => s.heap.size ≤ q) b := Nat.not_le.mpr hbl
  obtain ⟨hI, hO, hP, hD, hS⟩ := hw
  refine lv_aload_n hx hb dL_law_802 rfl (lv_at hl 1 rfl) ?_
  refine lv_aload_n hx hb dL_law_803 rfl (lv_at hl 0 rfl) ?_
  refine lv_iload hx hb dL_law_804 (lv_at hl 4 rfl) ?_
  refine lv_iconst (v := nI 1) hx hb dL_law_806 (by decide +kernel) ?_
  refine q_iaddN hx hb dL_law_807 ?_
  refine q_sld hx hb hX hbl hbA hS (k := i + 1) (by omega) (by omega) dL_law_808 ?_
  refine lv_aload_n hx hb dL_law_809 rfl (lv_at hl 0 rfl) ?_
  refine lv_iload hx hb dL_law_810 (lv_at hl 4 rfl) ?_
  refine lv_iconst (v := nI 2) hx hb dL_law_812 (by decide +kernel) ?_
  refine q_iaddN hx hb dL_law_813 ?_
  refine q_sld hx hb hX hbl hbA hS (k := i + 2) (by omega) (by omega) dL_law_814 ?_
  refine lv_aload_n hx hb dL_law_815 rfl (lv_at hl 3 rfl) ?_
  have hPc := hP.sub (ws' := (picL cI cJ h0 a0 o u on f)) [0, 1, 2, 3, 4, 5, 6, 7, 15] rfl
  have hDc := hD.sub (ws' := (picL cI cJ h0 a0 o u on f)) [0, 1, 2, 3, 4, 5, 6, 7, 15] (by decide) rfl
  have hFc := va_free (wc := (picL cI cJ h0 a0 o u on f)) hD hS hA [0, 1, 2, 3, 4, 5, 6, 7, 15] rfl
  refine va_calli (vx_runSW (As := [.ref h0, .int (xs (i + 1)), .int (xs (i + 2)), .ref o]) (rest := []) ⟨hx, hb, hml, hown, hts⟩ (c_L_minuteOfShadow l htr D cI cJ h0 a0 o u on f H.size (xs (i + 1)) (xs (i + 2)) hI hO) (vx_cwSW 4 hts gL_law_L_minuteOfShadow rfl rfl rfl (by decide +kernel) ⟨Nat.le_of_ble_eq_true rfl, Nat.le_of_ble_eq_true rfl⟩) ⟨lh_blind, fun U hU hW => ⟨rfl, by rw [hU], by rw [hU]; exact hPc, va_K.moved hW.alike hK, hDc.weaken (fun _ _ _ _ => trivial), hE.go hS hW hU (fun q h9 => hFc q h9)⟩⟩ rfl rfl hl.1 rfl (lv_room (Nat.le_of_ble_eq_true rfl)) dL_law_816 ⟨show C + 1 ≤ 601024 by omega, show Sl + 6 ≤ 7293034 by omega⟩) hS (fun q _ h => hFc q h) hFc (fun r w t H1 locs ht hvm hw hB hz1 hk1 hS => ?_)
  obtain ⟨u2, on2, f2⟩ := w
  obtain ⟨eu, hO2, er, hv⟩ := hw
  have eu : u = u2 := Eq.symm eu
  have er : r = kdI (xs (i + 1)) (mSc u) := er
  have hv9 : kdI (xs (i + 1)) (mSc u) = nI 0 → f2 0 = Int32.toInt64 (fMoS u (tn (xs (i + 1))) (xs (i + 2))) := hv
  have hO2 : InvO u2 on2 := hO2
  subst eu
  subst er
  obtain ⟨hP1, hK1, hD1⟩ := hB
  rw [ht] at hP1
  obtain ⟨hP, hD⟩ := va_join (wr := (pic1 cI h1 a1 u th)) (w1 := (picL cI cJ h0 a0 o u on2 f2)) hP hD [0, 1, 2, 3, 4, 5, 6, 7, 15] [8, 9, 10, 11, 12, 13, 14] rfl rfl (by decide) (by decide) hk1 hFc hP1 hD1
  generalize H1 = H at hP hS ⊢
  have hP : va_P D vwCl (picW cI cJ h0 a0 h1 a1 o u on2 u th f2) H := hP.sub [7, 8, 9, 10, 11, 12, 13, 14, 0, 1, 2, 3, 4, 5, 6, 15] rfl
  have hD : va_D (fun q : Nat => s.heap.size ≤ q) (picW cI cJ h0 a0 h1 a1 o u on2 u th f2) := hD.sub [7, 8, 9, 10, 11, 12, 13, 14, 0, 1, 2, 3, 4, 5, 6, 15] (by decide) rfl
  refine lv_istore (lv' := [(5, .int (kdI (xs (i + 1)) (mSc u))), (0, .ref b), (1, .ref h0), (2, .ref h1), (3, .ref o), (4, .int (nI i))]) hx hb dL_law_819 hl (by decide) rfl (fun ls hl => ?_)
  refine lv_aload_n hx hb dL_law_821 rfl (lv_at hl 3 rfl) ?_
  refine lv_aload_n hx hb dL_law_822 rfl (lv_at hl 1 rfl) ?_
  refine lv_iload hx hb dL_law_823 (lv_at hl 5 rfl) ?_
  refine lv_iconst (v := nI 1) hx hb dL_law_825 (by decide +kernel) ?_
  refine q_iaddN hx hb dL_law_826 ?_
  refine q_sld hx hb hX hbl hbA hS (k := i + 1) (by omega) (by omega) dL_law_827 ?_
  refine lv_aload_n hx hb dL_law_828 rfl (lv_at hl 1 rfl) ?_
  refine lv_iload hx hb dL_law_829 (lv_at hl 5 rfl) ?_
  refine lv_iconst (v := nI 2) hx hb dL_law_831 (by decide +kernel) ?_
  refine q_iaddN hx hb dL_law_832 ?_
  refine q_sld hx hb hX hbl hbA hS (k := i + 2) (by omega) (by omega) dL_law_833 ?_
  have hPc := hP.sub (ws' := (pic1 cI h1 a1 u th)) [8, 9, 10, 11, 12, 13, 14] rfl
  have hDc := hD.sub (ws' := (pic1 cI h1 a1 u th)) [8, 9, 10, 11, 12, 13, 14] (by decide) rfl
  have hKc := hK.sub (tys' := [(cI, .int)]) [0] rfl
  have hFc := va_free (wc := (pic1 cI h1 a1 u th)) hD hS hA [8, 9, 10, 11, 12, 13, 14] rfl
  refine va_calli (va_runV (As := [.int (xs (i + 1)), .int (xs (i + 2))]) (rest := []) ⟨hx, hb, hml, hown, hts⟩ (c_X1_minuteOfShadow l D cI h1 a1 u th H.size (xs (i + 1)) (xs (i + 2)) hI) (cwV 2 hts gL_law_X1_minuteOfShadow rfl rfl rfl (by decide +kernel) ⟨Nat.le_of_ble_eq_true rfl, Nat.le_of_ble_eq_true rfl⟩) ⟨wr_blind, va_recv (ci := 1) (q0 := 0) hKc hPc rfl rfl, fun U hU hW => ⟨rfl, by rw [hU], by rw [hU]; exact hPc, va_K.moved hW.alike hKc, hDc.weaken (fun _ _ _ _ => trivial)⟩⟩ rfl rfl hl.1 rfl (lv_room (Nat.le_of_ble_eq_true rfl)) dL_law_834 ⟨show C + 1 + 0 ≤ 601024 by omega, show Sl + 6 + 0 ≤ 7293034 by omega⟩) hS (fun q _ h => hFc q h) hFc (fun r w t H1 locs ht hvm hw hB hz1 hk1 hS => ?_)
  obtain ⟨hw1, hv2⟩ := hw
  subst hw1
  have hv2 : kdI (xs (i + 1)) (mSc u) = nI 0 → r = fMoS u (tn (xs (i + 1))) (xs (i + 2)) := hv2
  obtain ⟨r2, hr2⟩ : ∃ z, z = r := ⟨_, rfl⟩
  subst hr2
  have hv2 : kdI (xs (i + 1)) (mSc u) = nI 0 → r2 = fMoS u (tn (xs (i + 1))) (xs (i + 2)) := hv2
  obtain ⟨hP1, hK1, hD1⟩ := hB
  rw [ht] at hP1
  obtain ⟨hP, hD⟩ := va_join (wr := (picL cI cJ h0 a0 o u on2 f2)) (w1 := (pic1 cI h1 a1 u (kdI (xs (i + 1)) (mSc u)))) hP hD [8, 9, 10, 11, 12, 13, 14] [0, 1, 2, 3, 4, 5, 6, 7, 15] rfl rfl (by decide) (by decide) hk1 hFc hP1 hD1
  generalize H1 = H at hP hS ⊢
  have hP : va_P D vwCl (picW cI cJ h0 a0 h1 a1 o u on2 u (kdI (xs (i + 1)) (mSc u)) f2) H := hP.sub [0, 1, 2, 3, 4, 5, 6, 7, 9, 10, 11, 12, 13, 14, 15, 8] rfl
  have hD : va_D (fun q : Nat => s.heap.size ≤ q) (picW cI cJ h0 a0 h1 a1 o u on2 u (kdI (xs (i + 1)) (mSc u)) f2) := hD.sub [0, 1, 2, 3, 4, 5, 6, 7, 9, 10, 11, 12, 13, 14, 15, 8] (by decide) rfl
  refine lv_istore (lv' := [(6, .int r2), (5, .int (kdI (xs (i + 1)) (mSc u))), (0, .ref b), (1, .ref h0), (2, .ref h1), (3, .ref o), (4, .int (nI i))]) hx hb dL_law_837 hl (by decide) rfl (fun ls hl => ?_)
  refine lv_aload_n hx hb dL_law_839 rfl (lv_at hl 4 rfl) ?_
  refine vp_callSi (W.runV (As := []) (rest := []) ⟨hx, hb, hml, hown, hts⟩ (c_X1_thrown l D cI h1 a1 u (kdI (xs (i + 1)) (mSc u)) ) (cwV 0 hts gL_law_X1_thrown rfl rfl rfl (by decide +kernel) ⟨Nat.le_of_ble_eq_true rfl, Nat.le_of_ble_eq_true rfl⟩) (pu_pre (hK.sub (tys' := [(cI, .int)]) [0] rfl) (hP.sub (ws' := (pic1 cI h1 a1 u (kdI (xs (i + 1)) (mSc u)))) [8, 9, 10, 11, 12, 13, 14] rfl) rfl rfl) rfl rfl hl.1 rfl (lv_room (Nat.le_of_ble_eq_true rfl)) dL_law_840 ⟨show C + 1 + 0 ≤ 601024 by omega, show Sl + 6 + 0 ≤ 7293034 by omega⟩) (fun r hr9 => ?_)
  subst hr9
  refine lv_iload hx hb dL_law_843 (lv_at hl 1 rfl) ?_
  refine lv_icmp_eq (tgt := 850) hx hb dL_law_845 (by decide) (fun c_845 => ?_) (fun c_845 => ?_)
  · skip
    refine lv_iload hx hb dL_law_850 (lv_at hl 1 rfl) ?_
    refine lv_if_ne (tgt := 867) hx hb dL_law_852 (by decide) (fun c_852 => ?_) (fun c_852 => ?_)
    · skip
      refine lv_goto (tgt := 1546) hx hb dL_law_867 (by decide) ?_
      refine W.widen (k := C + 1) (n := Sl + 13) (by omega) (by omega) ?_
      exact kk u on2 (kdI (xs (i + 1)) (mSc u)) f2 H _ _ ⟨hI, hO2, hP, hD, hS⟩ (lv_sub hl [2, 3, 4, 5, 6] rfl)
    · skip
      have ex9 := (hv9 c_852).trans (congrArg Int32.toInt64 (hv2 c_852)).symm
      refine lv_aload_n hx hb dL_law_855 rfl (lv_at hl 5 rfl) ?_
      refine lv_iconst (v := nI 0) hx hb dL_law_856 (by decide +kernel) ?_
      refine q_lald hx hb hK hP 15 1 rfl rfl (by omega) (by decide) dL_law_857 ?_
      refine lv_iload hx hb dL_law_858 (lv_at hl 0 rfl) ?_
      refine lv_i2l (v := Int32.toInt64 r2) hx hb dL_law_860 rfl ?_
      refine W.lcmp hx hb dL_law_861 ?_
      refine lv_if_eq (tgt := 867) hx hb dL_law_862 (by decide) (fun c_862 => ?_) (fun c_862 => ?_)
      · skip
        refine lv_goto (tgt := 1546) hx hb dL_law_867 (by decide) ?_
        refine W.widen (k := C + 1) (n := Sl + 13) (by omega) (by omega) ?_
        exact kk u on2 (kdI (xs (i + 1)) (mSc u)) f2 H _ _ ⟨hI, hO2, hP, hD, hS⟩ (lv_sub hl [2, 3, 4, 5, 6] rfl)
      · skip
        exact (c_862 (by rw [ex9]; exact lcmp_self)).elim
  · skip
    exact (c_845 rfl).elim
set_option maxHeartbeats 8000000 in
set_option maxRecDepth 100000 in
theorem lc_16 {p : Program} {l : Launch} {e : Env} {s : State} {m : MethodId} {below : List Frame} {meth : Method} {c : Code} {D : va_G} {cI cJ : ClassId} {b L h0 h1 o : Nat} {a0 a1 : Nat → Nat} {xs : Nat → Int32} (htr : l.stackTraces = false) (hL : L ≤ 2048) (C0 : lw_At p s m meth c b L xs) (hK : va_K D vwCl [(cI, .int), (cJ, .long)] s) (hE : tE (fun q : Nat => s.heap.size ≤ q) s) {i C Sl : Nat} (hi : i + 3 < L) (hC : C + 2 ≤ 601024) (hC2 : Sl + 20 ≤ 7293034) (kk : lwK p l e s m below meth c D cI cJ b h0 h1 o a0 a1 i (C + 1) (Sl + 13)) (u : MS) (on : Nat → Int32) (th : Int32) (f : Nat → Int64) (H : Heap) (locs : List Loc) (ls : Array Slot) (hw : lwI D cI cJ h0 h1 o a0 a1 s u on th f H locs) (hl : lv_has ls 9 [(0, .ref b), (1, .ref h0), (2, .ref h1), (3, .ref o), (4, .int (nI i))]) : W p l e room_1 s m #[Value.ref b] below meth c H locs C Sl (lw_Z below #[Value.ref b] s) (F0 m 870 ls []) := by
  obtain ⟨hx, hb, hr, hml, hown, hts0, hX, hbl, hlocks, hgv⟩ := id C0
  have hown : s.vm.findClass RL = some m.cls := hown
  have hts : ∀ w ∈ wsL_law, w.before #[Value.ref b] s = true := fun w h => hts0 w (wsL_law_in w h)
  have hA : ∀ q : Nat, s.heap.size ≤ q → (fun q : Nat => s.heap.size ≤ q) q := fun _ h => h
  have hbA : ¬ (fun q : Nat => s.heap.size ≤ q) b := Nat.not_le.mpr hbl
  obtain ⟨hI, hO, hP, hD, hS⟩ := hw
  refine lv_aload_n hx hb dL_law_870 rfl (lv_at hl 1 rfl) ?_
  refine lv_aload_n hx hb dL_law_871 rfl (lv_at hl 0 rfl) ?_
  refine lv_iload hx hb dL_law_872 (lv_at hl 4 rfl) ?_
  refine lv_iconst (v := nI 1) hx hb dL_law_874 (by decide +kernel) ?_
  refine q_iaddN hx hb dL_law_875 ?_
  refine q_sld hx hb hX hbl hbA hS (k := i + 1) (by omega) (by omega) dL_law_876 ?_
  refine lv_aload_n hx hb dL_law_877 rfl (lv_at hl 3 rfl) ?_
  have hPc := hP.sub (ws' := (picL cI cJ h0 a0 o u on f)) [0, 1, 2, 3, 4, 5, 6, 7, 15] rfl
  have hDc := hD.sub (ws' := (picL cI cJ h0 a0 o u on f)) [0, 1, 2, 3, 4, 5, 6, 7, 15] (by decide) rfl
  have hFc := va_free (wc := (picL cI cJ h0 a0 o u on f)) hD hS hA [0, 1, 2, 3, 4, 5, 6, 7, 15] rfl
  refine va_calli (vx_runSW (As := [.ref h0, .int (xs (i + 1)), .ref o]) (rest := []) ⟨hx, hb, hml, hown, hts⟩ (c_L_allShadows l htr D cI cJ h0 a0 o u on f H.size (xs (i + 1)) hI hO) (vx_cwSW 3 hts gL_law_L_allShadows rfl rfl rfl (by decide +kernel) ⟨Nat.le_of_ble_eq_true rfl, Nat.le_of_ble_eq_true rfl⟩) ⟨lh_blind, fun U hU hW => ⟨rfl, by rw [hU], by rw [hU]; exact hPc, va_K.moved hW.alike hK, hDc.weaken (fun _ _ _ _ => trivial), hE.go hS hW hU (fun q h9 => hFc q h9)⟩⟩ rfl rfl hl.1 rfl (lv_room (Nat.le_of_ble_eq_true rfl)) dL_law_878 ⟨show C + 1 ≤ 601024 by omega, show Sl + 6 ≤ 7293034 by omega⟩) hS (fun q _ h => hFc q h) hFc (fun r w t H1 locs ht hvm hw hB hz1 hk1 hS => ?_)
  obtain ⟨u2, on2, f2⟩ := w
  obtain ⟨eu, hO2, er, hv⟩ := hw
  have eu : u = u2 := Eq.symm eu
  have er : r = kdI (xs (i + 1)) 360 := er
  have hv9 : kdI (xs (i + 1)) 360 = nI 0 → f2 0 = Int32.toInt64 (fSum u (tn (xs (i + 1)))) := hv
  have hO2 : InvO u2 on2 := hO2
  subst eu
  subst er
  obtain ⟨hP1, hK1, hD1⟩ := hB
  rw [ht] at hP1
  obtain ⟨hP, hD⟩ := va_join (wr := (pic1 cI h1 a1 u th)) (w1 := (picL cI cJ h0 a0 o u on2 f2)) hP hD [0, 1, 2, 3, 4, 5, 6, 7, 15] [8, 9, 10, 11, 12, 13, 14] rfl rfl (by decide) (by decide) hk1 hFc hP1 hD1
  generalize H1 = H at hP hS ⊢
  have hP : va_P D vwCl (picW cI cJ h0 a0 h1 a1 o u on2 u th f2) H := hP.sub [7, 8, 9, 10, 11, 12, 13, 14, 0, 1, 2, 3, 4, 5, 6, 15] rfl
  have hD : va_D (fun q : Nat => s.heap.size ≤ q) (picW cI cJ h0 a0 h1 a1 o u on2 u th f2) := hD.sub [7, 8, 9, 10, 11, 12, 13, 14, 0, 1, 2, 3, 4, 5, 6, 15] (by decide) rfl
  refine lv_istore (lv' := [(5, .int (kdI (xs (i + 1)) 360)), (0, .ref b), (1, .ref h0), (2, .ref h1), (3, .ref o), (4, .int (nI i))]) hx hb dL_law_881 hl (by decide) rfl (fun ls hl => ?_)
  refine lv_aload_n hx hb dL_law_883 rfl (lv_at hl 3 rfl) ?_
  refine lv_aload_n hx hb dL_law_884 rfl (lv_at hl 1 rfl) ?_
  refine lv_iload hx hb dL_law_885 (lv_at hl 5 rfl) ?_
  refine lv_iconst (v := nI 1) hx hb dL_law_887 (by decide +kernel) ?_
  refine q_iaddN hx hb dL_law_888 ?_
  refine q_sld hx hb hX hbl hbA hS (k := i + 1) (by omega) (by omega) dL_law_889 ?_
  have hPc := hP.sub (ws' := (pic1 cI h1 a1 u th)) [8, 9, 10, 11, 12, 13, 14] rfl
  have hDc := hD.sub (ws' := (pic1 cI h1 a1 u th)) [8, 9, 10, 11, 12, 13, 14] (by decide) rfl
  have hKc := hK.sub (tys' := [(cI, .int)]) [0] rfl
  have hFc := va_free (wc := (pic1 cI h1 a1 u th)) hD hS hA [8, 9, 10, 11, 12, 13, 14] rfl
  refine va_calli (va_runV (As := [.int (xs (i + 1))]) (rest := []) ⟨hx, hb, hml, hown, hts⟩ (c_X1_allShadows l D cI h1 a1 u th H.size (xs (i + 1)) hI) (cwV 1 hts gL_law_X1_allShadows rfl rfl rfl (by decide +kernel) ⟨Nat.le_of_ble_eq_true rfl, Nat.le_of_ble_eq_true rfl⟩) ⟨wr_blind, va_recv (ci := 1) (q0 := 0) hKc hPc rfl rfl, fun U hU hW => ⟨rfl, by rw [hU], by rw [hU]; exact hPc, va_K.moved hW.alike hKc, hDc.weaken (fun _ _ _ _ => trivial)⟩⟩ rfl rfl hl.1 rfl (lv_room (Nat.le_of_ble_eq_true rfl)) dL_law_890 ⟨show C + 1 + 0 ≤ 601024 by omega, show Sl + 6 + 0 ≤ 7293034 by omega⟩) hS (fun q _ h => hFc q h) hFc (fun r w t H1 locs ht hvm hw hB hz1 hk1 hS => ?_)
  obtain ⟨hw1, hv2⟩ := hw
  subst hw1
  have hv2 : kdI (xs (i + 1)) 360 = nI 0 → r = fSum u (tn (xs (i + 1))) := hv2
  obtain ⟨r2, hr2⟩ : ∃ z, z = r := ⟨_, rfl⟩
  subst hr2
  have hv2 : kdI (xs (i + 1)) 360 = nI 0 → r2 = fSum u (tn (xs (i + 1))) := hv2
  obtain ⟨hP1, hK1, hD1⟩ := hB
  rw [ht] at hP1
  obtain ⟨hP, hD⟩ := va_join (wr := (picL cI cJ h0 a0 o u on2 f2)) (w1 := (pic1 cI h1 a1 u (kdI (xs (i + 1)) 360))) hP hD [8, 9, 10, 11, 12, 13, 14] [0, 1, 2, 3, 4, 5, 6, 7, 15] rfl rfl (by decide) (by decide) hk1 hFc hP1 hD1
  generalize H1 = H at hP hS ⊢
  have hP : va_P D vwCl (picW cI cJ h0 a0 h1 a1 o u on2 u (kdI (xs (i + 1)) 360) f2) H := hP.sub [0, 1, 2, 3, 4, 5, 6, 7, 9, 10, 11, 12, 13, 14, 15, 8] rfl
  have hD : va_D (fun q : Nat => s.heap.size ≤ q) (picW cI cJ h0 a0 h1 a1 o u on2 u (kdI (xs (i + 1)) 360) f2) := hD.sub [0, 1, 2, 3, 4, 5, 6, 7, 9, 10, 11, 12, 13, 14, 15, 8] (by decide) rfl
  refine lv_istore (lv' := [(6, .int r2), (5, .int (kdI (xs (i + 1)) 360)), (0, .ref b), (1, .ref h0), (2, .ref h1), (3, .ref o), (4, .int (nI i))]) hx hb dL_law_893 hl (by decide) rfl (fun ls hl => ?_)
  refine lv_aload_n hx hb dL_law_895 rfl (lv_at hl 4 rfl) ?_
  refine vp_callSi (W.runV (As := []) (rest := []) ⟨hx, hb, hml, hown, hts⟩ (c_X1_thrown l D cI h1 a1 u (kdI (xs (i + 1)) 360) ) (cwV 0 hts gL_law_X1_thrown rfl rfl rfl (by decide +kernel) ⟨Nat.le_of_ble_eq_true rfl, Nat.le_of_ble_eq_true rfl⟩) (pu_pre (hK.sub (tys' := [(cI, .int)]) [0] rfl) (hP.sub (ws' := (pic1 cI h1 a1 u (kdI (xs (i + 1)) 360))) [8, 9, 10, 11, 12, 13, 14] rfl) rfl rfl) rfl rfl hl.1 rfl (lv_room (Nat.le_of_ble_eq_true rfl)) dL_law_896 ⟨show C + 1 + 0 ≤ 601024 by omega, show Sl + 6 + 0 ≤ 7293034 by omega⟩) (fun r hr9 => ?_)
  subst hr9
  refine lv_iload hx hb dL_law_899 (lv_at hl 1 rfl) ?_
  refine lv_icmp_eq (tgt := 906) hx hb dL_law_901 (by decide) (fun c_901 => ?_) (fun c_901 => ?_)
  · skip
    refine lv_iload hx hb dL_law_906 (lv_at hl 1 rfl) ?_
    refine lv_if_ne (tgt := 923) hx hb dL_law_908 (by decide) (fun c_908 => ?_) (fun c_908 => ?_)
    · skip
      refine lv_goto (tgt := 1546) hx hb dL_law_923 (by decide) ?_
      refine W.widen (k := C + 1) (n := Sl + 13) (by omega) (by omega) ?_
      exact kk u on2 (kdI (xs (i + 1)) 360) f2 H _ _ ⟨hI, hO2, hP, hD, hS⟩ (lv_sub hl [2, 3, 4, 5, 6] rfl)
    · skip
      have ex9 := (hv9 c_908).trans (congrArg Int32.toInt64 (hv2 c_908)).symm
      refine lv_aload_n hx hb dL_law_911 rfl (lv_at hl 5 rfl) ?_
      refine lv_iconst (v := nI 0) hx hb dL_law_912 (by decide +kernel) ?_
      refine q_lald hx hb hK hP 15 1 rfl rfl (by omega) (by decide) dL_law_913 ?_
      refine lv_iload hx hb dL_law_914 (lv_at hl 0 rfl) ?_
      refine lv_i2l (v := Int32.toInt64 r2) hx hb dL_law_916 rfl ?_
      refine W.lcmp hx hb dL_law_917 ?_
      refine lv_if_eq (tgt := 923) hx hb dL_law_918 (by decide) (fun c_918 => ?_) (fun c_918 => ?_)
      · skip
        refine lv_goto (tgt := 1546) hx hb dL_law_923 (by decide) ?_
        refine W.widen (k := C + 1) (n := Sl + 13) (by omega) (by omega) ?_
        exact kk u on2 (kdI (xs (i + 1)) 360) f2 H _ _ ⟨hI, hO2, hP, hD, hS⟩ (lv_sub hl [2, 3, 4, 5, 6] rfl)
      · skip
        exact (c_918 (by rw [ex9]; exact lcmp_self)).elim
  · skip
    exact (c_901 rfl).elim
set_option maxHeartbeats 8000000 in
set_option maxRecDepth 100000 in
theorem lc_17 {p : Program} {l : Launch} {e : Env} {s : State} {m : MethodId} {below : List Frame} {meth : Method} {c : Code} {D : va_G} {cI cJ : ClassId} {b L h0 h1 o : Nat} {a0 a1 : Nat → Nat} {xs : Nat → Int32} (htr : l.stackTraces = false) (hL : L ≤ 2048) (C0 : lw_At p s m meth c b L xs) (hK : va_K D vwCl [(cI, .int), (cJ, .long)] s) (hE : tE (fun q : Nat => s.heap.size ≤ q) s) {i C Sl : Nat} (hi : i + 3 < L) (hC : C + 2 ≤ 601024) (hC2 : Sl + 20 ≤ 7293034) (kk : lwK p l e s m below meth c D cI cJ b h0 h1 o a0 a1 i (C + 1) (Sl + 13)) (u : MS) (on : Nat → Int32) (th : Int32) (f : Nat → Int64) (H : Heap) (locs : List Loc) (ls : Array Slot) (hw : lwI D cI cJ h0 h1 o a0 a1 s u on th f H locs) (hl : lv_has ls 9 [(0, .ref b), (1, .ref h0), (2, .ref h1), (3, .ref o), (4, .int (nI i))]) : W p l e room_1 s m #[Value.ref b] below meth c H locs C Sl (lw_Z below #[Value.ref b] s) (F0 m 926 ls []) := by
  obtain ⟨hx, hb, hr, hml, hown, hts0, hX, hbl, hlocks, hgv⟩ := id C0
  have hown : s.vm.findClass RL = some m.cls := hown
  have hts : ∀ w ∈ wsL_law, w.before #[Value.ref b] s = true := fun w h => hts0 w (wsL_law_in w h)
  have hA : ∀ q : Nat, s.heap.size ≤ q → (fun q : Nat => s.heap.size ≤ q) q := fun _ h => h
  have hbA : ¬ (fun q : Nat => s.heap.size ≤ q) b := Nat.not_le.mpr hbl
  obtain ⟨hI, hO, hP, hD, hS⟩ := hw
  refine lv_aload_n hx hb dL_law_926 rfl (lv_at hl 1 rfl) ?_
  refine vp_callSi (W.runV (As := []) (rest := []) ⟨hx, hb, hml, hown, hts⟩ (c_X0_naps l D cI h0 a0 u on ) (cwV 0 hts gL_law_X0_naps rfl rfl rfl (by decide +kernel) ⟨Nat.le_of_ble_eq_true rfl, Nat.le_of_ble_eq_true rfl⟩) (pu_pre (hK.sub (tys' := [(cI, .int)]) [0] rfl) (hP.sub (ws' := (pic0 cI h0 a0 u on)) [0, 1, 2, 3, 4, 5, 6, 7] rfl) rfl rfl) rfl rfl hl.1 rfl (lv_room (Nat.le_of_ble_eq_true rfl)) dL_law_927 ⟨show C + 0 ≤ 601024 by omega, show Sl + 0 ≤ 7293034 by omega⟩) (fun r hr9 => ?_)
  subst hr9
  refine lv_aload_n hx hb dL_law_930 rfl (lv_at hl 2 rfl) ?_
  have hPc := hP.sub (ws' := (pic1 cI h1 a1 u th)) [8, 9, 10, 11, 12, 13, 14] rfl
  have hDc := hD.sub (ws' := (pic1 cI h1 a1 u th)) [8, 9, 10, 11, 12, 13, 14] (by decide) rfl
  have hKc := hK.sub (tys' := [(cI, .int)]) [0] rfl
  have hFc := va_free (wc := (pic1 cI h1 a1 u th)) hD hS hA [8, 9, 10, 11, 12, 13, 14] rfl
  refine va_calli (va_runV (As := []) (rest := [.int (nI (mNc u))]) ⟨hx, hb, hml, hown, hts⟩ (c_X1_naps l D cI h1 a1 u th H.size  ) (cwV 0 hts gL_law_X1_naps rfl rfl rfl (by decide +kernel) ⟨Nat.le_of_ble_eq_true rfl, Nat.le_of_ble_eq_true rfl⟩) ⟨wr_blind, va_recv (ci := 1) (q0 := 0) hKc hPc rfl rfl, fun U hU hW => ⟨rfl, by rw [hU], by rw [hU]; exact hPc, va_K.moved hW.alike hKc, hDc.weaken (fun _ _ _ _ => trivial)⟩⟩ rfl rfl hl.1 rfl (lv_room (Nat.le_of_ble_eq_true rfl)) dL_law_931 ⟨show C + 0 ≤ 601024 by omega, show Sl + 0 ≤ 7293034 by omega⟩) hS (fun q _ h => hFc q h) hFc (fun r w t H1 locs ht hvm hw hB hz1 hk1 hS => ?_)
  obtain ⟨rfl, rfl⟩ := hw
  obtain ⟨hP1, hK1, hD1⟩ := hB
  rw [ht] at hP1
  obtain ⟨hP, hD⟩ := va_join (wr := (picL cI cJ h0 a0 o u on f)) (w1 := (pic1 cI h1 a1 u (nI 0))) hP hD [8, 9, 10, 11, 12, 13, 14] [0, 1, 2, 3, 4, 5, 6, 7, 15] rfl rfl (by decide) (by decide) hk1 hFc hP1 hD1
  generalize H1 = H at hP hS ⊢
  have hP : va_P D vwCl (picW cI cJ h0 a0 h1 a1 o u on u (nI 0) f) H := hP.sub [0, 1, 2, 3, 4, 5, 6, 7, 9, 10, 11, 12, 13, 14, 15, 8] rfl
  have hD : va_D (fun q : Nat => s.heap.size ≤ q) (picW cI cJ h0 a0 h1 a1 o u on u (nI 0) f) := hD.sub [0, 1, 2, 3, 4, 5, 6, 7, 9, 10, 11, 12, 13, 14, 15, 8] (by decide) rfl
  refine lv_icmp_eq (tgt := 1546) hx hb dL_law_934 (by decide) (fun c_934 => ?_) (fun c_934 => ?_)
  · skip
    refine W.widen (k := C + 1) (n := Sl + 13) (by omega) (by omega) ?_
    exact kk u on (nI 0) f H _ _ ⟨hI, hO, hP, hD, hS⟩ (lv_sub hl [0, 1, 2, 3, 4] rfl)
  · skip
    exact (c_934 rfl).elim
set_option maxHeartbeats 8000000 in
set_option maxRecDepth 100000 in
theorem lc_18 {p : Program} {l : Launch} {e : Env} {s : State} {m : MethodId} {below : List Frame} {meth : Method} {c : Code} {D : va_G} {cI cJ : ClassId} {b L h0 h1 o : Nat} {a0 a1 : Nat → Nat} {xs : Nat → Int32} (htr : l.stackTraces = false) (hL : L ≤ 2048) (C0 : lw_At p s m meth c b L xs) (hK : va_K D vwCl [(cI, .int), (cJ, .long)] s) (hE : tE (fun q : Nat => s.heap.size ≤ q) s) {i C Sl : Nat} (hi : i + 3 < L) (hC : C + 2 ≤ 601024) (hC2 : Sl + 20 ≤ 7293034) (kk : lwK p l e s m below meth c D cI cJ b h0 h1 o a0 a1 i (C + 1) (Sl + 13)) (u : MS) (on : Nat → Int32) (th : Int32) (f : Nat → Int64) (H : Heap) (locs : List Loc) (ls : Array Slot) (hw : lwI D cI cJ h0 h1 o a0 a1 s u on th f H locs) (hl : lv_has ls 9 [(0, .ref b), (1, .ref h0), (2, .ref h1), (3, .ref o), (4, .int (nI i))]) : W p l e room_1 s m #[Value.ref b] below meth c H locs C Sl (lw_Z below #[Value.ref b] s) (F0 m 939 ls []) := by
  obtain ⟨hx, hb, hr, hml, hown, hts0, hX, hbl, hlocks, hgv⟩ := id C0
  have hown : s.vm.findClass RL = some m.cls := hown
  have hts : ∀ w ∈ wsL_law, w.before #[Value.ref b] s = true := fun w h => hts0 w (wsL_law_in w h)
  have hA : ∀ q : Nat, s.heap.size ≤ q → (fun q : Nat => s.heap.size ≤ q) q := fun _ h => h
  have hbA : ¬ (fun q : Nat => s.heap.size ≤ q) b := Nat.not_le.mpr hbl
  obtain ⟨hI, hO, hP, hD, hS⟩ := hw
  refine lv_aload_n hx hb dL_law_939 rfl (lv_at hl 1 rfl) ?_
  refine lv_aload_n hx hb dL_law_940 rfl (lv_at hl 0 rfl) ?_
  refine lv_iload hx hb dL_law_941 (lv_at hl 4 rfl) ?_
  refine lv_iconst (v := nI 1) hx hb dL_law_943 (by decide +kernel) ?_
  refine q_iaddN hx hb dL_law_944 ?_
  refine q_sld hx hb hX hbl hbA hS (k := i + 1) (by omega) (by omega) dL_law_945 ?_
  refine lv_aload_n hx hb dL_law_946 rfl (lv_at hl 3 rfl) ?_
  have hPc := hP.sub (ws' := (picL cI cJ h0 a0 o u on f)) [0, 1, 2, 3, 4, 5, 6, 7, 15] rfl
  have hDc := hD.sub (ws' := (picL cI cJ h0 a0 o u on f)) [0, 1, 2, 3, 4, 5, 6, 7, 15] (by decide) rfl
  have hFc := va_free (wc := (picL cI cJ h0 a0 o u on f)) hD hS hA [0, 1, 2, 3, 4, 5, 6, 7, 15] rfl
  refine va_calli (vx_runSW (As := [.ref h0, .int (xs (i + 1)), .ref o]) (rest := []) ⟨hx, hb, hml, hown, hts⟩ (c_L_startOf l htr D cI cJ h0 a0 o u on f H.size (xs (i + 1)) hI hO) (vx_cwSW 3 hts gL_law_L_startOf rfl rfl rfl (by decide +kernel) ⟨Nat.le_of_ble_eq_true rfl, Nat.le_of_ble_eq_true rfl⟩) ⟨lh_blind, fun U hU hW => ⟨rfl, by rw [hU], by rw [hU]; exact hPc, va_K.moved hW.alike hK, hDc.weaken (fun _ _ _ _ => trivial), hE.go hS hW hU (fun q h9 => hFc q h9)⟩⟩ rfl rfl hl.1 rfl (lv_room (Nat.le_of_ble_eq_true rfl)) dL_law_947 ⟨show C + 1 ≤ 601024 by omega, show Sl + 6 ≤ 7293034 by omega⟩) hS (fun q _ h => hFc q h) hFc (fun r w t H1 locs ht hvm hw hB hz1 hk1 hS => ?_)
  obtain ⟨u2, on2, f2⟩ := w
  obtain ⟨eu, hO2, er, hv⟩ := hw
  have eu : u = u2 := Eq.symm eu
  have er : r = kdI (xs (i + 1)) (mNc u) := er
  have hv9 : kdI (xs (i + 1)) (mNc u) = nI 0 → f2 0 = Int32.toInt64 (nI (aN u (tn (xs (i + 1))))) := hv
  have hO2 : InvO u2 on2 := hO2
  subst eu
  subst er
  obtain ⟨hP1, hK1, hD1⟩ := hB
  rw [ht] at hP1
  obtain ⟨hP, hD⟩ := va_join (wr := (pic1 cI h1 a1 u th)) (w1 := (picL cI cJ h0 a0 o u on2 f2)) hP hD [0, 1, 2, 3, 4, 5, 6, 7, 15] [8, 9, 10, 11, 12, 13, 14] rfl rfl (by decide) (by decide) hk1 hFc hP1 hD1
  generalize H1 = H at hP hS ⊢
  have hP : va_P D vwCl (picW cI cJ h0 a0 h1 a1 o u on2 u th f2) H := hP.sub [7, 8, 9, 10, 11, 12, 13, 14, 0, 1, 2, 3, 4, 5, 6, 15] rfl
  have hD : va_D (fun q : Nat => s.heap.size ≤ q) (picW cI cJ h0 a0 h1 a1 o u on2 u th f2) := hD.sub [7, 8, 9, 10, 11, 12, 13, 14, 0, 1, 2, 3, 4, 5, 6, 15] (by decide) rfl
  refine lv_istore (lv' := [(5, .int (kdI (xs (i + 1)) (mNc u))), (0, .ref b), (1, .ref h0), (2, .ref h1), (3, .ref o), (4, .int (nI i))]) hx hb dL_law_950 hl (by decide) rfl (fun ls hl => ?_)
  refine lv_aload_n hx hb dL_law_952 rfl (lv_at hl 3 rfl) ?_
  refine lv_aload_n hx hb dL_law_953 rfl (lv_at hl 1 rfl) ?_
  refine lv_iload hx hb dL_law_954 (lv_at hl 5 rfl) ?_
  refine lv_iconst (v := nI 1) hx hb dL_law_956 (by decide +kernel) ?_
  refine q_iaddN hx hb dL_law_957 ?_
  refine q_sld hx hb hX hbl hbA hS (k := i + 1) (by omega) (by omega) dL_law_958 ?_
  have hPc := hP.sub (ws' := (pic1 cI h1 a1 u th)) [8, 9, 10, 11, 12, 13, 14] rfl
  have hDc := hD.sub (ws' := (pic1 cI h1 a1 u th)) [8, 9, 10, 11, 12, 13, 14] (by decide) rfl
  have hKc := hK.sub (tys' := [(cI, .int)]) [0] rfl
  have hFc := va_free (wc := (pic1 cI h1 a1 u th)) hD hS hA [8, 9, 10, 11, 12, 13, 14] rfl
  refine va_calli (va_runV (As := [.int (xs (i + 1))]) (rest := []) ⟨hx, hb, hml, hown, hts⟩ (c_X1_startOf l D cI h1 a1 u th H.size (xs (i + 1)) hI) (cwV 1 hts gL_law_X1_startOf rfl rfl rfl (by decide +kernel) ⟨Nat.le_of_ble_eq_true rfl, Nat.le_of_ble_eq_true rfl⟩) ⟨wr_blind, va_recv (ci := 1) (q0 := 0) hKc hPc rfl rfl, fun U hU hW => ⟨rfl, by rw [hU], by rw [hU]; exact hPc, va_K.moved hW.alike hKc, hDc.weaken (fun _ _ _ _ => trivial)⟩⟩ rfl rfl hl.1 rfl (lv_room (Nat.le_of_ble_eq_true rfl)) dL_law_959 ⟨show C + 1 + 0 ≤ 601024 by omega, show Sl + 6 + 0 ≤ 7293034 by omega⟩) hS (fun q _ h => hFc q h) hFc (fun r w t H1 locs ht hvm hw hB hz1 hk1 hS => ?_)
  obtain ⟨hw1, hv2⟩ := hw
  subst hw1
  have hv2 : kdI (xs (i + 1)) (mNc u) = nI 0 → r = nI (aN u (tn (xs (i + 1)))) := hv2
  obtain ⟨r2, hr2⟩ : ∃ z, z = r := ⟨_, rfl⟩
  subst hr2
  have hv2 : kdI (xs (i + 1)) (mNc u) = nI 0 → r2 = nI (aN u (tn (xs (i + 1)))) := hv2
  obtain ⟨hP1, hK1, hD1⟩ := hB
  rw [ht] at hP1
  obtain ⟨hP, hD⟩ := va_join (wr := (picL cI cJ h0 a0 o u on2 f2)) (w1 := (pic1 cI h1 a1 u (kdI (xs (i + 1)) (mNc u)))) hP hD [8, 9, 10, 11, 12, 13, 14] [0, 1, 2, 3, 4, 5, 6, 7, 15] rfl rfl (by decide) (by decide) hk1 hFc hP1 hD1
  generalize H1 = H at hP hS ⊢
  have hP : va_P D vwCl (picW cI cJ h0 a0 h1 a1 o u on2 u (kdI (xs (i + 1)) (mNc u)) f2) H := hP.sub [0, 1, 2, 3, 4, 5, 6, 7, 9, 10, 11, 12, 13, 14, 15, 8] rfl
  have hD : va_D (fun q : Nat => s.heap.size ≤ q) (picW cI cJ h0 a0 h1 a1 o u on2 u (kdI (xs (i + 1)) (mNc u)) f2) := hD.sub [0, 1, 2, 3, 4, 5, 6, 7, 9, 10, 11, 12, 13, 14, 15, 8] (by decide) rfl
  refine lv_istore (lv' := [(6, .int r2), (5, .int (kdI (xs (i + 1)) (mNc u))), (0, .ref b), (1, .ref h0), (2, .ref h1), (3, .ref o), (4, .int (nI i))]) hx hb dL_law_962 hl (by decide) rfl (fun ls hl => ?_)
  refine lv_aload_n hx hb dL_law_964 rfl (lv_at hl 4 rfl) ?_
  refine vp_callSi (W.runV (As := []) (rest := []) ⟨hx, hb, hml, hown, hts⟩ (c_X1_thrown l D cI h1 a1 u (kdI (xs (i + 1)) (mNc u)) ) (cwV 0 hts gL_law_X1_thrown rfl rfl rfl (by decide +kernel) ⟨Nat.le_of_ble_eq_true rfl, Nat.le_of_ble_eq_true rfl⟩) (pu_pre (hK.sub (tys' := [(cI, .int)]) [0] rfl) (hP.sub (ws' := (pic1 cI h1 a1 u (kdI (xs (i + 1)) (mNc u)))) [8, 9, 10, 11, 12, 13, 14] rfl) rfl rfl) rfl rfl hl.1 rfl (lv_room (Nat.le_of_ble_eq_true rfl)) dL_law_965 ⟨show C + 1 + 0 ≤ 601024 by omega, show Sl + 6 + 0 ≤ 7293034 by omega⟩) (fun r hr9 => ?_)
  subst hr9
  refine lv_iload hx hb dL_law_968 (lv_at hl 1 rfl) ?_
  refine lv_icmp_eq (tgt := 975) hx hb dL_law_970 (by decide) (fun c_970 => ?_) (fun c_970 => ?_)
  · skip
    refine lv_iload hx hb dL_law_975 (lv_at hl 1 rfl) ?_
    refine lv_if_ne (tgt := 992) hx hb dL_law_977 (by decide) (fun c_977 => ?_) (fun c_977 => ?_)
    · skip
      refine lv_goto (tgt := 1546) hx hb dL_law_992 (by decide) ?_
      refine W.widen (k := C + 1) (n := Sl + 13) (by omega) (by omega) ?_
      exact kk u on2 (kdI (xs (i + 1)) (mNc u)) f2 H _ _ ⟨hI, hO2, hP, hD, hS⟩ (lv_sub hl [2, 3, 4, 5, 6] rfl)
    · skip
      have ex9 := (hv9 c_977).trans (congrArg Int32.toInt64 (hv2 c_977)).symm
      refine lv_aload_n hx hb dL_law_980 rfl (lv_at hl 5 rfl) ?_
      refine lv_iconst (v := nI 0) hx hb dL_law_981 (by decide +kernel) ?_
      refine q_lald hx hb hK hP 15 1 rfl rfl (by omega) (by decide) dL_law_982 ?_
      refine lv_iload hx hb dL_law_983 (lv_at hl 0 rfl) ?_
      refine lv_i2l (v := Int32.toInt64 r2) hx hb dL_law_985 rfl ?_
      refine W.lcmp hx hb dL_law_986 ?_
      refine lv_if_eq (tgt := 992) hx hb dL_law_987 (by decide) (fun c_987 => ?_) (fun c_987 => ?_)
      · skip
        refine lv_goto (tgt := 1546) hx hb dL_law_992 (by decide) ?_
        refine W.widen (k := C + 1) (n := Sl + 13) (by omega) (by omega) ?_
        exact kk u on2 (kdI (xs (i + 1)) (mNc u)) f2 H _ _ ⟨hI, hO2, hP, hD, hS⟩ (lv_sub hl [2, 3, 4, 5, 6] rfl)
      · skip
        exact (c_987 (by rw [ex9]; exact lcmp_self)).elim
  · skip
    exact (c_970 rfl).elim
set_option maxHeartbeats 8000000 in
set_option maxRecDepth 100000 in
theorem lc_19 {p : Program} {l : Launch} {e : Env} {s : State} {m : MethodId} {below : List Frame} {meth : Method} {c : Code} {D : va_G} {cI cJ : ClassId} {b L h0 h1 o : Nat} {a0 a1 : Nat → Nat} {xs : Nat → Int32} (htr : l.stackTraces = false) (hL : L ≤ 2048) (C0 : lw_At p s m meth c b L xs) (hK : va_K D vwCl [(cI, .int), (cJ, .long)] s) (hE : tE (fun q : Nat => s.heap.size ≤ q) s) {i C Sl : Nat} (hi : i + 3 < L) (hC : C + 2 ≤ 601024) (hC2 : Sl + 20 ≤ 7293034) (kk : lwK p l e s m below meth c D cI cJ b h0 h1 o a0 a1 i (C + 1) (Sl + 13)) (u : MS) (on : Nat → Int32) (th : Int32) (f : Nat → Int64) (H : Heap) (locs : List Loc) (ls : Array Slot) (hw : lwI D cI cJ h0 h1 o a0 a1 s u on th f H locs) (hl : lv_has ls 9 [(0, .ref b), (1, .ref h0), (2, .ref h1), (3, .ref o), (4, .int (nI i))]) : W p l e room_1 s m #[Value.ref b] below meth c H locs C Sl (lw_Z below #[Value.ref b] s) (F0 m 995 ls []) := by
  obtain ⟨hx, hb, hr, hml, hown, hts0, hX, hbl, hlocks, hgv⟩ := id C0
  have hown : s.vm.findClass RL = some m.cls := hown
  have hts : ∀ w ∈ wsL_law, w.before #[Value.ref b] s = true := fun w h => hts0 w (wsL_law_in w h)
  have hA : ∀ q : Nat, s.heap.size ≤ q → (fun q : Nat => s.heap.size ≤ q) q := fun _ h => h
  have hbA : ¬ (fun q : Nat => s.heap.size ≤ q) b := Nat.not_le.mpr hbl
  obtain ⟨hI, hO, hP, hD, hS⟩ := hw
  refine lv_aload_n hx hb dL_law_995 rfl (lv_at hl 1 rfl) ?_
  refine lv_aload_n hx hb dL_law_996 rfl (lv_at hl 0 rfl) ?_
  refine lv_iload hx hb dL_law_997 (lv_at hl 4 rfl) ?_
  refine lv_iconst (v := nI 1) hx hb dL_law_999 (by decide +kernel) ?_
  refine q_iaddN hx hb dL_law_1000 ?_
  refine q_sld hx hb hX hbl hbA hS (k := i + 1) (by omega) (by omega) dL_law_1001 ?_
  refine lv_aload_n hx hb dL_law_1002 rfl (lv_at hl 3 rfl) ?_
  have hPc := hP.sub (ws' := (picL cI cJ h0 a0 o u on f)) [0, 1, 2, 3, 4, 5, 6, 7, 15] rfl
  have hDc := hD.sub (ws' := (picL cI cJ h0 a0 o u on f)) [0, 1, 2, 3, 4, 5, 6, 7, 15] (by decide) rfl
  have hFc := va_free (wc := (picL cI cJ h0 a0 o u on f)) hD hS hA [0, 1, 2, 3, 4, 5, 6, 7, 15] rfl
  refine va_calli (vx_runSW (As := [.ref h0, .int (xs (i + 1)), .ref o]) (rest := []) ⟨hx, hb, hml, hown, hts⟩ (c_L_lengthOf l htr D cI cJ h0 a0 o u on f H.size (xs (i + 1)) hI hO) (vx_cwSW 3 hts gL_law_L_lengthOf rfl rfl rfl (by decide +kernel) ⟨Nat.le_of_ble_eq_true rfl, Nat.le_of_ble_eq_true rfl⟩) ⟨lh_blind, fun U hU hW => ⟨rfl, by rw [hU], by rw [hU]; exact hPc, va_K.moved hW.alike hK, hDc.weaken (fun _ _ _ _ => trivial), hE.go hS hW hU (fun q h9 => hFc q h9)⟩⟩ rfl rfl hl.1 rfl (lv_room (Nat.le_of_ble_eq_true rfl)) dL_law_1003 ⟨show C + 1 ≤ 601024 by omega, show Sl + 6 ≤ 7293034 by omega⟩) hS (fun q _ h => hFc q h) hFc (fun r w t H1 locs ht hvm hw hB hz1 hk1 hS => ?_)
  obtain ⟨u2, on2, f2⟩ := w
  obtain ⟨eu, hO2, er, hv⟩ := hw
  have eu : u = u2 := Eq.symm eu
  have er : r = kdI (xs (i + 1)) (mNc u) := er
  have hv9 : kdI (xs (i + 1)) (mNc u) = nI 0 → f2 0 = Int32.toInt64 (nI (bN u (tn (xs (i + 1))) - aN u (tn (xs (i + 1))))) := hv
  have hO2 : InvO u2 on2 := hO2
  subst eu
  subst er
  obtain ⟨hP1, hK1, hD1⟩ := hB
  rw [ht] at hP1
  obtain ⟨hP, hD⟩ := va_join (wr := (pic1 cI h1 a1 u th)) (w1 := (picL cI cJ h0 a0 o u on2 f2)) hP hD [0, 1, 2, 3, 4, 5, 6, 7, 15] [8, 9, 10, 11, 12, 13, 14] rfl rfl (by decide) (by decide) hk1 hFc hP1 hD1
  generalize H1 = H at hP hS ⊢
  have hP : va_P D vwCl (picW cI cJ h0 a0 h1 a1 o u on2 u th f2) H := hP.sub [7, 8, 9, 10, 11, 12, 13, 14, 0, 1, 2, 3, 4, 5, 6, 15] rfl
  have hD : va_D (fun q : Nat => s.heap.size ≤ q) (picW cI cJ h0 a0 h1 a1 o u on2 u th f2) := hD.sub [7, 8, 9, 10, 11, 12, 13, 14, 0, 1, 2, 3, 4, 5, 6, 15] (by decide) rfl
  refine lv_istore (lv' := [(5, .int (kdI (xs (i + 1)) (mNc u))), (0, .ref b), (1, .ref h0), (2, .ref h1), (3, .ref o), (4, .int (nI i))]) hx hb dL_law_1006 hl (by decide) rfl (fun ls hl => ?_)
  refine lv_aload_n hx hb dL_law_1008 rfl (lv_at hl 3 rfl) ?_
  refine lv_aload_n hx hb dL_law_1009 rfl (lv_at hl 1 rfl) ?_
  refine lv_iload hx hb dL_law_1010 (lv_at hl 5 rfl) ?_
  refine lv_iconst (v := nI 1) hx hb dL_law_1012 (by decide +kernel) ?_
  refine q_iaddN hx hb dL_law_1013 ?_
  refine q_sld hx hb hX hbl hbA hS (k := i + 1) (by omega) (by omega) dL_law_1014 ?_
  have hPc := hP.sub (ws' := (pic1 cI h1 a1 u th)) [8, 9, 10, 11, 12, 13, 14] rfl
  have hDc := hD.sub (ws' := (pic1 cI h1 a1 u th)) [8, 9, 10, 11, 12, 13, 14] (by decide) rfl
  have hKc := hK.sub (tys' := [(cI, .int)]) [0] rfl
  have hFc := va_free (wc := (pic1 cI h1 a1 u th)) hD hS hA [8, 9, 10, 11, 12, 13, 14] rfl
  refine va_calli (va_runV (As := [.int (xs (i + 1))]) (rest := []) ⟨hx, hb, hml, hown, hts⟩ (c_X1_lengthOf l D cI h1 a1 u th H.size (xs (i + 1)) hI) (cwV 1 hts gL_law_X1_lengthOf rfl rfl rfl (by decide +kernel) ⟨Nat.le_of_ble_eq_true rfl, Nat.le_of_ble_eq_true rfl⟩) ⟨wr_blind, va_recv (ci := 1) (q0 := 0) hKc hPc rfl rfl, fun U hU hW => ⟨rfl, by rw [hU], by rw [hU]; exact hPc, va_K.moved hW.alike hKc, hDc.weaken (fun _ _ _ _ => trivial)⟩⟩ rfl rfl hl.1 rfl (lv_room (Nat.le_of_ble_eq_true rfl)) dL_law_1015 ⟨show C + 1 + 0 ≤ 601024 by omega, show Sl + 6 + 0 ≤ 7293034 by omega⟩) hS (fun q _ h => hFc q h) hFc (fun r w t H1 locs ht hvm hw hB hz1 hk1 hS => ?_)
  obtain ⟨hw1, hv2⟩ := hw
  subst hw1
  have hv2 : kdI (xs (i + 1)) (mNc u) = nI 0 → r = nI (bN u (tn (xs (i + 1))) - aN u (tn (xs (i + 1)))) := hv2
  obtain ⟨r2, hr2⟩ : ∃ z, z = r := ⟨_, rfl⟩
  subst hr2
  have hv2 : kdI (xs (i + 1)) (mNc u) = nI 0 → r2 = nI (bN u (tn (xs (i + 1))) - aN u (tn (xs (i + 1)))) := hv2
  obtain ⟨hP1, hK1, hD1⟩ := hB
  rw [ht] at hP1
  obtain ⟨hP, hD⟩ := va_join (wr := (picL cI cJ h0 a0 o u on2 f2)) (w1 := (pic1 cI h1 a1 u (kdI (xs (i + 1)) (mNc u)))) hP hD [8, 9, 10, 11, 12, 13, 14] [0, 1, 2, 3, 4, 5, 6, 7, 15] rfl rfl (by decide) (by decide) hk1 hFc hP1 hD1
  generalize H1 = H at hP hS ⊢
  have hP : va_P D vwCl (picW cI cJ h0 a0 h1 a1 o u on2 u (kdI (xs (i + 1)) (mNc u)) f2) H := hP.sub [0, 1, 2, 3, 4, 5, 6, 7, 9, 10, 11, 12, 13, 14, 15, 8] rfl
  have hD : va_D (fun q : Nat => s.heap.size ≤ q) (picW cI cJ h0 a0 h1 a1 o u on2 u (kdI (xs (i + 1)) (mNc u)) f2) := hD.sub [0, 1, 2, 3, 4, 5, 6, 7, 9, 10, 11, 12, 13, 14, 15, 8] (by decide) rfl
  refine lv_istore (lv' := [(6, .int r2), (5, .int (kdI (xs (i + 1)) (mNc u))), (0, .ref b), (1, .ref h0), (2, .ref h1), (3, .ref o), (4, .int (nI i))]) hx hb dL_law_1018 hl (by decide) rfl (fun ls hl => ?_)
  refine lv_aload_n hx hb dL_law_1020 rfl (lv_at hl 4 rfl) ?_
  refine vp_callSi (W.runV (As := []) (rest := []) ⟨hx, hb, hml, hown, hts⟩ (c_X1_thrown l D cI h1 a1 u (kdI (xs (i + 1)) (mNc u)) ) (cwV 0 hts gL_law_X1_thrown rfl rfl rfl (by decide +kernel) ⟨Nat.le_of_ble_eq_true rfl, Nat.le_of_ble_eq_true rfl⟩) (pu_pre (hK.sub (tys' := [(cI, .int)]) [0] rfl) (hP.sub (ws' := (pic1 cI h1 a1 u (kdI (xs (i + 1)) (mNc u)))) [8, 9, 10, 11, 12, 13, 14] rfl) rfl rfl) rfl rfl hl.1 rfl (lv_room (Nat.le_of_ble_eq_true rfl)) dL_law_1021 ⟨show C + 1 + 0 ≤ 601024 by omega, show Sl + 6 + 0 ≤ 7293034 by omega⟩) (fun r hr9 => ?_)
  subst hr9
  refine lv_iload hx hb dL_law_1024 (lv_at hl 1 rfl) ?_
  refine lv_icmp_eq (tgt := 1031) hx hb dL_law_1026 (by decide) (fun c_1026 => ?_) (fun c_1026 => ?_)
  · skip
    refine lv_iload hx hb dL_law_1031 (lv_at hl 1 rfl) ?_
    refine lv_if_ne (tgt := 1048) hx hb dL_law_1033 (by decide) (fun c_1033 => ?_) (fun c_1033 => ?_)
    · skip
      refine lv_goto (tgt := 1546) hx hb dL_law_1048 (by decide) ?_
      refine W.widen (k := C + 1) (n := Sl + 13) (by omega) (by omega) ?_
      exact kk u on2 (kdI (xs (i + 1)) (mNc u)) f2 H _ _ ⟨hI, hO2, hP, hD, hS⟩ (lv_sub hl [2, 3, 4, 5, 6] rfl)
    · skip
      have ex9 := (hv9 c_1033).trans (congrArg Int32.toInt64 (hv2 c_1033)).symm
      refine lv_aload_n hx hb dL_law_1036 rfl (lv_at hl 5 rfl) ?_
      refine lv_iconst (v := nI 0) hx hb dL_law_1037 (by decide +kernel) ?_
      refine q_lald hx hb hK hP 15 1 rfl rfl (by omega) (by decide) dL_law_1038 ?_
      refine lv_iload hx hb dL_law_1039 (lv_at hl 0 rfl) ?_
      refine lv_i2l (v := Int32.toInt64 r2) hx hb dL_law_1041 rfl ?_
      refine W.lcmp hx hb dL_law_1042 ?_
      refine lv_if_eq (tgt := 1048) hx hb dL_law_1043 (by decide) (fun c_1043 => ?_) (fun c_1043 => ?_)
      · skip
        refine lv_goto (tgt := 1546) hx hb dL_law_1048 (by decide) ?_
        refine W.widen (k := C + 1) (n := Sl + 13) (by omega) (by omega) ?_
        exact kk u on2 (kdI (xs (i + 1)) (mNc u)) f2 H _ _ ⟨hI, hO2, hP, hD, hS⟩ (lv_sub hl [2, 3, 4, 5, 6] rfl)
      · skip
        exact (c_1043 (by rw [ex9]; exact lcmp_self)).elim
  · skip
    exact (c_1026 rfl).elim
set_option maxHeartbeats 8000000 in
set_option maxRecDepth 100000 in
theorem lc_20 {p : Program} {l : Launch} {e : Env} {s : State} {m : MethodId} {below : List Frame} {meth : Method} {c : Code} {D : va_G} {cI cJ : ClassId} {b L h0 h1 o : Nat} {a0 a1 : Nat → Nat} {xs : Nat → Int32} (htr : l.stackTraces = false) (hL : L ≤ 2048) (C0 : lw_At p s m meth c b L xs) (hK : va_K D vwCl [(cI, .int), (cJ, .long)] s) (hE : tE (fun q : Nat => s.heap.size ≤ q) s) {i C Sl : Nat} (hi : i + 3 < L) (hC : C + 2 ≤ 601024) (hC2 : Sl + 20 ≤ 7293034) (kk : lwK p l e s m below meth c D cI cJ b h0 h1 o a0 a1 i (C + 1) (Sl + 13)) (u : MS) (on : Nat → Int32) (th : Int32) (f : Nat → Int64) (H : Heap) (locs : List Loc) (ls : Array Slot) (hw : lwI D cI cJ h0 h1 o a0 a1 s u on th f H locs) (hl : lv_has ls 9 [(0, .ref b), (1, .ref h0), (2, .ref h1), (3, .ref o), (4, .int (nI i))]) : W p l e room_1 s m #[Value.ref b] below meth c H locs C Sl (lw_Z below #[Value.ref b] s) (F0 m 1051 ls []) := by
  obtain ⟨hx, hb, hr, hml, hown, hts0, hX, hbl, hlocks, hgv⟩ := id C0
  have hown : s.vm.findClass RL = some m.cls := hown
  have hts : ∀ w ∈ wsL_law, w.before #[Value.ref b] s = true := fun w h => hts0 w (wsL_law_in w h)
  have hA : ∀ q : Nat, s.heap.size ≤ q → (fun q : Nat => s.heap.size ≤ q) q := fun _ h => h
  have hbA : ¬ (fun q : Nat => s.heap.size ≤ q) b := Nat.not_le.mpr hbl
  obtain ⟨hI, hO, hP, hD, hS⟩ := hw
  refine lv_aload_n hx hb dL_law_1051 rfl (lv_at hl 1 rfl) ?_
  refine lv_aload_n hx hb dL_law_1052 rfl (lv_at hl 0 rfl) ?_
  refine lv_iload hx hb dL_law_1053 (lv_at hl 4 rfl) ?_
  refine lv_iconst (v := nI 1) hx hb dL_law_1055 (by decide +kernel) ?_
  refine q_iaddN hx hb dL_law_1056 ?_
  refine q_sld hx hb hX hbl hbA hS (k := i + 1) (by omega) (by omega) dL_law_1057 ?_
  refine lv_aload_n hx hb dL_law_1058 rfl (lv_at hl 3 rfl) ?_
  have hPc := hP.sub (ws' := (picL cI cJ h0 a0 o u on f)) [0, 1, 2, 3, 4, 5, 6, 7, 15] rfl
  have hDc := hD.sub (ws' := (picL cI cJ h0 a0 o u on f)) [0, 1, 2, 3, 4, 5, 6, 7, 15] (by decide) rfl
  have hFc := va_free (wc := (picL cI cJ h0 a0 o u on f)) hD hS hA [0, 1, 2, 3, 4, 5, 6, 7, 15] rfl
  refine va_calli (vx_runSW (As := [.ref h0, .int (xs (i + 1)), .ref o]) (rest := []) ⟨hx, hb, hml, hown, hts⟩ (c_L_napsAt l htr D cI cJ h0 a0 o u on f H.size (xs (i + 1)) hI hO) (vx_cwSW 3 hts gL_law_L_napsAt rfl rfl rfl (by decide +kernel) ⟨Nat.le_of_ble_eq_true rfl, Nat.le_of_ble_eq_true rfl⟩) ⟨lh_blind, fun U hU hW => ⟨rfl, by rw [hU], by rw [hU]; exact hPc, va_K.moved hW.alike hK, hDc.weaken (fun _ _ _ _ => trivial), hE.go hS hW hU (fun q h9 => hFc q h9)⟩⟩ rfl rfl hl.1 rfl (lv_room (Nat.le_of_ble_eq_true rfl)) dL_law_1059 ⟨show C + 1 ≤ 601024 by omega, show Sl + 6 ≤ 7293034 by omega⟩) hS (fun q _ h => hFc q h) hFc (fun r w t H1 locs ht hvm hw hB hz1 hk1 hS => ?_)
  obtain ⟨u2, on2, f2⟩ := w
  obtain ⟨eu, hO2, er, hv⟩ := hw
  have eu : u = u2 := Eq.symm eu
  have er : r = kdI (xs (i + 1)) 360 := er
  have hv9 : kdI (xs (i + 1)) 360 = nI 0 → f2 0 = Int32.toInt64 (nI (cN u (tn (xs (i + 1))))) := hv
  have hO2 : InvO u2 on2 := hO2
  subst eu
  subst er
  obtain ⟨hP1, hK1, hD1⟩ := hB
  rw [ht] at hP1
  obtain ⟨hP, hD⟩ := va_join (wr := (pic1 cI h1 a1 u th)) (w1 := (picL cI cJ h0 a0 o u on2 f2)) hP hD [0, 1, 2, 3, 4, 5, 6, 7, 15] [8, 9, 10, 11, 12, 13, 14] rfl rfl (by decide) (by decide) hk1 hFc hP1 hD1
  generalize H1 = H at hP hS ⊢
  have hP : va_P D vwCl (picW cI cJ h0 a0 h1 a1 o u on2 u th f2) H := hP.sub [7, 8, 9, 10, 11, 12, 13, 14, 0, 1, 2, 3, 4, 5, 6, 15] rfl
  have hD : va_D (fun q : Nat => s.heap.size ≤ q) (picW cI cJ h0 a0 h1 a1 o u on2 u th f2) := hD.sub [7, 8, 9, 10, 11, 12, 13, 14, 0, 1, 2, 3, 4, 5, 6, 15] (by decide) rfl
  refine lv_istore (lv' := [(5, .int (kdI (xs (i + 1)) 360)), (0, .ref b), (1, .ref h0), (2, .ref h1), (3, .ref o), (4, .int (nI i))]) hx hb dL_law_1062 hl (by decide) rfl (fun ls hl => ?_)
  refine lv_aload_n hx hb dL_law_1064 rfl (lv_at hl 3 rfl) ?_
  refine lv_aload_n hx hb dL_law_1065 rfl (lv_at hl 1 rfl) ?_
  refine lv_iload hx hb dL_law_1066 (lv_at hl 5 rfl) ?_
  refine lv_iconst (v := nI 1) hx hb dL_law_1068 (by decide +kernel) ?_
  refine q_iaddN hx hb dL_law_1069 ?_
  refine q_sld hx hb hX hbl hbA hS (k := i + 1) (by omega) (by omega) dL_law_1070 ?_
  have hPc := hP.sub (ws' := (pic1 cI h1 a1 u th)) [8, 9, 10, 11, 12, 13, 14] rfl
  have hDc := hD.sub (ws' := (pic1 cI h1 a1 u th)) [8, 9, 10, 11, 12, 13, 14] (by decide) rfl
  have hKc := hK.sub (tys' := [(cI, .int)]) [0] rfl
  have hFc := va_free (wc := (pic1 cI h1 a1 u th)) hD hS hA [8, 9, 10, 11, 12, 13, 14] rfl
  refine va_calli (va_runV (As := [.int (xs (i + 1))]) (rest := []) ⟨hx, hb, hml, hown, hts⟩ (c_X1_napsAt l D cI h1 a1 u th H.size (xs (i + 1)) hI) (cwV 1 hts gL_law_X1_napsAt rfl rfl rfl (by decide +kernel) ⟨Nat.le_of_ble_eq_true rfl, Nat.le_of_ble_eq_true rfl⟩) ⟨wr_blind, va_recv (ci := 1) (q0 := 0) hKc hPc rfl rfl, fun U hU hW => ⟨rfl, by rw [hU], by rw [hU]; exact hPc, va_K.moved hW.alike hKc, hDc.weaken (fun _ _ _ _ => trivial)⟩⟩ rfl rfl hl.1 rfl (lv_room (Nat.le_of_ble_eq_true rfl)) dL_law_1071 ⟨show C + 1 + 0 ≤ 601024 by omega, show Sl + 6 + 0 ≤ 7293034 by omega⟩) hS (fun q _ h => hFc q h) hFc (fun r w t H1 locs ht hvm hw hB hz1 hk1 hS => ?_)
  obtain ⟨hw1, hv2⟩ := hw
  subst hw1
  have hv2 : kdI (xs (i + 1)) 360 = nI 0 → r = nI (cN u (tn (xs (i + 1)))) := hv2
  obtain ⟨r2, hr2⟩ : ∃ z, z = r := ⟨_, rfl⟩
  subst hr2
  have hv2 : kdI (xs (i + 1)) 360 = nI 0 → r2 = nI (cN u (tn (xs (i + 1)))) := hv2
  obtain ⟨hP1, hK1, hD1⟩ := hB
  rw [ht] at hP1
  obtain ⟨hP, hD⟩ := va_join (wr := (picL cI cJ h0 a0 o u on2 f2)) (w1 := (pic1 cI h1 a1 u (kdI (xs (i + 1)) 360))) hP hD [8, 9, 10, 11, 12, 13, 14] [0, 1, 2, 3, 4, 5, 6, 7, 15] rfl rfl (by decide) (by decide) hk1 hFc hP1 hD1
  generalize H1 = H at hP hS ⊢
  have hP : va_P D vwCl (picW cI cJ h0 a0 h1 a1 o u on2 u (kdI (xs (i + 1)) 360) f2) H := hP.sub [0, 1, 2, 3, 4, 5, 6, 7, 9, 10, 11, 12, 13, 14, 15, 8] rfl
  have hD : va_D (fun q : Nat => s.heap.size ≤ q) (picW cI cJ h0 a0 h1 a1 o u on2 u (kdI (xs (i + 1)) 360) f2) := hD.sub [0, 1, 2, 3, 4, 5, 6, 7, 9, 10, 11, 12, 13, 14, 15, 8] (by decide) rfl
  refine lv_istore (lv' := [(6, .int r2), (5, .int (kdI (xs (i + 1)) 360)), (0, .ref b), (1, .ref h0), (2, .ref h1), (3, .ref o), (4, .int (nI i))]) hx hb dL_law_1074 hl (by decide) rfl (fun ls hl => ?_)
  refine lv_aload_n hx hb dL_law_1076 rfl (lv_at hl 4 rfl) ?_
  refine vp_callSi (W.runV (As := []) (rest := []) ⟨hx, hb, hml, hown, hts⟩ (c_X1_thrown l D cI h1 a1 u (kdI (xs (i + 1)) 360) ) (cwV 0 hts gL_law_X1_thrown rfl rfl rfl (by decide +kernel) ⟨Nat.le_of_ble_eq_true rfl, Nat.le_of_ble_eq_true rfl⟩) (pu_pre (hK.sub (tys' := [(cI, .int)]) [0] rfl) (hP.sub (ws' := (pic1 cI h1 a1 u (kdI (xs (i + 1)) 360))) [8, 9, 10, 11, 12, 13, 14] rfl) rfl rfl) rfl rfl hl.1 rfl (lv_room (Nat.le_of_ble_eq_true rfl)) dL_law_1077 ⟨show C + 1 + 0 ≤ 601024 by omega, show Sl + 6 + 0 ≤ 7293034 by omega⟩) (fun r hr9 => ?_)
  subst hr9
  refine lv_iload hx hb dL_law_1080 (lv_at hl 1 rfl) ?_
  refine lv_icmp_eq (tgt := 1087) hx hb dL_law_1082 (by decide) (fun c_1082 => ?_) (fun c_1082 => ?_)
  · skip
    refine lv_iload hx hb dL_law_1087 (lv_at hl 1 rfl) ?_
    refine lv_if_ne (tgt := 1104) hx hb dL_law_1089 (by decide) (fun c_1089 => ?_) (fun c_1089 => ?_)
    · skip
      refine lv_goto (tgt := 1546) hx hb dL_law_1104 (by decide) ?_
      refine W.widen (k := C + 1) (n := Sl + 13) (by omega) (by omega) ?_
      exact kk u on2 (kdI (xs (i + 1)) 360) f2 H _ _ ⟨hI, hO2, hP, hD, hS⟩ (lv_sub hl [2, 3, 4, 5, 6] rfl)
    · skip
      have ex9 := (hv9 c_1089).trans (congrArg Int32.toInt64 (hv2 c_1089)).symm
      refine lv_aload_n hx hb dL_law_1092 rfl (lv_at hl 5 rfl) ?_
      refine lv_iconst (v := nI 0) hx hb dL_law_1093 (by decide +kernel) ?_
      refine q_lald hx hb hK hP 15 1 rfl rfl (by omega) (by decide) dL_law_1094 ?_
      refine lv_iload hx hb dL_law_1095 (lv_at hl 0 rfl) ?_
      refine lv_i2l (v := Int32.toInt64 r2) hx hb dL_law_1097 rfl ?_
      refine W.lcmp hx hb dL_law_1098 ?_
      refine lv_if_eq (tgt := 1104) hx hb dL_law_1099 (by decide) (fun c_1099 => ?_) (fun c_1099 => ?_)
      · skip
        refine lv_goto (tgt := 1546) hx hb dL_law_1104 (by decide) ?_
        refine W.widen (k := C + 1) (n := Sl + 13) (by omega) (by omega) ?_
        exact kk u on2 (kdI (xs (i + 1)) 360) f2 H _ _ ⟨hI, hO2, hP, hD, hS⟩ (lv_sub hl [2, 3, 4, 5, 6] rfl)
      · skip
        exact (c_1099 (by rw [ex9]; exact lcmp_self)).elim
  · skip
    exact (c_1082 rfl).elim
set_option maxHeartbeats 8000000 in
set_option maxRecDepth 100000 in
theorem lc_21 {p : Program} {l : Launch} {e : Env} {s : State} {m : MethodId} {below : List Frame} {meth : Method} {c : Code} {D : va_G} {cI cJ : ClassId} {b L h0 h1 o : Nat} {a0 a1 : Nat → Nat} {xs : Nat → Int32} (htr : l.stackTraces = false) (hL : L ≤ 2048) (C0 : lw_At p s m meth c b L xs) (hK : va_K D vwCl [(cI, .int), (cJ, .long)] s) (hE : tE (fun q : Nat => s.heap.size ≤ q) s) {i C Sl : Nat} (hi : i + 3 < L) (hC : C + 2 ≤ 601024) (hC2 : Sl + 20 ≤ 7293034) (kk : lwK p l e s m below meth c D cI cJ b h0 h1 o a0 a1 i (C + 1) (Sl + 13)) (u : MS) (on : Nat → Int32) (th : Int32) (f : Nat → Int64) (H : Heap) (locs : List Loc) (ls : Array Slot) (hw : lwI D cI cJ h0 h1 o a0 a1 s u on th f H locs) (hl : lv_has ls 9 [(0, .ref b), (1, .ref h0), (2, .ref h1), (3, .ref o), (4, .int (nI i))]) : W p l e room_1 s m #[Value.ref b] below meth c H locs C Sl (lw_Z below #[Value.ref b] s) (F0 m 1107 ls []) := by
  obtain ⟨hx, hb, hr, hml, hown, hts0, hX, hbl, hlocks, hgv⟩ := id C0
  have hown : s.vm.findClass RL = some m.cls := hown
  have hts : ∀ w ∈ wsL_law, w.before #[Value.ref b] s = true := fun w h => hts0 w (wsL_law_in w h)
  have hA : ∀ q : Nat, s.heap.size ≤ q → (fun q : Nat => s.heap.size ≤ q) q := fun _ h => h
  have hbA : ¬ (fun q : Nat => s.heap.size ≤ q) b := Nat.not_le.mpr hbl
  obtain ⟨hI, hO, hP, hD, hS⟩ := hw
  refine lv_aload_n hx hb dL_law_1107 rfl (lv_at hl 1 rfl) ?_
  refine lv_aload_n hx hb dL_law_1108 rfl (lv_at hl 0 rfl) ?_
  refine lv_iload hx hb dL_law_1109 (lv_at hl 4 rfl) ?_
  refine lv_iconst (v := nI 1) hx hb dL_law_1111 (by decide +kernel) ?_
  refine q_iaddN hx hb dL_law_1112 ?_
  refine q_sld hx hb hX hbl hbA hS (k := i + 1) (by omega) (by omega) dL_law_1113 ?_
  refine lv_aload_n hx hb dL_law_1114 rfl (lv_at hl 3 rfl) ?_
  have hPc := hP.sub (ws' := (picL cI cJ h0 a0 o u on f)) [0, 1, 2, 3, 4, 5, 6, 7, 15] rfl
  have hDc := hD.sub (ws' := (picL cI cJ h0 a0 o u on f)) [0, 1, 2, 3, 4, 5, 6, 7, 15] (by decide) rfl
  have hFc := va_free (wc := (picL cI cJ h0 a0 o u on f)) hD hS hA [0, 1, 2, 3, 4, 5, 6, 7, 15] rfl
  refine va_calli (vx_runSW (As := [.ref h0, .int (xs (i + 1)), .ref o]) (rest := []) ⟨hx, hb, hml, hown, hts⟩ (c_L_minutesAlone l htr D cI cJ h0 a0 o u on f H.size (xs (i + 1)) hI hO) (vx_cwSW 3 hts gL_law_L_minutesAlone rfl rfl rfl (by decide +kernel) ⟨Nat.le_of_ble_eq_true rfl, Nat.le_of_ble_eq_true rfl⟩) ⟨lh_blind, fun U hU hW => ⟨rfl, by rw [hU], by rw [hU]; exact hPc, va_K.moved hW.alike hK, hDc.weaken (fun _ _ _ _ => trivial), hE.go hS hW hU (fun q h9 => hFc q h9)⟩⟩ rfl rfl hl.1 rfl (lv_room (Nat.le_of_ble_eq_true rfl)) dL_law_1115 ⟨show C + 1 ≤ 601024 by omega, show Sl + 6 ≤ 7293034 by omega⟩) hS (fun q _ h => hFc q h) hFc (fun r w t H1 locs ht hvm hw hB hz1 hk1 hS => ?_)
  obtain ⟨u2, on2, f2⟩ := w
  obtain ⟨eu, hO2, er, hv⟩ := hw
  have eu : u = u2 := Eq.symm eu
  have er : r = kdI (xs (i + 1)) (mNc u) := er
  have hv9 : kdI (xs (i + 1)) (mNc u) = nI 0 → f2 0 = Int32.toInt64 (fAl u (tn (xs (i + 1)))) := hv
  have hO2 : InvO u2 on2 := hO2
  subst eu
  subst er
  obtain ⟨hP1, hK1, hD1⟩ := hB
  rw [ht] at hP1
  obtain ⟨hP, hD⟩ := va_join (wr := (pic1 cI h1 a1 u th)) (w1 := (picL cI cJ h0 a0 o u on2 f2)) hP hD [0, 1, 2, 3, 4, 5, 6, 7, 15] [8, 9, 10, 11, 12, 13, 14] rfl rfl (by decide) (by decide) hk1 hFc hP1 hD1
  generalize H1 = H at hP hS ⊢
  have hP : va_P D vwCl (picW cI cJ h0 a0 h1 a1 o u on2 u th f2) H := hP.sub [7, 8, 9, 10, 11, 12, 13, 14, 0, 1, 2, 3, 4, 5, 6, 15] rfl
  have hD : va_D (fun q : Nat => s.heap.size ≤ q) (picW cI cJ h0 a0 h1 a1 o u on2 u th f2) := hD.sub [7, 8, 9, 10, 11, 12, 13, 14, 0, 1, 2, 3, 4, 5, 6, 15] (by decide) rfl
  refine lv_istore (lv' := [(5, .int (kdI (xs (i + 1)) (mNc u))), (0, .ref b), (1, .ref h0), (2, .ref h1), (3, .ref o), (4, .int (nI i))]) hx hb dL_law_1118 hl (by decide) rfl (fun ls hl => ?_)
  refine lv_aload_n hx hb dL_law_1120 rfl (lv_at hl 3 rfl) ?_
  refine lv_aload_n hx hb dL_law_1121 rfl (lv_at hl 1 rfl) ?_
  refine lv_iload hx hb dL_law_1122 (lv_at hl 5 rfl) ?_
  refine lv_iconst (v := nI 1) hx hb dL_law_1124 (by decide +kernel) ?_
  refine q_iaddN hx hb dL_law_1125 ?_
  refine q_sld hx hb hX hbl hbA hS (k := i + 1) (by omega) (by omega) dL_law_1126 ?_
  have hPc := hP.sub (ws' := (pic1 cI h1 a1 u th)) [8, 9, 10, 11, 12, 13, 14] rfl
  have hDc := hD.sub (ws' := (pic1 cI h1 a1 u th)) [8, 9, 10, 11, 12, 13, 14] (by decide) rfl
  have hKc := hK.sub (tys' := [(cI, .int)]) [0] rfl
  have hFc := va_free (wc := (pic1 cI h1 a1 u th)) hD hS hA [8, 9, 10, 11, 12, 13, 14] rfl
  refine va_calli (va_runV (As := [.int (xs (i + 1))]) (rest := []) ⟨hx, hb, hml, hown, hts⟩ (c_X1_minutesAlone l D cI h1 a1 u th H.size (xs (i + 1)) hI) (cwV 1 hts gL_law_X1_minutesAlone rfl rfl rfl (by decide +kernel) ⟨Nat.le_of_ble_eq_true rfl, Nat.le_of_ble_eq_true rfl⟩) ⟨wr_blind, va_recv (ci := 1) (q0 := 0) hKc hPc rfl rfl, fun U hU hW => ⟨rfl, by rw [hU], by rw [hU]; exact hPc, va_K.moved hW.alike hKc, hDc.weaken (fun _ _ _ _ => trivial)⟩⟩ rfl rfl hl.1 rfl (lv_room (Nat.le_of_ble_eq_true rfl)) dL_law_1127 ⟨show C + 1 + 0 ≤ 601024 by omega, show Sl + 6 + 0 ≤ 7293034 by omega⟩) hS (fun q _ h => hFc q h) hFc (fun r w t H1 locs ht hvm hw hB hz1 hk1 hS => ?_)
  obtain ⟨hw1, hv2⟩ := hw
  subst hw1
  have hv2 : kdI (xs (i + 1)) (mNc u) = nI 0 → r = fAl u (tn (xs (i + 1))) := hv2
  obtain ⟨r2, hr2⟩ : ∃ z, z = r := ⟨_, rfl⟩
  subst hr2
  have hv2 : kdI (xs (i + 1)) (mNc u) = nI 0 → r2 = fAl u (tn (xs (i + 1))) := hv2
  obtain ⟨hP1, hK1, hD1⟩ := hB
  rw [ht] at hP1
  obtain ⟨hP, hD⟩ := va_join (wr := (picL cI cJ h0 a0 o u on2 f2)) (w1 := (pic1 cI h1 a1 u (kdI (xs (i + 1)) (mNc u)))) hP hD [8, 9, 10, 11, 12, 13, 14] [0, 1, 2, 3, 4, 5, 6, 7, 15] rfl rfl (by decide) (by decide) hk1 hFc hP1 hD1
  generalize H1 = H at hP hS ⊢
  have hP : va_P D vwCl (picW cI cJ h0 a0 h1 a1 o u on2 u (kdI (xs (i + 1)) (mNc u)) f2) H := hP.sub [0, 1, 2, 3, 4, 5, 6, 7, 9, 10, 11, 12, 13, 14, 15, 8] rfl
  have hD : va_D (fun q : Nat => s.heap.size ≤ q) (picW cI cJ h0 a0 h1 a1 o u on2 u (kdI (xs (i + 1)) (mNc u)) f2) := hD.sub [0, 1, 2, 3, 4, 5, 6, 7, 9, 10, 11, 12, 13, 14, 15, 8] (by decide) rfl
  refine lv_istore (lv' := [(6, .int r2), (5, .int (kdI (xs (i + 1)) (mNc u))), (0, .ref b), (1, .ref h0), (2, .ref h1), (3, .ref o), (4, .int (nI i))]) hx hb dL_law_1130 hl (by decide) rfl (fun ls hl => ?_)
  refine lv_aload_n hx hb dL_law_1132 rfl (lv_at hl 4 rfl) ?_
  refine vp_callSi (W.runV (As := []) (rest := []) ⟨hx, hb, hml, hown, hts⟩ (c_X1_thrown l D cI h1 a1 u (kdI (xs (i + 1)) (mNc u)) ) (cwV 0 hts gL_law_X1_thrown rfl rfl rfl (by decide +kernel) ⟨Nat.le_of_ble_eq_true rfl, Nat.le_of_ble_eq_true rfl⟩) (pu_pre (hK.sub (tys' := [(cI, .int)]) [0] rfl) (hP.sub (ws' := (pic1 cI h1 a1 u (kdI (xs (i + 1)) (mNc u)))) [8, 9, 10, 11, 12, 13, 14] rfl) rfl rfl) rfl rfl hl.1 rfl (lv_room (Nat.le_of_ble_eq_true rfl)) dL_law_1133 ⟨show C + 1 + 0 ≤ 601024 by omega, show Sl + 6 + 0 ≤ 7293034 by omega⟩) (fun r hr9 => ?_)
  subst hr9
  refine lv_iload hx hb dL_law_1136 (lv_at hl 1 rfl) ?_
  refine lv_icmp_eq (tgt := 1143) hx hb dL_law_1138 (by decide) (fun c_1138 => ?_) (fun c_1138 => ?_)
  · skip
    refine lv_iload hx hb dL_law_1143 (lv_at hl 1 rfl) ?_
    refine lv_if_ne (tgt := 1160) hx hb dL_law_1145 (by decide) (fun c_1145 => ?_) (fun c_1145 => ?_)
    · skip
      refine lv_goto (tgt := 1546) hx hb dL_law_1160 (by decide) ?_
      refine W.widen (k := C + 1) (n := Sl + 13) (by omega) (by omega) ?_
      exact kk u on2 (kdI (xs (i + 1)) (mNc u)) f2 H _ _ ⟨hI, hO2, hP, hD, hS⟩ (lv_sub hl [2, 3, 4, 5, 6] rfl)
    · skip
      have ex9 := (hv9 c_1145).trans (congrArg Int32.toInt64 (hv2 c_1145)).symm
      refine lv_aload_n hx hb dL_law_1148 rfl (lv_at hl 5 rfl) ?_
      refine lv_iconst (v := nI 0) hx hb dL_law_1149 (by decide +kernel) ?_
      refine q_lald hx hb hK hP 15 1 rfl rfl (by omega) (by decide) dL_law_1150 ?_
      refine lv_iload hx hb dL_law_1151 (lv_at hl 0 rfl) ?_
      refine lv_i2l (v := Int32.toInt64 r2) hx hb dL_law_1153 rfl ?_
      refine W.lcmp hx hb dL_law_1154 ?_
      refine lv_if_eq (tgt := 1160) hx hb dL_law_1155 (by decide) (fun c_1155 => ?_) (fun c_1155 => ?_)
      · skip
        refine lv_goto (tgt := 1546) hx hb dL_law_1160 (by decide) ?_
        refine W.widen (k := C + 1) (n := Sl + 13) (by omega) (by omega) ?_
        exact kk u on2 (kdI (xs (i + 1)) (mNc u)) f2 H _ _ ⟨hI, hO2, hP, hD, hS⟩ (lv_sub hl [2, 3, 4, 5, 6] rfl)
      · skip
        exact (c_1155 (by rw [ex9]; exact lcmp_self)).elim
  · skip
    exact (c_1138 rfl).elim
set_option maxHeartbeats 8000000 in
set_option maxRecDepth 100000 in
theorem lc_22 {p : Program} {l : Launch} {e : Env} {s : State} {m : MethodId} {below : List Frame} {meth : Method} {c : Code} {D : va_G} {cI cJ : ClassId} {b L h0 h1 o : Nat} {a0 a1 : Nat → Nat} {xs : Nat → Int32} (htr : l.stackTraces = false) (hL : L ≤ 2048) (C0 : lw_At p s m meth c b L xs) (hK : va_K D vwCl [(cI, .int), (cJ, .long)] s) (hE : tE (fun q : Nat => s.heap.size ≤ q) s) {i C Sl : Nat} (hi : i + 3 < L) (hC : C + 2 ≤ 601024) (hC2 : Sl + 20 ≤ 7293034) (kk : lwK p l e s m below meth c D cI cJ b h0 h1 o a0 a1 i (C + 1) (Sl + 13)) (u : MS) (on : Nat → Int32) (th : Int32) (f : Nat → Int64) (H : Heap) (locs : List Loc) (ls : Array Slot) (hw : lwI D cI cJ h0 h1 o a0 a1 s u on th f H locs) (hl : lv_has ls 9 [(0, .ref b), (1, .ref h0), (2, .ref h1), (3, .ref o), (4, .int (nI i))]) : W p l e room_1 s m #[Value.ref b] below meth c H locs C Sl (lw_Z below #[Value.ref b] s) (F0 m 1163 ls []) := by
  obtain ⟨hx, hb, hr, hml, hown, hts0, hX, hbl, hlocks, hgv⟩ := id C0
  have hown : s.vm.findClass RL = some m.cls := hown
  have hts : ∀ w ∈ wsL_law, w.before #[Value.ref b] s = true := fun w h => hts0 w (wsL_law_in w h)
  have hA : ∀ q : Nat, s.heap.size ≤ q → (fun q : Nat => s.heap.size ≤ q) q := fun _ h => h
  have hbA : ¬ (fun q : Nat => s.heap.size ≤ q) b := Nat.not_le.mpr hbl
  obtain ⟨hI, hO, hP, hD, hS⟩ := hw
  refine lv_aload_n hx hb dL_law_1163 rfl (lv_at hl 1 rfl) ?_
  refine vp_callSi (W.runV (As := []) (rest := []) ⟨hx, hb, hml, hown, hts⟩ (c_X0_bees l D cI h0 a0 u on ) (cwV 0 hts gL_law_X0_bees rfl rfl rfl (by decide +kernel) ⟨Nat.le_of_ble_eq_true rfl, Nat.le_of_ble_eq_true rfl⟩) (pu_pre (hK.sub (tys' := [(cI, .int)]) [0] rfl) (hP.sub (ws' := (pic0 cI h0 a0 u on)) [0, 1, 2, 3, 4, 5, 6, 7] rfl) rfl rfl) rfl rfl hl.1 rfl (lv_room (Nat.le_of_ble_eq_true rfl)) dL_law_1164 ⟨show C + 0 ≤ 601024 by omega, show Sl + 0 ≤ 7293034 by omega⟩) (fun r hr9 => ?_)
  subst hr9
  refine lv_aload_n hx hb dL_law_1167 rfl (lv_at hl 2 rfl) ?_
  have hPc := hP.sub (ws' := (pic1 cI h1 a1 u th)) [8, 9, 10, 11, 12, 13, 14] rfl
  have hDc := hD.sub (ws' := (pic1 cI h1 a1 u th)) [8, 9, 10, 11, 12, 13, 14] (by decide) rfl
  have hKc := hK.sub (tys' := [(cI, .int)]) [0] rfl
  have hFc := va_free (wc := (pic1 cI h1 a1 u th)) hD hS hA [8, 9, 10, 11, 12, 13, 14] rfl
  refine va_calli (va_runV (As := []) (rest := [.int (nI (mBc u))]) ⟨hx, hb, hml, hown, hts⟩ (c_X1_bees l D cI h1 a1 u th H.size  ) (cwV 0 hts gL_law_X1_bees rfl rfl rfl (by decide +kernel) ⟨Nat.le_of_ble_eq_true rfl, Nat.le_of_ble_eq_true rfl⟩) ⟨wr_blind, va_recv (ci := 1) (q0 := 0) hKc hPc rfl rfl, fun U hU hW => ⟨rfl, by rw [hU], by rw [hU]; exact hPc, va_K.moved hW.alike hKc, hDc.weaken (fun _ _ _ _ => trivial)⟩⟩ rfl rfl hl.1 rfl (lv_room (Nat.le_of_ble_eq_true rfl)) dL_law_1168 ⟨show C + 0 ≤ 601024 by omega, show Sl + 0 ≤ 7293034 by omega⟩) hS (fun q _ h => hFc q h) hFc (fun r w t H1 locs ht hvm hw hB hz1 hk1 hS => ?_)
  obtain ⟨rfl, rfl⟩ := hw
  obtain ⟨hP1, hK1, hD1⟩ := hB
  rw [ht] at hP1
  obtain ⟨hP, hD⟩ := va_join (wr := (picL cI cJ h0 a0 o u on f)) (w1 := (pic1 cI h1 a1 u (nI 0))) hP hD [8, 9, 10, 11, 12, 13, 14] [0, 1, 2, 3, 4, 5, 6, 7, 15] rfl rfl (by decide) (by decide) hk1 hFc hP1 hD1
  generalize H1 = H at hP hS ⊢
  have hP : va_P D vwCl (picW cI cJ h0 a0 h1 a1 o u on u (nI 0) f) H := hP.sub [0, 1, 2, 3, 4, 5, 6, 7, 9, 10, 11, 12, 13, 14, 15, 8] rfl
  have hD : va_D (fun q : Nat => s.heap.size ≤ q) (picW cI cJ h0 a0 h1 a1 o u on u (nI 0) f) := hD.sub [0, 1, 2, 3, 4, 5, 6, 7, 9, 10, 11, 12, 13, 14, 15, 8] (by decide) rfl
  refine lv_icmp_eq (tgt := 1546) hx hb dL_law_1171 (by decide) (fun c_1171 => ?_) (fun c_1171 => ?_)
  · skip
    refine W.widen (k := C + 1) (n := Sl + 13) (by omega) (by omega) ?_
    exact kk u on (nI 0) f H _ _ ⟨hI, hO, hP, hD, hS⟩ (lv_sub hl [0, 1, 2, 3, 4] rfl)
  · skip
    exact (c_1171 rfl).elim
set_option maxHeartbeats 8000000 in
set_option maxRecDepth 100000 in
theorem lc_23 {p : Program} {l : Launch} {e : Env} {s : State} {m : MethodId} {below : List Frame} {meth : Method} {c : Code} {D : va_G} {cI cJ : ClassId} {b L h0 h1 o : Nat} {a0 a1 : Nat → Nat} {xs : Nat → Int32} (htr : l.stackTraces = false) (hL : L ≤ 2048) (C0 : lw_At p s m meth c b L xs) (hK : va_K D vwCl [(cI, .int), (cJ, .long)] s) (hE : tE (fun q : Nat => s.heap.size ≤ q) s) {i C Sl : Nat} (hi : i + 3 < L) (hC : C + 2 ≤ 601024) (hC2 : Sl + 20 ≤ 7293034) (kk : lwK p l e s m below meth c D cI cJ b h0 h1 o a0 a1 i (C + 1) (Sl + 13)) (u : MS) (on : Nat → Int32) (th : Int32) (f : Nat → Int64) (H : Heap) (locs : List Loc) (ls : Array Slot) (hw : lwI D cI cJ h0 h1 o a0 a1 s u on th f H locs) (hl : lv_has ls 9 [(0, .ref b), (1, .ref h0), (2, .ref h1), (3, .ref o), (4, .int (nI i))]) : W p l e room_1 s m #[Value.ref b] below meth c H locs C Sl (lw_Z below #[Value.ref b] s) (F0 m 1176 ls []) := by
  obtain ⟨hx, hb, hr, hml, hown, hts0, hX, hbl, hlocks, hgv⟩ := id C0
  have hown : s.vm.findClass RL = some m.cls := hown
  have hts : ∀ w ∈ wsL_law, w.before #[Value.ref b] s = true := fun w h => hts0 w (wsL_law_in w h)
  have hA : ∀ q : Nat, s.heap.size ≤ q → (fun q : Nat => s.heap.size ≤ q) q := fun _ h => h
  have hbA : ¬ (fun q : Nat => s.heap.size ≤ q) b := Nat.not_le.mpr hbl
  obtain ⟨hI, hO, hP, hD, hS⟩ := hw
  refine lv_aload_n hx hb dL_law_1176 rfl (lv_at hl 1 rfl) ?_
  refine lv_aload_n hx hb dL_law_1177 rfl (lv_at hl 0 rfl) ?_
  refine lv_iload hx hb dL_law_1178 (lv_at hl 4 rfl) ?_
  refine lv_iconst (v := nI 1) hx hb dL_law_1180 (by decide +kernel) ?_
  refine q_iaddN hx hb dL_law_1181 ?_
  refine q_sld hx hb hX hbl hbA hS (k := i + 1) (by omega) (by omega) dL_law_1182 ?_
  refine lv_aload_n hx hb dL_law_1183 rfl (lv_at hl 3 rfl) ?_
  have hPc := hP.sub (ws' := (picL cI cJ h0 a0 o u on f)) [0, 1, 2, 3, 4, 5, 6, 7, 15] rfl
  have hDc := hD.sub (ws' := (picL cI cJ h0 a0 o u on f)) [0, 1, 2, 3, 4, 5, 6, 7, 15] (by decide) rfl
  have hFc := va_free (wc := (picL cI cJ h0 a0 o u on f)) hD hS hA [0, 1, 2, 3, 4, 5, 6, 7, 15] rfl
  refine va_calli (vx_runSW (As := [.ref h0, .int (xs (i + 1)), .ref o]) (rest := []) ⟨hx, hb, hml, hown, hts⟩ (c_L_ticksOf l htr D cI cJ h0 a0 o u on f H.size (xs (i + 1)) hI hO) (vx_cwSW 3 hts gL_law_L_ticksOf rfl rfl rfl (by decide +kernel) ⟨Nat.le_of_ble_eq_true rfl, Nat.le_of_ble_eq_true rfl⟩) ⟨lh_blind, fun U hU hW => ⟨rfl, by rw [hU], by rw [hU]; exact hPc, va_K.moved hW.alike hK, hDc.weaken (fun _ _ _ _ => trivial), hE.go hS hW hU (fun q h9 => hFc q h9)⟩⟩ rfl rfl hl.1 rfl (lv_room (Nat.le_of_ble_eq_true rfl)) dL_law_1184 ⟨show C + 1 ≤ 601024 by omega, show Sl + 6 ≤ 7293034 by omega⟩) hS (fun q _ h => hFc q h) hFc (fun r w t H1 locs ht hvm hw hB hz1 hk1 hS => ?_)
  obtain ⟨u2, on2, f2⟩ := w
  obtain ⟨eu, hO2, er, hv⟩ := hw
  have eu : u = u2 := Eq.symm eu
  have er : r = kdI (xs (i + 1)) (mBc u) := er
  have hv9 : kdI (xs (i + 1)) (mBc u) = nI 0 → f2 0 = Int32.toInt64 (fTk u (tn (xs (i + 1)))) := hv
  have hO2 : InvO u2 on2 := hO2
  subst eu
  subst er
  obtain ⟨hP1, hK1, hD1⟩ := hB
  rw [ht] at hP1
  obtain ⟨hP, hD⟩ := va_join (wr := (pic1 cI h1 a1 u th)) (w1 := (picL cI cJ h0 a0 o u on2 f2)) hP hD [0, 1, 2, 3, 4, 5, 6, 7, 15] [8, 9, 10, 11, 12, 13, 14] rfl rfl (by decide) (by decide) hk1 hFc hP1 hD1
  generalize H1 = H at hP hS ⊢
  have hP : va_P D vwCl (picW cI cJ h0 a0 h1 a1 o u on2 u th f2) H := hP.sub [7, 8, 9, 10, 11, 12, 13, 14, 0, 1, 2, 3, 4, 5, 6, 15] rfl
  have hD : va_D (fun q : Nat => s.heap.size ≤ q) (picW cI cJ h0 a0 h1 a1 o u on2 u th f2) := hD.sub [7, 8, 9, 10, 11, 12, 13, 14, 0, 1, 2, 3, 4, 5, 6, 15] (by decide) rfl
  refine lv_istore (lv' := [(5, .int (kdI (xs (i + 1)) (mBc u))), (0, .ref b), (1, .ref h0), (2, .ref h1), (3, .ref o), (4, .int (nI i))]) hx hb dL_law_1187 hl (by decide) rfl (fun ls hl => ?_)
  refine lv_aload_n hx hb dL_law_1189 rfl (lv_at hl 3 rfl) ?_
  refine lv_aload_n hx hb dL_law_1190 rfl (lv_at hl 1 rfl) ?_
  refine lv_iload hx hb dL_law_1191 (lv_at hl 5 rfl) ?_
  refine lv_iconst (v := nI 1) hx hb dL_law_1193 (by decide +kernel) ?_
  refine q_iaddN hx hb dL_law_1194 ?_
  refine q_sld hx hb hX hbl hbA hS (k := i + 1) (by omega) (by omega) dL_law_1195 ?_
  have hPc := hP.sub (ws' := (pic1 cI h1 a1 u th)) [8, 9, 10, 11, 12, 13, 14] rfl
  have hDc := hD.sub (ws' := (pic1 cI h1 a1 u th)) [8, 9, 10, 11, 12, 13, 14] (by decide) rfl
  have hKc := hK.sub (tys' := [(cI, .int)]) [0] rfl
  have hFc := va_free (wc := (pic1 cI h1 a1 u th)) hD hS hA [8, 9, 10, 11, 12, 13, 14] rfl
  refine va_calli (va_runV (As := [.int (xs (i + 1))]) (rest := []) ⟨hx, hb, hml, hown, hts⟩ (c_X1_ticksOf l D cI h1 a1 u th H.size (xs (i + 1)) hI) (cwV 1 hts gL_law_X1_ticksOf rfl rfl rfl (by decide +kernel) ⟨Nat.le_of_ble_eq_true rfl, Nat.le_of_ble_eq_true rfl⟩) ⟨wr_blind, va_recv (ci := 1) (q0 := 0) hKc hPc rfl rfl, fun U hU hW => ⟨rfl, by rw [hU], by rw [hU]; exact hPc, va_K.moved hW.alike hKc, hDc.weaken (fun _ _ _ _ => trivial)⟩⟩ rfl rfl hl.1 rfl (lv_room (Nat.le_of_ble_eq_true rfl)) dL_law_1196 ⟨show C + 1 + 0 ≤ 601024 by omega, show Sl + 6 + 0 ≤ 7293034 by omega⟩) hS (fun q _ h => hFc q h) hFc (fun r w t H1 locs ht hvm hw hB hz1 hk1 hS => ?_)
  obtain ⟨hw1, hv2⟩ := hw
  subst hw1
  have hv2 : kdI (xs (i + 1)) (mBc u) = nI 0 → r = fTk u (tn (xs (i + 1))) := hv2
  obtain ⟨r2, hr2⟩ : ∃ z, z = r := ⟨_, rfl⟩
  subst hr2
  have hv2 : kdI (xs (i + 1)) (mBc u) = nI 0 → r2 = fTk u (tn (xs (i + 1))) := hv2
  obtain ⟨hP1, hK1, hD1⟩ := hB
  rw [ht] at hP1
  obtain ⟨hP, hD⟩ := va_join (wr := (picL cI cJ h0 a0 o u on2 f2)) (w1 := (pic1 cI h1 a1 u (kdI (xs (i + 1)) (mBc u)))) hP hD [8, 9, 10, 11, 12, 13, 14] [0, 1, 2, 3, 4, 5, 6, 7, 15] rfl rfl (by decide) (by decide) hk1 hFc hP1 hD1
  generalize H1 = H at hP hS ⊢
  have hP : va_P D vwCl (picW cI cJ h0 a0 h1 a1 o u on2 u (kdI (xs (i + 1)) (mBc u)) f2) H := hP.sub [0, 1, 2, 3, 4, 5, 6, 7, 9, 10, 11, 12, 13, 14, 15, 8] rfl
  have hD : va_D (fun q : Nat => s.heap.size ≤ q) (picW cI cJ h0 a0 h1 a1 o u on2 u (kdI (xs (i + 1)) (mBc u)) f2) := hD.sub [0, 1, 2, 3, 4, 5, 6, 7, 9, 10, 11, 12, 13, 14, 15, 8] (by decide) rfl
  refine lv_istore (lv' := [(6, .int r2), (5, .int (kdI (xs (i + 1)) (mBc u))), (0, .ref b), (1, .ref h0), (2, .ref h1), (3, .ref o), (4, .int (nI i))]) hx hb dL_law_1199 hl (by decide) rfl (fun ls hl => ?_)
  refine lv_aload_n hx hb dL_law_1201 rfl (lv_at hl 4 rfl) ?_
  refine vp_callSi (W.runV (As := []) (rest := []) ⟨hx, hb, hml, hown, hts⟩ (c_X1_thrown l D cI h1 a1 u (kdI (xs (i + 1)) (mBc u)) ) (cwV 0 hts gL_law_X1_thrown rfl rfl rfl (by decide +kernel) ⟨Nat.le_of_ble_eq_true rfl, Nat.le_of_ble_eq_true rfl⟩) (pu_pre (hK.sub (tys' := [(cI, .int)]) [0] rfl) (hP.sub (ws' := (pic1 cI h1 a1 u (kdI (xs (i + 1)) (mBc u)))) [8, 9, 10, 11, 12, 13, 14] rfl) rfl rfl) rfl rfl hl.1 rfl (lv_room (Nat.le_of_ble_eq_true rfl)) dL_law_1202 ⟨show C + 1 + 0 ≤ 601024 by omega, show Sl + 6 + 0 ≤ 7293034 by omega⟩) (fun r hr9 => ?_)
  subst hr9
  refine lv_iload hx hb dL_law_1205 (lv_at hl 1 rfl) ?_
  refine lv_icmp_eq (tgt := 1212) hx hb dL_law_1207 (by decide) (fun c_1207 => ?_) (fun c_1207 => ?_)
  · skip
    refine lv_iload hx hb dL_law_1212 (lv_at hl 1 rfl) ?_
    refine lv_if_ne (tgt := 1229) hx hb dL_law_1214 (by decide) (fun c_1214 => ?_) (fun c_1214 => ?_)
    · skip
      refine lv_goto (tgt := 1546) hx hb dL_law_1229 (by decide) ?_
      refine W.widen (k := C + 1) (n := Sl + 13) (by omega) (by omega) ?_
      exact kk u on2 (kdI (xs (i + 1)) (mBc u)) f2 H _ _ ⟨hI, hO2, hP, hD, hS⟩ (lv_sub hl [2, 3, 4, 5, 6] rfl)
    · skip
      have ex9 := (hv9 c_1214).trans (congrArg Int32.toInt64 (hv2 c_1214)).symm
      refine lv_aload_n hx hb dL_law_1217 rfl (lv_at hl 5 rfl) ?_
      refine lv_iconst (v := nI 0) hx hb dL_law_1218 (by decide +kernel) ?_
      refine q_lald hx hb hK hP 15 1 rfl rfl (by omega) (by decide) dL_law_1219 ?_
      refine lv_iload hx hb dL_law_1220 (lv_at hl 0 rfl) ?_
      refine lv_i2l (v := Int32.toInt64 r2) hx hb dL_law_1222 rfl ?_
      refine W.lcmp hx hb dL_law_1223 ?_
      refine lv_if_eq (tgt := 1229) hx hb dL_law_1224 (by decide) (fun c_1224 => ?_) (fun c_1224 => ?_)
      · skip
        refine lv_goto (tgt := 1546) hx hb dL_law_1229 (by decide) ?_
        refine W.widen (k := C + 1) (n := Sl + 13) (by omega) (by omega) ?_
        exact kk u on2 (kdI (xs (i + 1)) (mBc u)) f2 H _ _ ⟨hI, hO2, hP, hD, hS⟩ (lv_sub hl [2, 3, 4, 5, 6] rfl)
      · skip
        exact (c_1224 (by rw [ex9]; exact lcmp_self)).elim
  · skip
    exact (c_1207 rfl).elim
