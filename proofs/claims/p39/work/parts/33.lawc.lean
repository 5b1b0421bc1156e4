set_option maxHeartbeats 8000000 in
set_option maxRecDepth 100000 in
theorem lc_24 {p : Program} {l : Launch} {e : Env} {s : State} {m : MethodId} {below : List Frame} {meth : Method} {c : Code} {D : va_G} {cI cJ : ClassId} {b L h0 h1 o : Nat} {a0 a1 : Nat → Nat} {xs : Nat → Int32} (htr : l.stackTraces = false) (hL : L ≤ 2048) (C0 : lw_At p s m meth c b L xs) (hK : va_K D vwCl [(cI, .int), (cJ, .long)] s) (hE : tE (fun q : Nat => s.heap.size ≤ q) s) {i C Sl : Nat} (hi : i + 3 < L) (hC : C + 2 ≤ 601024) (hC2 : Sl + 20 ≤ 7293034) (kk : lwK p l e s m below meth c D cI cJ b h0 h1 o a0 a1 i (C + 1) (Sl + 13)) (u : MS) (on : Nat → Int32) (th : Int32) (f : Nat → Int64) (H : Heap) (locs : List Loc) (ls : Array Slot) (hw : lwI D cI cJ h0 h1 o a0 a1 s u on th f H locs) (hl : lv_has ls 9 [(0, .ref b), (1, .ref h0), (2, .ref h1), (3, .ref o), (4, .int (nI i))]) : W p l e room_1 s m #[Value.ref b] below meth c H locs C Sl (lw_Z below #[Value.ref b] s) (F0 m 1232 ls []) := by
  obtain ⟨hx, hb, hr, hml, hown, hts0, hX, hbl, hlocks, hgv⟩ := id C0
  have hown : s.vm.findClass RL = some m.cls := hown
  have hts : ∀ w ∈ wsL_law, w.before #[Value.ref b] s = true := fun w h => hts0 w (wsL_law_in w h)
  have hA : ∀ q : Nat, s.heap.size ≤ q → (fun q : Nat => s.heap.size ≤ q) q := fun _ h => h
  have hbA : ¬ (fun q : Nat => s.heap.size ≤ q) b := Nat.not_le.mpr hbl
  obtain ⟨hI, hO, hP, hD, hS⟩ := hw
  refine lv_aload_n hx hb dL_law_1232 rfl (lv_at hl 1 rfl) ?_
  refine lv_aload_n hx hb dL_law_1233 rfl (lv_at hl 0 rfl) ?_
  refine lv_iload hx hb dL_law_1234 (lv_at hl 4 rfl) ?_
  refine lv_iconst (v := nI 1) hx hb dL_law_1236 (by decide +kernel) ?_
  refine q_iaddN hx hb dL_law_1237 ?_
  refine q_sld hx hb hX hbl hbA hS (k := i + 1) (by omega) (by omega) dL_law_1238 ?_
  refine lv_aload_n hx hb dL_law_1239 rfl (lv_at hl 3 rfl) ?_
  have hPc := hP.sub (ws' := (picL cI cJ h0 a0 o u on f)) [0, 1, 2, 3, 4, 5, 6, 7, 15] rfl
  have hDc := hD.sub (ws' := (picL cI cJ h0 a0 o u on f)) [0, 1, 2, 3, 4, 5, 6, 7, 15] (by decide) rfl
  have hFc := va_free (wc := (picL cI cJ h0 a0 o u on f)) hD hS hA [0, 1, 2, 3, 4, 5, 6, 7, 15] rfl
  refine va_calli (vx_runSW (As := [.ref h0, .int (xs (i + 1)), .ref o]) (rest := []) ⟨hx, hb, hml, hown, hts⟩ (c_L_measuredBy l htr D cI cJ h0 a0 o u on f H.size (xs (i + 1)) hI hO) (vx_cwSW 3 hts gL_law_L_measuredBy rfl rfl rfl (by decide +kernel) ⟨Nat.le_of_ble_eq_true rfl, Nat.le_of_ble_eq_true rfl⟩) ⟨lh_blind, fun U hU hW => ⟨rfl, by rw [hU], by rw [hU]; exact hPc, va_K.moved hW.alike hK, hDc.weaken (fun _ _ _ _ => trivial), hE.go hS hW hU (fun q h9 => hFc q h9)⟩⟩ rfl rfl hl.1 rfl (lv_room (Nat.le_of_ble_eq_true rfl)) dL_law_1240 ⟨show C + 1 ≤ 601024 by omega, show Sl + 6 ≤ 7293034 by omega⟩) hS (fun q _ h => hFc q h) hFc (fun r w t H1 locs ht hvm hw hB hz1 hk1 hS => ?_)
  obtain ⟨u2, on2, f2⟩ := w
  obtain ⟨eu, hO2, er, hv⟩ := hw
  have eu : u = u2 := Eq.symm eu
  have er : r = kdI (xs (i + 1)) (mBc u) := er
  have hv9 : kdI (xs (i + 1)) (mBc u) = nI 0 → f2 0 = Int32.toInt64 (fMe u (tn (xs (i + 1)))) := hv
  have hO2 : InvO u2 on2 := hO2
  subst eu
  subst er
  obtain ⟨hP1, hK1, hD1⟩ := hB
  rw [ht] at hP1
  obtain ⟨hP, hD⟩ := va_join (wr := (pic1 cI h1 a1 u th)) (w1 := (picL cI cJ h0 a0 o u on2 f2)) hP hD [0, 1, 2, 3, 4, 5, 6, 7, 15] [8, 9, 10, 11, 12, 13, 14] rfl rfl (by decide) (by decide) hk1 hFc hP1 hD1
  generalize H1 = H at hP hS ⊢
  have hP : va_P D vwCl (picW cI cJ h0 a0 h1 a1 o u on2 u th f2) H := hP.sub [7, 8, 9, 10, 11, 12, 13, 14, 0, 1, 2, 3, 4, 5, 6, 15] rfl
  have hD : va_D (fun q : Nat => s.heap.size ≤ q) (picW cI cJ h0 a0 h1 a1 o u on2 u th f2) := hD.sub [7, 8, 9, 10, 11, 12, 13, 14, 0, 1, 2, 3, 4, 5, 6, 15] (by decide) rfl
  refine lv_istore (lv' := [(5, .int (kdI (xs (i + 1)) (mBc u))), (0, .ref b), (1, .ref h0), (2, .ref h1), (3, .ref o), (4, .int (nI i))]) hx hb dL_law_1243 hl (by decide) rfl (fun ls hl => ?_)
  refine lv_aload_n hx hb dL_law_1245 rfl (lv_at hl 3 rfl) ?_
  refine lv_aload_n hx hb dL_law_1246 rfl (lv_at hl 1 rfl) ?_
  refine lv_iload hx hb dL_law_1247 (lv_at hl 5 rfl) ?_
  refine lv_iconst (v := nI 1) hx hb dL_law_1249 (by decide +kernel) ?_
  refine q_iaddN hx hb dL_law_1250 ?_
  refine q_sld hx hb hX hbl hbA hS (k := i + 1) (by omega) (by omega) dL_law_1251 ?_
  have hPc := hP.sub (ws' := (pic1 cI h1 a1 u th)) [8, 9, 10, 11, 12, 13, 14] rfl
  have hDc := hD.sub (ws' := (pic1 cI h1 a1 u th)) [8, 9, 10, 11, 12, 13, 14] (by decide) rfl
  have hKc := hK.sub (tys' := [(cI, .int)]) [0] rfl
  have hFc := va_free (wc := (pic1 cI h1 a1 u th)) hD hS hA [8, 9, 10, 11, 12, 13, 14] rfl
  refine va_calli (va_runV (As := [.int (xs (i + 1))]) (rest := []) ⟨hx, hb, hml, hown, hts⟩ (c_X1_measuredBy l D cI h1 a1 u th H.size (xs (i + 1)) hI) (cwV 1 hts gL_law_X1_measuredBy rfl rfl rfl (by decide +kernel) ⟨Nat.le_of_ble_eq_true rfl, Nat.le_of_ble_eq_true rfl⟩) ⟨wr_blind, va_recv (ci := 1) (q0 := 0) hKc hPc rfl rfl, fun U hU hW => ⟨rfl, by rw [hU], by rw [hU]; exact hPc, va_K.moved hW.alike hKc, hDc.weaken (fun _ _ _ _ => trivial)⟩⟩ rfl rfl hl.1 rfl (lv_room (Nat.le_of_ble_eq_true rfl)) dL_law_1252 ⟨show C + 1 + 0 ≤ 601024 by omega, show Sl + 6 + 0 ≤ 7293034 by omega⟩) hS (fun q _ h => hFc q h) hFc (fun r w t H1 locs ht hvm hw hB hz1 hk1 hS => ?_)
  obtain ⟨hw1, hv2⟩ := hw
  subst hw1
  have hv2 : kdI (xs (i + 1)) (mBc u) = nI 0 → r = fMe u (tn (xs (i + 1))) := hv2
  obtain ⟨r2, hr2⟩ : ∃ z, z = r := ⟨_, rfl⟩
  subst hr2
  have hv2 : kdI (xs (i + 1)) (mBc u) = nI 0 → r2 = fMe u (tn (xs (i + 1))) := hv2
  obtain ⟨hP1, hK1, hD1⟩ := hB
  rw [ht] at hP1
  obtain ⟨hP, hD⟩ := va_join (wr := (picL cI cJ h0 a0 o u on2 f2)) (w1 := (pic1 cI h1 a1 u (kdI (xs (i + 1)) (mBc u)))) hP hD [8, 9, 10, 11, 12, 13, 14] [0, 1, 2, 3, 4, 5, 6, 7, 15] rfl rfl (by decide) (by decide) hk1 hFc hP1 hD1
  generalize H1 = H at hP hS ⊢
  have hP : va_P D vwCl (picW cI cJ h0 a0 h1 a1 o u on2 u (kdI (xs (i + 1)) (mBc u)) f2) H := hP.sub [0, 1, 2, 3, 4, 5, 6, 7, 9, 10, 11, 12, 13, 14, 15, 8] rfl
  have hD : va_D (fun q : Nat => s.heap.size ≤ q) (picW cI cJ h0 a0 h1 a1 o u on2 u (kdI (xs (i + 1)) (mBc u)) f2) := hD.sub [0, 1, 2, 3, 4, 5, 6, 7, 9, 10, 11, 12, 13, 14, 15, 8] (by decide) rfl
  refine lv_istore (lv' := [(6, .int r2), (5, .int (kdI (xs (i + 1)) (mBc u))), (0, .ref b), (1, .ref h0), (2, .ref h1), (3, .ref o), (4, .int (nI i))]) hx hb dL_law_1255 hl (by decide) rfl (fun ls hl => ?_)
  refine lv_aload_n hx hb dL_law_1257 rfl (lv_at hl 4 rfl) ?_
  refine vp_callSi (W.runV (As := []) (rest := []) ⟨hx, hb, hml, hown, hts⟩ (c_X1_thrown l D cI h1 a1 u (kdI (xs (i + 1)) (mBc u)) ) (cwV 0 hts gL_law_X1_thrown rfl rfl rfl (by decide +kernel) ⟨Nat.le_of_ble_eq_true rfl, Nat.le_of_ble_eq_true rfl⟩) (pu_pre (hK.sub (tys' := [(cI, .int)]) [0] rfl) (hP.sub (ws' := (pic1 cI h1 a1 u (kdI (xs (i + 1)) (mBc u)))) [8, 9, 10, 11, 12, 13, 14] rfl) rfl rfl) rfl rfl hl.1 rfl (lv_room (Nat.le_of_ble_eq_true rfl)) dL_law_1258 ⟨show C + 1 + 0 ≤ 601024 by omega, show Sl + 6 + 0 ≤ 7293034 by omega⟩) (fun r hr9 => ?_)
  subst hr9
  refine lv_iload hx hb dL_law_1261 (lv_at hl 1 rfl) ?_
  refine lv_icmp_eq (tgt := 1268) hx hb dL_law_1263 (by decide) (fun c_1263 => ?_) (fun c_1263 => ?_)
  · skip
    refine lv_iload hx hb dL_law_1268 (lv_at hl 1 rfl) ?_
    refine lv_if_ne (tgt := 1285) hx hb dL_law_1270 (by decide) (fun c_1270 => ?_) (fun c_1270 => ?_)
    · skip
      refine lv_goto (tgt := 1546) hx hb dL_law_1285 (by decide) ?_
      refine W.widen (k := C + 1) (n := Sl + 13) (by omega) (by omega) ?_
      exact kk u on2 (kdI (xs (i + 1)) (mBc u)) f2 H _ _ ⟨hI, hO2, hP, hD, hS⟩ (lv_sub hl [2, 3, 4, 5, 6] rfl)
    · skip
      have ex9 := (hv9 c_1270).trans (congrArg Int32.toInt64 (hv2 c_1270)).symm
      refine lv_aload_n hx hb dL_law_1273 rfl (lv_at hl 5 rfl) ?_
      refine lv_iconst (v := nI 0) hx hb dL_law_1274 (by decide +kernel) ?_
      refine q_lald hx hb hK hP 15 1 rfl rfl (by omega) (by decide) dL_law_1275 ?_
      refine lv_iload hx hb dL_law_1276 (lv_at hl 0 rfl) ?_
      refine lv_i2l (v := Int32.toInt64 r2) hx hb dL_law_1278 rfl ?_
      refine W.lcmp hx hb dL_law_1279 ?_
      refine lv_if_eq (tgt := 1285) hx hb dL_law_1280 (by decide) (fun c_1280 => ?_) (fun c_1280 => ?_)
      · skip
        refine lv_goto (tgt := 1546) hx hb dL_law_1285 (by decide) ?_
        refine W.widen (k := C + 1) (n := Sl + 13) (by omega) (by omega) ?_
        exact kk u on2 (kdI (xs (i + 1)) (mBc u)) f2 H _ _ ⟨hI, hO2, hP, hD, hS⟩ (lv_sub hl [2, 3, 4, 5, 6] rfl)
      · skip
        exact (c_1280 (by rw [ex9]; exact lcmp_self)).elim
  · skip
    exact (c_1263 rfl).elim
set_option maxHeartbeats 8000000 in
set_option maxRecDepth 100000 in
theorem lc_25 {p : Program} {l : Launch} {e : Env} {s : State} {m : MethodId} {below : List Frame} {meth : Method} {c : Code} {D : va_G} {cI cJ : ClassId} {b L h0 h1 o : Nat} {a0 a1 : Nat → Nat} {xs : Nat → Int32} (htr : l.stackTraces = false) (hL : L ≤ 2048) (C0 : lw_At p s m meth c b L xs) (hK : va_K D vwCl [(cI, .int), (cJ, .long)] s) (hE : tE (fun q : Nat => s.heap.size ≤ q) s) {i C Sl : Nat} (hi : i + 3 < L) (hC : C + 2 ≤ 601024) (hC2 : Sl + 20 ≤ 7293034) (kk : lwK p l e s m below meth c D cI cJ b h0 h1 o a0 a1 i (C + 1) (Sl + 13)) (u : MS) (on : Nat → Int32) (th : Int32) (f : Nat → Int64) (H : Heap) (locs : List Loc) (ls : Array Slot) (hw : lwI D cI cJ h0 h1 o a0 a1 s u on th f H locs) (hl : lv_has ls 9 [(0, .ref b), (1, .ref h0), (2, .ref h1), (3, .ref o), (4, .int (nI i))]) : W p l e room_1 s m #[Value.ref b] below meth c H locs C Sl (lw_Z below #[Value.ref b] s) (F0 m 1288 ls []) := by
  obtain ⟨hx, hb, hr, hml, hown, hts0, hX, hbl, hlocks, hgv⟩ := id C0
  have hown : s.vm.findClass RL = some m.cls := hown
  have hts : ∀ w ∈ wsL_law, w.before #[Value.ref b] s = true := fun w h => hts0 w (wsL_law_in w h)
  have hA : ∀ q : Nat, s.heap.size ≤ q → (fun q : Nat => s.heap.size ≤ q) q := fun _ h => h
  have hbA : ¬ (fun q : Nat => s.heap.size ≤ q) b := Nat.not_le.mpr hbl
  obtain ⟨hI, hO, hP, hD, hS⟩ := hw
  refine lv_aload_n hx hb dL_law_1288 rfl (lv_at hl 1 rfl) ?_
  refine lv_aload_n hx hb dL_law_1289 rfl (lv_at hl 0 rfl) ?_
  refine lv_iload hx hb dL_law_1290 (lv_at hl 4 rfl) ?_
  refine lv_iconst (v := nI 1) hx hb dL_law_1292 (by decide +kernel) ?_
  refine q_iaddN hx hb dL_law_1293 ?_
  refine q_sld hx hb hX hbl hbA hS (k := i + 1) (by omega) (by omega) dL_law_1294 ?_
  refine lv_aload_n hx hb dL_law_1295 rfl (lv_at hl 3 rfl) ?_
  have hPc := hP.sub (ws' := (picL cI cJ h0 a0 o u on f)) [0, 1, 2, 3, 4, 5, 6, 7, 15] rfl
  have hDc := hD.sub (ws' := (picL cI cJ h0 a0 o u on f)) [0, 1, 2, 3, 4, 5, 6, 7, 15] (by decide) rfl
  have hFc := va_free (wc := (picL cI cJ h0 a0 o u on f)) hD hS hA [0, 1, 2, 3, 4, 5, 6, 7, 15] rfl
  refine va_calli (vx_runSW (As := [.ref h0, .int (xs (i + 1)), .ref o]) (rest := []) ⟨hx, hb, hml, hown, hts⟩ (c_L_errorOf l htr D cI cJ h0 a0 o u on f H.size (xs (i + 1)) hI hO) (vx_cwSW 3 hts gL_law_L_errorOf rfl rfl rfl (by decide +kernel) ⟨Nat.le_of_ble_eq_true rfl, Nat.le_of_ble_eq_true rfl⟩) ⟨lh_blind, fun U hU hW => ⟨rfl, by rw [hU], by rw [hU]; exact hPc, va_K.moved hW.alike hK, hDc.weaken (fun _ _ _ _ => trivial), hE.go hS hW hU (fun q h9 => hFc q h9)⟩⟩ rfl rfl hl.1 rfl (lv_room (Nat.le_of_ble_eq_true rfl)) dL_law_1296 ⟨show C + 1 ≤ 601024 by omega, show Sl + 6 ≤ 7293034 by omega⟩) hS (fun q _ h => hFc q h) hFc (fun r w t H1 locs ht hvm hw hB hz1 hk1 hS => ?_)
  obtain ⟨u2, on2, f2⟩ := w
  obtain ⟨eu, hO2, er, hv⟩ := hw
  have eu : u = u2 := Eq.symm eu
  have er : r = kdI (xs (i + 1)) (mBc u) := er
  have hv9 : kdI (xs (i + 1)) (mBc u) = nI 0 → f2 0 = Int32.toInt64 (fEr u (tn (xs (i + 1)))) := hv
  have hO2 : InvO u2 on2 := hO2
  subst eu
  subst er
  obtain ⟨hP1, hK1, hD1⟩ := hB
  rw [ht] at hP1
  obtain ⟨hP, hD⟩ := va_join (wr := (pic1 cI h1 a1 u th)) (w1 := (picL cI cJ h0 a0 o u on2 f2)) hP hD [0, 1, 2, 3, 4, 5, 6, 7, 15] [8, 9, 10, 11, 12, 13, 14] rfl rfl (by decide) (by decide) hk1 hFc hP1 hD1
  generalize H1 = H at hP hS ⊢
  have hP : va_P D vwCl (picW cI cJ h0 a0 h1 a1 o u on2 u th f2) H := hP.sub [7, 8, 9, 10, 11, 12, 13, 14, 0, 1, 2, 3, 4, 5, 6, 15] rfl
  have hD : va_D (fun q : Nat => s.heap.size ≤ q) (picW cI cJ h0 a0 h1 a1 o u on2 u th f2) := hD.sub [7, 8, 9, 10, 11, 12, 13, 14, 0, 1, 2, 3, 4, 5, 6, 15] (by decide) rfl
  refine lv_istore (lv' := [(5, .int (kdI (xs (i + 1)) (mBc u))), (0, .ref b), (1, .ref h0), (2, .ref h1), (3, .ref o), (4, .int (nI i))]) hx hb dL_law_1299 hl (by decide) rfl (fun ls hl => ?_)
  refine lv_aload_n hx hb dL_law_1301 rfl (lv_at hl 3 rfl) ?_
  refine lv_aload_n hx hb dL_law_1302 rfl (lv_at hl 1 rfl) ?_
  refine lv_iload hx hb dL_law_1303 (lv_at hl 5 rfl) ?_
  refine lv_iconst (v := nI 1) hx hb dL_law_1305 (by decide +kernel) ?_
  refine q_iaddN hx hb dL_law_1306 ?_
  refine q_sld hx hb hX hbl hbA hS (k := i + 1) (by omega) (by omega) dL_law_1307 ?_
  have hPc := hP.sub (ws' := (pic1 cI h1 a1 u th)) [8, 9, 10, 11, 12, 13, 14] rfl
  have hDc := hD.sub (ws' := (pic1 cI h1 a1 u th)) [8, 9, 10, 11, 12, 13, 14] (by decide) rfl
  have hKc := hK.sub (tys' := [(cI, .int)]) [0] rfl
  have hFc := va_free (wc := (pic1 cI h1 a1 u th)) hD hS hA [8, 9, 10, 11, 12, 13, 14] rfl
  refine va_calli (va_runV (As := [.int (xs (i + 1))]) (rest := []) ⟨hx, hb, hml, hown, hts⟩ (c_X1_errorOf l D cI h1 a1 u th H.size (xs (i + 1)) hI) (cwV 1 hts gL_law_X1_errorOf rfl rfl rfl (by decide +kernel) ⟨Nat.le_of_ble_eq_true rfl, Nat.le_of_ble_eq_true rfl⟩) ⟨wr_blind, va_recv (ci := 1) (q0 := 0) hKc hPc rfl rfl, fun U hU hW => ⟨rfl, by rw [hU], by rw [hU]; exact hPc, va_K.moved hW.alike hKc, hDc.weaken (fun _ _ _ _ => trivial)⟩⟩ rfl rfl hl.1 rfl (lv_room (Nat.le_of_ble_eq_true rfl)) dL_law_1308 ⟨show C + 1 + 0 ≤ 601024 by omega, show Sl + 6 + 0 ≤ 7293034 by omega⟩) hS (fun q _ h => hFc q h) hFc (fun r w t H1 locs ht hvm hw hB hz1 hk1 hS => ?_)
  obtain ⟨hw1, hv2⟩ := hw
  subst hw1
  have hv2 : kdI (xs (i + 1)) (mBc u) = nI 0 → r = fEr u (tn (xs (i + 1))) := hv2
  obtain ⟨r2, hr2⟩ : ∃ z, z = r := ⟨_, rfl⟩
  subst hr2
  have hv2 : kdI (xs (i + 1)) (mBc u) = nI 0 → r2 = fEr u (tn (xs (i + 1))) := hv2
  obtain ⟨hP1, hK1, hD1⟩ := hB
  rw [ht] at hP1
  obtain ⟨hP, hD⟩ := va_join (wr := (picL cI cJ h0 a0 o u on2 f2)) (w1 := (pic1 cI h1 a1 u (kdI (xs (i + 1)) (mBc u)))) hP hD [8, 9, 10, 11, 12, 13, 14] [0, 1, 2, 3, 4, 5, 6, 7, 15] rfl rfl (by decide) (by decide) hk1 hFc hP1 hD1
  generalize H1 = H at hP hS ⊢
  have hP : va_P D vwCl (picW cI cJ h0 a0 h1 a1 o u on2 u (kdI (xs (i + 1)) (mBc u)) f2) H := hP.sub [0, 1, 2, 3, 4, 5, 6, 7, 9, 10, 11, 12, 13, 14, 15, 8] rfl
  have hD : va_D (fun q : Nat => s.heap.size ≤ q) (picW cI cJ h0 a0 h1 a1 o u on2 u (kdI (xs (i + 1)) (mBc u)) f2) := hD.sub [0, 1, 2, 3, 4, 5, 6, 7, 9, 10, 11, 12, 13, 14, 15, 8] (by decide) rfl
  refine lv_istore (lv' := [(6, .int r2), (5, .int (kdI (xs (i + 1)) (mBc u))), (0, .ref b), (1, .ref h0), (2, .ref h1), (3, .ref o), (4, .int (nI i))]) hx hb dL_law_1311 hl (by decide) rfl (fun ls hl => ?_)
  refine lv_aload_n hx hb dL_law_1313 rfl (lv_at hl 4 rfl) ?_
  refine vp_callSi (W.runV (As := []) (rest := []) ⟨hx, hb, hml, hown, hts⟩ (c_X1_thrown l D cI h1 a1 u (kdI (xs (i + 1)) (mBc u)) ) (cwV 0 hts gL_law_X1_thrown rfl rfl rfl (by decide +kernel) ⟨Nat.le_of_ble_eq_true rfl, Nat.le_of_ble_eq_true rfl⟩) (pu_pre (hK.sub (tys' := [(cI, .int)]) [0] rfl) (hP.sub (ws' := (pic1 cI h1 a1 u (kdI (xs (i + 1)) (mBc u)))) [8, 9, 10, 11, 12, 13, 14] rfl) rfl rfl) rfl rfl hl.1 rfl (lv_room (Nat.le_of_ble_eq_true rfl)) dL_law_1314 ⟨show C + 1 + 0 ≤ 601024 by omega, show Sl + 6 + 0 ≤ 7293034 by omega⟩) (fun r hr9 => ?_)
  subst hr9
  refine lv_iload hx hb dL_law_1317 (lv_at hl 1 rfl) ?_
  refine lv_icmp_eq (tgt := 1324) hx hb dL_law_1319 (by decide) (fun c_1319 => ?_) (fun c_1319 => ?_)
  · skip
    refine lv_iload hx hb dL_law_1324 (lv_at hl 1 rfl) ?_
    refine lv_if_ne (tgt := 1341) hx hb dL_law_1326 (by decide) (fun c_1326 => ?_) (fun c_1326 => ?_)
    · skip
      refine lv_goto (tgt := 1546) hx hb dL_law_1341 (by decide) ?_
      refine W.widen (k := C + 1) (n := Sl + 13) (by omega) (by omega) ?_
      exact kk u on2 (kdI (xs (i + 1)) (mBc u)) f2 H _ _ ⟨hI, hO2, hP, hD, hS⟩ (lv_sub hl [2, 3, 4, 5, 6] rfl)
    · skip
      have ex9 := (hv9 c_1326).trans (congrArg Int32.toInt64 (hv2 c_1326)).symm
      refine lv_aload_n hx hb dL_law_1329 rfl (lv_at hl 5 rfl) ?_
      refine lv_iconst (v := nI 0) hx hb dL_law_1330 (by decide +kernel) ?_
      refine q_lald hx hb hK hP 15 1 rfl rfl (by omega) (by decide) dL_law_1331 ?_
      refine lv_iload hx hb dL_law_1332 (lv_at hl 0 rfl) ?_
      refine lv_i2l (v := Int32.toInt64 r2) hx hb dL_law_1334 rfl ?_
      refine W.lcmp hx hb dL_law_1335 ?_
      refine lv_if_eq (tgt := 1341) hx hb dL_law_1336 (by decide) (fun c_1336 => ?_) (fun c_1336 => ?_)
      · skip
        refine lv_goto (tgt := 1546) hx hb dL_law_1341 (by decide) ?_
        refine W.widen (k := C + 1) (n := Sl + 13) (by omega) (by omega) ?_
        exact kk u on2 (kdI (xs (i + 1)) (mBc u)) f2 H _ _ ⟨hI, hO2, hP, hD, hS⟩ (lv_sub hl [2, 3, 4, 5, 6] rfl)
      · skip
        exact (c_1336 (by rw [ex9]; exact lcmp_self)).elim
  · skip
    exact (c_1319 rfl).elim
set_option maxHeartbeats 8000000 in
set_option maxRecDepth 100000 in
theorem lc_26 {p : Program} {l : Launch} {e : Env} {s : State} {m : MethodId} {below : List Frame} {meth : Method} {c : Code} {D : va_G} {cI cJ : ClassId} {b L h0 h1 o : Nat} {a0 a1 : Nat → Nat} {xs : Nat → Int32} (htr : l.stackTraces = false) (hL : L ≤ 2048) (C0 : lw_At p s m meth c b L xs) (hK : va_K D vwCl [(cI, .int), (cJ, .long)] s) (hE : tE (fun q : Nat => s.heap.size ≤ q) s) {i C Sl : Nat} (hi : i + 3 < L) (hC : C + 2 ≤ 601024) (hC2 : Sl + 20 ≤ 7293034) (kk : lwK p l e s m below meth c D cI cJ b h0 h1 o a0 a1 i (C + 1) (Sl + 13)) (u : MS) (on : Nat → Int32) (th : Int32) (f : Nat → Int64) (H : Heap) (locs : List Loc) (ls : Array Slot) (hw : lwI D cI cJ h0 h1 o a0 a1 s u on th f H locs) (hl : lv_has ls 9 [(0, .ref b), (1, .ref h0), (2, .ref h1), (3, .ref o), (4, .int (nI i))]) : W p l e room_1 s m #[Value.ref b] below meth c H locs C Sl (lw_Z below #[Value.ref b] s) (F0 m 1344 ls []) := by
  obtain ⟨hx, hb, hr, hml, hown, hts0, hX, hbl, hlocks, hgv⟩ := id C0
  have hown : s.vm.findClass RL = some m.cls := hown
  have hts : ∀ w ∈ wsL_law, w.before #[Value.ref b] s = true := fun w h => hts0 w (wsL_law_in w h)
  have hA : ∀ q : Nat, s.heap.size ≤ q → (fun q : Nat => s.heap.size ≤ q) q := fun _ h => h
  have hbA : ¬ (fun q : Nat => s.heap.size ≤ q) b := Nat.not_le.mpr hbl
  obtain ⟨hI, hO, hP, hD, hS⟩ := hw
  refine lv_aload_n hx hb dL_law_1344 rfl (lv_at hl 1 rfl) ?_
  refine vp_callSi (W.runV (As := []) (rest := []) ⟨hx, hb, hml, hown, hts⟩ (c_X0_bestBee l D cI h0 a0 u on hI) (cwV 0 hts gL_law_X0_bestBee rfl rfl rfl (by decide +kernel) ⟨Nat.le_of_ble_eq_true rfl, Nat.le_of_ble_eq_true rfl⟩) (pu_pre (hK.sub (tys' := [(cI, .int)]) [0] rfl) (hP.sub (ws' := (pic0 cI h0 a0 u on)) [0, 1, 2, 3, 4, 5, 6, 7] rfl) rfl rfl) rfl rfl hl.1 rfl (lv_room (Nat.le_of_ble_eq_true rfl)) dL_law_1345 ⟨show C + 0 ≤ 601024 by omega, show Sl + 0 ≤ 7293034 by omega⟩) (fun r hr9 => ?_)
  subst hr9
  refine lv_aload_n hx hb dL_law_1348 rfl (lv_at hl 2 rfl) ?_
  have hPc := hP.sub (ws' := (pic1 cI h1 a1 u th)) [8, 9, 10, 11, 12, 13, 14] rfl
  have hDc := hD.sub (ws' := (pic1 cI h1 a1 u th)) [8, 9, 10, 11, 12, 13, 14] (by decide) rfl
  have hKc := hK.sub (tys' := [(cI, .int)]) [0] rfl
  have hFc := va_free (wc := (pic1 cI h1 a1 u th)) hD hS hA [8, 9, 10, 11, 12, 13, 14] rfl
  refine va_calli (va_runV (As := []) (rest := [.int (fBB u)]) ⟨hx, hb, hml, hown, hts⟩ (c_X1_bestBee l D cI h1 a1 u th H.size  hI) (cwV 0 hts gL_law_X1_bestBee rfl rfl rfl (by decide +kernel) ⟨Nat.le_of_ble_eq_true rfl, Nat.le_of_ble_eq_true rfl⟩) ⟨wr_blind, va_recv (ci := 1) (q0 := 0) hKc hPc rfl rfl, fun U hU hW => ⟨rfl, by rw [hU], by rw [hU]; exact hPc, va_K.moved hW.alike hKc, hDc.weaken (fun _ _ _ _ => trivial)⟩⟩ rfl rfl hl.1 rfl (lv_room (Nat.le_of_ble_eq_true rfl)) dL_law_1349 ⟨show C + 0 ≤ 601024 by omega, show Sl + 0 ≤ 7293034 by omega⟩) hS (fun q _ h => hFc q h) hFc (fun r w t H1 locs ht hvm hw hB hz1 hk1 hS => ?_)
  obtain ⟨rfl, rfl⟩ := hw
  obtain ⟨hP1, hK1, hD1⟩ := hB
  rw [ht] at hP1
  obtain ⟨hP, hD⟩ := va_join (wr := (picL cI cJ h0 a0 o u on f)) (w1 := (pic1 cI h1 a1 u (nI 0))) hP hD [8, 9, 10, 11, 12, 13, 14] [0, 1, 2, 3, 4, 5, 6, 7, 15] rfl rfl (by decide) (by decide) hk1 hFc hP1 hD1
  generalize H1 = H at hP hS ⊢
  have hP : va_P D vwCl (picW cI cJ h0 a0 h1 a1 o u on u (nI 0) f) H := hP.sub [0, 1, 2, 3, 4, 5, 6, 7, 9, 10, 11, 12, 13, 14, 15, 8] rfl
  have hD : va_D (fun q : Nat => s.heap.size ≤ q) (picW cI cJ h0 a0 h1 a1 o u on u (nI 0) f) := hD.sub [0, 1, 2, 3, 4, 5, 6, 7, 9, 10, 11, 12, 13, 14, 15, 8] (by decide) rfl
  refine lv_icmp_eq (tgt := 1546) hx hb dL_law_1352 (by decide) (fun c_1352 => ?_) (fun c_1352 => ?_)
  · skip
    refine W.widen (k := C + 1) (n := Sl + 13) (by omega) (by omega) ?_
    exact kk u on (nI 0) f H _ _ ⟨hI, hO, hP, hD, hS⟩ (lv_sub hl [0, 1, 2, 3, 4] rfl)
  · skip
    exact (c_1352 rfl).elim
set_option maxHeartbeats 8000000 in
set_option maxRecDepth 100000 in
theorem lc_27 {p : Program} {l : Launch} {e : Env} {s : State} {m : MethodId} {below : List Frame} {meth : Method} {c : Code} {D : va_G} {cI cJ : ClassId} {b L h0 h1 o : Nat} {a0 a1 : Nat → Nat} {xs : Nat → Int32} (htr : l.stackTraces = false) (hL : L ≤ 2048) (C0 : lw_At p s m meth c b L xs) (hK : va_K D vwCl [(cI, .int), (cJ, .long)] s) (hE : tE (fun q : Nat => s.heap.size ≤ q) s) {i C Sl : Nat} (hi : i + 3 < L) (hC : C + 2 ≤ 601024) (hC2 : Sl + 20 ≤ 7293034) (kk : lwK p l e s m below meth c D cI cJ b h0 h1 o a0 a1 i (C + 1) (Sl + 13)) (u : MS) (on : Nat → Int32) (th : Int32) (f : Nat → Int64) (H : Heap) (locs : List Loc) (ls : Array Slot) (hw : lwI D cI cJ h0 h1 o a0 a1 s u on th f H locs) (hl : lv_has ls 9 [(0, .ref b), (1, .ref h0), (2, .ref h1), (3, .ref o), (4, .int (nI i))]) : W p l e room_1 s m #[Value.ref b] below meth c H locs C Sl (lw_Z below #[Value.ref b] s) (F0 m 1357 ls []) := by
  obtain ⟨hx, hb, hr, hml, hown, hts0, hX, hbl, hlocks, hgv⟩ := id C0
  have hown : s.vm.findClass RL = some m.cls := hown
  have hts : ∀ w ∈ wsL_law, w.before #[Value.ref b] s = true := fun w h => hts0 w (wsL_law_in w h)
  have hA : ∀ q : Nat, s.heap.size ≤ q → (fun q : Nat => s.heap.size ≤ q) q := fun _ h => h
  have hbA : ¬ (fun q : Nat => s.heap.size ≤ q) b := Nat.not_le.mpr hbl
  obtain ⟨hI, hO, hP, hD, hS⟩ := hw
  refine lv_aload_n hx hb dL_law_1357 rfl (lv_at hl 1 rfl) ?_
  refine lv_aload_n hx hb dL_law_1358 rfl (lv_at hl 0 rfl) ?_
  refine lv_iload hx hb dL_law_1359 (lv_at hl 4 rfl) ?_
  refine lv_iconst (v := nI 1) hx hb dL_law_1361 (by decide +kernel) ?_
  refine q_iaddN hx hb dL_law_1362 ?_
  refine q_sld hx hb hX hbl hbA hS (k := i + 1) (by omega) (by omega) dL_law_1363 ?_
  refine lv_aload_n hx hb dL_law_1364 rfl (lv_at hl 3 rfl) ?_
  have hPc := hP.sub (ws' := (picL cI cJ h0 a0 o u on f)) [0, 1, 2, 3, 4, 5, 6, 7, 15] rfl
  have hDc := hD.sub (ws' := (picL cI cJ h0 a0 o u on f)) [0, 1, 2, 3, 4, 5, 6, 7, 15] (by decide) rfl
  have hFc := va_free (wc := (picL cI cJ h0 a0 o u on f)) hD hS hA [0, 1, 2, 3, 4, 5, 6, 7, 15] rfl
  refine va_calli (vx_runSW (As := [.ref h0, .int (xs (i + 1)), .ref o]) (rest := []) ⟨hx, hb, hml, hown, hts⟩ (c_L_nextTick l htr D cI cJ h0 a0 o u on f H.size (xs (i + 1)) hI hO) (vx_cwSW 3 hts gL_law_L_nextTick rfl rfl rfl (by decide +kernel) ⟨Nat.le_of_ble_eq_true rfl, Nat.le_of_ble_eq_true rfl⟩) ⟨lh_blind, fun U hU hW => ⟨rfl, by rw [hU], by rw [hU]; exact hPc, va_K.moved hW.alike hK, hDc.weaken (fun _ _ _ _ => trivial), hE.go hS hW hU (fun q h9 => hFc q h9)⟩⟩ rfl rfl hl.1 rfl (lv_room (Nat.le_of_ble_eq_true rfl)) dL_law_1365 ⟨show C + 1 ≤ 601024 by omega, show Sl + 6 ≤ 7293034 by omega⟩) hS (fun q _ h => hFc q h) hFc (fun r w t H1 locs ht hvm hw hB hz1 hk1 hS => ?_)
  obtain ⟨u2, on2, f2⟩ := w
  obtain ⟨eu, hO2, er, hv⟩ := hw
  have eu : u = u2 := Eq.symm eu
  have er : r = kdI (xs (i + 1)) (mBc u) := er
  have hv9 : kdI (xs (i + 1)) (mBc u) = nI 0 → f2 0 = Int32.toInt64 (fNx u (tn (xs (i + 1)))) := hv
  have hO2 : InvO u2 on2 := hO2
  subst eu
  subst er
  obtain ⟨hP1, hK1, hD1⟩ := hB
  rw [ht] at hP1
  obtain ⟨hP, hD⟩ := va_join (wr := (pic1 cI h1 a1 u th)) (w1 := (picL cI cJ h0 a0 o u on2 f2)) hP hD [0, 1, 2, 3, 4, 5, 6, 7, 15] [8, 9, 10, 11, 12, 13, 14] rfl rfl (by decide) (by decide) hk1 hFc hP1 hD1
  generalize H1 = H at hP hS ⊢
  have hP : va_P D vwCl (picW cI cJ h0 a0 h1 a1 o u on2 u th f2) H := hP.sub [7, 8, 9, 10, 11, 12, 13, 14, 0, 1, 2, 3, 4, 5, 6, 15] rfl
  have hD : va_D (fun q : Nat => s.heap.size ≤ q) (picW cI cJ h0 a0 h1 a1 o u on2 u th f2) := hD.sub [7, 8, 9, 10, 11, 12, 13, 14, 0, 1, 2, 3, 4, 5, 6, 15] (by decide) rfl
  refine lv_istore (lv' := [(5, .int (kdI (xs (i + 1)) (mBc u))), (0, .ref b), (1, .ref h0), (2, .ref h1), (3, .ref o), (4, .int (nI i))]) hx hb dL_law_1368 hl (by decide) rfl (fun ls hl => ?_)
  refine lv_aload_n hx hb dL_law_1370 rfl (lv_at hl 3 rfl) ?_
  refine lv_aload_n hx hb dL_law_1371 rfl (lv_at hl 1 rfl) ?_
  refine lv_iload hx hb dL_law_1372 (lv_at hl 5 rfl) ?_
  refine lv_iconst (v := nI 1) hx hb dL_law_1374 (by decide +kernel) ?_
  refine q_iaddN hx hb dL_law_1375 ?_
  refine q_sld hx hb hX hbl hbA hS (k := i + 1) (by omega) (by omega) dL_law_1376 ?_
  have hPc := hP.sub (ws' := (pic1 cI h1 a1 u th)) [8, 9, 10, 11, 12, 13, 14] rfl
  have hDc := hD.sub (ws' := (pic1 cI h1 a1 u th)) [8, 9, 10, 11, 12, 13, 14] (by decide) rfl
  have hKc := hK.sub (tys' := [(cI, .int)]) [0] rfl
  have hFc := va_free (wc := (pic1 cI h1 a1 u th)) hD hS hA [8, 9, 10, 11, 12, 13, 14] rfl
  refine va_calli (va_runV (As := [.int (xs (i + 1))]) (rest := []) ⟨hx, hb, hml, hown, hts⟩ (c_X1_nextTick l D cI h1 a1 u th H.size (xs (i + 1)) hI) (cwV 1 hts gL_law_X1_nextTick rfl rfl rfl (by decide +kernel) ⟨Nat.le_of_ble_eq_true rfl, Nat.le_of_ble_eq_true rfl⟩) ⟨wr_blind, va_recv (ci := 1) (q0 := 0) hKc hPc rfl rfl, fun U hU hW => ⟨rfl, by rw [hU], by rw [hU]; exact hPc, va_K.moved hW.alike hKc, hDc.weaken (fun _ _ _ _ => trivial)⟩⟩ rfl rfl hl.1 rfl (lv_room (Nat.le_of_ble_eq_true rfl)) dL_law_1377 ⟨show C + 1 + 0 ≤ 601024 by omega, show Sl + 6 + 0 ≤ 7293034 by omega⟩) hS (fun q _ h => hFc q h) hFc (fun r w t H1 locs ht hvm hw hB hz1 hk1 hS => ?_)
  obtain ⟨hw1, hv2⟩ := hw
  subst hw1
  have hv2 : kdI (xs (i + 1)) (mBc u) = nI 0 → r = fNx u (tn (xs (i + 1))) := hv2
  obtain ⟨r2, hr2⟩ : ∃ z, z = r := ⟨_, rfl⟩
  subst hr2
  have hv2 : kdI (xs (i + 1)) (mBc u) = nI 0 → r2 = fNx u (tn (xs (i + 1))) := hv2
  obtain ⟨hP1, hK1, hD1⟩ := hB
  rw [ht] at hP1
  obtain ⟨hP, hD⟩ := va_join (wr := (picL cI cJ h0 a0 o u on2 f2)) (w1 := (pic1 cI h1 a1 u (kdI (xs (i + 1)) (mBc u)))) hP hD [8, 9, 10, 11, 12, 13, 14] [0, 1, 2, 3, 4, 5, 6, 7, 15] rfl rfl (by decide) (by decide) hk1 hFc hP1 hD1
  generalize H1 = H at hP hS ⊢
  have hP : va_P D vwCl (picW cI cJ h0 a0 h1 a1 o u on2 u (kdI (xs (i + 1)) (mBc u)) f2) H := hP.sub [0, 1, 2, 3, 4, 5, 6, 7, 9, 10, 11, 12, 13, 14, 15, 8] rfl
  have hD : va_D (fun q : Nat => s.heap.size ≤ q) (picW cI cJ h0 a0 h1 a1 o u on2 u (kdI (xs (i + 1)) (mBc u)) f2) := hD.sub [0, 1, 2, 3, 4, 5, 6, 7, 9, 10, 11, 12, 13, 14, 15, 8] (by decide) rfl
  refine lv_istore (lv' := [(6, .int r2), (5, .int (kdI (xs (i + 1)) (mBc u))), (0, .ref b), (1, .ref h0), (2, .ref h1), (3, .ref o), (4, .int (nI i))]) hx hb dL_law_1380 hl (by decide) rfl (fun ls hl => ?_)
  refine lv_aload_n hx hb dL_law_1382 rfl (lv_at hl 4 rfl) ?_
  refine vp_callSi (W.runV (As := []) (rest := []) ⟨hx, hb, hml, hown, hts⟩ (c_X1_thrown l D cI h1 a1 u (kdI (xs (i + 1)) (mBc u)) ) (cwV 0 hts gL_law_X1_thrown rfl rfl rfl (by decide +kernel) ⟨Nat.le_of_ble_eq_true rfl, Nat.le_of_ble_eq_true rfl⟩) (pu_pre (hK.sub (tys' := [(cI, .int)]) [0] rfl) (hP.sub (ws' := (pic1 cI h1 a1 u (kdI (xs (i + 1)) (mBc u)))) [8, 9, 10, 11, 12, 13, 14] rfl) rfl rfl) rfl rfl hl.1 rfl (lv_room (Nat.le_of_ble_eq_true rfl)) dL_law_1383 ⟨show C + 1 + 0 ≤ 601024 by omega, show Sl + 6 + 0 ≤ 7293034 by omega⟩) (fun r hr9 => ?_)
  subst hr9
  refine lv_iload hx hb dL_law_1386 (lv_at hl 1 rfl) ?_
  refine lv_icmp_eq (tgt := 1393) hx hb dL_law_1388 (by decide) (fun c_1388 => ?_) (fun c_1388 => ?_)
  · skip
    refine lv_iload hx hb dL_law_1393 (lv_at hl 1 rfl) ?_
    refine lv_if_ne (tgt := 1410) hx hb dL_law_1395 (by decide) (fun c_1395 => ?_) (fun c_1395 => ?_)
    · skip
      refine lv_goto (tgt := 1546) hx hb dL_law_1410 (by decide) ?_
      refine W.widen (k := C + 1) (n := Sl + 13) (by omega) (by omega) ?_
      exact kk u on2 (kdI (xs (i + 1)) (mBc u)) f2 H _ _ ⟨hI, hO2, hP, hD, hS⟩ (lv_sub hl [2, 3, 4, 5, 6] rfl)
    · skip
      have ex9 := (hv9 c_1395).trans (congrArg Int32.toInt64 (hv2 c_1395)).symm
      refine lv_aload_n hx hb dL_law_1398 rfl (lv_at hl 5 rfl) ?_
      refine lv_iconst (v := nI 0) hx hb dL_law_1399 (by decide +kernel) ?_
      refine q_lald hx hb hK hP 15 1 rfl rfl (by omega) (by decide) dL_law_1400 ?_
      refine lv_iload hx hb dL_law_1401 (lv_at hl 0 rfl) ?_
      refine lv_i2l (v := Int32.toInt64 r2) hx hb dL_law_1403 rfl ?_
      refine W.lcmp hx hb dL_law_1404 ?_
      refine lv_if_eq (tgt := 1410) hx hb dL_law_1405 (by decide) (fun c_1405 => ?_) (fun c_1405 => ?_)
      · skip
        refine lv_goto (tgt := 1546) hx hb dL_law_1410 (by decide) ?_
        refine W.widen (k := C + 1) (n := Sl + 13) (by omega) (by omega) ?_
        exact kk u on2 (kdI (xs (i + 1)) (mBc u)) f2 H _ _ ⟨hI, hO2, hP, hD, hS⟩ (lv_sub hl [2, 3, 4, 5, 6] rfl)
      · skip
        exact (c_1405 (by rw [ex9]; exact lcmp_self)).elim
  · skip
    exact (c_1388 rfl).elim
set_option maxHeartbeats 8000000 in
set_option maxRecDepth 100000 in
theorem lc_28 {p : Program} {l : Launch} {e : Env} {s : State} {m : MethodId} {below : List Frame} {meth : Method} {c : Code} {D : va_G} {cI cJ : ClassId} {b L h0 h1 o : Nat} {a0 a1 : Nat → Nat} {xs : Nat → Int32} (htr : l.stackTraces = false) (hL : L ≤ 2048) (C0 : lw_At p s m meth c b L xs) (hK : va_K D vwCl [(cI, .int), (cJ, .long)] s) (hE : tE (fun q : Nat => s.heap.size ≤ q) s) {i C Sl : Nat} (hi : i + 3 < L) (hC : C + 2 ≤ 601024) (hC2 : Sl + 20 ≤ 7293034) (kk : lwK p l e s m below meth c D cI cJ b h0 h1 o a0 a1 i (C + 1) (Sl + 13)) (u : MS) (on : Nat → Int32) (th : Int32) (f : Nat → Int64) (H : Heap) (locs : List Loc) (ls : Array Slot) (hw : lwI D cI cJ h0 h1 o a0 a1 s u on th f H locs) (hl : lv_has ls 9 [(0, .ref b), (1, .ref h0), (2, .ref h1), (3, .ref o), (4, .int (nI i))]) : W p l e room_1 s m #[Value.ref b] below meth c H locs C Sl (lw_Z below #[Value.ref b] s) (F0 m 1413 ls []) := by
  obtain ⟨hx, hb, hr, hml, hown, hts0, hX, hbl, hlocks, hgv⟩ := id C0
  have hown : s.vm.findClass RL = some m.cls := hown
  have hts : ∀ w ∈ wsL_law, w.before #[Value.ref b] s = true := fun w h => hts0 w (wsL_law_in w h)
  have hA : ∀ q : Nat, s.heap.size ≤ q → (fun q : Nat => s.heap.size ≤ q) q := fun _ h => h
  have hbA : ¬ (fun q : Nat => s.heap.size ≤ q) b := Nat.not_le.mpr hbl
  obtain ⟨hI, hO, hP, hD, hS⟩ := hw
  refine lv_aload_n hx hb dL_law_1413 rfl (lv_at hl 1 rfl) ?_
  refine vp_callSi (W.runV (As := []) (rest := []) ⟨hx, hb, hml, hown, hts⟩ (c_X0_tea l D cI h0 a0 u on ) (cwV 0 hts gL_law_X0_tea rfl rfl rfl (by decide +kernel) ⟨Nat.le_of_ble_eq_true rfl, Nat.le_of_ble_eq_true rfl⟩) (pu_pre (hK.sub (tys' := [(cI, .int)]) [0] rfl) (hP.sub (ws' := (pic0 cI h0 a0 u on)) [0, 1, 2, 3, 4, 5, 6, 7] rfl) rfl rfl) rfl rfl hl.1 rfl (lv_room (Nat.le_of_ble_eq_true rfl)) dL_law_1414 ⟨show C + 0 ≤ 601024 by omega, show Sl + 0 ≤ 7293034 by omega⟩) (fun r hr9 => ?_)
  subst hr9
  refine lv_aload_n hx hb dL_law_1417 rfl (lv_at hl 2 rfl) ?_
  have hPc := hP.sub (ws' := (pic1 cI h1 a1 u th)) [8, 9, 10, 11, 12, 13, 14] rfl
  have hDc := hD.sub (ws' := (pic1 cI h1 a1 u th)) [8, 9, 10, 11, 12, 13, 14] (by decide) rfl
  have hKc := hK.sub (tys' := [(cI, .int)]) [0] rfl
  have hFc := va_free (wc := (pic1 cI h1 a1 u th)) hD hS hA [8, 9, 10, 11, 12, 13, 14] rfl
  refine va_calli (va_runV (As := []) (rest := [.int (nI (mTea u))]) ⟨hx, hb, hml, hown, hts⟩ (c_X1_tea l D cI h1 a1 u th H.size  ) (cwV 0 hts gL_law_X1_tea rfl rfl rfl (by decide +kernel) ⟨Nat.le_of_ble_eq_true rfl, Nat.le_of_ble_eq_true rfl⟩) ⟨wr_blind, va_recv (ci := 1) (q0 := 0) hKc hPc rfl rfl, fun U hU hW => ⟨rfl, by rw [hU], by rw [hU]; exact hPc, va_K.moved hW.alike hKc, hDc.weaken (fun _ _ _ _ => trivial)⟩⟩ rfl rfl hl.1 rfl (lv_room (Nat.le_of_ble_eq_true rfl)) dL_law_1418 ⟨show C + 0 ≤ 601024 by omega, show Sl + 0 ≤ 7293034 by omega⟩) hS (fun q _ h => hFc q h) hFc (fun r w t H1 locs ht hvm hw hB hz1 hk1 hS => ?_)
  obtain ⟨rfl, rfl⟩ := hw
  obtain ⟨hP1, hK1, hD1⟩ := hB
  rw [ht] at hP1
  obtain ⟨hP, hD⟩ := va_join (wr := (picL cI cJ h0 a0 o u on f)) (w1 := (pic1 cI h1 a1 u (nI 0))) hP hD [8, 9, 10, 11, 12, 13, 14] [0, 1, 2, 3, 4, 5, 6, 7, 15] rfl rfl (by decide) (by decide) hk1 hFc hP1 hD1
  generalize H1 = H at hP hS ⊢
  have hP : va_P D vwCl (picW cI cJ h0 a0 h1 a1 o u on u (nI 0) f) H := hP.sub [0, 1, 2, 3, 4, 5, 6, 7, 9, 10, 11, 12, 13, 14, 15, 8] rfl
  have hD : va_D (fun q : Nat => s.heap.size ≤ q) (picW cI cJ h0 a0 h1 a1 o u on u (nI 0) f) := hD.sub [0, 1, 2, 3, 4, 5, 6, 7, 9, 10, 11, 12, 13, 14, 15, 8] (by decide) rfl
  refine lv_icmp_eq (tgt := 1546) hx hb dL_law_1421 (by decide) (fun c_1421 => ?_) (fun c_1421 => ?_)
  · skip
    refine W.widen (k := C + 1) (n := Sl + 13) (by omega) (by omega) ?_
    exact kk u on (nI 0) f H _ _ ⟨hI, hO, hP, hD, hS⟩ (lv_sub hl [0, 1, 2, 3, 4] rfl)
  · skip
    exact (c_1421 rfl).elim
set_option maxHeartbeats 8000000 in
set_option maxRecDepth 100000 in
theorem lc_29 {p : Program} {l : Launch} {e : Env} {s : State} {m : MethodId} {below : List Frame} {meth : Method} {c : Code} {D : va_G} {cI cJ : ClassId} {b L h0 h1 o : Nat} {a0 a1 : Nat → Nat} {xs : Nat → Int32} (htr : l.stackTraces = false) (hL : L ≤ 2048) (C0 : lw_At p s m meth c b L xs) (hK : va_K D vwCl [(cI, .int), (cJ, .long)] s) (hE : tE (fun q : Nat => s.heap.size ≤ q) s) {i C Sl : Nat} (hi : i + 3 < L) (hC : C + 2 ≤ 601024) (hC2 : Sl + 20 ≤ 7293034) (kk : lwK p l e s m below meth c D cI cJ b h0 h1 o a0 a1 i (C + 1) (Sl + 13)) (u : MS) (on : Nat → Int32) (th : Int32) (f : Nat → Int64) (H : Heap) (locs : List Loc) (ls : Array Slot) (hw : lwI D cI cJ h0 h1 o a0 a1 s u on th f H locs) (hl : lv_has ls 9 [(0, .ref b), (1, .ref h0), (2, .ref h1), (3, .ref o), (4, .int (nI i))]) : W p l e room_1 s m #[Value.ref b] below meth c H locs C Sl (lw_Z below #[Value.ref b] s) (F0 m 1426 ls []) := by
  obtain ⟨hx, hb, hr, hml, hown, hts0, hX, hbl, hlocks, hgv⟩ := id C0
  have hown : s.vm.findClass RL = some m.cls := hown
  have hts : ∀ w ∈ wsL_law, w.before #[Value.ref b] s = true := fun w h => hts0 w (wsL_law_in w h)
  have hA : ∀ q : Nat, s.heap.size ≤ q → (fun q : Nat => s.heap.size ≤ q) q := fun _ h => h
  have hbA : ¬ (fun q : Nat => s.heap.size ≤ q) b := Nat.not_le.mpr hbl
  obtain ⟨hI, hO, hP, hD, hS⟩ := hw
  refine lv_aload_n hx hb dL_law_1426 rfl (lv_at hl 1 rfl) ?_
  refine vp_callSi (W.runV (As := []) (rest := []) ⟨hx, hb, hml, hown, hts⟩ (c_X0_spilt l D cI h0 a0 u on ) (cwV 0 hts gL_law_X0_spilt rfl rfl rfl (by decide +kernel) ⟨Nat.le_of_ble_eq_true rfl, Nat.le_of_ble_eq_true rfl⟩) (pu_pre (hK.sub (tys' := [(cI, .int)]) [0] rfl) (hP.sub (ws' := (pic0 cI h0 a0 u on)) [0, 1, 2, 3, 4, 5, 6, 7] rfl) rfl rfl) rfl rfl hl.1 rfl (lv_room (Nat.le_of_ble_eq_true rfl)) dL_law_1427 ⟨show C + 0 ≤ 601024 by omega, show Sl + 0 ≤ 7293034 by omega⟩) (fun r hr9 => ?_)
  subst hr9
  refine lv_aload_n hx hb dL_law_1430 rfl (lv_at hl 2 rfl) ?_
  have hPc := hP.sub (ws' := (pic1 cI h1 a1 u th)) [8, 9, 10, 11, 12, 13, 14] rfl
  have hDc := hD.sub (ws' := (pic1 cI h1 a1 u th)) [8, 9, 10, 11, 12, 13, 14] (by decide) rfl
  have hKc := hK.sub (tys' := [(cI, .int)]) [0] rfl
  have hFc := va_free (wc := (pic1 cI h1 a1 u th)) hD hS hA [8, 9, 10, 11, 12, 13, 14] rfl
  refine va_calli (va_runV (As := []) (rest := [.int (mSpl u)]) ⟨hx, hb, hml, hown, hts⟩ (c_X1_spilt l D cI h1 a1 u th H.size  ) (cwV 0 hts gL_law_X1_spilt rfl rfl rfl (by decide +kernel) ⟨Nat.le_of_ble_eq_true rfl, Nat.le_of_ble_eq_true rfl⟩) ⟨wr_blind, va_recv (ci := 1) (q0 := 0) hKc hPc rfl rfl, fun U hU hW => ⟨rfl, by rw [hU], by rw [hU]; exact hPc, va_K.moved hW.alike hKc, hDc.weaken (fun _ _ _ _ => trivial)⟩⟩ rfl rfl hl.1 rfl (lv_room (Nat.le_of_ble_eq_true rfl)) dL_law_1431 ⟨show C + 0 ≤ 601024 by omega, show Sl + 0 ≤ 7293034 by omega⟩) hS (fun q _ h => hFc q h) hFc (fun r w t H1 locs ht hvm hw hB hz1 hk1 hS => ?_)
  obtain ⟨rfl, rfl⟩ := hw
  obtain ⟨hP1, hK1, hD1⟩ := hB
  rw [ht] at hP1
  obtain ⟨hP, hD⟩ := va_join (wr := (picL cI cJ h0 a0 o u on f)) (w1 := (pic1 cI h1 a1 u (nI 0))) hP hD [8, 9, 10, 11, 12, 13, 14] [0, 1, 2, 3, 4, 5, 6, 7, 15] rfl rfl (by decide) (by decide) hk1 hFc hP1 hD1
  generalize H1 = H at hP hS ⊢
  have hP : va_P D vwCl (picW cI cJ h0 a0 h1 a1 o u on u (nI 0) f) H := hP.sub [0, 1, 2, 3, 4, 5, 6, 7, 9, 10, 11, 12, 13, 14, 15, 8] rfl
  have hD : va_D (fun q : Nat => s.heap.size ≤ q) (picW cI cJ h0 a0 h1 a1 o u on u (nI 0) f) := hD.sub [0, 1, 2, 3, 4, 5, 6, 7, 9, 10, 11, 12, 13, 14, 15, 8] (by decide) rfl
  refine lv_icmp_eq (tgt := 1546) hx hb dL_law_1434 (by decide) (fun c_1434 => ?_) (fun c_1434 => ?_)
  · skip
    refine W.widen (k := C + 1) (n := Sl + 13) (by omega) (by omega) ?_
    exact kk u on (nI 0) f H _ _ ⟨hI, hO, hP, hD, hS⟩ (lv_sub hl [0, 1, 2, 3, 4] rfl)
  · skip
    exact (c_1434 rfl).elim
set_option maxHeartbeats 8000000 in
set_option maxRecDepth 100000 in
theorem lc_30 {p : Program} {l : Launch} {e : Env} {s : State} {m : MethodId} {below : List Frame} {meth : Method} {c : Code} {D : va_G} {cI cJ : ClassId} {b L h0 h1 o : Nat} {a0 a1 : Nat → Nat} {xs : Nat → Int32} (htr : l.stackTraces = false) (hL : L ≤ 2048) (C0 : lw_At p s m meth c b L xs) (hK : va_K D vwCl [(cI, .int), (cJ, .long)] s) (hE : tE (fun q : Nat => s.heap.size ≤ q) s) {i C Sl : Nat} (hi : i + 3 < L) (hC : C + 2 ≤ 601024) (hC2 : Sl + 20 ≤ 7293034) (kk : lwK p l e s m below meth c D cI cJ b h0 h1 o a0 a1 i (C + 1) (Sl + 13)) (u : MS) (on : Nat → Int32) (th : Int32) (f : Nat → Int64) (H : Heap) (locs : List Loc) (ls : Array Slot) (hw : lwI D cI cJ h0 h1 o a0 a1 s u on th f H locs) (hl : lv_has ls 9 [(0, .ref b), (1, .ref h0), (2, .ref h1), (3, .ref o), (4, .int (nI i))]) : W p l e room_1 s m #[Value.ref b] below meth c H locs C Sl (lw_Z below #[Value.ref b] s) (F0 m 1439 ls []) := by
  obtain ⟨hx, hb, hr, hml, hown, hts0, hX, hbl, hlocks, hgv⟩ := id C0
  have hown : s.vm.findClass RL = some m.cls := hown
  have hts : ∀ w ∈ wsL_law, w.before #[Value.ref b] s = true := fun w h => hts0 w (wsL_law_in w h)
  have hA : ∀ q : Nat, s.heap.size ≤ q → (fun q : Nat => s.heap.size ≤ q) q := fun _ h => h
  have hbA : ¬ (fun q : Nat => s.heap.size ≤ q) b := Nat.not_le.mpr hbl
  obtain ⟨hI, hO, hP, hD, hS⟩ := hw
  refine lv_aload_n hx hb dL_law_1439 rfl (lv_at hl 1 rfl) ?_
  refine vp_callSi (W.runV (As := []) (rest := []) ⟨hx, hb, hml, hown, hts⟩ (c_X0_spiltAtEnd l D cI h0 a0 u on hI hO) (cwV 0 hts gL_law_X0_spiltAtEnd rfl rfl rfl (by decide +kernel) ⟨Nat.le_of_ble_eq_true rfl, Nat.le_of_ble_eq_true rfl⟩) (pu_pre (hK.sub (tys' := [(cI, .int)]) [0] rfl) (hP.sub (ws' := (pic0 cI h0 a0 u on)) [0, 1, 2, 3, 4, 5, 6, 7] rfl) rfl rfl) rfl rfl hl.1 rfl (lv_room (Nat.le_of_ble_eq_true rfl)) dL_law_1440 ⟨show C + 0 ≤ 601024 by omega, show Sl + 0 ≤ 7293034 by omega⟩) (fun r hr9 => ?_)
  subst hr9
  refine lv_aload_n hx hb dL_law_1443 rfl (lv_at hl 2 rfl) ?_
  have hPc := hP.sub (ws' := (pic1 cI h1 a1 u th)) [8, 9, 10, 11, 12, 13, 14] rfl
  have hDc := hD.sub (ws' := (pic1 cI h1 a1 u th)) [8, 9, 10, 11, 12, 13, 14] (by decide) rfl
  have hKc := hK.sub (tys' := [(cI, .int)]) [0] rfl
  have hFc := va_free (wc := (pic1 cI h1 a1 u th)) hD hS hA [8, 9, 10, 11, 12, 13, 14] rfl
  refine va_calli (va_runV (As := []) (rest := [.int (fEnd u)]) ⟨hx, hb, hml, hown, hts⟩ (c_X1_spiltAtEnd l D cI h1 a1 u th H.size  hI) (cwV 0 hts gL_law_X1_spiltAtEnd rfl rfl rfl (by decide +kernel) ⟨Nat.le_of_ble_eq_true rfl, Nat.le_of_ble_eq_true rfl⟩) ⟨wr_blind, va_recv (ci := 1) (q0 := 0) hKc hPc rfl rfl, fun U hU hW => ⟨rfl, by rw [hU], by rw [hU]; exact hPc, va_K.moved hW.alike hKc, hDc.weaken (fun _ _ _ _ => trivial)⟩⟩ rfl rfl hl.1 rfl (lv_room (Nat.le_of_ble_eq_true rfl)) dL_law_1444 ⟨show C + 0 ≤ 601024 by omega, show Sl + 0 ≤ 7293034 by omega⟩) hS (fun q _ h => hFc q h) hFc (fun r w t H1 locs ht hvm hw hB hz1 hk1 hS => ?_)
  obtain ⟨rfl, rfl⟩ := hw
  obtain ⟨hP1, hK1, hD1⟩ := hB
  rw [ht] at hP1
  obtain ⟨hP, hD⟩ := va_join (wr := (picL cI cJ h0 a0 o u on f)) (w1 := (pic1 cI h1 a1 u (nI 0))) hP hD [8, 9, 10, 11, 12, 13, 14] [0, 1, 2, 3, 4, 5, 6, 7, 15] rfl rfl (by decide) (by decide) hk1 hFc hP1 hD1
  generalize H1 = H at hP hS ⊢
  have hP : va_P D vwCl (picW cI cJ h0 a0 h1 a1 o u on u (nI 0) f) H := hP.sub [0, 1, 2, 3, 4, 5, 6, 7, 9, 10, 11, 12, 13, 14, 15, 8] rfl
  have hD : va_D (fun q : Nat => s.heap.size ≤ q) (picW cI cJ h0 a0 h1 a1 o u on u (nI 0) f) := hD.sub [0, 1, 2, 3, 4, 5, 6, 7, 9, 10, 11, 12, 13, 14, 15, 8] (by decide) rfl
  refine lv_icmp_eq (tgt := 1546) hx hb dL_law_1447 (by decide) (fun c_1447 => ?_) (fun c_1447 => ?_)
  · skip
    refine W.widen (k := C + 1) (n := Sl + 13) (by omega) (by omega) ?_
    exact kk u on (nI 0) f H _ _ ⟨hI, hO, hP, hD, hS⟩ (lv_sub hl [0, 1, 2, 3, 4] rfl)
  · skip
    exact (c_1447 rfl).elim
set_option maxHeartbeats 8000000 in
set_option maxRecDepth 100000 in
theorem lc_31 {p : Program} {l : Launch} {e : Env} {s : State} {m : MethodId} {below : List Frame} {meth : Method} {c : Code} {D : va_G} {cI cJ : ClassId} {b L h0 h1 o : Nat} {a0 a1 : Nat → Nat} {xs : Nat → Int32} (htr : l.stackTraces = false) (hL : L ≤ 2048) (C0 : lw_At p s m meth c b L xs) (hK : va_K D vwCl [(cI, .int), (cJ, .long)] s) (hE : tE (fun q : Nat => s.heap.size ≤ q) s) {i C Sl : Nat} (hi : i + 3 < L) (hC : C + 2 ≤ 601024) (hC2 : Sl + 20 ≤ 7293034) (kk : lwK p l e s m below meth c D cI cJ b h0 h1 o a0 a1 i (C + 1) (Sl + 13)) (u : MS) (on : Nat → Int32) (th : Int32) (f : Nat → Int64) (H : Heap) (locs : List Loc) (ls : Array Slot) (hw : lwI D cI cJ h0 h1 o a0 a1 s u on th f H locs) (hl : lv_has ls 9 [(0, .ref b), (1, .ref h0), (2, .ref h1), (3, .ref o), (4, .int (nI i))]) : W p l e room_1 s m #[Value.ref b] below meth c H locs C Sl (lw_Z below #[Value.ref b] s) (F0 m 1452 ls []) := by
  obtain ⟨hx, hb, hr, hml, hown, hts0, hX, hbl, hlocks, hgv⟩ := id C0
  have hown : s.vm.findClass RL = some m.cls := hown
  have hts : ∀ w ∈ wsL_law, w.before #[Value.ref b] s = true := fun w h => hts0 w (wsL_law_in w h)
  have hA : ∀ q : Nat, s.heap.size ≤ q → (fun q : Nat => s.heap.size ≤ q) q := fun _ h => h
  have hbA : ¬ (fun q : Nat => s.heap.size ≤ q) b := Nat.not_le.mpr hbl
  obtain ⟨hI, hO, hP, hD, hS⟩ := hw
  refine lv_aload_n hx hb dL_law_1452 rfl (lv_at hl 1 rfl) ?_
  refine vp_callSi (W.runV (As := []) (rest := []) ⟨hx, hb, hml, hown, hts⟩ (c_X0_minuteOfSpill l D cI h0 a0 u on hI hO) (cwV 0 hts gL_law_X0_minuteOfSpill rfl rfl rfl (by decide +kernel) ⟨Nat.le_of_ble_eq_true rfl, Nat.le_of_ble_eq_true rfl⟩) (pu_pre (hK.sub (tys' := [(cI, .int)]) [0] rfl) (hP.sub (ws' := (pic0 cI h0 a0 u on)) [0, 1, 2, 3, 4, 5, 6, 7] rfl) rfl rfl) rfl rfl hl.1 rfl (lv_room (Nat.le_of_ble_eq_true rfl)) dL_law_1453 ⟨show C + 0 ≤ 601024 by omega, show Sl + 0 ≤ 7293034 by omega⟩) (fun r hr9 => ?_)
  subst hr9
  refine lv_aload_n hx hb dL_law_1456 rfl (lv_at hl 2 rfl) ?_
  have hPc := hP.sub (ws' := (pic1 cI h1 a1 u th)) [8, 9, 10, 11, 12, 13, 14] rfl
  have hDc := hD.sub (ws' := (pic1 cI h1 a1 u th)) [8, 9, 10, 11, 12, 13, 14] (by decide) rfl
  have hKc := hK.sub (tys' := [(cI, .int)]) [0] rfl
  have hFc := va_free (wc := (pic1 cI h1 a1 u th)) hD hS hA [8, 9, 10, 11, 12, 13, 14] rfl
  refine va_calli (va_runV (As := []) (rest := [.int (fSp u (mRate u))]) ⟨hx, hb, hml, hown, hts⟩ (c_X1_minuteOfSpill l D cI h1 a1 u th H.size  hI) (cwV 0 hts gL_law_X1_minuteOfSpill rfl rfl rfl (by decide +kernel) ⟨Nat.le_of_ble_eq_true rfl, Nat.le_of_ble_eq_true rfl⟩) ⟨wr_blind, va_recv (ci := 1) (q0 := 0) hKc hPc rfl rfl, fun U hU hW => ⟨rfl, by rw [hU], by rw [hU]; exact hPc, va_K.moved hW.alike hKc, hDc.weaken (fun _ _ _ _ => trivial)⟩⟩ rfl rfl hl.1 rfl (lv_room (Nat.le_of_ble_eq_true rfl)) dL_law_1457 ⟨show C + 0 ≤ 601024 by omega, show Sl + 0 ≤ 7293034 by omega⟩) hS (fun q _ h => hFc q h) hFc (fun r w t H1 locs ht hvm hw hB hz1 hk1 hS => ?_)
  obtain ⟨rfl, rfl⟩ := hw
  obtain ⟨hP1, hK1, hD1⟩ := hB
  rw [ht] at hP1
  obtain ⟨hP, hD⟩ := va_join (wr := (picL cI cJ h0 a0 o u on f)) (w1 := (pic1 cI h1 a1 u (nI 0))) hP hD [8, 9, 10, 11, 12, 13, 14] [0, 1, 2, 3, 4, 5, 6, 7, 15] rfl rfl (by decide) (by decide) hk1 hFc hP1 hD1
  generalize H1 = H at hP hS ⊢
  have hP : va_P D vwCl (picW cI cJ h0 a0 h1 a1 o u on u (nI 0) f) H := hP.sub [0, 1, 2, 3, 4, 5, 6, 7, 9, 10, 11, 12, 13, 14, 15, 8] rfl
  have hD : va_D (fun q : Nat => s.heap.size ≤ q) (picW cI cJ h0 a0 h1 a1 o u on u (nI 0) f) := hD.sub [0, 1, 2, 3, 4, 5, 6, 7, 9, 10, 11, 12, 13, 14, 15, 8] (by decide) rfl
  refine lv_icmp_eq (tgt := 1546) hx hb dL_law_1460 (by decide) (fun c_1460 => ?_) (fun c_1460 => ?_)
  · skip
    refine W.widen (k := C + 1) (n := Sl + 13) (by omega) (by omega) ?_
    exact kk u on (nI 0) f H _ _ ⟨hI, hO, hP, hD, hS⟩ (lv_sub hl [0, 1, 2, 3, 4] rfl)
  · skip
    exact (c_1460 rfl).elim
set_option maxHeartbeats 8000000 in
set_option maxRecDepth 100000 in
theorem lc_32 {p : Program} {l : Launch} {e : Env} {s : State} {m : MethodId} {below : List Frame} {meth : Method} {c : Code} {D : va_G} {cI cJ : ClassId} {b L h0 h1 o : Nat} {a0 a1 : Nat → Nat} {xs : Nat → Int32} (htr : l.stackTraces = false) (hL : L ≤ 2048) (C0 : lw_At p s m meth c b L xs) (hK : va_K D vwCl [(cI, .int), (cJ, .long)] s) (hE : tE (fun q : Nat => s.heap.size ≤ q) s) {i C Sl : Nat} (hi : i + 3 < L) (hC : C + 2 ≤ 601024) (hC2 : Sl + 20 ≤ 7293034) (kk : lwK p l e s m below meth c D cI cJ b h0 h1 o a0 a1 i (C + 1) (Sl + 13)) (u : MS) (on : Nat → Int32) (th : Int32) (f : Nat → Int64) (H : Heap) (locs : List Loc) (ls : Array Slot) (hw : lwI D cI cJ h0 h1 o a0 a1 s u on th f H locs) (hl : lv_has ls 9 [(0, .ref b), (1, .ref h0), (2, .ref h1), (3, .ref o), (4, .int (nI i))]) : W p l e room_1 s m #[Value.ref b] below meth c H locs C Sl (lw_Z below #[Value.ref b] s) (F0 m 1465 ls []) := by
  obtain ⟨hx, hb, hr, hml, hown, hts0, hX, hbl, hlocks, hgv⟩ := id C0
  have hown : s.vm.findClass RL = some m.cls := hown
  have hts : ∀ w ∈ wsL_law, w.before #[Value.ref b] s = true := fun w h => hts0 w (wsL_law_in w h)
  have hA : ∀ q : Nat, s.heap.size ≤ q → (fun q : Nat => s.heap.size ≤ q) q := fun _ h => h
  have hbA : ¬ (fun q : Nat => s.heap.size ≤ q) b := Nat.not_le.mpr hbl
  obtain ⟨hI, hO, hP, hD, hS⟩ := hw
  refine lv_aload_n hx hb dL_law_1465 rfl (lv_at hl 1 rfl) ?_
  refine vp_callSi (W.runV (As := []) (rest := []) ⟨hx, hb, hml, hown, hts⟩ (c_X0_safeRate l D cI h0 a0 u on hI hO) (cwV 0 hts gL_law_X0_safeRate rfl rfl rfl (by decide +kernel) ⟨Nat.le_of_ble_eq_true rfl, Nat.le_of_ble_eq_true rfl⟩) (pu_pre (hK.sub (tys' := [(cI, .int)]) [0] rfl) (hP.sub (ws' := (pic0 cI h0 a0 u on)) [0, 1, 2, 3, 4, 5, 6, 7] rfl) rfl rfl) rfl rfl hl.1 rfl (lv_room (Nat.le_of_ble_eq_true rfl)) dL_law_1466 ⟨show C + 0 ≤ 601024 by omega, show Sl + 0 ≤ 7293034 by omega⟩) (fun r hr9 => ?_)
  subst hr9
  refine lv_aload_n hx hb dL_law_1469 rfl (lv_at hl 2 rfl) ?_
  have hPc := hP.sub (ws' := (pic1 cI h1 a1 u th)) [8, 9, 10, 11, 12, 13, 14] rfl
  have hDc := hD.sub (ws' := (pic1 cI h1 a1 u th)) [8, 9, 10, 11, 12, 13, 14] (by decide) rfl
  have hKc := hK.sub (tys' := [(cI, .int)]) [0] rfl
  have hFc := va_free (wc := (pic1 cI h1 a1 u th)) hD hS hA [8, 9, 10, 11, 12, 13, 14] rfl
  refine va_calli (va_runV (As := []) (rest := [.int (nI (sfF u 9))]) ⟨hx, hb, hml, hown, hts⟩ (c_X1_safeRate l D cI h1 a1 u th H.size  hI) (cwV 0 hts gL_law_X1_safeRate rfl rfl rfl (by decide +kernel) ⟨Nat.le_of_ble_eq_true rfl, Nat.le_of_ble_eq_true rfl⟩) ⟨wr_blind, va_recv (ci := 1) (q0 := 0) hKc hPc rfl rfl, fun U hU hW => ⟨rfl, by rw [hU], by rw [hU]; exact hPc, va_K.moved hW.alike hKc, hDc.weaken (fun _ _ _ _ => trivial)⟩⟩ rfl rfl hl.1 rfl (lv_room (Nat.le_of_ble_eq_true rfl)) dL_law_1470 ⟨show C + 0 ≤ 601024 by omega, show Sl + 0 ≤ 7293034 by omega⟩) hS (fun q _ h => hFc q h) hFc (fun r w t H1 locs ht hvm hw hB hz1 hk1 hS => ?_)
  obtain ⟨rfl, rfl⟩ := hw
  obtain ⟨hP1, hK1, hD1⟩ := hB
  rw [ht] at hP1
  obtain ⟨hP, hD⟩ := va_join (wr := (picL cI cJ h0 a0 o u on f)) (w1 := (pic1 cI h1 a1 u (nI 0))) hP hD [8, 9, 10, 11, 12, 13, 14] [0, 1, 2, 3, 4, 5, 6, 7, 15] rfl rfl (by decide) (by decide) hk1 hFc hP1 hD1
  generalize H1 = H at hP hS ⊢
  have hP : va_P D vwCl (picW cI cJ h0 a0 h1 a1 o u on u (nI 0) f) H := hP.sub [0, 1, 2, 3, 4, 5, 6, 7, 9, 10, 11, 12, 13, 14, 15, 8] rfl
  have hD : va_D (fun q : Nat => s.heap.size ≤ q) (picW cI cJ h0 a0 h1 a1 o u on u (nI 0) f) := hD.sub [0, 1, 2, 3, 4, 5, 6, 7, 9, 10, 11, 12, 13, 14, 15, 8] (by decide) rfl
  refine lv_icmp_eq (tgt := 1546) hx hb dL_law_1473 (by decide) (fun c_1473 => ?_) (fun c_1473 => ?_)
  · skip
    refine W.widen (k := C + 1) (n := Sl + 13) (by omega) (by omega) ?_
    exact kk u on (nI 0) f H _ _ ⟨hI, hO, hP, hD, hS⟩ (lv_sub hl [0, 1, 2, 3, 4] rfl)
  · skip
    exact (c_1473 rfl).elim
set_option maxHeartbeats 8000000 in
set_option maxRecDepth 100000 in
theorem lc_33 {p : Program} {l : Launch} {e : Env} {s : State} {m : MethodId} {below : List Frame} {meth : Method} {c : Code} {D : va_G} {cI cJ : ClassId} {b L h0 h1 o : Nat} {a0 a1 : Nat → Nat} {xs : Nat → Int32} (htr : l.stackTraces = false) (hL : L ≤ 2048) (C0 : lw_At p s m meth c b L xs) (hK : va_K D vwCl [(cI, .int), (cJ, .long)] s) (hE : tE (fun q : Nat => s.heap.size ≤ q) s) {i C Sl : Nat} (hi : i + 3 < L) (hC : C + 2 ≤ 601024) (hC2 : Sl + 20 ≤ 7293034) (kk : lwK p l e s m below meth c D cI cJ b h0 h1 o a0 a1 i (C + 1) (Sl + 13)) (u : MS) (on : Nat → Int32) (th : Int32) (f : Nat → Int64) (H : Heap) (locs : List Loc) (ls : Array Slot) (hw : lwI D cI cJ h0 h1 o a0 a1 s u on th f H locs) (hl : lv_has ls 9 [(0, .ref b), (1, .ref h0), (2, .ref h1), (3, .ref o), (4, .int (nI i))]) : W p l e room_1 s m #[Value.ref b] below meth c H locs C Sl (lw_Z below #[Value.ref b] s) (F0 m 1478 ls []) := by
  obtain ⟨hx, hb, hr, hml, hown, hts0, hX, hbl, hlocks, hgv⟩ := id C0
  have hown : s.vm.findClass RL = some m.cls := hown
  have hts : ∀ w ∈ wsL_law, w.before #[Value.ref b] s = true := fun w h => hts0 w (wsL_law_in w h)
  have hA : ∀ q : Nat, s.heap.size ≤ q → (fun q : Nat => s.heap.size ≤ q) q := fun _ h => h
  have hbA : ¬ (fun q : Nat => s.heap.size ≤ q) b := Nat.not_le.mpr hbl
  obtain ⟨hI, hO, hP, hD, hS⟩ := hw
  refine lv_aload_n hx hb dL_law_1478 rfl (lv_at hl 1 rfl) ?_
  refine vp_callSi (W.runV (As := []) (rest := []) ⟨hx, hb, hml, hown, hts⟩ (c_X0_bestToGiveUp l D cI h0 a0 u on hI) (cwV 0 hts gL_law_X0_bestToGiveUp rfl rfl rfl (by decide +kernel) ⟨Nat.le_of_ble_eq_true rfl, Nat.le_of_ble_eq_true rfl⟩) (pu_pre (hK.sub (tys' := [(cI, .int)]) [0] rfl) (hP.sub (ws' := (pic0 cI h0 a0 u on)) [0, 1, 2, 3, 4, 5, 6, 7] rfl) rfl rfl) rfl rfl hl.1 rfl (lv_room (Nat.le_of_ble_eq_true rfl)) dL_law_1479 ⟨show C + 0 ≤ 601024 by omega, show Sl + 0 ≤ 7293034 by omega⟩) (fun r hr9 => ?_)
  subst hr9
  refine lv_aload_n hx hb dL_law_1482 rfl (lv_at hl 2 rfl) ?_
  have hPc := hP.sub (ws' := (pic1 cI h1 a1 u th)) [8, 9, 10, 11, 12, 13, 14] rfl
  have hDc := hD.sub (ws' := (pic1 cI h1 a1 u th)) [8, 9, 10, 11, 12, 13, 14] (by decide) rfl
  have hKc := hK.sub (tys' := [(cI, .int)]) [0] rfl
  have hFc := va_free (wc := (pic1 cI h1 a1 u th)) hD hS hA [8, 9, 10, 11, 12, 13, 14] rfl
  refine va_calli (va_runV (As := []) (rest := [.int (fBG u)]) ⟨hx, hb, hml, hown, hts⟩ (c_X1_bestToGiveUp l D cI h1 a1 u th H.size  hI) (cwV 0 hts gL_law_X1_bestToGiveUp rfl rfl rfl (by decide +kernel) ⟨Nat.le_of_ble_eq_true rfl, Nat.le_of_ble_eq_true rfl⟩) ⟨wr_blind, va_recv (ci := 1) (q0 := 0) hKc hPc rfl rfl, fun U hU hW => ⟨rfl, by rw [hU], by rw [hU]; exact hPc, va_K.moved hW.alike hKc, hDc.weaken (fun _ _ _ _ => trivial)⟩⟩ rfl rfl hl.1 rfl (lv_room (Nat.le_of_ble_eq_true rfl)) dL_law_1483 ⟨show C + 0 ≤ 601024 by omega, show Sl + 0 ≤ 7293034 by omega⟩) hS (fun q _ h => hFc q h) hFc (fun r w t H1 locs ht hvm hw hB hz1 hk1 hS => ?_)
  obtain ⟨rfl, rfl⟩ := hw
  obtain ⟨hP1, hK1, hD1⟩ := hB
  rw [ht] at hP1
  obtain ⟨hP, hD⟩ := va_join (wr := (picL cI cJ h0 a0 o u on f)) (w1 := (pic1 cI h1 a1 u (nI 0))) hP hD [8, 9, 10, 11, 12, 13, 14] [0, 1, 2, 3, 4, 5, 6, 7, 15] rfl rfl (by decide) (by decide) hk1 hFc hP1 hD1
  generalize H1 = H at hP hS ⊢
  have hP : va_P D vwCl (picW cI cJ h0 a0 h1 a1 o u on u (nI 0) f) H := hP.sub [0, 1, 2, 3, 4, 5, 6, 7, 9, 10, 11, 12, 13, 14, 15, 8] rfl
  have hD : va_D (fun q : Nat => s.heap.size ≤ q) (picW cI cJ h0 a0 h1 a1 o u on u (nI 0) f) := hD.sub [0, 1, 2, 3, 4, 5, 6, 7, 9, 10, 11, 12, 13, 14, 15, 8] (by decide) rfl
  refine lv_icmp_eq (tgt := 1546) hx hb dL_law_1486 (by decide) (fun c_1486 => ?_) (fun c_1486 => ?_)
  · skip
    refine W.widen (k := C + 1) (n := Sl + 13) (by omega) (by omega) ?_
    exact kk u on (nI 0) f H _ _ ⟨hI, hO, hP, hD, hS⟩ (lv_sub hl [0, 1, 2, 3, 4] rfl)
  · skip
    exact (c_1486 rfl).elim
set_option maxHeartbeats 8000000 in
set_option maxRecDepth 100000 in
theorem lc_34 {p : Program} {l : Launch} {e : Env} {s : State} {m : MethodId} {below : List Frame} {meth : Method} {c : Code} {D : va_G} {cI cJ : ClassId} {b L h0 h1 o : Nat} {a0 a1 : Nat → Nat} {xs : Nat → Int32} (htr : l.stackTraces = false) (hL : L ≤ 2048) (C0 : lw_At p s m meth c b L xs) (hK : va_K D vwCl [(cI, .int), (cJ, .long)] s) (hE : tE (fun q : Nat => s.heap.size ≤ q) s) {i C Sl : Nat} (hi : i + 3 < L) (hC : C + 2 ≤ 601024) (hC2 : Sl + 20 ≤ 7293034) (kk : lwK p l e s m below meth c D cI cJ b h0 h1 o a0 a1 i (C + 1) (Sl + 13)) (u : MS) (on : Nat → Int32) (th : Int32) (f : Nat → Int64) (H : Heap) (locs : List Loc) (ls : Array Slot) (hw : lwI D cI cJ h0 h1 o a0 a1 s u on th f H locs) (hl : lv_has ls 9 [(0, .ref b), (1, .ref h0), (2, .ref h1), (3, .ref o), (4, .int (nI i))]) : W p l e room_1 s m #[Value.ref b] below meth c H locs C Sl (lw_Z below #[Value.ref b] s) (F0 m 1491 ls []) := by
  obtain ⟨hx, hb, hr, hml, hown, hts0, hX, hbl, hlocks, hgv⟩ := id C0
  have hown : s.vm.findClass RL = some m.cls := hown
  have hts : ∀ w ∈ wsL_law, w.before #[Value.ref b] s = true := fun w h => hts0 w (wsL_law_in w h)
  have hA : ∀ q : Nat, s.heap.size ≤ q → (fun q : Nat => s.heap.size ≤ q) q := fun _ h => h
  have hbA : ¬ (fun q : Nat => s.heap.size ≤ q) b := Nat.not_le.mpr hbl
  obtain ⟨hI, hO, hP, hD, hS⟩ := hw
  refine lv_aload_n hx hb dL_law_1491 rfl (lv_at hl 1 rfl) ?_
  refine vp_callSd (W.runV (As := []) (rest := []) ⟨hx, hb, hml, hown, hts⟩ (c_X0_meanLastShadow l D cI h0 a0 u on hI) (cwV 0 hts gL_law_X0_meanLastShadow rfl rfl rfl (by decide +kernel) ⟨Nat.le_of_ble_eq_true rfl, Nat.le_of_ble_eq_true rfl⟩) (pu_pre (hK.sub (tys' := [(cI, .int)]) [0] rfl) (hP.sub (ws' := (pic0 cI h0 a0 u on)) [0, 1, 2, 3, 4, 5, 6, 7] rfl) rfl rfl) rfl rfl hl.1 rfl (lv_room (Nat.le_of_ble_eq_true rfl)) dL_law_1492 ⟨show C + 0 ≤ 601024 by omega, show Sl + 0 ≤ 7293034 by omega⟩) (fun r hr9 => ?_)
  subst hr9
  refine lv_dstore (lv' := [(5, .double (fMean u)), (0, .ref b), (1, .ref h0), (2, .ref h1), (3, .ref o), (4, .int (nI i))]) hx hb dL_law_1495 hl (by decide) rfl (fun ls hl => ?_)
  refine lv_aload_n hx hb dL_law_1497 rfl (lv_at hl 3 rfl) ?_
  have hPc := hP.sub (ws' := (pic1 cI h1 a1 u th)) [8, 9, 10, 11, 12, 13, 14] rfl
  have hDc := hD.sub (ws' := (pic1 cI h1 a1 u th)) [8, 9, 10, 11, 12, 13, 14] (by decide) rfl
  have hKc := hK.sub (tys' := [(cI, .int)]) [0] rfl
  have hFc := va_free (wc := (pic1 cI h1 a1 u th)) hD hS hA [8, 9, 10, 11, 12, 13, 14] rfl
  refine va_calld (va_runV (As := []) (rest := []) ⟨hx, hb, hml, hown, hts⟩ (c_X1_meanLastShadow l D cI h1 a1 u th H.size  hI) (cwV 0 hts gL_law_X1_meanLastShadow rfl rfl rfl (by decide +kernel) ⟨Nat.le_of_ble_eq_true rfl, Nat.le_of_ble_eq_true rfl⟩) ⟨wr_blind, va_recv (ci := 1) (q0 := 0) hKc hPc rfl rfl, fun U hU hW => ⟨rfl, by rw [hU], by rw [hU]; exact hPc, va_K.moved hW.alike hKc, hDc.weaken (fun _ _ _ _ => trivial)⟩⟩ rfl rfl hl.1 rfl (lv_room (Nat.le_of_ble_eq_true rfl)) dL_law_1498 ⟨show C + 0 ≤ 601024 by omega, show Sl + 0 ≤ 7293034 by omega⟩) hS (fun q _ h => hFc q h) hFc (fun r w t H1 locs ht hvm hw hB hz1 hk1 hS => ?_)
  obtain ⟨rfl, rfl⟩ := hw
  obtain ⟨hP1, hK1, hD1⟩ := hB
  rw [ht] at hP1
  obtain ⟨hP, hD⟩ := va_join (wr := (picL cI cJ h0 a0 o u on f)) (w1 := (pic1 cI h1 a1 u (nI 0))) hP hD [8, 9, 10, 11, 12, 13, 14] [0, 1, 2, 3, 4, 5, 6, 7, 15] rfl rfl (by decide) (by decide) hk1 hFc hP1 hD1
  generalize H1 = H at hP hS ⊢
  have hP : va_P D vwCl (picW cI cJ h0 a0 h1 a1 o u on u (nI 0) f) H := hP.sub [0, 1, 2, 3, 4, 5, 6, 7, 9, 10, 11, 12, 13, 14, 15, 8] rfl
  have hD : va_D (fun q : Nat => s.heap.size ≤ q) (picW cI cJ h0 a0 h1 a1 o u on u (nI 0) f) := hD.sub [0, 1, 2, 3, 4, 5, 6, 7, 9, 10, 11, 12, 13, 14, 15, 8] (by decide) rfl
  refine lv_dstore (lv' := [(7, .double (fMean u)), (5, .double (fMean u)), (0, .ref b), (1, .ref h0), (2, .ref h1), (3, .ref o), (4, .int (nI i))]) hx hb dL_law_1501 hl (by decide) rfl (fun ls hl => ?_)
  refine lv_dload hx hb dL_law_1503 (lv_at hl 1 rfl) ?_
  refine lv_dload hx hb dL_law_1505 (lv_at hl 0 rfl) ?_
  refine lv_dcmp hx hb dL_law_1507 ?_
  refine lv_if_eq (tgt := 1529) hx hb dL_law_1508 (by decide) (fun c_1508 => ?_) (fun c_1508 => ?_)
  · skip
    refine lv_goto (tgt := 1546) hx hb dL_law_1529 (by decide) ?_
    refine W.widen (k := C + 1) (n := Sl + 13) (by omega) (by omega) ?_
    exact kk u on (nI 0) f H _ _ ⟨hI, hO, hP, hD, hS⟩ (lv_sub hl [2, 3, 4, 5, 6] rfl)
  · skip
    exact (c_1508 (by rw [mean_cmp hI]; decide +kernel)).elim
set_option maxHeartbeats 8000000 in
set_option maxRecDepth 100000 in
theorem lc_35 {p : Program} {l : Launch} {e : Env} {s : State} {m : MethodId} {below : List Frame} {meth : Method} {c : Code} {D : va_G} {cI cJ : ClassId} {b L h0 h1 o : Nat} {a0 a1 : Nat → Nat} {xs : Nat → Int32} (htr : l.stackTraces = false) (hL : L ≤ 2048) (C0 : lw_At p s m meth c b L xs) (hK : va_K D vwCl [(cI, .int), (cJ, .long)] s) (hE : tE (fun q : Nat => s.heap.size ≤ q) s) {i C Sl : Nat} (hi : i + 3 < L) (hC : C + 2 ≤ 601024) (hC2 : Sl + 20 ≤ 7293034) (kk : lwK p l e s m below meth c D cI cJ b h0 h1 o a0 a1 i (C + 1) (Sl + 13)) (u : MS) (on : Nat → Int32) (th : Int32) (f : Nat → Int64) (H : Heap) (locs : List Loc) (ls : Array Slot) (hw : lwI D cI cJ h0 h1 o a0 a1 s u on th f H locs) (hl : lv_has ls 9 [(0, .ref b), (1, .ref h0), (2, .ref h1), (3, .ref o), (4, .int (nI i))]) : W p l e room_1 s m #[Value.ref b] below meth c H locs C Sl (lw_Z below #[Value.ref b] s) (F0 m 1532 ls []) := by
  obtain ⟨hx, hb, hr, hml, hown, hts0, hX, hbl, hlocks, hgv⟩ := id C0
  have hown : s.vm.findClass RL = some m.cls := hown
  have hts : ∀ w ∈ wsL_law, w.before #[Value.ref b] s = true := fun w h => hts0 w (wsL_law_in w h)
  have hA : ∀ q : Nat, s.heap.size ≤ q → (fun q : Nat => s.heap.size ≤ q) q := fun _ h => h
  have hbA : ¬ (fun q : Nat => s.heap.size ≤ q) b := Nat.not_le.mpr hbl
  obtain ⟨hI, hO, hP, hD, hS⟩ := hw
  refine lv_aload_n hx hb dL_law_1532 rfl (lv_at hl 1 rfl) ?_
  refine vp_callSl (W.runV (As := []) (rest := []) ⟨hx, hb, hml, hown, hts⟩ (c_X0_digest l D cI h0 a0 u on hI hO) (cwV 0 hts gL_law_X0_digest rfl rfl rfl (by decide +kernel) ⟨Nat.le_of_ble_eq_true rfl, Nat.le_of_ble_eq_true rfl⟩) (pu_pre (hK.sub (tys' := [(cI, .int)]) [0] rfl) (hP.sub (ws' := (pic0 cI h0 a0 u on)) [0, 1, 2, 3, 4, 5, 6, 7] rfl) rfl rfl) rfl rfl hl.1 rfl (lv_room (Nat.le_of_ble_eq_true rfl)) dL_law_1533 ⟨show C + 0 ≤ 601024 by omega, show Sl + 0 ≤ 7293034 by omega⟩) (fun r hr9 => ?_)
  subst hr9
  refine lv_aload_n hx hb dL_law_1536 rfl (lv_at hl 2 rfl) ?_
  have hPc := hP.sub (ws' := (pic1 cI h1 a1 u th)) [8, 9, 10, 11, 12, 13, 14] rfl
  have hDc := hD.sub (ws' := (pic1 cI h1 a1 u th)) [8, 9, 10, 11, 12, 13, 14] (by decide) rfl
  have hKc := hK.sub (tys' := [(cI, .int)]) [0] rfl
  have hFc := va_free (wc := (pic1 cI h1 a1 u th)) hD hS hA [8, 9, 10, 11, 12, 13, 14] rfl
  refine va_calll (va_runV (As := []) (rest := [.long (fDig u)]) ⟨hx, hb, hml, hown, hts⟩ (c_X1_digest l D cI h1 a1 u th H.size  hI) (cwV 0 hts gL_law_X1_digest rfl rfl rfl (by decide +kernel) ⟨Nat.le_of_ble_eq_true rfl, Nat.le_of_ble_eq_true rfl⟩) ⟨wr_blind, va_recv (ci := 1) (q0 := 0) hKc hPc rfl rfl, fun U hU hW => ⟨rfl, by rw [hU], by rw [hU]; exact hPc, va_K.moved hW.alike hKc, hDc.weaken (fun _ _ _ _ => trivial)⟩⟩ rfl rfl hl.1 rfl (lv_room (Nat.le_of_ble_eq_true rfl)) dL_law_1537 ⟨show C + 1 ≤ 601024 by omega, show Sl + 13 ≤ 7293034 by omega⟩) hS (fun q _ h => hFc q h) hFc (fun r w t H1 locs ht hvm hw hB hz1 hk1 hS => ?_)
  obtain ⟨rfl, rfl⟩ := hw
  obtain ⟨hP1, hK1, hD1⟩ := hB
  rw [ht] at hP1
  obtain ⟨hP, hD⟩ := va_join (wr := (picL cI cJ h0 a0 o u on f)) (w1 := (pic1 cI h1 a1 u (nI 0))) hP hD [8, 9, 10, 11, 12, 13, 14] [0, 1, 2, 3, 4, 5, 6, 7, 15] rfl rfl (by decide) (by decide) hk1 hFc hP1 hD1
  generalize H1 = H at hP hS ⊢
  have hP : va_P D vwCl (picW cI cJ h0 a0 h1 a1 o u on u (nI 0) f) H := hP.sub [0, 1, 2, 3, 4, 5, 6, 7, 9, 10, 11, 12, 13, 14, 15, 8] rfl
  have hD : va_D (fun q : Nat => s.heap.size ≤ q) (picW cI cJ h0 a0 h1 a1 o u on u (nI 0) f) := hD.sub [0, 1, 2, 3, 4, 5, 6, 7, 9, 10, 11, 12, 13, 14, 15, 8] (by decide) rfl
  refine W.lcmp hx hb dL_law_1540 ?_
  refine lv_if_eq (tgt := 1546) hx hb dL_law_1541 (by decide) (fun c_1541 => ?_) (fun c_1541 => ?_)
  · skip
    exact kk u on (nI 0) f H _ _ ⟨hI, hO, hP, hD, hS⟩ (lv_sub hl [0, 1, 2, 3, 4] rfl)
  · skip
    exact (c_1541 lcmp_self).elim
