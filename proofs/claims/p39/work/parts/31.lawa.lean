set_option maxHeartbeats 8000000 in
set_option maxRecDepth 100000 in
theorem lc_0 {p : Program} {l : Launch} {e : Env} {s : State} {m : MethodId} {below : List Frame} {meth : Method} {c : Code} {D : va_G} {cI cJ : ClassId} {b L h0 h1 o : Nat} {a0 a1 : Nat → Nat} {xs : Nat → Int32} (htr : l.stackTraces = false) (hL : L ≤ 2048) (C0 : lw_At p s m meth c b L xs) (hK : va_K D vwCl [(cI, .int), (cJ, .long)] s) (hE : tE (fun q : Nat => s.heap.size ≤ q) s) {i C Sl : Nat} (hi : i + 3 < L) (hC : C + 2 ≤ 601024) (hC2 : Sl + 20 ≤ 7293034) (kk : lwK p l e s m below meth c D cI cJ b h0 h1 o a0 a1 i (C + 1) (Sl + 13)) (u : MS) (on : Nat → Int32) (th : Int32) (f : Nat → Int64) (H : Heap) (locs : List Loc) (ls : Array Slot) (hw : lwI D cI cJ h0 h1 o a0 a1 s u on th f H locs) (hl : lv_has ls 9 [(0, .ref b), (1, .ref h0), (2, .ref h1), (3, .ref o), (4, .int (nI i))]) : W p l e room_1 s m #[Value.ref b] below meth c H locs C Sl (lw_Z below #[Value.ref b] s) (F0 m 196 ls []) := by
  obtain ⟨hx, hb, hr, hml, hown, hts0, hX, hbl, hlocks, hgv⟩ := id C0
  have hown : s.vm.findClass RL = some m.cls := hown
  have hts : ∀ w ∈ wsL_law, w.before #[Value.ref b] s = true := fun w h => hts0 w (wsL_law_in w h)
  have hA : ∀ q : Nat, s.heap.size ≤ q → (fun q : Nat => s.heap.size ≤ q) q := fun _ h => h
  have hbA : ¬ (fun q : Nat => s.heap.size ≤ q) b := Nat.not_le.mpr hbl
  obtain ⟨hI, hO, hP, hD, hS⟩ := hw
  refine lv_aload_n hx hb dL_law_196 rfl (lv_at hl 1 rfl) ?_
  refine lv_aload_n hx hb dL_law_197 rfl (lv_at hl 0 rfl) ?_
  refine lv_iload hx hb dL_law_198 (lv_at hl 4 rfl) ?_
  refine lv_iconst (v := nI 1) hx hb dL_law_200 (by decide +kernel) ?_
  refine q_iaddN hx hb dL_law_201 ?_
  refine q_sld hx hb hX hbl hbA hS (k := i + 1) (by omega) (by omega) dL_law_202 ?_
  refine lv_aload_n hx hb dL_law_203 rfl (lv_at hl 3 rfl) ?_
  have hPc := hP.sub (ws' := (picL cI cJ h0 a0 o u on f)) [0, 1, 2, 3, 4, 5, 6, 7, 15] rfl
  have hDc := hD.sub (ws' := (picL cI cJ h0 a0 o u on f)) [0, 1, 2, 3, 4, 5, 6, 7, 15] (by decide) rfl
  have hFc := va_free (wc := (picL cI cJ h0 a0 o u on f)) hD hS hA [0, 1, 2, 3, 4, 5, 6, 7, 15] rfl
  refine va_calli (vx_runSW (As := [.ref h0, .int (xs (i + 1)), .ref o]) (rest := []) ⟨hx, hb, hml, hown, hts⟩ (c_L_addStick l htr D cI cJ h0 a0 o u on f H.size (xs (i + 1)) hI hO) (vx_cwSW 3 hts gL_law_L_addStick rfl rfl rfl (by decide +kernel) ⟨Nat.le_of_ble_eq_true rfl, Nat.le_of_ble_eq_true rfl⟩) ⟨lh_blind, fun U hU hW => ⟨rfl, by rw [hU], by rw [hU]; exact hPc, va_K.moved hW.alike hK, hDc.weaken (fun _ _ _ _ => trivial), hE.go hS hW hU (fun q h9 => hFc q h9)⟩⟩ rfl rfl hl.1 rfl (lv_room (Nat.le_of_ble_eq_true rfl)) dL_law_204 ⟨show C + 1 ≤ 601024 by omega, show Sl + 6 ≤ 7293034 by omega⟩) hS (fun q _ h => hFc q h) hFc (fun r w t H1 locs ht hvm hw hB hz1 hk1 hS => ?_)
  obtain ⟨u2, on2, f2⟩ := w
  obtain ⟨eu, hO2, er, hv⟩ := hw
  have eu : u2 = nxStick u (xs (i + 1)) := eu
  have er : r = kdStick u (xs (i + 1)) := er
  have hv9 : kdStick u (xs (i + 1)) = nI 0 → f2 0 = Int32.toInt64 (nI (mSc u)) := hv
  have hO2 : InvO u2 on2 := hO2
  subst eu
  subst er
  obtain ⟨hP1, hK1, hD1⟩ := hB
  rw [ht] at hP1
  obtain ⟨hP, hD⟩ := va_join (wr := (pic1 cI h1 a1 u th)) (w1 := (picL cI cJ h0 a0 o (nxStick u (xs (i + 1))) on2 f2)) hP hD [0, 1, 2, 3, 4, 5, 6, 7, 15] [8, 9, 10, 11, 12, 13, 14] rfl rfl (by decide) (by decide) hk1 hFc hP1 hD1
  generalize H1 = H at hP hS ⊢
  have hP : va_P D vwCl (picW cI cJ h0 a0 h1 a1 o (nxStick u (xs (i + 1))) on2 u th f2) H := hP.sub [7, 8, 9, 10, 11, 12, 13, 14, 0, 1, 2, 3, 4, 5, 6, 15] rfl
  have hD : va_D (fun q : Nat => s.heap.size ≤ q) (picW cI cJ h0 a0 h1 a1 o (nxStick u (xs (i + 1))) on2 u th f2) := hD.sub [7, 8, 9, 10, 11, 12, 13, 14, 0, 1, 2, 3, 4, 5, 6, 15] (by decide) rfl
  refine lv_istore (lv' := [(5, .int (kdStick u (xs (i + 1)))), (0, .ref b), (1, .ref h0), (2, .ref h1), (3, .ref o), (4, .int (nI i))]) hx hb dL_law_207 hl (by decide) rfl (fun ls hl => ?_)
  refine lv_aload_n hx hb dL_law_209 rfl (lv_at hl 3 rfl) ?_
  refine lv_aload_n hx hb dL_law_210 rfl (lv_at hl 1 rfl) ?_
  refine lv_iload hx hb dL_law_211 (lv_at hl 5 rfl) ?_
  refine lv_iconst (v := nI 1) hx hb dL_law_213 (by decide +kernel) ?_
  refine q_iaddN hx hb dL_law_214 ?_
  refine q_sld hx hb hX hbl hbA hS (k := i + 1) (by omega) (by omega) dL_law_215 ?_
  have hPc := hP.sub (ws' := (pic1 cI h1 a1 u th)) [8, 9, 10, 11, 12, 13, 14] rfl
  have hDc := hD.sub (ws' := (pic1 cI h1 a1 u th)) [8, 9, 10, 11, 12, 13, 14] (by decide) rfl
  have hKc := hK.sub (tys' := [(cI, .int)]) [0] rfl
  have hFc := va_free (wc := (pic1 cI h1 a1 u th)) hD hS hA [8, 9, 10, 11, 12, 13, 14] rfl
  refine va_calli (va_runV (As := [.int (xs (i + 1))]) (rest := []) ⟨hx, hb, hml, hown, hts⟩ (c_X1_addStick l D cI h1 a1 u th H.size (xs (i + 1)) hI) (cwV 1 hts gL_law_X1_addStick rfl rfl rfl (by decide +kernel) ⟨Nat.le_of_ble_eq_true rfl, Nat.le_of_ble_eq_true rfl⟩) ⟨wr_blind, va_recv (ci := 1) (q0 := 0) hKc hPc rfl rfl, fun U hU hW => ⟨rfl, by rw [hU], by rw [hU]; exact hPc, va_K.moved hW.alike hKc, hDc.weaken (fun _ _ _ _ => trivial)⟩⟩ rfl rfl hl.1 rfl (lv_room (Nat.le_of_ble_eq_true rfl)) dL_law_216 ⟨show C + 1 + 0 ≤ 601024 by omega, show Sl + 6 + 0 ≤ 7293034 by omega⟩) hS (fun q _ h => hFc q h) hFc (fun r w t H1 locs ht hvm hw hB hz1 hk1 hS => ?_)
  obtain ⟨hw1, hv2⟩ := hw
  subst hw1
  have hv2 : kdStick u (xs (i + 1)) = nI 0 → r = nI (mSc u) := hv2
  obtain ⟨r2, hr2⟩ : ∃ z, z = r := ⟨_, rfl⟩
  subst hr2
  have hv2 : kdStick u (xs (i + 1)) = nI 0 → r2 = nI (mSc u) := hv2
  obtain ⟨hP1, hK1, hD1⟩ := hB
  rw [ht] at hP1
  obtain ⟨hP, hD⟩ := va_join (wr := (picL cI cJ h0 a0 o (nxStick u (xs (i + 1))) on2 f2)) (w1 := (pic1 cI h1 a1 (nxStick u (xs (i + 1))) (kdStick u (xs (i + 1))))) hP hD [8, 9, 10, 11, 12, 13, 14] [0, 1, 2, 3, 4, 5, 6, 7, 15] rfl rfl (by decide) (by decide) hk1 hFc hP1 hD1
  generalize H1 = H at hP hS ⊢
  have hP : va_P D vwCl (picW cI cJ h0 a0 h1 a1 o (nxStick u (xs (i + 1))) on2 (nxStick u (xs (i + 1))) (kdStick u (xs (i + 1))) f2) H := hP.sub [0, 1, 2, 3, 4, 5, 6, 7, 9, 10, 11, 12, 13, 14, 15, 8] rfl
  have hD : va_D (fun q : Nat => s.heap.size ≤ q) (picW cI cJ h0 a0 h1 a1 o (nxStick u (xs (i + 1))) on2 (nxStick u (xs (i + 1))) (kdStick u (xs (i + 1))) f2) := hD.sub [0, 1, 2, 3, 4, 5, 6, 7, 9, 10, 11, 12, 13, 14, 15, 8] (by decide) rfl
  refine lv_istore (lv' := [(6, .int r2), (5, .int (kdStick u (xs (i + 1)))), (0, .ref b), (1, .ref h0), (2, .ref h1), (3, .ref o), (4, .int (nI i))]) hx hb dL_law_219 hl (by decide) rfl (fun ls hl => ?_)
  refine lv_aload_n hx hb dL_law_221 rfl (lv_at hl 4 rfl) ?_
  refine vp_callSi (W.runV (As := []) (rest := []) ⟨hx, hb, hml, hown, hts⟩ (c_X1_thrown l D cI h1 a1 (nxStick u (xs (i + 1))) (kdStick u (xs (i + 1))) ) (cwV 0 hts gL_law_X1_thrown rfl rfl rfl (by decide +kernel) ⟨Nat.le_of_ble_eq_true rfl, Nat.le_of_ble_eq_true rfl⟩) (pu_pre (hK.sub (tys' := [(cI, .int)]) [0] rfl) (hP.sub (ws' := (pic1 cI h1 a1 (nxStick u (xs (i + 1))) (kdStick u (xs (i + 1))))) [8, 9, 10, 11, 12, 13, 14] rfl) rfl rfl) rfl rfl hl.1 rfl (lv_room (Nat.le_of_ble_eq_true rfl)) dL_law_222 ⟨show C + 1 + 0 ≤ 601024 by omega, show Sl + 6 + 0 ≤ 7293034 by omega⟩) (fun r hr9 => ?_)
  subst hr9
  refine lv_iload hx hb dL_law_225 (lv_at hl 1 rfl) ?_
  refine lv_icmp_eq (tgt := 232) hx hb dL_law_227 (by decide) (fun c_227 => ?_) (fun c_227 => ?_)
  · skip
    refine lv_iload hx hb dL_law_232 (lv_at hl 1 rfl) ?_
    refine lv_if_ne (tgt := 249) hx hb dL_law_234 (by decide) (fun c_234 => ?_) (fun c_234 => ?_)
    · skip
      refine lv_goto (tgt := 1546) hx hb dL_law_249 (by decide) ?_
      refine W.widen (k := C + 1) (n := Sl + 13) (by omega) (by omega) ?_
      exact kk (nxStick u (xs (i + 1))) on2 (kdStick u (xs (i + 1))) f2 H _ _ ⟨inv_stick hI, hO2, hP, hD, hS⟩ (lv_sub hl [2, 3, 4, 5, 6] rfl)
    · skip
      have ex9 := (hv9 c_234).trans (congrArg Int32.toInt64 (hv2 c_234)).symm
      refine lv_aload_n hx hb dL_law_237 rfl (lv_at hl 5 rfl) ?_
      refine lv_iconst (v := nI 0) hx hb dL_law_238 (by decide +kernel) ?_
      refine q_lald hx hb hK hP 15 1 rfl rfl (by omega) (by decide) dL_law_239 ?_
      refine lv_iload hx hb dL_law_240 (lv_at hl 0 rfl) ?_
      refine lv_i2l (v := Int32.toInt64 r2) hx hb dL_law_242 rfl ?_
      refine W.lcmp hx hb dL_law_243 ?_
      refine lv_if_eq (tgt := 249) hx hb dL_law_244 (by decide) (fun c_244 => ?_) (fun c_244 => ?_)
      · skip
        refine lv_goto (tgt := 1546) hx hb dL_law_249 (by decide) ?_
        refine W.widen (k := C + 1) (n := Sl + 13) (by omega) (by omega) ?_
        exact kk (nxStick u (xs (i + 1))) on2 (kdStick u (xs (i + 1))) f2 H _ _ ⟨inv_stick hI, hO2, hP, hD, hS⟩ (lv_sub hl [2, 3, 4, 5, 6] rfl)
      · skip
        exact (c_244 (by rw [ex9]; exact lcmp_self)).elim
  · skip
    exact (c_227 rfl).elim
set_option maxHeartbeats 8000000 in
set_option maxRecDepth 100000 in
theorem lc_1 {p : Program} {l : Launch} {e : Env} {s : State} {m : MethodId} {below : List Frame} {meth : Method} {c : Code} {D : va_G} {cI cJ : ClassId} {b L h0 h1 o : Nat} {a0 a1 : Nat → Nat} {xs : Nat → Int32} (htr : l.stackTraces = false) (hL : L ≤ 2048) (C0 : lw_At p s m meth c b L xs) (hK : va_K D vwCl [(cI, .int), (cJ, .long)] s) (hE : tE (fun q : Nat => s.heap.size ≤ q) s) {i C Sl : Nat} (hi : i + 3 < L) (hC : C + 2 ≤ 601024) (hC2 : Sl + 20 ≤ 7293034) (kk : lwK p l e s m below meth c D cI cJ b h0 h1 o a0 a1 i (C + 1) (Sl + 13)) (u : MS) (on : Nat → Int32) (th : Int32) (f : Nat → Int64) (H : Heap) (locs : List Loc) (ls : Array Slot) (hw : lwI D cI cJ h0 h1 o a0 a1 s u on th f H locs) (hl : lv_has ls 9 [(0, .ref b), (1, .ref h0), (2, .ref h1), (3, .ref o), (4, .int (nI i))]) : W p l e room_1 s m #[Value.ref b] below meth c H locs C Sl (lw_Z below #[Value.ref b] s) (F0 m 252 ls []) := by
  obtain ⟨hx, hb, hr, hml, hown, hts0, hX, hbl, hlocks, hgv⟩ := id C0
  have hown : s.vm.findClass RL = some m.cls := hown
  have hts : ∀ w ∈ wsL_law, w.before #[Value.ref b] s = true := fun w h => hts0 w (wsL_law_in w h)
  have hA : ∀ q : Nat, s.heap.size ≤ q → (fun q : Nat => s.heap.size ≤ q) q := fun _ h => h
  have hbA : ¬ (fun q : Nat => s.heap.size ≤ q) b := Nat.not_le.mpr hbl
  obtain ⟨hI, hO, hP, hD, hS⟩ := hw
  refine lv_aload_n hx hb dL_law_252 rfl (lv_at hl 1 rfl) ?_
  refine lv_aload_n hx hb dL_law_253 rfl (lv_at hl 0 rfl) ?_
  refine lv_iload hx hb dL_law_254 (lv_at hl 4 rfl) ?_
  refine lv_iconst (v := nI 1) hx hb dL_law_256 (by decide +kernel) ?_
  refine q_iaddN hx hb dL_law_257 ?_
  refine q_sld hx hb hX hbl hbA hS (k := i + 1) (by omega) (by omega) dL_law_258 ?_
  refine lv_aload_n hx hb dL_law_259 rfl (lv_at hl 0 rfl) ?_
  refine lv_iload hx hb dL_law_260 (lv_at hl 4 rfl) ?_
  refine lv_iconst (v := nI 2) hx hb dL_law_262 (by decide +kernel) ?_
  refine q_iaddN hx hb dL_law_263 ?_
  refine q_sld hx hb hX hbl hbA hS (k := i + 2) (by omega) (by omega) dL_law_264 ?_
  refine lv_aload_n hx hb dL_law_265 rfl (lv_at hl 3 rfl) ?_
  have hPc := hP.sub (ws' := (picL cI cJ h0 a0 o u on f)) [0, 1, 2, 3, 4, 5, 6, 7, 15] rfl
  have hDc := hD.sub (ws' := (picL cI cJ h0 a0 o u on f)) [0, 1, 2, 3, 4, 5, 6, 7, 15] (by decide) rfl
  have hFc := va_free (wc := (picL cI cJ h0 a0 o u on f)) hD hS hA [0, 1, 2, 3, 4, 5, 6, 7, 15] rfl
  refine va_calli (vx_runSW (As := [.ref h0, .int (xs (i + 1)), .int (xs (i + 2)), .ref o]) (rest := []) ⟨hx, hb, hml, hown, hts⟩ (c_L_addNap l htr D cI cJ h0 a0 o u on f H.size (xs (i + 1)) (xs (i + 2)) hI hO) (vx_cwSW 4 hts gL_law_L_addNap rfl rfl rfl (by decide +kernel) ⟨Nat.le_of_ble_eq_true rfl, Nat.le_of_ble_eq_true rfl⟩) ⟨lh_blind, fun U hU hW => ⟨rfl, by rw [hU], by rw [hU]; exact hPc, va_K.moved hW.alike hK, hDc.weaken (fun _ _ _ _ => trivial), hE.go hS hW hU (fun q h9 => hFc q h9)⟩⟩ rfl rfl hl.1 rfl (lv_room (Nat.le_of_ble_eq_true rfl)) dL_law_266 ⟨show C + 1 ≤ 601024 by omega, show Sl + 6 ≤ 7293034 by omega⟩) hS (fun q _ h => hFc q h) hFc (fun r w t H1 locs ht hvm hw hB hz1 hk1 hS => ?_)
  obtain ⟨u2, on2, f2⟩ := w
  obtain ⟨eu, hO2, er, hv⟩ := hw
  have eu : u2 = nxNap u (xs (i + 1)) (xs (i + 2)) := eu
  have er : r = kdNap u (xs (i + 1)) (xs (i + 2)) := er
  have hv9 : kdNap u (xs (i + 1)) (xs (i + 2)) = nI 0 → f2 0 = Int32.toInt64 (nI (mNc u)) := hv
  have hO2 : InvO u2 on2 := hO2
  subst eu
  subst er
  obtain ⟨hP1, hK1, hD1⟩ := hB
  rw [ht] at hP1
  obtain ⟨hP, hD⟩ := va_join (wr := (pic1 cI h1 a1 u th)) (w1 := (picL cI cJ h0 a0 o (nxNap u (xs (i + 1)) (xs (i + 2))) on2 f2)) hP hD [0, 1, 2, 3, 4, 5, 6, 7, 15] [8, 9, 10, 11, 12, 13, 14] rfl rfl (by decide) (by decide) hk1 hFc hP1 hD1
  generalize H1 = H at hP hS ⊢
  have hP : va_P D vwCl (picW cI cJ h0 a0 h1 a1 o (nxNap u (xs (i + 1)) (xs (i + 2))) on2 u th f2) H := hP.sub [7, 8, 9, 10, 11, 12, 13, 14, 0, 1, 2, 3, 4, 5, 6, 15] rfl
  have hD : va_D (fun q : Nat => s.heap.size ≤ q) (picW cI cJ h0 a0 h1 a1 o (nxNap u (xs (i + 1)) (xs (i + 2))) on2 u th f2) := hD.sub [7, 8, 9, 10, 11, 12, 13, 14, 0, 1, 2, 3, 4, 5, 6, 15] (by decide) rfl
  refine lv_istore (lv' := [(5, .int (kdNap u (xs (i + 1)) (xs (i + 2)))), (0, .ref b), (1, .ref h0), (2, .ref h1), (3, .ref o), (4, .int (nI i))]) hx hb dL_law_269 hl (by decide) rfl (fun ls hl => ?_)
  refine lv_aload_n hx hb dL_law_271 rfl (lv_at hl 3 rfl) ?_
  refine lv_aload_n hx hb dL_law_272 rfl (lv_at hl 1 rfl) ?_
  refine lv_iload hx hb dL_law_273 (lv_at hl 5 rfl) ?_
  refine lv_iconst (v := nI 1) hx hb dL_law_275 (by decide +kernel) ?_
  refine q_iaddN hx hb dL_law_276 ?_
  refine q_sld hx hb hX hbl hbA hS (k := i + 1) (by omega) (by omega) dL_law_277 ?_
  refine lv_aload_n hx hb dL_law_278 rfl (lv_at hl 1 rfl) ?_
  refine lv_iload hx hb dL_law_279 (lv_at hl 5 rfl) ?_
  refine lv_iconst (v := nI 2) hx hb dL_law_281 (by decide +kernel) ?_
  refine q_iaddN hx hb dL_law_282 ?_
  refine q_sld hx hb hX hbl hbA hS (k := i + 2) (by omega) (by omega) dL_law_283 ?_
  have hPc := hP.sub (ws' := (pic1 cI h1 a1 u th)) [8, 9, 10, 11, 12, 13, 14] rfl
  have hDc := hD.sub (ws' := (pic1 cI h1 a1 u th)) [8, 9, 10, 11, 12, 13, 14] (by decide) rfl
  have hKc := hK.sub (tys' := [(cI, .int)]) [0] rfl
  have hFc := va_free (wc := (pic1 cI h1 a1 u th)) hD hS hA [8, 9, 10, 11, 12, 13, 14] rfl
  refine va_calli (va_runV (As := [.int (xs (i + 1)), .int (xs (i + 2))]) (rest := []) ⟨hx, hb, hml, hown, hts⟩ (c_X1_addNap l D cI h1 a1 u th H.size (xs (i + 1)) (xs (i + 2)) hI) (cwV 2 hts gL_law_X1_addNap rfl rfl rfl (by decide +kernel) ⟨Nat.le_of_ble_eq_true rfl, Nat.le_of_ble_eq_true rfl⟩) ⟨wr_blind, va_recv (ci := 1) (q0 := 0) hKc hPc rfl rfl, fun U hU hW => ⟨rfl, by rw [hU], by rw [hU]; exact hPc, va_K.moved hW.alike hKc, hDc.weaken (fun _ _ _ _ => trivial)⟩⟩ rfl rfl hl.1 rfl (lv_room (Nat.le_of_ble_eq_true rfl)) dL_law_284 ⟨show C + 1 + 0 ≤ 601024 by omega, show Sl + 6 + 0 ≤ 7293034 by omega⟩) hS (fun q _ h => hFc q h) hFc (fun r w t H1 locs ht hvm hw hB hz1 hk1 hS => ?_)
  obtain ⟨hw1, hv2⟩ := hw
  subst hw1
  have hv2 : kdNap u (xs (i + 1)) (xs (i + 2)) = nI 0 → r = nI (mNc u) := hv2
  obtain ⟨r2, hr2⟩ : ∃ z, z = r := ⟨_, rfl⟩
  subst hr2
  have hv2 : kdNap u (xs (i + 1)) (xs (i + 2)) = nI 0 → r2 = nI (mNc u) := hv2
  obtain ⟨hP1, hK1, hD1⟩ := hB
  rw [ht] at hP1
  obtain ⟨hP, hD⟩ := va_join (wr := (picL cI cJ h0 a0 o (nxNap u (xs (i + 1)) (xs (i + 2))) on2 f2)) (w1 := (pic1 cI h1 a1 (nxNap u (xs (i + 1)) (xs (i + 2))) (kdNap u (xs (i + 1)) (xs (i + 2))))) hP hD [8, 9, 10, 11, 12, 13, 14] [0, 1, 2, 3, 4, 5, 6, 7, 15] rfl rfl (by decide) (by decide) hk1 hFc hP1 hD1
  generalize H1 = H at hP hS ⊢
  have hP : va_P D vwCl (picW cI cJ h0 a0 h1 a1 o (nxNap u (xs (i + 1)) (xs (i + 2))) on2 (nxNap u (xs (i + 1)) (xs (i + 2))) (kdNap u (xs (i + 1)) (xs (i + 2))) f2) H := hP.sub [0, 1, 2, 3, 4, 5, 6, 7, 9, 10, 11, 12, 13, 14, 15, 8] rfl
  have hD : va_D (fun q : Nat => s.heap.size ≤ q) (picW cI cJ h0 a0 h1 a1 o (nxNap u (xs (i + 1)) (xs (i + 2))) on2 (nxNap u (xs (i + 1)) (xs (i + 2))) (kdNap u (xs (i + 1)) (xs (i + 2))) f2) := hD.sub [0, 1, 2, 3, 4, 5, 6, 7, 9, 10, 11, 12, 13, 14, 15, 8] (by decide) rfl
  refine lv_istore (lv' := [(6, .int r2), (5, .int (kdNap u (xs (i + 1)) (xs (i + 2)))), (0, .ref b), (1, .ref h0), (2, .ref h1), (3, .ref o), (4, .int (nI i))]) hx hb dL_law_287 hl (by decide) rfl (fun ls hl => ?_)
  refine lv_aload_n hx hb dL_law_289 rfl (lv_at hl 4 rfl) ?_
  refine vp_callSi (W.runV (As := []) (rest := []) ⟨hx, hb, hml, hown, hts⟩ (c_X1_thrown l D cI h1 a1 (nxNap u (xs (i + 1)) (xs (i + 2))) (kdNap u (xs (i + 1)) (xs (i + 2))) ) (cwV 0 hts gL_law_X1_thrown rfl rfl rfl (by decide +kernel) ⟨Nat.le_of_ble_eq_true rfl, Nat.le_of_ble_eq_true rfl⟩) (pu_pre (hK.sub (tys' := [(cI, .int)]) [0] rfl) (hP.sub (ws' := (pic1 cI h1 a1 (nxNap u (xs (i + 1)) (xs (i + 2))) (kdNap u (xs (i + 1)) (xs (i + 2))))) [8, 9, 10, 11, 12, 13, 14] rfl) rfl rfl) rfl rfl hl.1 rfl (lv_room (Nat.le_of_ble_eq_true rfl)) dL_law_290 ⟨show C + 1 + 0 ≤ 601024 by omega, show Sl + 6 + 0 ≤ 7293034 by omega⟩) (fun r hr9 => ?_)
  subst hr9
  refine lv_iload hx hb dL_law_293 (lv_at hl 1 rfl) ?_
  refine lv_icmp_eq (tgt := 300) hx hb dL_law_295 (by decide) (fun c_295 => ?_) (fun c_295 => ?_)
  · skip
    refine lv_iload hx hb dL_law_300 (lv_at hl 1 rfl) ?_
    refine lv_if_ne (tgt := 317) hx hb dL_law_302 (by decide) (fun c_302 => ?_) (fun c_302 => ?_)
    · skip
      refine lv_goto (tgt := 1546) hx hb dL_law_317 (by decide) ?_
      refine W.widen (k := C + 1) (n := Sl + 13) (by omega) (by omega) ?_
      exact kk (nxNap u (xs (i + 1)) (xs (i + 2))) on2 (kdNap u (xs (i + 1)) (xs (i + 2))) f2 H _ _ ⟨inv_nap hI, hO2, hP, hD, hS⟩ (lv_sub hl [2, 3, 4, 5, 6] rfl)
    · skip
      have ex9 := (hv9 c_302).trans (congrArg Int32.toInt64 (hv2 c_302)).symm
      refine lv_aload_n hx hb dL_law_305 rfl (lv_at hl 5 rfl) ?_
      refine lv_iconst (v := nI 0) hx hb dL_law_306 (by decide +kernel) ?_
      refine q_lald hx hb hK hP 15 1 rfl rfl (by omega) (by decide) dL_law_307 ?_
      refine lv_iload hx hb dL_law_308 (lv_at hl 0 rfl) ?_
      refine lv_i2l (v := Int32.toInt64 r2) hx hb dL_law_310 rfl ?_
      refine W.lcmp hx hb dL_law_311 ?_
      refine lv_if_eq (tgt := 317) hx hb dL_law_312 (by decide) (fun c_312 => ?_) (fun c_312 => ?_)
      · skip
        refine lv_goto (tgt := 1546) hx hb dL_law_317 (by decide) ?_
        refine W.widen (k := C + 1) (n := Sl + 13) (by omega) (by omega) ?_
        exact kk (nxNap u (xs (i + 1)) (xs (i + 2))) on2 (kdNap u (xs (i + 1)) (xs (i + 2))) f2 H _ _ ⟨inv_nap hI, hO2, hP, hD, hS⟩ (lv_sub hl [2, 3, 4, 5, 6] rfl)
      · skip
        exact (c_312 (by rw [ex9]; exact lcmp_self)).elim
  · skip
    exact (c_295 rfl).elim
set_option maxHeartbeats 8000000 in
set_option maxRecDepth 100000 in
theorem lc_2 {p : Program} {l : Launch} {e : Env} {s : State} {m : MethodId} {below : List Frame} {meth : Method} {c : Code} {D : va_G} {cI cJ : ClassId} {b L h0 h1 o : Nat} {a0 a1 : Nat → Nat} {xs : Nat → Int32} (htr : l.stackTraces = false) (hL : L ≤ 2048) (C0 : lw_At p s m meth c b L xs) (hK : va_K D vwCl [(cI, .int), (cJ, .long)] s) (hE : tE (fun q : Nat => s.heap.size ≤ q) s) {i C Sl : Nat} (hi : i + 3 < L) (hC : C + 2 ≤ 601024) (hC2 : Sl + 20 ≤ 7293034) (kk : lwK p l e s m below meth c D cI cJ b h0 h1 o a0 a1 i (C + 1) (Sl + 13)) (u : MS) (on : Nat → Int32) (th : Int32) (f : Nat → Int64) (H : Heap) (locs : List Loc) (ls : Array Slot) (hw : lwI D cI cJ h0 h1 o a0 a1 s u on th f H locs) (hl : lv_has ls 9 [(0, .ref b), (1, .ref h0), (2, .ref h1), (3, .ref o), (4, .int (nI i))]) : W p l e room_1 s m #[Value.ref b] below meth c H locs C Sl (lw_Z below #[Value.ref b] s) (F0 m 320 ls []) := by
  obtain ⟨hx, hb, hr, hml, hown, hts0, hX, hbl, hlocks, hgv⟩ := id C0
  have hown : s.vm.findClass RL = some m.cls := hown
  have hts : ∀ w ∈ wsL_law, w.before #[Value.ref b] s = true := fun w h => hts0 w (wsL_law_in w h)
  have hA : ∀ q : Nat, s.heap.size ≤ q → (fun q : Nat => s.heap.size ≤ q) q := fun _ h => h
  have hbA : ¬ (fun q : Nat => s.heap.size ≤ q) b := Nat.not_le.mpr hbl
  obtain ⟨hI, hO, hP, hD, hS⟩ := hw
  refine lv_aload_n hx hb dL_law_320 rfl (lv_at hl 1 rfl) ?_
  refine lv_aload_n hx hb dL_law_321 rfl (lv_at hl 0 rfl) ?_
  refine lv_iload hx hb dL_law_322 (lv_at hl 4 rfl) ?_
  refine lv_iconst (v := nI 1) hx hb dL_law_324 (by decide +kernel) ?_
  refine q_iaddN hx hb dL_law_325 ?_
  refine q_sld hx hb hX hbl hbA hS (k := i + 1) (by omega) (by omega) dL_law_326 ?_
  refine lv_aload_n hx hb dL_law_327 rfl (lv_at hl 3 rfl) ?_
  have hPc := hP.sub (ws' := (picL cI cJ h0 a0 o u on f)) [0, 1, 2, 3, 4, 5, 6, 7, 15] rfl
  have hDc := hD.sub (ws' := (picL cI cJ h0 a0 o u on f)) [0, 1, 2, 3, 4, 5, 6, 7, 15] (by decide) rfl
  have hFc := va_free (wc := (picL cI cJ h0 a0 o u on f)) hD hS hA [0, 1, 2, 3, 4, 5, 6, 7, 15] rfl
  refine va_calli (vx_runSW (As := [.ref h0, .int (xs (i + 1)), .ref o]) (rest := []) ⟨hx, hb, hml, hown, hts⟩ (c_L_giveUp l htr D cI cJ h0 a0 o u on f H.size (xs (i + 1)) hI hO) (vx_cwSW 3 hts gL_law_L_giveUp rfl rfl rfl (by decide +kernel) ⟨Nat.le_of_ble_eq_true rfl, Nat.le_of_ble_eq_true rfl⟩) ⟨lh_blind, fun U hU hW => ⟨rfl, by rw [hU], by rw [hU]; exact hPc, va_K.moved hW.alike hK, hDc.weaken (fun _ _ _ _ => trivial), hE.go hS hW hU (fun q h9 => hFc q h9)⟩⟩ rfl rfl hl.1 rfl (lv_room (Nat.le_of_ble_eq_true rfl)) dL_law_328 ⟨show C + 1 ≤ 601024 by omega, show Sl + 6 ≤ 7293034 by omega⟩) hS (fun q _ h => hFc q h) hFc (fun r w t H1 locs ht hvm hw hB hz1 hk1 hS => ?_)
  obtain ⟨u2, on2, f2⟩ := w
  obtain ⟨eu, hO2, er, hv⟩ := hw
  have eu : u2 = nxGive u (xs (i + 1)) := eu
  have er : r = kdI (xs (i + 1)) (mNc u) := er
  have hv9 : kdI (xs (i + 1)) (mNc u) = nI 0 → f2 0 = Int32.toInt64 (nI (mNc u - 1)) := hv
  have hO2 : InvO u2 on2 := hO2
  subst eu
  subst er
  obtain ⟨hP1, hK1, hD1⟩ := hB
  rw [ht] at hP1
  obtain ⟨hP, hD⟩ := va_join (wr := (pic1 cI h1 a1 u th)) (w1 := (picL cI cJ h0 a0 o (nxGive u (xs (i + 1))) on2 f2)) hP hD [0, 1, 2, 3, 4, 5, 6, 7, 15] [8, 9, 10, 11, 12, 13, 14] rfl rfl (by decide) (by decide) hk1 hFc hP1 hD1
  generalize H1 = H at hP hS ⊢
  have hP : va_P D vwCl (picW cI cJ h0 a0 h1 a1 o (nxGive u (xs (i + 1))) on2 u th f2) H := hP.sub [7, 8, 9, 10, 11, 12, 13, 14, 0, 1, 2, 3, 4, 5, 6, 15] rfl
  have hD : va_D (fun q : Nat => s.heap.size ≤ q) (picW cI cJ h0 a0 h1 a1 o (nxGive u (xs (i + 1))) on2 u th f2) := hD.sub [7, 8, 9, 10, 11, 12, 13, 14, 0, 1, 2, 3, 4, 5, 6, 15] (by decide) rfl
  refine lv_istore (lv' := [(5, .int (kdI (xs (i + 1)) (mNc u))), (0, .ref b), (1, .ref h0), (2, .ref h1), (3, .ref o), (4, .int (nI i))]) hx hb dL_law_331 hl (by decide) rfl (fun ls hl => ?_)
  refine lv_aload_n hx hb dL_law_333 rfl (lv_at hl 3 rfl) ?_
  refine lv_aload_n hx hb dL_law_334 rfl (lv_at hl 1 rfl) ?_
  refine lv_iload hx hb dL_law_335 (lv_at hl 5 rfl) ?_
  refine lv_iconst (v := nI 1) hx hb dL_law_337 (by decide +kernel) ?_
  refine q_iaddN hx hb dL_law_338 ?_
  refine q_sld hx hb hX hbl hbA hS (k := i + 1) (by omega) (by omega) dL_law_339 ?_
  have hPc := hP.sub (ws' := (pic1 cI h1 a1 u th)) [8, 9, 10, 11, 12, 13, 14] rfl
  have hDc := hD.sub (ws' := (pic1 cI h1 a1 u th)) [8, 9, 10, 11, 12, 13, 14] (by decide) rfl
  have hKc := hK.sub (tys' := [(cI, .int)]) [0] rfl
  have hFc := va_free (wc := (pic1 cI h1 a1 u th)) hD hS hA [8, 9, 10, 11, 12, 13, 14] rfl
  refine va_calli (va_runV (As := [.int (xs (i + 1))]) (rest := []) ⟨hx, hb, hml, hown, hts⟩ (c_X1_giveUp l D cI h1 a1 u th H.size (xs (i + 1)) hI) (cwV 1 hts gL_law_X1_giveUp rfl rfl rfl (by decide +kernel) ⟨Nat.le_of_ble_eq_true rfl, Nat.le_of_ble_eq_true rfl⟩) ⟨wr_blind, va_recv (ci := 1) (q0 := 0) hKc hPc rfl rfl, fun U hU hW => ⟨rfl, by rw [hU], by rw [hU]; exact hPc, va_K.moved hW.alike hKc, hDc.weaken (fun _ _ _ _ => trivial)⟩⟩ rfl rfl hl.1 rfl (lv_room (Nat.le_of_ble_eq_true rfl)) dL_law_340 ⟨show C + 1 + 0 ≤ 601024 by omega, show Sl + 6 + 0 ≤ 7293034 by omega⟩) hS (fun q _ h => hFc q h) hFc (fun r w t H1 locs ht hvm hw hB hz1 hk1 hS => ?_)
  obtain ⟨hw1, hv2⟩ := hw
  subst hw1
  have hv2 : kdI (xs (i + 1)) (mNc u) = nI 0 → r = nI (mNc u - 1) := hv2
  obtain ⟨r2, hr2⟩ : ∃ z, z = r := ⟨_, rfl⟩
  subst hr2
  have hv2 : kdI (xs (i + 1)) (mNc u) = nI 0 → r2 = nI (mNc u - 1) := hv2
  obtain ⟨hP1, hK1, hD1⟩ := hB
  rw [ht] at hP1
  obtain ⟨hP, hD⟩ := va_join (wr := (picL cI cJ h0 a0 o (nxGive u (xs (i + 1))) on2 f2)) (w1 := (pic1 cI h1 a1 (nxGive u (xs (i + 1))) (kdI (xs (i + 1)) (mNc u)))) hP hD [8, 9, 10, 11, 12, 13, 14] [0, 1, 2, 3, 4, 5, 6, 7, 15] rfl rfl (by decide) (by decide) hk1 hFc hP1 hD1
  generalize H1 = H at hP hS ⊢
  have hP : va_P D vwCl (picW cI cJ h0 a0 h1 a1 o (nxGive u (xs (i + 1))) on2 (nxGive u (xs (i + 1))) (kdI (xs (i + 1)) (mNc u)) f2) H := hP.sub [0, 1, 2, 3, 4, 5, 6, 7, 9, 10, 11, 12, 13, 14, 15, 8] rfl
  have hD : va_D (fun q : Nat => s.heap.size ≤ q) (picW cI cJ h0 a0 h1 a1 o (nxGive u (xs (i + 1))) on2 (nxGive u (xs (i + 1))) (kdI (xs (i + 1)) (mNc u)) f2) := hD.sub [0, 1, 2, 3, 4, 5, 6, 7, 9, 10, 11, 12, 13, 14, 15, 8] (by decide) rfl
  refine lv_istore (lv' := [(6, .int r2), (5, .int (kdI (xs (i + 1)) (mNc u))), (0, .ref b), (1, .ref h0), (2, .ref h1), (3, .ref o), (4, .int (nI i))]) hx hb dL_law_343 hl (by decide) rfl (fun ls hl => ?_)
  refine lv_aload_n hx hb dL_law_345 rfl (lv_at hl 4 rfl) ?_
  refine vp_callSi (W.runV (As := []) (rest := []) ⟨hx, hb, hml, hown, hts⟩ (c_X1_thrown l D cI h1 a1 (nxGive u (xs (i + 1))) (kdI (xs (i + 1)) (mNc u)) ) (cwV 0 hts gL_law_X1_thrown rfl rfl rfl (by decide +kernel) ⟨Nat.le_of_ble_eq_true rfl, Nat.le_of_ble_eq_true rfl⟩) (pu_pre (hK.sub (tys' := [(cI, .int)]) [0] rfl) (hP.sub (ws' := (pic1 cI h1 a1 (nxGive u (xs (i + 1))) (kdI (xs (i + 1)) (mNc u)))) [8, 9, 10, 11, 12, 13, 14] rfl) rfl rfl) rfl rfl hl.1 rfl (lv_room (Nat.le_of_ble_eq_true rfl)) dL_law_346 ⟨show C + 1 + 0 ≤ 601024 by omega, show Sl + 6 + 0 ≤ 7293034 by omega⟩) (fun r hr9 => ?_)
  subst hr9
  refine lv_iload hx hb dL_law_349 (lv_at hl 1 rfl) ?_
  refine lv_icmp_eq (tgt := 356) hx hb dL_law_351 (by decide) (fun c_351 => ?_) (fun c_351 => ?_)
  · skip
    refine lv_iload hx hb dL_law_356 (lv_at hl 1 rfl) ?_
    refine lv_if_ne (tgt := 373) hx hb dL_law_358 (by decide) (fun c_358 => ?_) (fun c_358 => ?_)
    · skip
      refine lv_goto (tgt := 1546) hx hb dL_law_373 (by decide) ?_
      refine W.widen (k := C + 1) (n := Sl + 13) (by omega) (by omega) ?_
      exact kk (nxGive u (xs (i + 1))) on2 (kdI (xs (i + 1)) (mNc u)) f2 H _ _ ⟨inv_give hI, hO2, hP, hD, hS⟩ (lv_sub hl [2, 3, 4, 5, 6] rfl)
    · skip
      have ex9 := (hv9 c_358).trans (congrArg Int32.toInt64 (hv2 c_358)).symm
      refine lv_aload_n hx hb dL_law_361 rfl (lv_at hl 5 rfl) ?_
      refine lv_iconst (v := nI 0) hx hb dL_law_362 (by decide +kernel) ?_
      refine q_lald hx hb hK hP 15 1 rfl rfl (by omega) (by decide) dL_law_363 ?_
      refine lv_iload hx hb dL_law_364 (lv_at hl 0 rfl) ?_
      refine lv_i2l (v := Int32.toInt64 r2) hx hb dL_law_366 rfl ?_
      refine W.lcmp hx hb dL_law_367 ?_
      refine lv_if_eq (tgt := 373) hx hb dL_law_368 (by decide) (fun c_368 => ?_) (fun c_368 => ?_)
      · skip
        refine lv_goto (tgt := 1546) hx hb dL_law_373 (by decide) ?_
        refine W.widen (k := C + 1) (n := Sl + 13) (by omega) (by omega) ?_
        exact kk (nxGive u (xs (i + 1))) on2 (kdI (xs (i + 1)) (mNc u)) f2 H _ _ ⟨inv_give hI, hO2, hP, hD, hS⟩ (lv_sub hl [2, 3, 4, 5, 6] rfl)
      · skip
        exact (c_368 (by rw [ex9]; exact lcmp_self)).elim
  · skip
    exact (c_351 rfl).elim
set_option maxHeartbeats 8000000 in
set_option maxRecDepth 100000 in
theorem lc_3 {p : Program} {l : Launch} {e : Env} {s : State} {m : MethodId} {below : List Frame} {meth : Method} {c : Code} {D : va_G} {cI cJ : ClassId} {b L h0 h1 o : Nat} {a0 a1 : Nat → Nat} {xs : Nat → Int32} (htr : l.stackTraces = false) (hL : L ≤ 2048) (C0 : lw_At p s m meth c b L xs) (hK : va_K D vwCl [(cI, .int), (cJ, .long)] s) (hE : tE (fun q : Nat => s.heap.size ≤ q) s) {i C Sl : Nat} (hi : i + 3 < L) (hC : C + 2 ≤ 601024) (hC2 : Sl + 20 ≤ 7293034) (kk : lwK p l e s m below meth c D cI cJ b h0 h1 o a0 a1 i (C + 1) (Sl + 13)) (u : MS) (on : Nat → Int32) (th : Int32) (f : Nat → Int64) (H : Heap) (locs : List Loc) (ls : Array Slot) (hw : lwI D cI cJ h0 h1 o a0 a1 s u on th f H locs) (hl : lv_has ls 9 [(0, .ref b), (1, .ref h0), (2, .ref h1), (3, .ref o), (4, .int (nI i))]) : W p l e room_1 s m #[Value.ref b] below meth c H locs C Sl (lw_Z below #[Value.ref b] s) (F0 m 376 ls []) := by
  obtain ⟨hx, hb, hr, hml, hown, hts0, hX, hbl, hlocks, hgv⟩ := id C0
  have hown : s.vm.findClass RL = some m.cls := hown
  have hts : ∀ w ∈ wsL_law, w.before #[Value.ref b] s = true := fun w h => hts0 w (wsL_law_in w h)
  have hA : ∀ q : Nat, s.heap.size ≤ q → (fun q : Nat => s.heap.size ≤ q) q := fun _ h => h
  have hbA : ¬ (fun q : Nat => s.heap.size ≤ q) b := Nat.not_le.mpr hbl
  obtain ⟨hI, hO, hP, hD, hS⟩ := hw
  refine lv_aload_n hx hb dL_law_376 rfl (lv_at hl 1 rfl) ?_
  refine lv_aload_n hx hb dL_law_377 rfl (lv_at hl 0 rfl) ?_
  refine lv_iload hx hb dL_law_378 (lv_at hl 4 rfl) ?_
  refine lv_iconst (v := nI 1) hx hb dL_law_380 (by decide +kernel) ?_
  refine q_iaddN hx hb dL_law_381 ?_
  refine q_sld hx hb hX hbl hbA hS (k := i + 1) (by omega) (by omega) dL_law_382 ?_
  refine lv_aload_n hx hb dL_law_383 rfl (lv_at hl 0 rfl) ?_
  refine lv_iload hx hb dL_law_384 (lv_at hl 4 rfl) ?_
  refine lv_iconst (v := nI 2) hx hb dL_law_386 (by decide +kernel) ?_
  refine q_iaddN hx hb dL_law_387 ?_
  refine q_sld hx hb hX hbl hbA hS (k := i + 2) (by omega) (by omega) dL_law_388 ?_
  refine lv_aload_n hx hb dL_law_389 rfl (lv_at hl 3 rfl) ?_
  have hPc := hP.sub (ws' := (picL cI cJ h0 a0 o u on f)) [0, 1, 2, 3, 4, 5, 6, 7, 15] rfl
  have hDc := hD.sub (ws' := (picL cI cJ h0 a0 o u on f)) [0, 1, 2, 3, 4, 5, 6, 7, 15] (by decide) rfl
  have hFc := va_free (wc := (picL cI cJ h0 a0 o u on f)) hD hS hA [0, 1, 2, 3, 4, 5, 6, 7, 15] rfl
  refine va_calli (vx_runSW (As := [.ref h0, .int (xs (i + 1)), .int (xs (i + 2)), .ref o]) (rest := []) ⟨hx, hb, hml, hown, hts⟩ (c_L_addBee l htr D cI cJ h0 a0 o u on f H.size (xs (i + 1)) (xs (i + 2)) hI hO) (vx_cwSW 4 hts gL_law_L_addBee rfl rfl rfl (by decide +kernel) ⟨Nat.le_of_ble_eq_true rfl, Nat.le_of_ble_eq_true rfl⟩) ⟨lh_blind, fun U hU hW => ⟨rfl, by rw [hU], by rw [hU]; exact hPc, va_K.moved hW.alike hK, hDc.weaken (fun _ _ _ _ => trivial), hE.go hS hW hU (fun q h9 => hFc q h9)⟩⟩ rfl rfl hl.1 rfl (lv_room (Nat.le_of_ble_eq_true rfl)) dL_law_390 ⟨show C + 1 ≤ 601024 by omega, show Sl + 6 ≤ 7293034 by omega⟩) hS (fun q _ h => hFc q h) hFc (fun r w t H1 locs ht hvm hw hB hz1 hk1 hS => ?_)
  obtain ⟨u2, on2, f2⟩ := w
  obtain ⟨eu, hO2, er, hv⟩ := hw
  have eu : u2 = nxBee u (xs (i + 1)) (xs (i + 2)) := eu
  have er : r = kdBee u (xs (i + 1)) (xs (i + 2)) := er
  have hv9 : kdBee u (xs (i + 1)) (xs (i + 2)) = nI 0 → f2 0 = Int32.toInt64 (nI (mBc u)) := hv
  have hO2 : InvO u2 on2 := hO2
  subst eu
  subst er
  obtain ⟨hP1, hK1, hD1⟩ := hB
  rw [ht] at hP1
  obtain ⟨hP, hD⟩ := va_join (wr := (pic1 cI h1 a1 u th)) (w1 := (picL cI cJ h0 a0 o (nxBee u (xs (i + 1)) (xs (i + 2))) on2 f2)) hP hD [0, 1, 2, 3, 4, 5, 6, 7, 15] [8, 9, 10, 11, 12, 13, 14] rfl rfl (by decide) (by decide) hk1 hFc hP1 hD1
  generalize H1 = H at hP hS ⊢
  have hP : va_P D vwCl (picW cI cJ h0 a0 h1 a1 o (nxBee u (xs (i + 1)) (xs (i + 2))) on2 u th f2) H := hP.sub [7, 8, 9, 10, 11, 12, 13, 14, 0, 1, 2, 3, 4, 5, 6, 15] rfl
  have hD : va_D (fun q : Nat => s.heap.size ≤ q) (picW cI cJ h0 a0 h1 a1 o (nxBee u (xs (i + 1)) (xs (i + 2))) on2 u th f2) := hD.sub [7, 8, 9, 10, 11, 12, 13, 14, 0, 1, 2, 3, 4, 5, 6, 15] (by decide) rfl
  refine lv_istore (lv' := [(5, .int (kdBee u (xs (i + 1)) (xs (i + 2)))), (0, .ref b), (1, .ref h0), (2, .ref h1), (3, .ref o), (4, .int (nI i))]) hx hb dL_law_393 hl (by decide) rfl (fun ls hl => ?_)
  refine lv_aload_n hx hb dL_law_395 rfl (lv_at hl 3 rfl) ?_
  refine lv_aload_n hx hb dL_law_396 rfl (lv_at hl 1 rfl) ?_
  refine lv_iload hx hb dL_law_397 (lv_at hl 5 rfl) ?_
  refine lv_iconst (v := nI 1) hx hb dL_law_399 (by decide +kernel) ?_
  refine q_iaddN hx hb dL_law_400 ?_
  refine q_sld hx hb hX hbl hbA hS (k := i + 1) (by omega) (by omega) dL_law_401 ?_
  refine lv_aload_n hx hb dL_law_402 rfl (lv_at hl 1 rfl) ?_
  refine lv_iload hx hb dL_law_403 (lv_at hl 5 rfl) ?_
  refine lv_iconst (v := nI 2) hx hb dL_law_405 (by decide +kernel) ?_
  refine q_iaddN hx hb dL_law_406 ?_
  refine q_sld hx hb hX hbl hbA hS (k := i + 2) (by omega) (by omega) dL_law_407 ?_
  have hPc := hP.sub (ws' := (pic1 cI h1 a1 u th)) [8, 9, 10, 11, 12, 13, 14] rfl
  have hDc := hD.sub (ws' := (pic1 cI h1 a1 u th)) [8, 9, 10, 11, 12, 13, 14] (by decide) rfl
  have hKc := hK.sub (tys' := [(cI, .int)]) [0] rfl
  have hFc := va_free (wc := (pic1 cI h1 a1 u th)) hD hS hA [8, 9, 10, 11, 12, 13, 14] rfl
  refine va_calli (va_runV (As := [.int (xs (i + 1)), .int (xs (i + 2))]) (rest := []) ⟨hx, hb, hml, hown, hts⟩ (c_X1_addBee l D cI h1 a1 u th H.size (xs (i + 1)) (xs (i + 2)) hI) (cwV 2 hts gL_law_X1_addBee rfl rfl rfl (by decide +kernel) ⟨Nat.le_of_ble_eq_true rfl, Nat.le_of_ble_eq_true rfl⟩) ⟨wr_blind, va_recv (ci := 1) (q0 := 0) hKc hPc rfl rfl, fun U hU hW => ⟨rfl, by rw [hU], by rw [hU]; exact hPc, va_K.moved hW.alike hKc, hDc.weaken (fun _ _ _ _ => trivial)⟩⟩ rfl rfl hl.1 rfl (lv_room (Nat.le_of_ble_eq_true rfl)) dL_law_408 ⟨show C + 1 + 0 ≤ 601024 by omega, show Sl + 6 + 0 ≤ 7293034 by omega⟩) hS (fun q _ h => hFc q h) hFc (fun r w t H1 locs ht hvm hw hB hz1 hk1 hS => ?_)
  obtain ⟨hw1, hv2⟩ := hw
  subst hw1
  have hv2 : kdBee u (xs (i + 1)) (xs (i + 2)) = nI 0 → r = nI (mBc u) := hv2
  obtain ⟨r2, hr2⟩ : ∃ z, z = r := ⟨_, rfl⟩
  subst hr2
  have hv2 : kdBee u (xs (i + 1)) (xs (i + 2)) = nI 0 → r2 = nI (mBc u) := hv2
  obtain ⟨hP1, hK1, hD1⟩ := hB
  rw [ht] at hP1
  obtain ⟨hP, hD⟩ := va_join (wr := (picL cI cJ h0 a0 o (nxBee u (xs (i + 1)) (xs (i + 2))) on2 f2)) (w1 := (pic1 cI h1 a1 (nxBee u (xs (i + 1)) (xs (i + 2))) (kdBee u (xs (i + 1)) (xs (i + 2))))) hP hD [8, 9, 10, 11, 12, 13, 14] [0, 1, 2, 3, 4, 5, 6, 7, 15] rfl rfl (by decide) (by decide) hk1 hFc hP1 hD1
  generalize H1 = H at hP hS ⊢
  have hP : va_P D vwCl (picW cI cJ h0 a0 h1 a1 o (nxBee u (xs (i + 1)) (xs (i + 2))) on2 (nxBee u (xs (i + 1)) (xs (i + 2))) (kdBee u (xs (i + 1)) (xs (i + 2))) f2) H := hP.sub [0, 1, 2, 3, 4, 5, 6, 7, 9, 10, 11, 12, 13, 14, 15, 8] rfl
  have hD : va_D (fun q : Nat => s.heap.size ≤ q) (picW cI cJ h0 a0 h1 a1 o (nxBee u (xs (i + 1)) (xs (i + 2))) on2 (nxBee u (xs (i + 1)) (xs (i + 2))) (kdBee u (xs (i + 1)) (xs (i + 2))) f2) := hD.sub [0, 1, 2, 3, 4, 5, 6, 7, 9, 10, 11, 12, 13, 14, 15, 8] (by decide) rfl
  refine lv_istore (lv' := [(6, .int r2), (5, .int (kdBee u (xs (i + 1)) (xs (i + 2)))), (0, .ref b), (1, .ref h0), (2, .ref h1), (3, .ref o), (4, .int (nI i))]) hx hb dL_law_411 hl (by decide) rfl (fun ls hl => ?_)
  refine lv_aload_n hx hb dL_law_413 rfl (lv_at hl 4 rfl) ?_
  refine vp_callSi (W.runV (As := []) (rest := []) ⟨hx, hb, hml, hown, hts⟩ (c_X1_thrown l D cI h1 a1 (nxBee u (xs (i + 1)) (xs (i + 2))) (kdBee u (xs (i + 1)) (xs (i + 2))) ) (cwV 0 hts gL_law_X1_thrown rfl rfl rfl (by decide +kernel) ⟨Nat.le_of_ble_eq_true rfl, Nat.le_of_ble_eq_true rfl⟩) (pu_pre (hK.sub (tys' := [(cI, .int)]) [0] rfl) (hP.sub (ws' := (pic1 cI h1 a1 (nxBee u (xs (i + 1)) (xs (i + 2))) (kdBee u (xs (i + 1)) (xs (i + 2))))) [8, 9, 10, 11, 12, 13, 14] rfl) rfl rfl) rfl rfl hl.1 rfl (lv_room (Nat.le_of_ble_eq_true rfl)) dL_law_414 ⟨show C + 1 + 0 ≤ 601024 by omega, show Sl + 6 + 0 ≤ 7293034 by omega⟩) (fun r hr9 => ?_)
  subst hr9
  refine lv_iload hx hb dL_law_417 (lv_at hl 1 rfl) ?_
  refine lv_icmp_eq (tgt := 424) hx hb dL_law_419 (by decide) (fun c_419 => ?_) (fun c_419 => ?_)
  · skip
    refine lv_iload hx hb dL_law_424 (lv_at hl 1 rfl) ?_
    refine lv_if_ne (tgt := 441) hx hb dL_law_426 (by decide) (fun c_426 => ?_) (fun c_426 => ?_)
    · skip
      refine lv_goto (tgt := 1546) hx hb dL_law_441 (by decide) ?_
      refine W.widen (k := C + 1) (n := Sl + 13) (by omega) (by omega) ?_
      exact kk (nxBee u (xs (i + 1)) (xs (i + 2))) on2 (kdBee u (xs (i + 1)) (xs (i + 2))) f2 H _ _ ⟨inv_bee hI, hO2, hP, hD, hS⟩ (lv_sub hl [2, 3, 4, 5, 6] rfl)
    · skip
      have ex9 := (hv9 c_426).trans (congrArg Int32.toInt64 (hv2 c_426)).symm
      refine lv_aload_n hx hb dL_law_429 rfl (lv_at hl 5 rfl) ?_
      refine lv_iconst (v := nI 0) hx hb dL_law_430 (by decide +kernel) ?_
      refine q_lald hx hb hK hP 15 1 rfl rfl (by omega) (by decide) dL_law_431 ?_
      refine lv_iload hx hb dL_law_432 (lv_at hl 0 rfl) ?_
      refine lv_i2l (v := Int32.toInt64 r2) hx hb dL_law_434 rfl ?_
      refine W.lcmp hx hb dL_law_435 ?_
      refine lv_if_eq (tgt := 441) hx hb dL_law_436 (by decide) (fun c_436 => ?_) (fun c_436 => ?_)
      · skip
        refine lv_goto (tgt := 1546) hx hb dL_law_441 (by decide) ?_
        refine W.widen (k := C + 1) (n := Sl + 13) (by omega) (by omega) ?_
        exact kk (nxBee u (xs (i + 1)) (xs (i + 2))) on2 (kdBee u (xs (i + 1)) (xs (i + 2))) f2 H _ _ ⟨inv_bee hI, hO2, hP, hD, hS⟩ (lv_sub hl [2, 3, 4, 5, 6] rfl)
      · skip
        exact (c_436 (by rw [ex9]; exact lcmp_self)).elim
  · skip
    exact (c_419 rfl).elim
set_option maxHeartbeats 8000000 in
set_option maxRecDepth 100000 in
theorem lc_4 {p : Program} {l : Launch} {e : Env} {s : State} {m : MethodId} {below : List Frame} {meth : Method} {c : Code} {D : va_G} {cI cJ : ClassId} {b L h0 h1 o : Nat} {a0 a1 : Nat → Nat} {xs : Nat → Int32} (htr : l.stackTraces = false) (hL : L ≤ 2048) (C0 : lw_At p s m meth c b L xs) (hK : va_K D vwCl [(cI, .int), (cJ, .long)] s) (hE : tE (fun q : Nat => s.heap.size ≤ q) s) {i C Sl : Nat} (hi : i + 3 < L) (hC : C + 2 ≤ 601024) (hC2 : Sl + 20 ≤ 7293034) (kk : lwK p l e s m below meth c D cI cJ b h0 h1 o a0 a1 i (C + 1) (Sl + 13)) (u : MS) (on : Nat → Int32) (th : Int32) (f : Nat → Int64) (H : Heap) (locs : List Loc) (ls : Array Slot) (hw : lwI D cI cJ h0 h1 o a0 a1 s u on th f H locs) (hl : lv_has ls 9 [(0, .ref b), (1, .ref h0), (2, .ref h1), (3, .ref o), (4, .int (nI i))]) : W p l e room_1 s m #[Value.ref b] below meth c H locs C Sl (lw_Z below #[Value.ref b] s) (F0 m 444 ls []) := by
  obtain ⟨hx, hb, hr, hml, hown, hts0, hX, hbl, hlocks, hgv⟩ := id C0
  have hown : s.vm.findClass RL = some m.cls := hown
  have hts : ∀ w ∈ wsL_law, w.before #[Value.ref b] s = true := fun w h => hts0 w (wsL_law_in w h)
  have hA : ∀ q : Nat, s.heap.size ≤ q → (fun q : Nat => s.heap.size ≤ q) q := fun _ h => h
  have hbA : ¬ (fun q : Nat => s.heap.size ≤ q) b := Nat.not_le.mpr hbl
  obtain ⟨hI, hO, hP, hD, hS⟩ := hw
  refine lv_aload_n hx hb dL_law_444 rfl (lv_at hl 1 rfl) ?_
  refine lv_aload_n hx hb dL_law_445 rfl (lv_at hl 0 rfl) ?_
  refine lv_iload hx hb dL_law_446 (lv_at hl 4 rfl) ?_
  refine lv_iconst (v := nI 1) hx hb dL_law_448 (by decide +kernel) ?_
  refine q_iaddN hx hb dL_law_449 ?_
  refine q_sld hx hb hX hbl hbA hS (k := i + 1) (by omega) (by omega) dL_law_450 ?_
  refine lv_aload_n hx hb dL_law_451 rfl (lv_at hl 0 rfl) ?_
  refine lv_iload hx hb dL_law_452 (lv_at hl 4 rfl) ?_
  refine lv_iconst (v := nI 2) hx hb dL_law_454 (by decide +kernel) ?_
  refine q_iaddN hx hb dL_law_455 ?_
  refine q_sld hx hb hX hbl hbA hS (k := i + 2) (by omega) (by omega) dL_law_456 ?_
  refine lv_aload_n hx hb dL_law_457 rfl (lv_at hl 0 rfl) ?_
  refine lv_iload hx hb dL_law_458 (lv_at hl 4 rfl) ?_
  refine lv_iconst (v := nI 3) hx hb dL_law_460 (by decide +kernel) ?_
  refine q_iaddN hx hb dL_law_461 ?_
  refine q_sld hx hb hX hbl hbA hS (k := i + 3) (by omega) (by omega) dL_law_462 ?_
  refine lv_aload_n hx hb dL_law_463 rfl (lv_at hl 3 rfl) ?_
  have hPc := hP.sub (ws' := (picL cI cJ h0 a0 o u on f)) [0, 1, 2, 3, 4, 5, 6, 7, 15] rfl
  have hDc := hD.sub (ws' := (picL cI cJ h0 a0 o u on f)) [0, 1, 2, 3, 4, 5, 6, 7, 15] (by decide) rfl
  have hFc := va_free (wc := (picL cI cJ h0 a0 o u on f)) hD hS hA [0, 1, 2, 3, 4, 5, 6, 7, 15] rfl
  refine va_calli (vx_runSW (As := [.ref h0, .int (xs (i + 1)), .int (xs (i + 2)), .int (xs (i + 3)), .ref o]) (rest := []) ⟨hx, hb, hml, hown, hts⟩ (c_L_setTea l htr D cI cJ h0 a0 o u on f H.size (xs (i + 1)) (xs (i + 2)) (xs (i + 3)) hI hO) (vx_cwSW 5 hts gL_law_L_setTea rfl rfl rfl (by decide +kernel) ⟨Nat.le_of_ble_eq_true rfl, Nat.le_of_ble_eq_true rfl⟩) ⟨lh_blind, fun U hU hW => ⟨rfl, by rw [hU], by rw [hU]; exact hPc, va_K.moved hW.alike hK, hDc.weaken (fun _ _ _ _ => trivial), hE.go hS hW hU (fun q h9 => hFc q h9)⟩⟩ rfl rfl hl.1 rfl (lv_room (Nat.le_of_ble_eq_true rfl)) dL_law_464 ⟨show C + 1 ≤ 601024 by omega, show Sl + 6 ≤ 7293034 by omega⟩) hS (fun q _ h => hFc q h) hFc (fun r w t H1 locs ht hvm hw hB hz1 hk1 hS => ?_)
  obtain ⟨u2, on2, f2⟩ := w
  obtain ⟨eu, hO2, er, hv⟩ := hw
  have eu : u2 = nxTea u (xs (i + 1)) (xs (i + 2)) (xs (i + 3)) := eu
  have er : r = kdTea (xs (i + 1)) (xs (i + 2)) (xs (i + 3)) := er
  have hv9 : kdTea (xs (i + 1)) (xs (i + 2)) (xs (i + 3)) = nI 0 → f2 0 = Int32.toInt64 (nI (mTea u - tn (xs (i + 1)))) := hv
  have hO2 : InvO u2 on2 := hO2
  subst eu
  subst er
  obtain ⟨hP1, hK1, hD1⟩ := hB
  rw [ht] at hP1
  obtain ⟨hP, hD⟩ := va_join (wr := (pic1 cI h1 a1 u th)) (w1 := (picL cI cJ h0 a0 o (nxTea u (xs (i + 1)) (xs (i + 2)) (xs (i + 3))) on2 f2)) hP hD [0, 1, 2, 3, 4, 5, 6, 7, 15] [8, 9, 10, 11, 12, 13, 14] rfl rfl (by decide) (by decide) hk1 hFc hP1 hD1
  generalize H1 = H at hP hS ⊢
  have hP : va_P D vwCl (picW cI cJ h0 a0 h1 a1 o (nxTea u (xs (i + 1)) (xs (i + 2)) (xs (i + 3))) on2 u th f2) H := hP.sub [7, 8, 9, 10, 11, 12, 13, 14, 0, 1, 2, 3, 4, 5, 6, 15] rfl
  have hD : va_D (fun q : Nat => s.heap.size ≤ q) (picW cI cJ h0 a0 h1 a1 o (nxTea u (xs (i + 1)) (xs (i + 2)) (xs (i + 3))) on2 u th f2) := hD.sub [7, 8, 9, 10, 11, 12, 13, 14, 0, 1, 2, 3, 4, 5, 6, 15] (by decide) rfl
  refine lv_istore (lv' := [(5, .int (kdTea (xs (i + 1)) (xs (i + 2)) (xs (i + 3)))), (0, .ref b), (1, .ref h0), (2, .ref h1), (3, .ref o), (4, .int (nI i))]) hx hb dL_law_467 hl (by decide) rfl (fun ls hl => ?_)
  refine lv_aload_n hx hb dL_law_469 rfl (lv_at hl 3 rfl) ?_
  refine lv_aload_n hx hb dL_law_470 rfl (lv_at hl 1 rfl) ?_
  refine lv_iload hx hb dL_law_471 (lv_at hl 5 rfl) ?_
  refine lv_iconst (v := nI 1) hx hb dL_law_473 (by decide +kernel) ?_
  refine q_iaddN hx hb dL_law_474 ?_
  refine q_sld hx hb hX hbl hbA hS (k := i + 1) (by omega) (by omega) dL_law_475 ?_
  refine lv_aload_n hx hb dL_law_476 rfl (lv_at hl 1 rfl) ?_
  refine lv_iload hx hb dL_law_477 (lv_at hl 5 rfl) ?_
  refine lv_iconst (v := nI 2) hx hb dL_law_479 (by decide +kernel) ?_
  refine q_iaddN hx hb dL_law_480 ?_
  refine q_sld hx hb hX hbl hbA hS (k := i + 2) (by omega) (by omega) dL_law_481 ?_
  refine lv_aload_n hx hb dL_law_482 rfl (lv_at hl 1 rfl) ?_
  refine lv_iload hx hb dL_law_483 (lv_at hl 5 rfl) ?_
  refine lv_iconst (v := nI 3) hx hb dL_law_485 (by decide +kernel) ?_
  refine q_iaddN hx hb dL_law_486 ?_
  refine q_sld hx hb hX hbl hbA hS (k := i + 3) (by omega) (by omega) dL_law_487 ?_
  have hPc := hP.sub (ws' := (pic1 cI h1 a1 u th)) [8, 9, 10, 11, 12, 13, 14] rfl
  have hDc := hD.sub (ws' := (pic1 cI h1 a1 u th)) [8, 9, 10, 11, 12, 13, 14] (by decide) rfl
  have hKc := hK.sub (tys' := [(cI, .int)]) [0] rfl
  have hFc := va_free (wc := (pic1 cI h1 a1 u th)) hD hS hA [8, 9, 10, 11, 12, 13, 14] rfl
  refine va_calli (va_runV (As := [.int (xs (i + 1)), .int (xs (i + 2)), .int (xs (i + 3))]) (rest := []) ⟨hx, hb, hml, hown, hts⟩ (c_X1_setTea l D cI h1 a1 u th H.size (xs (i + 1)) (xs (i + 2)) (xs (i + 3)) hI) (cwV 3 hts gL_law_X1_setTea rfl rfl rfl (by decide +kernel) ⟨Nat.le_of_ble_eq_true rfl, Nat.le_of_ble_eq_true rfl⟩) ⟨wr_blind, va_recv (ci := 1) (q0 := 0) hKc hPc rfl rfl, fun U hU hW => ⟨rfl, by rw [hU], by rw [hU]; exact hPc, va_K.moved hW.alike hKc, hDc.weaken (fun _ _ _ _ => trivial)⟩⟩ rfl rfl hl.1 rfl (lv_room (Nat.le_of_ble_eq_true rfl)) dL_law_488 ⟨show C + 1 + 0 ≤ 601024 by omega, show Sl + 6 + 0 ≤ 7293034 by omega⟩) hS (fun q _ h => hFc q h) hFc (fun r w t H1 locs ht hvm hw hB hz1 hk1 hS => ?_)
  obtain ⟨hw1, hv2⟩ := hw
  subst hw1
  have hv2 : kdTea (xs (i + 1)) (xs (i + 2)) (xs (i + 3)) = nI 0 → r = nI (mTea u - tn (xs (i + 1))) := hv2
  obtain ⟨r2, hr2⟩ : ∃ z, z = r := ⟨_, rfl⟩
  subst hr2
  have hv2 : kdTea (xs (i + 1)) (xs (i + 2)) (xs (i + 3)) = nI 0 → r2 = nI (mTea u - tn (xs (i + 1))) := hv2
  obtain ⟨hP1, hK1, hD1⟩ := hB
  rw [ht] at hP1
  obtain ⟨hP, hD⟩ := va_join (wr := (picL cI cJ h0 a0 o (nxTea u (xs (i + 1)) (xs (i + 2)) (xs (i + 3))) on2 f2)) (w1 := (pic1 cI h1 a1 (nxTea u (xs (i + 1)) (xs (i + 2)) (xs (i + 3))) (kdTea (xs (i + 1)) (xs (i + 2)) (xs (i + 3))))) hP hD [8, 9, 10, 11, 12, 13, 14] [0, 1, 2, 3, 4, 5, 6, 7, 15] rfl rfl (by decide) (by decide) hk1 hFc hP1 hD1
  generalize H1 = H at hP hS ⊢
  have hP : va_P D vwCl (picW cI cJ h0 a0 h1 a1 o (nxTea u (xs (i + 1)) (xs (i + 2)) (xs (i + 3))) on2 (nxTea u (xs (i + 1)) (xs (i + 2)) (xs (i + 3))) (kdTea (xs (i + 1)) (xs (i + 2)) (xs (i + 3))) f2) H := hP.sub [0, 1, 2, 3, 4, 5, 6, 7, 9, 10, 11, 12, 13, 14, 15, 8] rfl
  have hD : va_D (fun q : Nat => s.heap.size ≤ q) (picW cI cJ h0 a0 h1 a1 o (nxTea u (xs (i + 1)) (xs (i + 2)) (xs (i + 3))) on2 (nxTea u (xs (i + 1)) (xs (i + 2)) (xs (i + 3))) (kdTea (xs (i + 1)) (xs (i + 2)) (xs (i + 3))) f2) := hD.sub [0, 1, 2, 3, 4, 5, 6, 7, 9, 10, 11, 12, 13, 14, 15, 8] (by decide) rfl
  refine lv_istore (lv' := [(6, .int r2), (5, .int (kdTea (xs (i + 1)) (xs (i + 2)) (xs (i + 3)))), (0, .ref b), (1, .ref h0), (2, .ref h1), (3, .ref o), (4, .int (nI i))]) hx hb dL_law_491 hl (by decide) rfl (fun ls hl => ?_)
  refine lv_aload_n hx hb dL_law_493 rfl (lv_at hl 4 rfl) ?_
  refine vp_callSi (W.runV (As := []) (rest := []) ⟨hx, hb, hml, hown, hts⟩ (c_X1_thrown l D cI h1 a1 (nxTea u (xs (i + 1)) (xs (i + 2)) (xs (i + 3))) (kdTea (xs (i + 1)) (xs (i + 2)) (xs (i + 3))) ) (cwV 0 hts gL_law_X1_thrown rfl rfl rfl (by decide +kernel) ⟨Nat.le_of_ble_eq_true rfl, Nat.le_of_ble_eq_true rfl⟩) (pu_pre (hK.sub (tys' := [(cI, .int)]) [0] rfl) (hP.sub (ws' := (pic1 cI h1 a1 (nxTea u (xs (i + 1)) (xs (i + 2)) (xs (i + 3))) (kdTea (xs (i + 1)) (xs (i + 2)) (xs (i + 3))))) [8, 9, 10, 11, 12, 13, 14] rfl) rfl rfl) rfl rfl hl.1 rfl (lv_room (Nat.le_of_ble_eq_true rfl)) dL_law_494 ⟨show C + 1 + 0 ≤ 601024 by omega, show Sl + 6 + 0 ≤ 7293034 by omega⟩) (fun r hr9 => ?_)
  subst hr9
  refine lv_iload hx hb dL_law_497 (lv_at hl 1 rfl) ?_
  refine lv_icmp_eq (tgt := 504) hx hb dL_law_499 (by decide) (fun c_499 => ?_) (fun c_499 => ?_)
  · skip
    refine lv_iload hx hb dL_law_504 (lv_at hl 1 rfl) ?_
    refine lv_if_ne (tgt := 521) hx hb dL_law_506 (by decide) (fun c_506 => ?_) (fun c_506 => ?_)
    · skip
      refine lv_goto (tgt := 1546) hx hb dL_law_521 (by decide) ?_
      refine W.widen (k := C + 1) (n := Sl + 13) (by omega) (by omega) ?_
      exact kk (nxTea u (xs (i + 1)) (xs (i + 2)) (xs (i + 3))) on2 (kdTea (xs (i + 1)) (xs (i + 2)) (xs (i + 3))) f2 H _ _ ⟨inv_tea hI, hO2, hP, hD, hS⟩ (lv_sub hl [2, 3, 4, 5, 6] rfl)
    · skip
      have ex9 := (hv9 c_506).trans (congrArg Int32.toInt64 (hv2 c_506)).symm
      refine lv_aload_n hx hb dL_law_509 rfl (lv_at hl 5 rfl) ?_
      refine lv_iconst (v := nI 0) hx hb dL_law_510 (by decide +kernel) ?_
      refine q_lald hx hb hK hP 15 1 rfl rfl (by omega) (by decide) dL_law_511 ?_
      refine lv_iload hx hb dL_law_512 (lv_at hl 0 rfl) ?_
      refine lv_i2l (v := Int32.toInt64 r2) hx hb dL_law_514 rfl ?_
      refine W.lcmp hx hb dL_law_515 ?_
      refine lv_if_eq (tgt := 521) hx hb dL_law_516 (by decide) (fun c_516 => ?_) (fun c_516 => ?_)
      · skip
        refine lv_goto (tgt := 1546) hx hb dL_law_521 (by decide) ?_
        refine W.widen (k := C + 1) (n := Sl + 13) (by omega) (by omega) ?_
        exact kk (nxTea u (xs (i + 1)) (xs (i + 2)) (xs (i + 3))) on2 (kdTea (xs (i + 1)) (xs (i + 2)) (xs (i + 3))) f2 H _ _ ⟨inv_tea hI, hO2, hP, hD, hS⟩ (lv_sub hl [2, 3, 4, 5, 6] rfl)
      · skip
        exact (c_516 (by rw [ex9]; exact lcmp_self)).elim
  · skip
    exact (c_499 rfl).elim
set_option maxHeartbeats 8000000 in
set_option maxRecDepth 100000 in
theorem lc_5 {p : Program} {l : Launch} {e : Env} {s : State} {m : MethodId} {below : List Frame} {meth : Method} {c : Code} {D : va_G} {cI cJ : ClassId} {b L h0 h1 o : Nat} {a0 a1 : Nat → Nat} {xs : Nat → Int32} (htr : l.stackTraces = false) (hL : L ≤ 2048) (C0 : lw_At p s m meth c b L xs) (hK : va_K D vwCl [(cI, .int), (cJ, .long)] s) (hE : tE (fun q : Nat => s.heap.size ≤ q) s) {i C Sl : Nat} (hi : i + 3 < L) (hC : C + 2 ≤ 601024) (hC2 : Sl + 20 ≤ 7293034) (kk : lwK p l e s m below meth c D cI cJ b h0 h1 o a0 a1 i (C + 1) (Sl + 13)) (u : MS) (on : Nat → Int32) (th : Int32) (f : Nat → Int64) (H : Heap) (locs : List Loc) (ls : Array Slot) (hw : lwI D cI cJ h0 h1 o a0 a1 s u on th f H locs) (hl : lv_has ls 9 [(0, .ref b), (1, .ref h0), (2, .ref h1), (3, .ref o), (4, .int (nI i))]) : W p l e room_1 s m #[Value.ref b] below meth c H locs C Sl (lw_Z below #[Value.ref b] s) (F0 m 524 ls []) := by
  obtain ⟨hx, hb, hr, hml, hown, hts0, hX, hbl, hlocks, hgv⟩ := id C0
  have hown : s.vm.findClass RL = some m.cls := hown
  have hts : ∀ w ∈ wsL_law, w.before #[Value.ref b] s = true := fun w h => hts0 w (wsL_law_in w h)
  have hA : ∀ q : Nat, s.heap.size ≤ q → (fun q : Nat => s.heap.size ≤ q) q := fun _ h => h
  have hbA : ¬ (fun q : Nat => s.heap.size ≤ q) b := Nat.not_le.mpr hbl
  obtain ⟨hI, hO, hP, hD, hS⟩ := hw
  refine lv_aload_n hx hb dL_law_524 rfl (lv_at hl 1 rfl) ?_
  refine lv_aload_n hx hb dL_law_525 rfl (lv_at hl 0 rfl) ?_
  refine lv_iload hx hb dL_law_526 (lv_at hl 4 rfl) ?_
  refine lv_iconst (v := nI 1) hx hb dL_law_528 (by decide +kernel) ?_
  refine q_iaddN hx hb dL_law_529 ?_
  refine q_sld hx hb hX hbl hbA hS (k := i + 1) (by omega) (by omega) dL_law_530 ?_
  refine lv_aload_n hx hb dL_law_531 rfl (lv_at hl 3 rfl) ?_
  have hPc := hP.sub (ws' := (picL cI cJ h0 a0 o u on f)) [0, 1, 2, 3, 4, 5, 6, 7, 15] rfl
  have hDc := hD.sub (ws' := (picL cI cJ h0 a0 o u on f)) [0, 1, 2, 3, 4, 5, 6, 7, 15] (by decide) rfl
  have hFc := va_free (wc := (picL cI cJ h0 a0 o u on f)) hD hS hA [0, 1, 2, 3, 4, 5, 6, 7, 15] rfl
  refine va_calli (vx_runSW (As := [.ref h0, .int (xs (i + 1)), .ref o]) (rest := []) ⟨hx, hb, hml, hown, hts⟩ (c_L_pass l htr D cI cJ h0 a0 o u on f H.size (xs (i + 1)) hI hO) (vx_cwSW 3 hts gL_law_L_pass rfl rfl rfl (by decide +kernel) ⟨Nat.le_of_ble_eq_true rfl, Nat.le_of_ble_eq_true rfl⟩) ⟨lh_blind, fun U hU hW => ⟨rfl, by rw [hU], by rw [hU]; exact hPc, va_K.moved hW.alike hK, hDc.weaken (fun _ _ _ _ => trivial), hE.go hS hW hU (fun q h9 => hFc q h9)⟩⟩ rfl rfl hl.1 rfl (lv_room (Nat.le_of_ble_eq_true rfl)) dL_law_532 ⟨show C + 1 ≤ 601024 by omega, show Sl + 6 ≤ 7293034 by omega⟩) hS (fun q _ h => hFc q h) hFc (fun r w t H1 locs ht hvm hw hB hz1 hk1 hS => ?_)
  obtain ⟨u2, on2, f2⟩ := w
  obtain ⟨eu, hO2, er, hv⟩ := hw
  have eu : u2 = nxPass u (xs (i + 1)) := eu
  have er : r = kdPass u (xs (i + 1)) := er
  have hv9 : kdPass u (xs (i + 1)) = nI 0 → f2 0 = Int32.toInt64 ((psS u (tn (xs (i + 1)))).1) := hv
  have hO2 : InvO u2 on2 := hO2
  subst eu
  subst er
  obtain ⟨hP1, hK1, hD1⟩ := hB
  rw [ht] at hP1
  obtain ⟨hP, hD⟩ := va_join (wr := (pic1 cI h1 a1 u th)) (w1 := (picL cI cJ h0 a0 o (nxPass u (xs (i + 1))) on2 f2)) hP hD [0, 1, 2, 3, 4, 5, 6, 7, 15] [8, 9, 10, 11, 12, 13, 14] rfl rfl (by decide) (by decide) hk1 hFc hP1 hD1
  generalize H1 = H at hP hS ⊢
  have hP : va_P D vwCl (picW cI cJ h0 a0 h1 a1 o (nxPass u (xs (i + 1))) on2 u th f2) H := hP.sub [7, 8, 9, 10, 11, 12, 13, 14, 0, 1, 2, 3, 4, 5, 6, 15] rfl
  have hD : va_D (fun q : Nat => s.heap.size ≤ q) (picW cI cJ h0 a0 h1 a1 o (nxPass u (xs (i + 1))) on2 u th f2) := hD.sub [7, 8, 9, 10, 11, 12, 13, 14, 0, 1, 2, 3, 4, 5, 6, 15] (by decide) rfl
  refine lv_istore (lv' := [(5, .int (kdPass u (xs (i + 1)))), (0, .ref b), (1, .ref h0), (2, .ref h1), (3, .ref o), (4, .int (nI i))]) hx hb dL_law_535 hl (by decide) rfl (fun ls hl => ?_)
  refine lv_aload_n hx hb dL_law_537 rfl (lv_at hl 3 rfl) ?_
  refine lv_aload_n hx hb dL_law_538 rfl (lv_at hl 1 rfl) ?_
  refine lv_iload hx hb dL_law_539 (lv_at hl 5 rfl) ?_
  refine lv_iconst (v := nI 1) hx hb dL_law_541 (by decide +kernel) ?_
  refine q_iaddN hx hb dL_law_542 ?_
  refine q_sld hx hb hX hbl hbA hS (k := i + 1) (by omega) (by omega) dL_law_543 ?_
  have hPc := hP.sub (ws' := (pic1 cI h1 a1 u th)) [8, 9, 10, 11, 12, 13, 14] rfl
  have hDc := hD.sub (ws' := (pic1 cI h1 a1 u th)) [8, 9, 10, 11, 12, 13, 14] (by decide) rfl
  have hKc := hK.sub (tys' := [(cI, .int)]) [0] rfl
  have hFc := va_free (wc := (pic1 cI h1 a1 u th)) hD hS hA [8, 9, 10, 11, 12, 13, 14] rfl
  refine va_calli (va_runV (As := [.int (xs (i + 1))]) (rest := []) ⟨hx, hb, hml, hown, hts⟩ (c_X1_pass l D cI h1 a1 u th H.size (xs (i + 1)) hI) (cwV 1 hts gL_law_X1_pass rfl rfl rfl (by decide +kernel) ⟨Nat.le_of_ble_eq_true rfl, Nat.le_of_ble_eq_true rfl⟩) ⟨wr_blind, va_recv (ci := 1) (q0 := 0) hKc hPc rfl rfl, fun U hU hW => ⟨rfl, by rw [hU], by rw [hU]; exact hPc, va_K.moved hW.alike hKc, hDc.weaken (fun _ _ _ _ => trivial)⟩⟩ rfl rfl hl.1 rfl (lv_room (Nat.le_of_ble_eq_true rfl)) dL_law_544 ⟨show C + 1 + 0 ≤ 601024 by omega, show Sl + 6 + 0 ≤ 7293034 by omega⟩) hS (fun q _ h => hFc q h) hFc (fun r w t H1 locs ht hvm hw hB hz1 hk1 hS => ?_)
  obtain ⟨hw1, hv2⟩ := hw
  subst hw1
  have hv2 : kdPass u (xs (i + 1)) = nI 0 → r = (psS u (tn (xs (i + 1)))).1 := hv2
  obtain ⟨r2, hr2⟩ : ∃ z, z = r := ⟨_, rfl⟩
  subst hr2
  have hv2 : kdPass u (xs (i + 1)) = nI 0 → r2 = (psS u (tn (xs (i + 1)))).1 := hv2
  obtain ⟨hP1, hK1, hD1⟩ := hB
  rw [ht] at hP1
  obtain ⟨hP, hD⟩ := va_join (wr := (picL cI cJ h0 a0 o (nxPass u (xs (i + 1))) on2 f2)) (w1 := (pic1 cI h1 a1 (nxPass u (xs (i + 1))) (kdPass u (xs (i + 1))))) hP hD [8, 9, 10, 11, 12, 13, 14] [0, 1, 2, 3, 4, 5, 6, 7, 15] rfl rfl (by decide) (by decide) hk1 hFc hP1 hD1
  generalize H1 = H at hP hS ⊢
  have hP : va_P D vwCl (picW cI cJ h0 a0 h1 a1 o (nxPass u (xs (i + 1))) on2 (nxPass u (xs (i + 1))) (kdPass u (xs (i + 1))) f2) H := hP.sub [0, 1, 2, 3, 4, 5, 6, 7, 9, 10, 11, 12, 13, 14, 15, 8] rfl
  have hD : va_D (fun q : Nat => s.heap.size ≤ q) (picW cI cJ h0 a0 h1 a1 o (nxPass u (xs (i + 1))) on2 (nxPass u (xs (i + 1))) (kdPass u (xs (i + 1))) f2) := hD.sub [0, 1, 2, 3, 4, 5, 6, 7, 9, 10, 11, 12, 13, 14, 15, 8] (by decide) rfl
  refine lv_istore (lv' := [(6, .int r2), (5, .int (kdPass u (xs (i + 1)))), (0, .ref b), (1, .ref h0), (2, .ref h1), (3, .ref o), (4, .int (nI i))]) hx hb dL_law_547 hl (by decide) rfl (fun ls hl => ?_)
  refine lv_aload_n hx hb dL_law_549 rfl (lv_at hl 4 rfl) ?_
  refine vp_callSi (W.runV (As := []) (rest := []) ⟨hx, hb, hml, hown, hts⟩ (c_X1_thrown l D cI h1 a1 (nxPass u (xs (i + 1))) (kdPass u (xs (i + 1))) ) (cwV 0 hts gL_law_X1_thrown rfl rfl rfl (by decide +kernel) ⟨Nat.le_of_ble_eq_true rfl, Nat.le_of_ble_eq_true rfl⟩) (pu_pre (hK.sub (tys' := [(cI, .int)]) [0] rfl) (hP.sub (ws' := (pic1 cI h1 a1 (nxPass u (xs (i + 1))) (kdPass u (xs (i + 1))))) [8, 9, 10, 11, 12, 13, 14] rfl) rfl rfl) rfl rfl hl.1 rfl (lv_room (Nat.le_of_ble_eq_true rfl)) dL_law_550 ⟨show C + 1 + 0 ≤ 601024 by omega, show Sl + 6 + 0 ≤ 7293034 by omega⟩) (fun r hr9 => ?_)
  subst hr9
  refine lv_iload hx hb dL_law_553 (lv_at hl 1 rfl) ?_
  refine lv_icmp_eq (tgt := 560) hx hb dL_law_555 (by decide) (fun c_555 => ?_) (fun c_555 => ?_)
  · skip
    refine lv_iload hx hb dL_law_560 (lv_at hl 1 rfl) ?_
    refine lv_if_ne (tgt := 577) hx hb dL_law_562 (by decide) (fun c_562 => ?_) (fun c_562 => ?_)
    · skip
      refine lv_goto (tgt := 1546) hx hb dL_law_577 (by decide) ?_
      refine W.widen (k := C + 1) (n := Sl + 13) (by omega) (by omega) ?_
      exact kk (nxPass u (xs (i + 1))) on2 (kdPass u (xs (i + 1))) f2 H _ _ ⟨inv_pass hI, hO2, hP, hD, hS⟩ (lv_sub hl [2, 3, 4, 5, 6] rfl)
    · skip
      have ex9 := (hv9 c_562).trans (congrArg Int32.toInt64 (hv2 c_562)).symm
      refine lv_aload_n hx hb dL_law_565 rfl (lv_at hl 5 rfl) ?_
      refine lv_iconst (v := nI 0) hx hb dL_law_566 (by decide +kernel) ?_
      refine q_lald hx hb hK hP 15 1 rfl rfl (by omega) (by decide) dL_law_567 ?_
      refine lv_iload hx hb dL_law_568 (lv_at hl 0 rfl) ?_
      refine lv_i2l (v := Int32.toInt64 r2) hx hb dL_law_570 rfl ?_
      refine W.lcmp hx hb dL_law_571 ?_
      refine lv_if_eq (tgt := 577) hx hb dL_law_572 (by decide) (fun c_572 => ?_) (fun c_572 => ?_)
      · skip
        refine lv_goto (tgt := 1546) hx hb dL_law_577 (by decide) ?_
        refine W.widen (k := C + 1) (n := Sl + 13) (by omega) (by omega) ?_
        exact kk (nxPass u (xs (i + 1))) on2 (kdPass u (xs (i + 1))) f2 H _ _ ⟨inv_pass hI, hO2, hP, hD, hS⟩ (lv_sub hl [2, 3, 4, 5, 6] rfl)
      · skip
        exact (c_572 (by rw [ex9]; exact lcmp_self)).elim
  · skip
    exact (c_555 rfl).elim
set_option maxHeartbeats 8000000 in
set_option maxRecDepth 100000 in
theorem lc_6 {p : Program} {l : Launch} {e : Env} {s : State} {m : MethodId} {below : List Frame} {meth : Method} {c : Code} {D : va_G} {cI cJ : ClassId} {b L h0 h1 o : Nat} {a0 a1 : Nat → Nat} {xs : Nat → Int32} (htr : l.stackTraces = false) (hL : L ≤ 2048) (C0 : lw_At p s m meth c b L xs) (hK : va_K D vwCl [(cI, .int), (cJ, .long)] s) (hE : tE (fun q : Nat => s.heap.size ≤ q) s) {i C Sl : Nat} (hi : i + 3 < L) (hC : C + 2 ≤ 601024) (hC2 : Sl + 20 ≤ 7293034) (kk : lwK p l e s m below meth c D cI cJ b h0 h1 o a0 a1 i (C + 1) (Sl + 13)) (u : MS) (on : Nat → Int32) (th : Int32) (f : Nat → Int64) (H : Heap) (locs : List Loc) (ls : Array Slot) (hw : lwI D cI cJ h0 h1 o a0 a1 s u on th f H locs) (hl : lv_has ls 9 [(0, .ref b), (1, .ref h0), (2, .ref h1), (3, .ref o), (4, .int (nI i))]) : W p l e room_1 s m #[Value.ref b] below meth c H locs C Sl (lw_Z below #[Value.ref b] s) (F0 m 580 ls []) := by
  obtain ⟨hx, hb, hr, hml, hown, hts0, hX, hbl, hlocks, hgv⟩ := id C0
  have hown : s.vm.findClass RL = some m.cls := hown
  have hts : ∀ w ∈ wsL_law, w.before #[Value.ref b] s = true := fun w h => hts0 w (wsL_law_in w h)
  have hA : ∀ q : Nat, s.heap.size ≤ q → (fun q : Nat => s.heap.size ≤ q) q := fun _ h => h
  have hbA : ¬ (fun q : Nat => s.heap.size ≤ q) b := Nat.not_le.mpr hbl
  obtain ⟨hI, hO, hP, hD, hS⟩ := hw
  refine lv_aload_n hx hb dL_law_580 rfl (lv_at hl 1 rfl) ?_
  have hPc := hP.sub (ws' := (pic0 cI h0 a0 u on)) [0, 1, 2, 3, 4, 5, 6, 7] rfl
  have hDc := hD.sub (ws' := (pic0 cI h0 a0 u on)) [0, 1, 2, 3, 4, 5, 6, 7] (by decide) rfl
  have hKc := hK.sub (tys' := [(cI, .int)]) [0] rfl
  have hFc := va_free (wc := (pic0 cI h0 a0 u on)) hD hS hA [0, 1, 2, 3, 4, 5, 6, 7] rfl
  refine va_calli (va_runV (As := []) (rest := []) ⟨hx, hb, hml, hown, hts⟩ (c_X0_begin l D cI h0 a0 u on H.size  ) (cwV 0 hts gL_law_X0_begin rfl rfl rfl (by decide +kernel) ⟨Nat.le_of_ble_eq_true rfl, Nat.le_of_ble_eq_true rfl⟩) ⟨wr_blind, va_recv (ci := 0) (q0 := 0) hKc hPc rfl rfl, fun U hU hW => ⟨rfl, by rw [hU], by rw [hU]; exact hPc, va_K.moved hW.alike hKc, hDc.weaken (fun _ _ _ _ => trivial)⟩⟩ rfl rfl hl.1 rfl (lv_room (Nat.le_of_ble_eq_true rfl)) dL_law_581 ⟨show C + 0 ≤ 601024 by omega, show Sl + 0 ≤ 7293034 by omega⟩) hS (fun q _ h => hFc q h) hFc (fun r w t H1 locs ht hvm hw hB hz1 hk1 hS => ?_)
  obtain ⟨rfl, rfl⟩ := hw
  obtain ⟨hP1, hK1, hD1⟩ := hB
  rw [ht] at hP1
  obtain ⟨hP, hD⟩ := va_join (wr := (picR1 cI cJ h1 a1 o u th f)) (w1 := (pic0 cI h0 a0 (nxBegin u) on)) hP hD [0, 1, 2, 3, 4, 5, 6, 7] [8, 9, 10, 11, 12, 13, 14, 15] rfl rfl (by decide) (by decide) hk1 hFc hP1 hD1
  generalize H1 = H at hP hS ⊢
  have hP : va_P D vwCl (picW cI cJ h0 a0 h1 a1 o (nxBegin u) on u th f) H := hP.sub [8, 9, 10, 11, 12, 13, 14, 15, 0, 1, 2, 3, 4, 5, 6, 7] rfl
  have hD : va_D (fun q : Nat => s.heap.size ≤ q) (picW cI cJ h0 a0 h1 a1 o (nxBegin u) on u th f) := hD.sub [8, 9, 10, 11, 12, 13, 14, 15, 0, 1, 2, 3, 4, 5, 6, 7] (by decide) rfl
  refine lv_aload_n hx hb dL_law_584 rfl (lv_at hl 2 rfl) ?_
  have hPc := hP.sub (ws' := (pic1 cI h1 a1 u th)) [8, 9, 10, 11, 12, 13, 14] rfl
  have hDc := hD.sub (ws' := (pic1 cI h1 a1 u th)) [8, 9, 10, 11, 12, 13, 14] (by decide) rfl
  have hKc := hK.sub (tys' := [(cI, .int)]) [0] rfl
  have hFc := va_free (wc := (pic1 cI h1 a1 u th)) hD hS hA [8, 9, 10, 11, 12, 13, 14] rfl
  refine va_calli (va_runV (As := []) (rest := [.int (mAft u + nI 1)]) ⟨hx, hb, hml, hown, hts⟩ (c_X1_begin l D cI h1 a1 u th H.size  ) (cwV 0 hts gL_law_X1_begin rfl rfl rfl (by decide +kernel) ⟨Nat.le_of_ble_eq_true rfl, Nat.le_of_ble_eq_true rfl⟩) ⟨wr_blind, va_recv (ci := 1) (q0 := 0) hKc hPc rfl rfl, fun U hU hW => ⟨rfl, by rw [hU], by rw [hU]; exact hPc, va_K.moved hW.alike hKc, hDc.weaken (fun _ _ _ _ => trivial)⟩⟩ rfl rfl hl.1 rfl (lv_room (Nat.le_of_ble_eq_true rfl)) dL_law_585 ⟨show C + 0 ≤ 601024 by omega, show Sl + 0 ≤ 7293034 by omega⟩) hS (fun q _ h => hFc q h) hFc (fun r w t H1 locs ht hvm hw hB hz1 hk1 hS => ?_)
  obtain ⟨rfl, rfl⟩ := hw
  obtain ⟨hP1, hK1, hD1⟩ := hB
  rw [ht] at hP1
  obtain ⟨hP, hD⟩ := va_join (wr := (picL cI cJ h0 a0 o (nxBegin u) on f)) (w1 := (pic1 cI h1 a1 (nxBegin u) (nI 0))) hP hD [8, 9, 10, 11, 12, 13, 14] [0, 1, 2, 3, 4, 5, 6, 7, 15] rfl rfl (by decide) (by decide) hk1 hFc hP1 hD1
  generalize H1 = H at hP hS ⊢
  have hP : va_P D vwCl (picW cI cJ h0 a0 h1 a1 o (nxBegin u) on (nxBegin u) (nI 0) f) H := hP.sub [0, 1, 2, 3, 4, 5, 6, 7, 9, 10, 11, 12, 13, 14, 15, 8] rfl
  have hD : va_D (fun q : Nat => s.heap.size ≤ q) (picW cI cJ h0 a0 h1 a1 o (nxBegin u) on (nxBegin u) (nI 0) f) := hD.sub [0, 1, 2, 3, 4, 5, 6, 7, 9, 10, 11, 12, 13, 14, 15, 8] (by decide) rfl
  refine lv_icmp_eq (tgt := 1546) hx hb dL_law_588 (by decide) (fun c_588 => ?_) (fun c_588 => ?_)
  · skip
    refine W.widen (k := C + 1) (n := Sl + 13) (by omega) (by omega) ?_
    exact kk (nxBegin u) on (nI 0) f H _ _ ⟨inv_begin hI, hO, hP, hD, hS⟩ (lv_sub hl [0, 1, 2, 3, 4] rfl)
  · skip
    exact (c_588 rfl).elim
set_option maxHeartbeats 8000000 in
set_option maxRecDepth 100000 in
theorem lc_7 {p : Program} {l : Launch} {e : Env} {s : State} {m : MethodId} {below : List Frame} {meth : Method} {c : Code} {D : va_G} {cI cJ : ClassId} {b L h0 h1 o : Nat} {a0 a1 : Nat → Nat} {xs : Nat → Int32} (htr : l.stackTraces = false) (hL : L ≤ 2048) (C0 : lw_At p s m meth c b L xs) (hK : va_K D vwCl [(cI, .int), (cJ, .long)] s) (hE : tE (fun q : Nat => s.heap.size ≤ q) s) {i C Sl : Nat} (hi : i + 3 < L) (hC : C + 2 ≤ 601024) (hC2 : Sl + 20 ≤ 7293034) (kk : lwK p l e s m below meth c D cI cJ b h0 h1 o a0 a1 i (C + 1) (Sl + 13)) (u : MS) (on : Nat → Int32) (th : Int32) (f : Nat → Int64) (H : Heap) (locs : List Loc) (ls : Array Slot) (hw : lwI D cI cJ h0 h1 o a0 a1 s u on th f H locs) (hl : lv_has ls 9 [(0, .ref b), (1, .ref h0), (2, .ref h1), (3, .ref o), (4, .int (nI i))]) : W p l e room_1 s m #[Value.ref b] below meth c H locs C Sl (lw_Z below #[Value.ref b] s) (F0 m 593 ls []) := by
  obtain ⟨hx, hb, hr, hml, hown, hts0, hX, hbl, hlocks, hgv⟩ := id C0
  have hown : s.vm.findClass RL = some m.cls := hown
  have hts : ∀ w ∈ wsL_law, w.before #[Value.ref b] s = true := fun w h => hts0 w (wsL_law_in w h)
  have hA : ∀ q : Nat, s.heap.size ≤ q → (fun q : Nat => s.heap.size ≤ q) q := fun _ h => h
  have hbA : ¬ (fun q : Nat => s.heap.size ≤ q) b := Nat.not_le.mpr hbl
  obtain ⟨hI, hO, hP, hD, hS⟩ := hw
  refine lv_aload_n hx hb dL_law_593 rfl (lv_at hl 1 rfl) ?_
  refine vp_callSi (W.runV (As := []) (rest := []) ⟨hx, hb, hml, hown, hts⟩ (c_X0_afternoon l D cI h0 a0 u on ) (cwV 0 hts gL_law_X0_afternoon rfl rfl rfl (by decide +kernel) ⟨Nat.le_of_ble_eq_true rfl, Nat.le_of_ble_eq_true rfl⟩) (pu_pre (hK.sub (tys' := [(cI, .int)]) [0] rfl) (hP.sub (ws' := (pic0 cI h0 a0 u on)) [0, 1, 2, 3, 4, 5, 6, 7] rfl) rfl rfl) rfl rfl hl.1 rfl (lv_room (Nat.le_of_ble_eq_true rfl)) dL_law_594 ⟨show C + 0 ≤ 601024 by omega, show Sl + 0 ≤ 7293034 by omega⟩) (fun r hr9 => ?_)
  subst hr9
  refine lv_aload_n hx hb dL_law_597 rfl (lv_at hl 2 rfl) ?_
  have hPc := hP.sub (ws' := (pic1 cI h1 a1 u th)) [8, 9, 10, 11, 12, 13, 14] rfl
  have hDc := hD.sub (ws' := (pic1 cI h1 a1 u th)) [8, 9, 10, 11, 12, 13, 14] (by decide) rfl
  have hKc := hK.sub (tys' := [(cI, .int)]) [0] rfl
  have hFc := va_free (wc := (pic1 cI h1 a1 u th)) hD hS hA [8, 9, 10, 11, 12, 13, 14] rfl
  refine va_calli (va_runV (As := []) (rest := [.int (mAft u)]) ⟨hx, hb, hml, hown, hts⟩ (c_X1_afternoon l D cI h1 a1 u th H.size  ) (cwV 0 hts gL_law_X1_afternoon rfl rfl rfl (by decide +kernel) ⟨Nat.le_of_ble_eq_true rfl, Nat.le_of_ble_eq_true rfl⟩) ⟨wr_blind, va_recv (ci := 1) (q0 := 0) hKc hPc rfl rfl, fun U hU hW => ⟨rfl, by rw [hU], by rw [hU]; exact hPc, va_K.moved hW.alike hKc, hDc.weaken (fun _ _ _ _ => trivial)⟩⟩ rfl rfl hl.1 rfl (lv_room (Nat.le_of_ble_eq_true rfl)) dL_law_598 ⟨show C + 0 ≤ 601024 by omega, show Sl + 0 ≤ 7293034 by omega⟩) hS (fun q _ h => hFc q h) hFc (fun r w t H1 locs ht hvm hw hB hz1 hk1 hS => ?_)
  obtain ⟨rfl, rfl⟩ := hw
  obtain ⟨hP1, hK1, hD1⟩ := hB
  rw [ht] at hP1
  obtain ⟨hP, hD⟩ := va_join (wr := (picL cI cJ h0 a0 o u on f)) (w1 := (pic1 cI h1 a1 u (nI 0))) hP hD [8, 9, 10, 11, 12, 13, 14] [0, 1, 2, 3, 4, 5, 6, 7, 15] rfl rfl (by decide) (by decide) hk1 hFc hP1 hD1
  generalize H1 = H at hP hS ⊢
  have hP : va_P D vwCl (picW cI cJ h0 a0 h1 a1 o u on u (nI 0) f) H := hP.sub [0, 1, 2, 3, 4, 5, 6, 7, 9, 10, 11, 12, 13, 14, 15, 8] rfl
  have hD : va_D (fun q : Nat => s.heap.size ≤ q) (picW cI cJ h0 a0 h1 a1 o u on u (nI 0) f) := hD.sub [0, 1, 2, 3, 4, 5, 6, 7, 9, 10, 11, 12, 13, 14, 15, 8] (by decide) rfl
  refine lv_icmp_eq (tgt := 1546) hx hb dL_law_601 (by decide) (fun c_601 => ?_) (fun c_601 => ?_)
  · skip
    refine W.widen (k := C + 1) (n := Sl + 13) (by omega) (by omega) ?_
    exact kk u on (nI 0) f H _ _ ⟨hI, hO, hP, hD, hS⟩ (lv_sub hl [0, 1, 2, 3, 4] rfl)
  · skip
    exact (c_601 rfl).elim
set_option maxHeartbeats 8000000 in
set_option maxRecDepth 100000 in
theorem lc_8 {p : Program} {l : Launch} {e : Env} {s : State} {m : MethodId} {below : List Frame} {meth : Method} {c : Code} {D : va_G} {cI cJ : ClassId} {b L h0 h1 o : Nat} {a0 a1 : Nat → Nat} {xs : Nat → Int32} (htr : l.stackTraces = false) (hL : L ≤ 2048) (C0 : lw_At p s m meth c b L xs) (hK : va_K D vwCl [(cI, .int), (cJ, .long)] s) (hE : tE (fun q : Nat => s.heap.size ≤ q) s) {i C Sl : Nat} (hi : i + 3 < L) (hC : C + 2 ≤ 601024) (hC2 : Sl + 20 ≤ 7293034) (kk : lwK p l e s m below meth c D cI cJ b h0 h1 o a0 a1 i (C + 1) (Sl + 13)) (u : MS) (on : Nat → Int32) (th : Int32) (f : Nat → Int64) (H : Heap) (locs : List Loc) (ls : Array Slot) (hw : lwI D cI cJ h0 h1 o a0 a1 s u on th f H locs) (hl : lv_has ls 9 [(0, .ref b), (1, .ref h0), (2, .ref h1), (3, .ref o), (4, .int (nI i))]) : W p l e room_1 s m #[Value.ref b] below meth c H locs C Sl (lw_Z below #[Value.ref b] s) (F0 m 606 ls []) := by
  obtain ⟨hx, hb, hr, hml, hown, hts0, hX, hbl, hlocks, hgv⟩ := id C0
  have hown : s.vm.findClass RL = some m.cls := hown
  have hts : ∀ w ∈ wsL_law, w.before #[Value.ref b] s = true := fun w h => hts0 w (wsL_law_in w h)
  have hA : ∀ q : Nat, s.heap.size ≤ q → (fun q : Nat => s.heap.size ≤ q) q := fun _ h => h
  have hbA : ¬ (fun q : Nat => s.heap.size ≤ q) b := Nat.not_le.mpr hbl
  obtain ⟨hI, hO, hP, hD, hS⟩ := hw
  refine lv_aload_n hx hb dL_law_606 rfl (lv_at hl 1 rfl) ?_
  refine vp_callSi (W.runV (As := []) (rest := []) ⟨hx, hb, hml, hown, hts⟩ (c_X0_minute l D cI h0 a0 u on ) (cwV 0 hts gL_law_X0_minute rfl rfl rfl (by decide +kernel) ⟨Nat.le_of_ble_eq_true rfl, Nat.le_of_ble_eq_true rfl⟩) (pu_pre (hK.sub (tys' := [(cI, .int)]) [0] rfl) (hP.sub (ws' := (pic0 cI h0 a0 u on)) [0, 1, 2, 3, 4, 5, 6, 7] rfl) rfl rfl) rfl rfl hl.1 rfl (lv_room (Nat.le_of_ble_eq_true rfl)) dL_law_607 ⟨show C + 0 ≤ 601024 by omega, show Sl + 0 ≤ 7293034 by omega⟩) (fun r hr9 => ?_)
  subst hr9
  refine lv_aload_n hx hb dL_law_610 rfl (lv_at hl 2 rfl) ?_
  have hPc := hP.sub (ws' := (pic1 cI h1 a1 u th)) [8, 9, 10, 11, 12, 13, 14] rfl
  have hDc := hD.sub (ws' := (pic1 cI h1 a1 u th)) [8, 9, 10, 11, 12, 13, 14] (by decide) rfl
  have hKc := hK.sub (tys' := [(cI, .int)]) [0] rfl
  have hFc := va_free (wc := (pic1 cI h1 a1 u th)) hD hS hA [8, 9, 10, 11, 12, 13, 14] rfl
  refine va_calli (va_runV (As := []) (rest := [.int (nI (mNow u))]) ⟨hx, hb, hml, hown, hts⟩ (c_X1_minute l D cI h1 a1 u th H.size  ) (cwV 0 hts gL_law_X1_minute rfl rfl rfl (by decide +kernel) ⟨Nat.le_of_ble_eq_true rfl, Nat.le_of_ble_eq_true rfl⟩) ⟨wr_blind, va_recv (ci := 1) (q0 := 0) hKc hPc rfl rfl, fun U hU hW => ⟨rfl, by rw [hU], by rw [hU]; exact hPc, va_K.moved hW.alike hKc, hDc.weaken (fun _ _ _ _ => trivial)⟩⟩ rfl rfl hl.1 rfl (lv_room (Nat.le_of_ble_eq_true rfl)) dL_law_611 ⟨show C + 0 ≤ 601024 by omega, show Sl + 0 ≤ 7293034 by omega⟩) hS (fun q _ h => hFc q h) hFc (fun r w t H1 locs ht hvm hw hB hz1 hk1 hS => ?_)
  obtain ⟨rfl, rfl⟩ := hw
  obtain ⟨hP1, hK1, hD1⟩ := hB
  rw [ht] at hP1
  obtain ⟨hP, hD⟩ := va_join (wr := (picL cI cJ h0 a0 o u on f)) (w1 := (pic1 cI h1 a1 u (nI 0))) hP hD [8, 9, 10, 11, 12, 13, 14] [0, 1, 2, 3, 4, 5, 6, 7, 15] rfl rfl (by decide) (by decide) hk1 hFc hP1 hD1
  generalize H1 = H at hP hS ⊢
  have hP : va_P D vwCl (picW cI cJ h0 a0 h1 a1 o u on u (nI 0) f) H := hP.sub [0, 1, 2, 3, 4, 5, 6, 7, 9, 10, 11, 12, 13, 14, 15, 8] rfl
  have hD : va_D (fun q : Nat => s.heap.size ≤ q) (picW cI cJ h0 a0 h1 a1 o u on u (nI 0) f) := hD.sub [0, 1, 2, 3, 4, 5, 6, 7, 9, 10, 11, 12, 13, 14, 15, 8] (by decide) rfl
  refine lv_icmp_eq (tgt := 1546) hx hb dL_law_614 (by decide) (fun c_614 => ?_) (fun c_614 => ?_)
  · skip
    refine W.widen (k := C + 1) (n := Sl + 13) (by omega) (by omega) ?_
    exact kk u on (nI 0) f H _ _ ⟨hI, hO, hP, hD, hS⟩ (lv_sub hl [0, 1, 2, 3, 4] rfl)
  · skip
    exact (c_614 rfl).elim
set_option maxHeartbeats 8000000 in
set_option maxRecDepth 100000 in
theorem lc_9 {p : Program} {l : Launch} {e : Env} {s : State} {m : MethodId} {below : List Frame} {meth : Method} {c : Code} {D : va_G} {cI cJ : ClassId} {b L h0 h1 o : Nat} {a0 a1 : Nat → Nat} {xs : Nat → Int32} (htr : l.stackTraces = false) (hL : L ≤ 2048) (C0 : lw_At p s m meth c b L xs) (hK : va_K D vwCl [(cI, .int), (cJ, .long)] s) (hE : tE (fun q : Nat => s.heap.size ≤ q) s) {i C Sl : Nat} (hi : i + 3 < L) (hC : C + 2 ≤ 601024) (hC2 : Sl + 20 ≤ 7293034) (kk : lwK p l e s m below meth c D cI cJ b h0 h1 o a0 a1 i (C + 1) (Sl + 13)) (u : MS) (on : Nat → Int32) (th : Int32) (f : Nat → Int64) (H : Heap) (locs : List Loc) (ls : Array Slot) (hw : lwI D cI cJ h0 h1 o a0 a1 s u on th f H locs) (hl : lv_has ls 9 [(0, .ref b), (1, .ref h0), (2, .ref h1), (3, .ref o), (4, .int (nI i))]) : W p l e room_1 s m #[Value.ref b] below meth c H locs C Sl (lw_Z below #[Value.ref b] s) (F0 m 619 ls []) := by
  obtain ⟨hx, hb, hr, hml, hown, hts0, hX, hbl, hlocks, hgv⟩ := id C0
  have hown : s.vm.findClass RL = some m.cls := hown
  have hts : ∀ w ∈ wsL_law, w.before #[Value.ref b] s = true := fun w h => hts0 w (wsL_law_in w h)
  have hA : ∀ q : Nat, s.heap.size ≤ q → (fun q : Nat => s.heap.size ≤ q) q := fun _ h => h
  have hbA : ¬ (fun q : Nat => s.heap.size ≤ q) b := Nat.not_le.mpr hbl
  obtain ⟨hI, hO, hP, hD, hS⟩ := hw
  refine lv_aload_n hx hb dL_law_619 rfl (lv_at hl 1 rfl) ?_
  refine lv_aload_n hx hb dL_law_620 rfl (lv_at hl 0 rfl) ?_
  refine lv_iload hx hb dL_law_621 (lv_at hl 4 rfl) ?_
  refine lv_iconst (v := nI 1) hx hb dL_law_623 (by decide +kernel) ?_
  refine q_iaddN hx hb dL_law_624 ?_
  refine q_sld hx hb hX hbl hbA hS (k := i + 1) (by omega) (by omega) dL_law_625 ?_
  refine lv_aload_n hx hb dL_law_626 rfl (lv_at hl 3 rfl) ?_
  have hPc := hP.sub (ws' := (picL cI cJ h0 a0 o u on f)) [0, 1, 2, 3, 4, 5, 6, 7, 15] rfl
  have hDc := hD.sub (ws' := (picL cI cJ h0 a0 o u on f)) [0, 1, 2, 3, 4, 5, 6, 7, 15] (by decide) rfl
  have hFc := va_free (wc := (picL cI cJ h0 a0 o u on f)) hD hS hA [0, 1, 2, 3, 4, 5, 6, 7, 15] rfl
  refine va_calli (vx_runSW (As := [.ref h0, .int (xs (i + 1)), .ref o]) (rest := []) ⟨hx, hb, hml, hown, hts⟩ (c_L_isAsleep l htr D cI cJ h0 a0 o u on f H.size (xs (i + 1)) hI hO) (vx_cwSW 3 hts gL_law_L_isAsleep rfl rfl rfl (by decide +kernel) ⟨Nat.le_of_ble_eq_true rfl, Nat.le_of_ble_eq_true rfl⟩) ⟨lh_blind, fun U hU hW => ⟨rfl, by rw [hU], by rw [hU]; exact hPc, va_K.moved hW.alike hK, hDc.weaken (fun _ _ _ _ => trivial), hE.go hS hW hU (fun q h9 => hFc q h9)⟩⟩ rfl rfl hl.1 rfl (lv_room (Nat.le_of_ble_eq_true rfl)) dL_law_627 ⟨show C + 1 ≤ 601024 by omega, show Sl + 6 ≤ 7293034 by omega⟩) hS (fun q _ h => hFc q h) hFc (fun r w t H1 locs ht hvm hw hB hz1 hk1 hS => ?_)
  obtain ⟨u2, on2, f2⟩ := w
  obtain ⟨eu, hO2, er, hv⟩ := hw
  have eu : u = u2 := Eq.symm eu
  have er : r = kdI (xs (i + 1)) 360 := er
  have hv9 : kdI (xs (i + 1)) 360 = nI 0 → f2 0 = Int32.toInt64 (bI (decide (0 < cN u (tn (xs (i + 1)))))) := hv
  have hO2 : InvO u2 on2 := hO2
  subst eu
  subst er
  obtain ⟨hP1, hK1, hD1⟩ := hB
  rw [ht] at hP1
  obtain ⟨hP, hD⟩ := va_join (wr := (pic1 cI h1 a1 u th)) (w1 := (picL cI cJ h0 a0 o u on2 f2)) hP hD [0, 1, 2, 3, 4, 5, 6, 7, 15] [8, 9, 10, 11, 12, 13, 14] rfl rfl (by decide) (by decide) hk1 hFc hP1 hD1
  generalize H1 = H at hP hS ⊢
  have hP : va_P D vwCl (picW cI cJ h0 a0 h1 a1 o u on2 u th f2) H := hP.sub [7, 8, 9, 10, 11, 12, 13, 14, 0, 1, 2, 3, 4, 5, 6, 15] rfl
  have hD : va_D (fun q : Nat => s.heap.size ≤ q) (picW cI cJ h0 a0 h1 a1 o u on2 u th f2) := hD.sub [7, 8, 9, 10, 11, 12, 13, 14, 0, 1, 2, 3, 4, 5, 6, 15] (by decide) rfl
  refine lv_istore (lv' := [(5, .int (kdI (xs (i + 1)) 360)), (0, .ref b), (1, .ref h0), (2, .ref h1), (3, .ref o), (4, .int (nI i))]) hx hb dL_law_630 hl (by decide) rfl (fun ls hl => ?_)
  refine lv_aload_n hx hb dL_law_632 rfl (lv_at hl 3 rfl) ?_
  refine lv_aload_n hx hb dL_law_633 rfl (lv_at hl 1 rfl) ?_
  refine lv_iload hx hb dL_law_634 (lv_at hl 5 rfl) ?_
  refine lv_iconst (v := nI 1) hx hb dL_law_636 (by decide +kernel) ?_
  refine q_iaddN hx hb dL_law_637 ?_
  refine q_sld hx hb hX hbl hbA hS (k := i + 1) (by omega) (by omega) dL_law_638 ?_
  have hPc := hP.sub (ws' := (pic1 cI h1 a1 u th)) [8, 9, 10, 11, 12, 13, 14] rfl
  have hDc := hD.sub (ws' := (pic1 cI h1 a1 u th)) [8, 9, 10, 11, 12, 13, 14] (by decide) rfl
  have hKc := hK.sub (tys' := [(cI, .int)]) [0] rfl
  have hFc := va_free (wc := (pic1 cI h1 a1 u th)) hD hS hA [8, 9, 10, 11, 12, 13, 14] rfl
  refine va_calli (va_runV (As := [.int (xs (i + 1))]) (rest := []) ⟨hx, hb, hml, hown, hts⟩ (c_X1_isAsleep l D cI h1 a1 u th H.size (xs (i + 1)) hI) (cwV 1 hts gL_law_X1_isAsleep rfl rfl rfl (by decide +kernel) ⟨Nat.le_of_ble_eq_true rfl, Nat.le_of_ble_eq_true rfl⟩) ⟨wr_blind, va_recv (ci := 1) (q0 := 0) hKc hPc rfl rfl, fun U hU hW => ⟨rfl, by rw [hU], by rw [hU]; exact hPc, va_K.moved hW.alike hKc, hDc.weaken (fun _ _ _ _ => trivial)⟩⟩ rfl rfl hl.1 rfl (lv_room (Nat.le_of_ble_eq_true rfl)) dL_law_639 ⟨show C + 1 + 0 ≤ 601024 by omega, show Sl + 6 + 0 ≤ 7293034 by omega⟩) hS (fun q _ h => hFc q h) hFc (fun r w t H1 locs ht hvm hw hB hz1 hk1 hS => ?_)
  obtain ⟨hw1, hv2⟩ := hw
  subst hw1
  have hv2 : kdI (xs (i + 1)) 360 = nI 0 → r = bI (decide (0 < cN u (tn (xs (i + 1))))) := hv2
  obtain ⟨r2, hr2⟩ : ∃ z, z = r := ⟨_, rfl⟩
  subst hr2
  have hv2 : kdI (xs (i + 1)) 360 = nI 0 → r2 = bI (decide (0 < cN u (tn (xs (i + 1))))) := hv2
  obtain ⟨hP1, hK1, hD1⟩ := hB
  rw [ht] at hP1
  obtain ⟨hP, hD⟩ := va_join (wr := (picL cI cJ h0 a0 o u on2 f2)) (w1 := (pic1 cI h1 a1 u (kdI (xs (i + 1)) 360))) hP hD [8, 9, 10, 11, 12, 13, 14] [0, 1, 2, 3, 4, 5, 6, 7, 15] rfl rfl (by decide) (by decide) hk1 hFc hP1 hD1
  generalize H1 = H at hP hS ⊢
  have hP : va_P D vwCl (picW cI cJ h0 a0 h1 a1 o u on2 u (kdI (xs (i + 1)) 360) f2) H := hP.sub [0, 1, 2, 3, 4, 5, 6, 7, 9, 10, 11, 12, 13, 14, 15, 8] rfl
  have hD : va_D (fun q : Nat => s.heap.size ≤ q) (picW cI cJ h0 a0 h1 a1 o u on2 u (kdI (xs (i + 1)) 360) f2) := hD.sub [0, 1, 2, 3, 4, 5, 6, 7, 9, 10, 11, 12, 13, 14, 15, 8] (by decide) rfl
  refine lv_istore (lv' := [(6, .int r2), (5, .int (kdI (xs (i + 1)) 360)), (0, .ref b), (1, .ref h0), (2, .ref h1), (3, .ref o), (4, .int (nI i))]) hx hb dL_law_642 hl (by decide) rfl (fun ls hl => ?_)
  refine lv_aload_n hx hb dL_law_644 rfl (lv_at hl 4 rfl) ?_
  refine vp_callSi (W.runV (As := []) (rest := []) ⟨hx, hb, hml, hown, hts⟩ (c_X1_thrown l D cI h1 a1 u (kdI (xs (i + 1)) 360) ) (cwV 0 hts gL_law_X1_thrown rfl rfl rfl (by decide +kernel) ⟨Nat.le_of_ble_eq_true rfl, Nat.le_of_ble_eq_true rfl⟩) (pu_pre (hK.sub (tys' := [(cI, .int)]) [0] rfl) (hP.sub (ws' := (pic1 cI h1 a1 u (kdI (xs (i + 1)) 360))) [8, 9, 10, 11, 12, 13, 14] rfl) rfl rfl) rfl rfl hl.1 rfl (lv_room (Nat.le_of_ble_eq_true rfl)) dL_law_645 ⟨show C + 1 + 0 ≤ 601024 by omega, show Sl + 6 + 0 ≤ 7293034 by omega⟩) (fun r hr9 => ?_)
  subst hr9
  refine lv_iload hx hb dL_law_648 (lv_at hl 1 rfl) ?_
  refine lv_icmp_eq (tgt := 655) hx hb dL_law_650 (by decide) (fun c_650 => ?_) (fun c_650 => ?_)
  · skip
    refine lv_iload hx hb dL_law_655 (lv_at hl 1 rfl) ?_
    refine lv_if_ne (tgt := 679) hx hb dL_law_657 (by decide) (fun c_657 => ?_) (fun c_657 => ?_)
    · skip
      refine lv_goto (tgt := 1546) hx hb dL_law_679 (by decide) ?_
      refine W.widen (k := C + 1) (n := Sl + 13) (by omega) (by omega) ?_
      exact kk u on2 (kdI (xs (i + 1)) 360) f2 H _ _ ⟨hI, hO2, hP, hD, hS⟩ (lv_sub hl [2, 3, 4, 5, 6] rfl)
    · skip
      have ex9 := hv9 c_657
      have hr2 := hv2 c_657
      refine lv_aload_n hx hb dL_law_660 rfl (lv_at hl 5 rfl) ?_
      refine lv_iconst (v := nI 0) hx hb dL_law_661 (by decide +kernel) ?_
      refine q_lald hx hb hK hP 15 1 rfl rfl (by omega) (by decide) dL_law_662 ?_
      refine lv_iload hx hb dL_law_663 (lv_at hl 0 rfl) ?_
      refine lv_if_eq (tgt := 672) hx hb dL_law_665 (by decide) (fun c_665 => ?_) (fun c_665 => ?_)
      · skip
        refine lv_lconst (v := 0) hx hb dL_law_672 (by decide +kernel) ?_
        refine W.lcmp hx hb dL_law_673 ?_
        refine lv_if_eq (tgt := 679) hx hb dL_law_674 (by decide) (fun c_674 => ?_) (fun c_674 => ?_)
        · skip
          refine lv_goto (tgt := 1546) hx hb dL_law_679 (by decide) ?_
          refine W.widen (k := C + 1) (n := Sl + 13) (by omega) (by omega) ?_
          exact kk u on2 (kdI (xs (i + 1)) 360) f2 H _ _ ⟨hI, hO2, hP, hD, hS⟩ (lv_sub hl [2, 3, 4, 5, 6] rfl)
        · skip
          exact (c_674 (by rw [ex9, bI_eq0 (hr2.symm.trans c_665)]; decide +kernel)).elim
      · skip
        refine lv_lconst (v := 1) hx hb dL_law_668 (by decide +kernel) ?_
        refine lv_goto (tgt := 673) hx hb dL_law_669 (by decide) ?_
        refine W.lcmp hx hb dL_law_673 ?_
        refine lv_if_eq (tgt := 679) hx hb dL_law_674 (by decide) (fun c_674 => ?_) (fun c_674 => ?_)
        · skip
          refine lv_goto (tgt := 1546) hx hb dL_law_679 (by decide) ?_
          refine W.widen (k := C + 1) (n := Sl + 13) (by omega) (by omega) ?_
          exact kk u on2 (kdI (xs (i + 1)) 360) f2 H _ _ ⟨hI, hO2, hP, hD, hS⟩ (lv_sub hl [2, 3, 4, 5, 6] rfl)
        · skip
          exact (c_674 (by rw [ex9, bI_ne0 (fun z => c_665 (hr2.trans z))]; decide +kernel)).elim
  · skip
    exact (c_650 rfl).elim
set_option maxHeartbeats 8000000 in
set_option maxRecDepth 100000 in
theorem lc_10 {p : Program} {l : Launch} {e : Env} {s : State} {m : MethodId} {below : List Frame} {meth : Method} {c : Code} {D : va_G} {cI cJ : ClassId} {b L h0 h1 o : Nat} {a0 a1 : Nat → Nat} {xs : Nat → Int32} (htr : l.stackTraces = false) (hL : L ≤ 2048) (C0 : lw_At p s m meth c b L xs) (hK : va_K D vwCl [(cI, .int), (cJ, .long)] s) (hE : tE (fun q : Nat => s.heap.size ≤ q) s) {i C Sl : Nat} (hi : i + 3 < L) (hC : C + 2 ≤ 601024) (hC2 : Sl + 20 ≤ 7293034) (kk : lwK p l e s m below meth c D cI cJ b h0 h1 o a0 a1 i (C + 1) (Sl + 13)) (u : MS) (on : Nat → Int32) (th : Int32) (f : Nat → Int64) (H : Heap) (locs : List Loc) (ls : Array Slot) (hw : lwI D cI cJ h0 h1 o a0 a1 s u on th f H locs) (hl : lv_has ls 9 [(0, .ref b), (1, .ref h0), (2, .ref h1), (3, .ref o), (4, .int (nI i))]) : W p l e room_1 s m #[Value.ref b] below meth c H locs C Sl (lw_Z below #[Value.ref b] s) (F0 m 682 ls []) := by
  obtain ⟨hx, hb, hr, hml, hown, hts0, hX, hbl, hlocks, hgv⟩ := id C0
  have hown : s.vm.findClass RL = some m.cls := hown
  have hts : ∀ w ∈ wsL_law, w.before #[Value.ref b] s = true := fun w h => hts0 w (wsL_law_in w h)
  have hA : ∀ q : Nat, s.heap.size ≤ q → (fun q : Nat => s.heap.size ≤ q) q := fun _ h => h
  have hbA : ¬ (fun q : Nat => s.heap.size ≤ q) b := Nat.not_le.mpr hbl
  obtain ⟨hI, hO, hP, hD, hS⟩ := hw
  refine lv_aload_n hx hb dL_law_682 rfl (lv_at hl 1 rfl) ?_
  refine vp_callSi (W.runV (As := []) (rest := []) ⟨hx, hb, hml, hown, hts⟩ (c_X0_awakeMinutes l D cI h0 a0 u on hI) (cwV 0 hts gL_law_X0_awakeMinutes rfl rfl rfl (by decide +kernel) ⟨Nat.le_of_ble_eq_true rfl, Nat.le_of_ble_eq_true rfl⟩) (pu_pre (hK.sub (tys' := [(cI, .int)]) [0] rfl) (hP.sub (ws' := (pic0 cI h0 a0 u on)) [0, 1, 2, 3, 4, 5, 6, 7] rfl) rfl rfl) rfl rfl hl.1 rfl (lv_room (Nat.le_of_ble_eq_true rfl)) dL_law_683 ⟨show C + 0 ≤ 601024 by omega, show Sl + 0 ≤ 7293034 by omega⟩) (fun r hr9 => ?_)
  subst hr9
  refine lv_aload_n hx hb dL_law_686 rfl (lv_at hl 2 rfl) ?_
  have hPc := hP.sub (ws' := (pic1 cI h1 a1 u th)) [8, 9, 10, 11, 12, 13, 14] rfl
  have hDc := hD.sub (ws' := (pic1 cI h1 a1 u th)) [8, 9, 10, 11, 12, 13, 14] (by decide) rfl
  have hKc := hK.sub (tys' := [(cI, .int)]) [0] rfl
  have hFc := va_free (wc := (pic1 cI h1 a1 u th)) hD hS hA [8, 9, 10, 11, 12, 13, 14] rfl
  refine va_calli (va_runV (As := []) (rest := [.int (fAw u)]) ⟨hx, hb, hml, hown, hts⟩ (c_X1_awakeMinutes l D cI h1 a1 u th H.size  hI) (cwV 0 hts gL_law_X1_awakeMinutes rfl rfl rfl (by decide +kernel) ⟨Nat.le_of_ble_eq_true rfl, Nat.le_of_ble_eq_true rfl⟩) ⟨wr_blind, va_recv (ci := 1) (q0 := 0) hKc hPc rfl rfl, fun U hU hW => ⟨rfl, by rw [hU], by rw [hU]; exact hPc, va_K.moved hW.alike hKc, hDc.weaken (fun _ _ _ _ => trivial)⟩⟩ rfl rfl hl.1 rfl (lv_room (Nat.le_of_ble_eq_true rfl)) dL_law_687 ⟨show C + 0 ≤ 601024 by omega, show Sl + 0 ≤ 7293034 by omega⟩) hS (fun q _ h => hFc q h) hFc (fun r w t H1 locs ht hvm hw hB hz1 hk1 hS => ?_)
  obtain ⟨rfl, rfl⟩ := hw
  obtain ⟨hP1, hK1, hD1⟩ := hB
  rw [ht] at hP1
  obtain ⟨hP, hD⟩ := va_join (wr := (picL cI cJ h0 a0 o u on f)) (w1 := (pic1 cI h1 a1 u (nI 0))) hP hD [8, 9, 10, 11, 12, 13, 14] [0, 1, 2, 3, 4, 5, 6, 7, 15] rfl rfl (by decide) (by decide) hk1 hFc hP1 hD1
  generalize H1 = H at hP hS ⊢
  have hP : va_P D vwCl (picW cI cJ h0 a0 h1 a1 o u on u (nI 0) f) H := hP.sub [0, 1, 2, 3, 4, 5, 6, 7, 9, 10, 11, 12, 13, 14, 15, 8] rfl
  have hD : va_D (fun q : Nat => s.heap.size ≤ q) (picW cI cJ h0 a0 h1 a1 o u on u (nI 0) f) := hD.sub [0, 1, 2, 3, 4, 5, 6, 7, 9, 10, 11, 12, 13, 14, 15, 8] (by decide) rfl
  refine lv_icmp_eq (tgt := 1546) hx hb dL_law_690 (by decide) (fun c_690 => ?_) (fun c_690 => ?_)
  · skip
    refine W.widen (k := C + 1) (n := Sl + 13) (by omega) (by omega) ?_
    exact kk u on (nI 0) f H _ _ ⟨hI, hO, hP, hD, hS⟩ (lv_sub hl [0, 1, 2, 3, 4] rfl)
  · skip
    exact (c_690 rfl).elim
set_option maxHeartbeats 8000000 in
set_option maxRecDepth 100000 in
theorem lc_11 {p : Program} {l : Launch} {e : Env} {s : State} {m : MethodId} {below : List Frame} {meth : Method} {c : Code} {D : va_G} {cI cJ : ClassId} {b L h0 h1 o : Nat} {a0 a1 : Nat → Nat} {xs : Nat → Int32} (htr : l.stackTraces = false) (hL : L ≤ 2048) (C0 : lw_At p s m meth c b L xs) (hK : va_K D vwCl [(cI, .int), (cJ, .long)] s) (hE : tE (fun q : Nat => s.heap.size ≤ q) s) {i C Sl : Nat} (hi : i + 3 < L) (hC : C + 2 ≤ 601024) (hC2 : Sl + 20 ≤ 7293034) (kk : lwK p l e s m below meth c D cI cJ b h0 h1 o a0 a1 i (C + 1) (Sl + 13)) (u : MS) (on : Nat → Int32) (th : Int32) (f : Nat → Int64) (H : Heap) (locs : List Loc) (ls : Array Slot) (hw : lwI D cI cJ h0 h1 o a0 a1 s u on th f H locs) (hl : lv_has ls 9 [(0, .ref b), (1, .ref h0), (2, .ref h1), (3, .ref o), (4, .int (nI i))]) : W p l e room_1 s m #[Value.ref b] below meth c H locs C Sl (lw_Z below #[Value.ref b] s) (F0 m 695 ls []) := by
  obtain ⟨hx, hb, hr, hml, hown, hts0, hX, hbl, hlocks, hgv⟩ := id C0
  have hown : s.vm.findClass RL = some m.cls := hown
  have hts : ∀ w ∈ wsL_law, w.before #[Value.ref b] s = true := fun w h => hts0 w (wsL_law_in w h)
  have hA : ∀ q : Nat, s.heap.size ≤ q → (fun q : Nat => s.heap.size ≤ q) q := fun _ h => h
  have hbA : ¬ (fun q : Nat => s.heap.size ≤ q) b := Nat.not_le.mpr hbl
  obtain ⟨hI, hO, hP, hD, hS⟩ := hw
  refine lv_aload_n hx hb dL_law_695 rfl (lv_at hl 1 rfl) ?_
  refine vp_callSi (W.runV (As := []) (rest := []) ⟨hx, hb, hml, hown, hts⟩ (c_X0_sleptMinutes l D cI h0 a0 u on hI) (cwV 0 hts gL_law_X0_sleptMinutes rfl rfl rfl (by decide +kernel) ⟨Nat.le_of_ble_eq_true rfl, Nat.le_of_ble_eq_true rfl⟩) (pu_pre (hK.sub (tys' := [(cI, .int)]) [0] rfl) (hP.sub (ws' := (pic0 cI h0 a0 u on)) [0, 1, 2, 3, 4, 5, 6, 7] rfl) rfl rfl) rfl rfl hl.1 rfl (lv_room (Nat.le_of_ble_eq_true rfl)) dL_law_696 ⟨show C + 0 ≤ 601024 by omega, show Sl + 0 ≤ 7293034 by omega⟩) (fun r hr9 => ?_)
  subst hr9
  refine lv_aload_n hx hb dL_law_699 rfl (lv_at hl 2 rfl) ?_
  have hPc := hP.sub (ws' := (pic1 cI h1 a1 u th)) [8, 9, 10, 11, 12, 13, 14] rfl
  have hDc := hD.sub (ws' := (pic1 cI h1 a1 u th)) [8, 9, 10, 11, 12, 13, 14] (by decide) rfl
  have hKc := hK.sub (tys' := [(cI, .int)]) [0] rfl
  have hFc := va_free (wc := (pic1 cI h1 a1 u th)) hD hS hA [8, 9, 10, 11, 12, 13, 14] rfl
  refine va_calli (va_runV (As := []) (rest := [.int (nI (mNow u) - fAw u)]) ⟨hx, hb, hml, hown, hts⟩ (c_X1_sleptMinutes l D cI h1 a1 u th H.size  hI) (cwV 0 hts gL_law_X1_sleptMinutes rfl rfl rfl (by decide +kernel) ⟨Nat.le_of_ble_eq_true rfl, Nat.le_of_ble_eq_true rfl⟩) ⟨wr_blind, va_recv (ci := 1) (q0 := 0) hKc hPc rfl rfl, fun U hU hW => ⟨rfl, by rw [hU], by rw [hU]; exact hPc, va_K.moved hW.alike hKc, hDc.weaken (fun _ _ _ _ => trivial)⟩⟩ rfl rfl hl.1 rfl (lv_room (Nat.le_of_ble_eq_true rfl)) dL_law_700 ⟨show C + 0 ≤ 601024 by omega, show Sl + 0 ≤ 7293034 by omega⟩) hS (fun q _ h => hFc q h) hFc (fun r w t H1 locs ht hvm hw hB hz1 hk1 hS => ?_)
  obtain ⟨rfl, rfl⟩ := hw
  obtain ⟨hP1, hK1, hD1⟩ := hB
  rw [ht] at hP1
  obtain ⟨hP, hD⟩ := va_join (wr := (picL cI cJ h0 a0 o u on f)) (w1 := (pic1 cI h1 a1 u (nI 0))) hP hD [8, 9, 10, 11, 12, 13, 14] [0, 1, 2, 3, 4, 5, 6, 7, 15] rfl rfl (by decide) (by decide) hk1 hFc hP1 hD1
  generalize H1 = H at hP hS ⊢
  have hP : va_P D vwCl (picW cI cJ h0 a0 h1 a1 o u on u (nI 0) f) H := hP.sub [0, 1, 2, 3, 4, 5, 6, 7, 9, 10, 11, 12, 13, 14, 15, 8] rfl
  have hD : va_D (fun q : Nat => s.heap.size ≤ q) (picW cI cJ h0 a0 h1 a1 o u on u (nI 0) f) := hD.sub [0, 1, 2, 3, 4, 5, 6, 7, 9, 10, 11, 12, 13, 14, 15, 8] (by decide) rfl
  refine lv_icmp_eq (tgt := 1546) hx hb dL_law_703 (by decide) (fun c_703 => ?_) (fun c_703 => ?_)
  · skip
    refine W.widen (k := C + 1) (n := Sl + 13) (by omega) (by omega) ?_
    exact kk u on (nI 0) f H _ _ ⟨hI, hO, hP, hD, hS⟩ (lv_sub hl [0, 1, 2, 3, 4] rfl)
  · skip
    exact (c_703 rfl).elim
