/-! THE LAW'S LOOP -/
theorem flags_tr {l : Launch} (h : l.flags = flags0) : l.stackTraces = false := by
  unfold Launch.stackTraces
  rw [h]
  decide +kernel
set_option maxHeartbeats 8000000 in
set_option maxRecDepth 100000 in
theorem law_loop {p : Program} {l : Launch} {e : Env} {s : State} {m : MethodId} {below : List Frame} {meth : Method} {c : Code} {D : va_G} {cI cJ : ClassId} {b L h0 h1 o : Nat} {a0 a1 : Nat → Nat} {xs : Nat → Int32} (htr : l.stackTraces = false) (hL : L ≤ 2048) (C0 : lw_At p s m meth c b L xs) (hK : va_K D vwCl [(cI, .int), (cJ, .long)] s) (hE : tE (fun q : Nat => s.heap.size ≤ q) s) :
    ∀ (n i C Sl : Nat), i ≤ L + 4 → L + 8 ≤ i + n → C ≤ 100 + i → Sl ≤ 4000 + 13 * i → ∀ (u : MS) (on : Nat → Int32) (th : Int32) (f : Nat → Int64) (H : Heap) (locs : List Loc) (ls : Array Slot), lwI D cI cJ h0 h1 o a0 a1 s u on th f H locs → lv_has ls 9 [(0, .ref b), (1, .ref h0), (2, .ref h1), (3, .ref o), (4, .int (nI i))] → W p l e room_1 s m #[Value.ref b] below meth c H locs C Sl (lw_Z below #[Value.ref b] s) (F0 m 23 ls []) := by
  obtain ⟨hx, hb, hr, hml, hown, hts0, hX, hbl, hlocks, hgv⟩ := id C0
  have hbA : ¬ (fun q : Nat => s.heap.size ≤ q) b := Nat.not_le.mpr hbl
  intro n
  induction n with
  | zero =>
    intro i C Sl h1 h2
    exact absurd h2 (by omega)
  | succ n ih =>
    intro i C Sl hi1 hi2 hC1 hS1 u on th f H locs ls hw hl
    obtain ⟨hI, hO, hP, hD, hS⟩ := id hw
    refine lv_iload hx hb dL_law_23 (lv_at hl 4 rfl) ?_
    refine lv_aload_n hx hb dL_law_25 rfl (lv_at hl 0 rfl) ?_
    refine va_slen hx hb hX hbl hbA hS dL_law_26 ?_
    refine lv_iconst (v := nI 4) hx hb dL_law_27 (by decide +kernel) ?_
    refine lv_isub hx hb dL_law_28 ?_
    refine lv_icmp_gt (tgt := 1552) hx hb dL_law_29 (by decide) (fun c_29 => ?_) (fun c_29 => ?_)
    · refine lv_iconst (v := 1) hx hb dL_law_1552 (by decide +kernel) ?_
      refine va_forget (fun q hq => hS.2.2 q hq) ?_
      refine W.widen (k := 601024) (n := 7293034) (by omega) (by omega) ?_
      exact W.base (lw_ret (d0 := s.drawn) (Drawn.sameBut.refl s.drawn lw_cs) hx hb hr hlocks dL_law_1553)
    · have hi : i + 3 < L := by
        have h9 : ¬ (nI L - nI 4 < nI i) := c_29
        rw [Int32.lt_iff_toInt_lt, pk_sub_toInt (by omega) (by omega), nI_toInt (by omega)] at h9
        omega
      refine lv_aload_n hx hb dL_law_32 rfl (lv_at hl 0 rfl) ?_
      refine lv_iload hx hb dL_law_33 (lv_at hl 4 rfl) ?_
      refine q_sld hx hb hX hbl hbA hS (k := i) (by omega) (by omega) dL_law_35 ?_
      refine lv_bipush (v := nI 63) hx hb dL_law_36 (by decide +kernel) ?_
      refine lv_iand hx hb dL_law_38 ?_
      obtain ⟨j, hj, ej⟩ := pk_andE (xs i) (m := nI 63) 6 (by decide +kernel)
      rw [ej]
      have kk : lwK p l e s m below meth c D cI cJ b h0 h1 o a0 a1 i (C + 1) (Sl + 13) := by
        intro u on th f H locs ls hw hl
        refine lv_iinc (v := nI (i + 4)) (lv' := [(4, .int (nI (i + 4))), (0, .ref b), (1, .ref h0), (2, .ref h1), (3, .ref o)]) hx hb dL_law_1546 hl (k := 4) rfl (by rw [show Int32.ofInt 4 = nI 4 from by decide +kernel]; exact nI_add i 4) (by decide) rfl (fun ls hl => ?_)
        refine lv_goto (tgt := 23) hx hb dL_law_1549 (by decide) ?_
        exact ih (i + 4) (C + 1) (Sl + 13) (by omega) (by omega) (by omega) (by omega) u on th f H locs ls hw (lv_sub hl [1, 2, 3, 4, 0] rfl)
      have hC : C + 2 ≤ 601024 := by omega
      have hC2 : Sl + 20 ≤ 7293034 := by omega
      by_cases h36 : j < 36
      · match j, h36 with
        | 0, _ =>
          refine lv_tableIn (off := 157) (tgt := 196) hx hb dL_law_39 (by decide +kernel) (by decide +kernel) (by decide +kernel) (by decide) ?_
          exact lc_0 htr hL C0 hK hE hi hC hC2 kk u on th f H locs ls hw hl
        | 1, _ =>
          refine lv_tableIn (off := 213) (tgt := 252) hx hb dL_law_39 (by decide +kernel) (by decide +kernel) (by decide +kernel) (by decide) ?_
          exact lc_1 htr hL C0 hK hE hi hC hC2 kk u on th f H locs ls hw hl
        | 2, _ =>
          refine lv_tableIn (off := 281) (tgt := 320) hx hb dL_law_39 (by decide +kernel) (by decide +kernel) (by decide +kernel) (by decide) ?_
          exact lc_2 htr hL C0 hK hE hi hC hC2 kk u on th f H locs ls hw hl
        | 3, _ =>
          refine lv_tableIn (off := 337) (tgt := 376) hx hb dL_law_39 (by decide +kernel) (by decide +kernel) (by decide +kernel) (by decide) ?_
          exact lc_3 htr hL C0 hK hE hi hC hC2 kk u on th f H locs ls hw hl
        | 4, _ =>
          refine lv_tableIn (off := 405) (tgt := 444) hx hb dL_law_39 (by decide +kernel) (by decide +kernel) (by decide +kernel) (by decide) ?_
          exact lc_4 htr hL C0 hK hE hi hC hC2 kk u on th f H locs ls hw hl
        | 5, _ =>
          refine lv_tableIn (off := 485) (tgt := 524) hx hb dL_law_39 (by decide +kernel) (by decide +kernel) (by decide +kernel) (by decide) ?_
          exact lc_5 htr hL C0 hK hE hi hC hC2 kk u on th f H locs ls hw hl
        | 6, _ =>
          refine lv_tableIn (off := 541) (tgt := 580) hx hb dL_law_39 (by decide +kernel) (by decide +kernel) (by decide +kernel) (by decide) ?_
          exact lc_6 htr hL C0 hK hE hi hC hC2 kk u on th f H locs ls hw hl
        | 7, _ =>
          refine lv_tableIn (off := 554) (tgt := 593) hx hb dL_law_39 (by decide +kernel) (by decide +kernel) (by decide +kernel) (by decide) ?_
          exact lc_7 htr hL C0 hK hE hi hC hC2 kk u on th f H locs ls hw hl
        | 8, _ =>
          refine lv_tableIn (off := 567) (tgt := 606) hx hb dL_law_39 (by decide +kernel) (by decide +kernel) (by decide +kernel) (by decide) ?_
          exact lc_8 htr hL C0 hK hE hi hC hC2 kk u on th f H locs ls hw hl
        | 9, _ =>
          refine lv_tableIn (off := 580) (tgt := 619) hx hb dL_law_39 (by decide +kernel) (by decide +kernel) (by decide +kernel) (by decide) ?_
          exact lc_9 htr hL C0 hK hE hi hC hC2 kk u on th f H locs ls hw hl
        | 10, _ =>
          refine lv_tableIn (off := 643) (tgt := 682) hx hb dL_law_39 (by decide +kernel) (by decide +kernel) (by decide +kernel) (by decide) ?_
          exact lc_10 htr hL C0 hK hE hi hC hC2 kk u on th f H locs ls hw hl
        | 11, _ =>
          refine lv_tableIn (off := 656) (tgt := 695) hx hb dL_law_39 (by decide +kernel) (by decide +kernel) (by decide +kernel) (by decide) ?_
          exact lc_11 htr hL C0 hK hE hi hC hC2 kk u on th f H locs ls hw hl
        | 12, _ =>
          refine lv_tableIn (off := 669) (tgt := 708) hx hb dL_law_39 (by decide +kernel) (by decide +kernel) (by decide +kernel) (by decide) ?_
          exact lc_12 htr hL C0 hK hE hi hC hC2 kk u on th f H locs ls hw hl
        | 13, _ =>
          refine lv_tableIn (off := 682) (tgt := 721) hx hb dL_law_39 (by decide +kernel) (by decide +kernel) (by decide +kernel) (by decide) ?_
          exact lc_13 htr hL C0 hK hE hi hC hC2 kk u on th f H locs ls hw hl
        | 14, _ =>
          refine lv_tableIn (off := 695) (tgt := 734) hx hb dL_law_39 (by decide +kernel) (by decide +kernel) (by decide +kernel) (by decide) ?_
          exact lc_14 htr hL C0 hK hE hi hC hC2 kk u on th f H locs ls hw hl
        | 15, _ =>
          refine lv_tableIn (off := 763) (tgt := 802) hx hb dL_law_39 (by decide +kernel) (by decide +kernel) (by decide +kernel) (by decide) ?_
          exact lc_15 htr hL C0 hK hE hi hC hC2 kk u on th f H locs ls hw hl
        | 16, _ =>
          refine lv_tableIn (off := 831) (tgt := 870) hx hb dL_law_39 (by decide +kernel) (by decide +kernel) (by decide +kernel) (by decide) ?_
          exact lc_16 htr hL C0 hK hE hi hC hC2 kk u on th f H locs ls hw hl
        | 17, _ =>
          refine lv_tableIn (off := 887) (tgt := 926) hx hb dL_law_39 (by decide +kernel) (by decide +kernel) (by decide +kernel) (by decide) ?_
          exact lc_17 htr hL C0 hK hE hi hC hC2 kk u on th f H locs ls hw hl
        | 18, _ =>
          refine lv_tableIn (off := 900) (tgt := 939) hx hb dL_law_39 (by decide +kernel) (by decide +kernel) (by decide +kernel) (by decide) ?_
          exact lc_18 htr hL C0 hK hE hi hC hC2 kk u on th f H locs ls hw hl
        | 19, _ =>
          refine lv_tableIn (off := 956) (tgt := 995) hx hb dL_law_39 (by decide +kernel) (by decide +kernel) (by decide +kernel) (by decide) ?_
          exact lc_19 htr hL C0 hK hE hi hC hC2 kk u on th f H locs ls hw hl
        | 20, _ =>
          refine lv_tableIn (off := 1012) (tgt := 1051) hx hb dL_law_39 (by decide +kernel) (by decide +kernel) (by decide +kernel) (by decide) ?_
          exact lc_20 htr hL C0 hK hE hi hC hC2 kk u on th f H locs ls hw hl
        | 21, _ =>
          refine lv_tableIn (off := 1068) (tgt := 1107) hx hb dL_law_39 (by decide +kernel) (by decide +kernel) (by decide +kernel) (by decide) ?_
          exact lc_21 htr hL C0 hK hE hi hC hC2 kk u on th f H locs ls hw hl
        | 22, _ =>
          refine lv_tableIn (off := 1124) (tgt := 1163) hx hb dL_law_39 (by decide +kernel) (by decide +kernel) (by decide +kernel) (by decide) ?_
          exact lc_22 htr hL C0 hK hE hi hC hC2 kk u on th f H locs ls hw hl
        | 23, _ =>
          refine lv_tableIn (off := 1137) (tgt := 1176) hx hb dL_law_39 (by decide +kernel) (by decide +kernel) (by decide +kernel) (by decide) ?_
          exact lc_23 htr hL C0 hK hE hi hC hC2 kk u on th f H locs ls hw hl
        | 24, _ =>
          refine lv_tableIn (off := 1193) (tgt := 1232) hx hb dL_law_39 (by decide +kernel) (by decide +kernel) (by decide +kernel) (by decide) ?_
          exact lc_24 htr hL C0 hK hE hi hC hC2 kk u on th f H locs ls hw hl
        | 25, _ =>
          refine lv_tableIn (off := 1249) (tgt := 1288) hx hb dL_law_39 (by decide +kernel) (by decide +kernel) (by decide +kernel) (by decide) ?_
          exact lc_25 htr hL C0 hK hE hi hC hC2 kk u on th f H locs ls hw hl
        | 26, _ =>
          refine lv_tableIn (off := 1305) (tgt := 1344) hx hb dL_law_39 (by decide +kernel) (by decide +kernel) (by decide +kernel) (by decide) ?_
          exact lc_26 htr hL C0 hK hE hi hC hC2 kk u on th f H locs ls hw hl
        | 27, _ =>
          refine lv_tableIn (off := 1318) (tgt := 1357) hx hb dL_law_39 (by decide +kernel) (by decide +kernel) (by decide +kernel) (by decide) ?_
          exact lc_27 htr hL C0 hK hE hi hC hC2 kk u on th f H locs ls hw hl
        | 28, _ =>
          refine lv_tableIn (off := 1374) (tgt := 1413) hx hb dL_law_39 (by decide +kernel) (by decide +kernel) (by decide +kernel) (by decide) ?_
          exact lc_28 htr hL C0 hK hE hi hC hC2 kk u on th f H locs ls hw hl
        | 29, _ =>
          refine lv_tableIn (off := 1387) (tgt := 1426) hx hb dL_law_39 (by decide +kernel) (by decide +kernel) (by decide +kernel) (by decide) ?_
          exact lc_29 htr hL C0 hK hE hi hC hC2 kk u on th f H locs ls hw hl
        | 30, _ =>
          refine lv_tableIn (off := 1400) (tgt := 1439) hx hb dL_law_39 (by decide +kernel) (by decide +kernel) (by decide +kernel) (by decide) ?_
          exact lc_30 htr hL C0 hK hE hi hC hC2 kk u on th f H locs ls hw hl
        | 31, _ =>
          refine lv_tableIn (off := 1413) (tgt := 1452) hx hb dL_law_39 (by decide +kernel) (by decide +kernel) (by decide +kernel) (by decide) ?_
          exact lc_31 htr hL C0 hK hE hi hC hC2 kk u on th f H locs ls hw hl
        | 32, _ =>
          refine lv_tableIn (off := 1426) (tgt := 1465) hx hb dL_law_39 (by decide +kernel) (by decide +kernel) (by decide +kernel) (by decide) ?_
          exact lc_32 htr hL C0 hK hE hi hC hC2 kk u on th f H locs ls hw hl
        | 33, _ =>
          refine lv_tableIn (off := 1439) (tgt := 1478) hx hb dL_law_39 (by decide +kernel) (by decide +kernel) (by decide +kernel) (by decide) ?_
          exact lc_33 htr hL C0 hK hE hi hC hC2 kk u on th f H locs ls hw hl
        | 34, _ =>
          refine lv_tableIn (off := 1452) (tgt := 1491) hx hb dL_law_39 (by decide +kernel) (by decide +kernel) (by decide +kernel) (by decide) ?_
          exact lc_34 htr hL C0 hK hE hi hC hC2 kk u on th f H locs ls hw hl
        | 35, _ =>
          refine lv_tableIn (off := 1493) (tgt := 1532) hx hb dL_law_39 (by decide +kernel) (by decide +kernel) (by decide +kernel) (by decide) ?_
          exact lc_35 htr hL C0 hK hE hi hC hC2 kk u on th f H locs ls hw hl
        | k + 36, hk => exact absurd hk (by omega)
      · refine lv_tableOut (tgt := 1546) hx hb dL_law_39 (Or.inr (by rw [nI_toInt (by omega)]; omega)) (by decide) ?_
        refine W.widen (k := C + 1) (n := Sl + 13) (by omega) (by omega) ?_
        exact kk u on th f H locs ls hw hl
