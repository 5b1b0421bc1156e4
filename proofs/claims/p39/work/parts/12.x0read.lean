set_option maxHeartbeats 4000000 in
set_option maxRecDepth 100000 in
theorem c_X0_covers (l : Launch) (D : va_G) (cI : ClassId) (h : Nat) (a : Nat → Nat) (u : MS) (on : Nat → Int32) (np : Nat) (tt : Nat) (x0 : Nat) (y0 : Nat) (h8 : np < 8) (hf1 : mFr u np = nI x0) (hf2 : mTo u np = nI y0) (hf3 : x0 ≤ 360) (hf4 : y0 ≤ 360) (ht : tt < 360) : Met l yX0_covers wsX0_covers ({ frames := 0, cells := 0, slots := 0, locals := 0 } : Room) (va_Pc [.ref h, .int (nI np), .int (nI tt)] (fun U => va_P D vwCl (pic0 cI h a u on) U.heap ∧ va_K D vwCl [(cI, .int)] U)) (vp_Si (fun r => r = bI (cv2 x0 y0 tt))) 0 0 (fun _ => False) := by
  refine en_pu (cc := cX0_covers) (maxL := 3) (ret := (some .boolean)) _ _ (by decide) rfl (Nat.le_of_ble_eq_true rfl) ?_
  intro p e s m args below meth c ls hx hb hml hr hlocks hts hown hP hK hl
  have hown : s.vm.findClass RX0 = some m.cls := hown
  have hin : ∀ w ∈ wsX00, w ∈ wsX0_covers := fun _ h9 => List.mem_cons_of_mem _ (List.mem_append_right _ h9)
  have hl : lv_has ls 3 [(0, .ref h), (1, .int (nI np)), (2, .int (nI tt))] := hl
  refine lv_aload_n hx hb dX0_covers_0 rfl (lv_at hl 0 rfl) ?_
  refine va_get (D := D) (ci := 0) (v := .ref (a 1)) (C := RX0) (T := TX0) (N := 17) hx hb hts hin hown hK hP 0 rfl rfl 2 (by decide) (hts (.fieldLink RX0 13 "AfternoonMeter" "napStarts" "[I") (List.mem_of_getElem? (i := 1) rfl)) (fun _ h9 => h9) rfl dX0_covers_1 ?_
  refine lv_iload_n hx hb dX0_covers_4 rfl (lv_at hl 1 rfl) ?_
  refine q_iald (v := nI x0) hx hb hK hP 2 0 rfl rfl (by omega) (by decide) (hf1) dX0_covers_5 ?_
  refine lv_iload_n hx hb dX0_covers_6 rfl (lv_at hl 2 rfl) ?_
  refine lv_icmp_gt (tgt := 24) hx hb dX0_covers_7 (by decide) (fun c_7 => ?_) (fun c_7 => ?_)
  · skip
    replace c_7 : tt < x0 := ltN c_7
    refine lv_iconst (v := nI 0) hx hb dX0_covers_24 (by decide +kernel) ?_
    have hq : nI 0 = bI (cv2 x0 y0 tt) := by rw [show cv2 x0 y0 tt = false from decide_eq_false (by omega)]; rfl
    exact W.zret (ty := .boolean) hx hb hr (by decide +kernel) (fun t ht _ => ⟨_, rfl, hq, ht⟩) (fun _ h9 => nomatch h9) dX0_covers_25
  · skip
    replace c_7 : x0 ≤ tt := nltN c_7
    refine lv_iload_n hx hb dX0_covers_10 rfl (lv_at hl 2 rfl) ?_
    refine lv_aload_n hx hb dX0_covers_11 rfl (lv_at hl 0 rfl) ?_
    refine va_get (D := D) (ci := 0) (v := .ref (a 2)) (C := RX0) (T := TX0) (N := 17) hx hb hts hin hown hK hP 0 rfl rfl 3 (by decide) (hts (.fieldLink RX0 16 "AfternoonMeter" "napEnds" "[I") (List.mem_of_getElem? (i := 2) rfl)) (fun _ h9 => h9) rfl dX0_covers_12 ?_
    refine lv_iload_n hx hb dX0_covers_15 rfl (lv_at hl 1 rfl) ?_
    refine q_iald (v := nI y0) hx hb hK hP 3 0 rfl rfl (by omega) (by decide) (hf2) dX0_covers_16 ?_
    refine lv_icmp_ge (tgt := 24) hx hb dX0_covers_17 (by decide) (fun c_17 => ?_) (fun c_17 => ?_)
    · skip
      replace c_17 : y0 ≤ tt := leN c_17
      refine lv_iconst (v := nI 0) hx hb dX0_covers_24 (by decide +kernel) ?_
      have hq : nI 0 = bI (cv2 x0 y0 tt) := by rw [show cv2 x0 y0 tt = false from decide_eq_false (by omega)]; rfl
      exact W.zret (ty := .boolean) hx hb hr (by decide +kernel) (fun t ht _ => ⟨_, rfl, hq, ht⟩) (fun _ h9 => nomatch h9) dX0_covers_25
    · skip
      replace c_17 : tt < y0 := nleN c_17
      refine lv_iconst (v := nI 1) hx hb dX0_covers_20 (by decide +kernel) ?_
      refine lv_goto (tgt := 25) hx hb dX0_covers_21 (by decide) ?_
      have hq : nI 1 = bI (cv2 x0 y0 tt) := by rw [show cv2 x0 y0 tt = true from decide_eq_true (by omega)]; rfl
      exact W.zret (ty := .boolean) hx hb hr (by decide +kernel) (fun t ht _ => ⟨_, rfl, hq, ht⟩) (fun _ h9 => nomatch h9) dX0_covers_25
set_option maxHeartbeats 4000000 in
set_option maxRecDepth 100000 in
theorem c_X0_shadowOf (l : Launch) (D : va_G) (cI : ClassId) (h : Nat) (a : Nat → Nat) (u : MS) (on : Nat → Int32) (sk : Nat) (tt : Nat) (h4 : sk < 4) : Met l yX0_shadowOf wsX0_shadowOf ({ frames := 0, cells := 0, slots := 0, locals := 0 } : Room) (va_Pc [.ref h, .int (nI sk), .int (nI tt)] (fun U => va_P D vwCl (pic0 cI h a u on) U.heap ∧ va_K D vwCl [(cI, .int)] U)) (vp_Si (fun r => r = fShad u sk tt)) 0 0 (fun _ => False) := by
  refine en_pu (cc := cX0_shadowOf) (maxL := 3) (ret := (some .int)) _ _ (by decide) rfl (Nat.le_of_ble_eq_true rfl) ?_
  intro p e s m args below meth c ls hx hb hml hr hlocks hts hown hP hK hl
  have hown : s.vm.findClass RX0 = some m.cls := hown
  have hin : ∀ w ∈ wsX00, w ∈ wsX0_shadowOf := fun _ h9 => List.mem_cons_of_mem _ (List.mem_append_right _ h9)
  have hl : lv_has ls 3 [(0, .ref h), (1, .int (nI sk)), (2, .int (nI tt))] := hl
  refine lv_aload_n hx hb dX0_shadowOf_0 rfl (lv_at hl 0 rfl) ?_
  refine va_get (D := D) (ci := 0) (v := .ref (a 0)) (C := RX0) (T := TX0) (N := 17) hx hb hts hin hown hK hP 0 rfl rfl 0 (by decide) (hts (.fieldLink RX0 9 "AfternoonMeter" "heights" "[I") (List.mem_of_getElem? (i := 1) rfl)) (fun _ h9 => h9) rfl dX0_shadowOf_1 ?_
  refine lv_iload_n hx hb dX0_shadowOf_4 rfl (lv_at hl 1 rfl) ?_
  refine q_iald (v := (mHt u) sk) hx hb hK hP 1 0 rfl rfl (by omega) (by decide) (rfl) dX0_shadowOf_5 ?_
  refine lv_bipush (v := nI 60) hx hb dX0_shadowOf_6 (by decide +kernel) ?_
  refine lv_iload_n hx hb dX0_shadowOf_8 rfl (lv_at hl 2 rfl) ?_
  refine q_iaddN hx hb dX0_shadowOf_9 ?_
  refine lv_imul hx hb dX0_shadowOf_10 ?_
  refine lv_bipush (v := nI 120) hx hb dX0_shadowOf_11 (by decide +kernel) ?_
  refine lv_idiv hx hb dX0_shadowOf_13 (by decide +kernel) ?_
  have hq : (((mHt u) sk) * (nI (60 + tt))) / (nI 120) = fShad u sk tt := by rfl
  exact W.iret hx hb hr (fun t ht _ => ⟨_, rfl, hq, ht⟩) (fun _ h9 => nomatch h9) dX0_shadowOf_14
set_option maxHeartbeats 4000000 in
set_option maxRecDepth 100000 in
theorem c_X0_hasBeatIn (l : Launch) (D : va_G) (cI : ClassId) (h : Nat) (a : Nat → Nat) (u : MS) (on : Nat → Int32) (bb : Nat) (tt : Nat) (x0 : Nat) (y0 : Nat) (h6 : bb < 6) (hf1 : mPe u bb = nI x0) (hf2 : mBe u bb = nI y0) (hf3 : 2 ≤ x0 ∧ x0 ≤ 30) (hf4 : y0 < x0) (ht : tt < 360) : Met l yX0_hasBeatIn wsX0_hasBeatIn ({ frames := 0, cells := 0, slots := 0, locals := 0 } : Room) (va_Pc [.ref h, .int (nI bb), .int (nI tt)] (fun U => va_P D vwCl (pic0 cI h a u on) U.heap ∧ va_K D vwCl [(cI, .int)] U)) (vp_Si (fun r => r = bI (ht2 x0 y0 tt))) 0 0 (fun _ => False) := by
  refine en_pu (cc := cX0_hasBeatIn) (maxL := 4) (ret := (some .boolean)) _ _ (by decide) rfl (Nat.le_of_ble_eq_true rfl) ?_
  intro p e s m args below meth c ls hx hb hml hr hlocks hts hown hP hK hl
  have hown : s.vm.findClass RX0 = some m.cls := hown
  have hin : ∀ w ∈ wsX00, w ∈ wsX0_hasBeatIn := fun _ h9 => List.mem_cons_of_mem _ (List.mem_append_right _ h9)
  have hl : lv_has ls 4 [(0, .ref h), (1, .int (nI bb)), (2, .int (nI tt))] := hl
  have hm : tt % x0 < x0 := Nat.mod_lt tt (by omega)
  refine lv_aload_n hx hb dX0_hasBeatIn_0 rfl (lv_at hl 0 rfl) ?_
  refine va_get (D := D) (ci := 0) (v := .ref (a 4)) (C := RX0) (T := TX0) (N := 17) hx hb hts hin hown hK hP 0 rfl rfl 6 (by decide) (hts (.fieldLink RX0 22 "AfternoonMeter" "periods" "[I") (List.mem_of_getElem? (i := 1) rfl)) (fun _ h9 => h9) rfl dX0_hasBeatIn_1 ?_
  refine lv_iload_n hx hb dX0_hasBeatIn_4 rfl (lv_at hl 1 rfl) ?_
  refine q_iald (v := nI x0) hx hb hK hP 5 0 rfl rfl (by omega) (by decide) (hf1) dX0_hasBeatIn_5 ?_
  refine lv_istore_n (lv' := [(3, .int (nI x0)), (0, .ref h), (1, .int (nI bb)), (2, .int (nI tt))]) hx hb dX0_hasBeatIn_6 rfl hl (by decide) rfl (fun ls hl => ?_)
  refine lv_iload_n hx hb dX0_hasBeatIn_7 rfl (lv_at hl 0 rfl) ?_
  refine lv_if_le (tgt := 27) hx hb dX0_hasBeatIn_8 (by decide) (fun c_8 => ?_) (fun c_8 => ?_)
  · skip
    replace c_8 : x0 ≤ 0 := leN c_8
    exact (by omega : False).elim
  · skip
    replace c_8 : 0 < x0 := nleN c_8
    refine lv_iload_n hx hb dX0_hasBeatIn_11 rfl (lv_at hl 3 rfl) ?_
    refine lv_iload_n hx hb dX0_hasBeatIn_12 rfl (lv_at hl 0 rfl) ?_
    refine q_iremN hx hb (by omega) (by omega) (by omega) dX0_hasBeatIn_13 ?_
    refine lv_aload_n hx hb dX0_hasBeatIn_14 rfl (lv_at hl 1 rfl) ?_
    refine va_get (D := D) (ci := 0) (v := .ref (a 5)) (C := RX0) (T := TX0) (N := 17) hx hb hts hin hown hK hP 0 rfl rfl 7 (by decide) (hts (.fieldLink RX0 25 "AfternoonMeter" "beats" "[I") (List.mem_of_getElem? (i := 2) rfl)) (fun _ h9 => h9) rfl dX0_hasBeatIn_15 ?_
    refine lv_iload_n hx hb dX0_hasBeatIn_18 rfl (lv_at hl 2 rfl) ?_
    refine q_iald (v := nI y0) hx hb hK hP 6 0 rfl rfl (by omega) (by decide) (hf2) dX0_hasBeatIn_19 ?_
    refine lv_icmp_ne (tgt := 27) hx hb dX0_hasBeatIn_20 (by decide) (fun c_20 => ?_) (fun c_20 => ?_)
    · skip
      replace c_20 : (tt % x0) ≠ y0 := neN c_20
      refine lv_iconst (v := nI 0) hx hb dX0_hasBeatIn_27 (by decide +kernel) ?_
      have hq : nI 0 = bI (ht2 x0 y0 tt) := by rw [show ht2 x0 y0 tt = false from decide_eq_false (by omega)]; rfl
      exact W.zret (ty := .boolean) hx hb hr (by decide +kernel) (fun t ht _ => ⟨_, rfl, hq, ht⟩) (fun _ h9 => nomatch h9) dX0_hasBeatIn_28
    · skip
      replace c_20 : (tt % x0) = y0 := eN c_20
      refine lv_iconst (v := nI 1) hx hb dX0_hasBeatIn_23 (by decide +kernel) ?_
      refine lv_goto (tgt := 28) hx hb dX0_hasBeatIn_24 (by decide) ?_
      have hq : nI 1 = bI (ht2 x0 y0 tt) := by rw [show ht2 x0 y0 tt = true from decide_eq_true (by omega)]; rfl
      exact W.zret (ty := .boolean) hx hb hr (by decide +kernel) (fun t ht _ => ⟨_, rfl, hq, ht⟩) (fun _ h9 => nomatch h9) dX0_hasBeatIn_28
set_option maxHeartbeats 4000000 in
set_option maxRecDepth 100000 in
theorem c_X0_ticksIn (l : Launch) (D : va_G) (cI : ClassId) (h : Nat) (a : Nat → Nat) (u : MS) (on : Nat → Int32) (bb : Nat) (tt : Nat) (hI : Inv u) (hbb : bb < mBc u) (ht : tt < 360) : Met l yX0_ticksIn wsX0_ticksIn ({ frames := 1, cells := 0, slots := 0, locals := 23 } : Room) (va_Pc [.ref h, .int (nI bb), .int (nI tt)] (fun U => va_P D vwCl (pic0 cI h a u on) U.heap ∧ va_K D vwCl [(cI, .int)] U)) (vp_Si (fun r => r = bI (tkB u bb tt))) 0 0 (fun _ => False) := by
  refine en_pu (cc := cX0_ticksIn) (maxL := 3) (ret := (some .boolean)) _ _ (by decide) rfl (Nat.le_of_ble_eq_true rfl) ?_
  intro p e s m args below meth c ls hx hb hml hr hlocks hts hown hP hK hl
  have hown : s.vm.findClass RX0 = some m.cls := hown
  have hin : ∀ w ∈ wsX00, w ∈ wsX0_ticksIn := fun _ h9 => List.mem_cons_of_mem _ (List.mem_append_right _ h9)
  have hl : lv_has ls 3 [(0, .ref h), (1, .int (nI bb)), (2, .int (nI tt))] := hl
  obtain ⟨hIa, hIb, hIc, hId, hIe, hIf, hIg, hIh, hIi, hIj⟩ := id hI
  refine lv_aload_n hx hb dX0_ticksIn_0 rfl (lv_at hl 0 rfl) ?_
  refine va_get (D := D) (ci := 0) (v := .ref (a 3)) (C := RX0) (T := TX0) (N := 17) hx hb hts hin hown hK hP 0 rfl rfl 5 (by decide) (hts (.fieldLink RX0 19 "AfternoonMeter" "napsOver" "[I") (List.mem_of_getElem? (i := 1) rfl)) (fun _ h9 => h9) rfl dX0_ticksIn_1 ?_
  refine lv_iload_n hx hb dX0_ticksIn_4 rfl (lv_at hl 2 rfl) ?_
  refine q_iald (v := nI (cN u tt)) hx hb hK hP 4 0 rfl rfl (by omega) (by decide) (hIh tt (by omega)) dX0_ticksIn_5 ?_
  have hcn := cN_le u tt
  refine lv_if_ne (tgt := 22) hx hb dX0_ticksIn_6 (by decide) (fun c_6 => ?_) (fun c_6 => ?_)
  · skip
    replace c_6 : (cN u tt) ≠ 0 := neN c_6
    refine lv_iconst (v := nI 0) hx hb dX0_ticksIn_22 (by decide +kernel) ?_
    have hq : nI 0 = bI (tkB u bb tt) := by rw [show tkB u bb tt = false from decide_eq_false (fun z => c_6 z.1)]; rfl
    exact W.zret (ty := .boolean) hx hb hr (by decide +kernel) (fun t ht _ => ⟨_, rfl, hq, ht⟩) (fun _ h9 => nomatch h9) dX0_ticksIn_23
  · skip
    replace c_6 : (cN u tt) = 0 := eN c_6
    refine lv_aload_n hx hb dX0_ticksIn_9 rfl (lv_at hl 0 rfl) ?_
    refine lv_iload_n hx hb dX0_ticksIn_10 rfl (lv_at hl 1 rfl) ?_
    refine lv_iload_n hx hb dX0_ticksIn_11 rfl (lv_at hl 2 rfl) ?_
    refine vp_callSi (W.runV (As := [.int (nI bb), .int (nI tt)]) (rest := []) ⟨hx, hb, hml, hown, hts⟩ (c_X0_hasBeatIn l D cI h a u on bb tt (pN u bb) (qN u bb) (by omega) (hIf bb (by omega)).1 (hIf bb (by omega)).2.1 (by obtain ⟨_, _, g1, g2, _⟩ := hIf bb (by omega); exact ⟨g1, g2⟩) (hIf bb (by omega)).2.2.2.2 (by omega)) (cwV 2 hts gX0_ticksIn_X0_hasBeatIn rfl rfl rfl (by decide +kernel) ⟨Nat.le_of_ble_eq_true rfl, Nat.le_of_ble_eq_true rfl⟩) (pu_pre hK hP rfl rfl) rfl rfl hl.1 rfl (lv_room (Nat.le_of_ble_eq_true rfl)) dX0_ticksIn_12 ⟨Nat.le_of_ble_eq_true rfl, Nat.le_of_ble_eq_true rfl⟩) (fun r hr => ?_)
    subst hr
    refine lv_if_eq (tgt := 22) hx hb dX0_ticksIn_15 (by decide) (fun c_15 => ?_) (fun c_15 => ?_)
    · skip
      replace c_15 : (htB u bb tt) = false := bI_eq0 c_15
      refine lv_iconst (v := nI 0) hx hb dX0_ticksIn_22 (by decide +kernel) ?_
      have hq : nI 0 = bI (tkB u bb tt) := by rw [show tkB u bb tt = false from decide_eq_false (fun z => of_decide_eq_false c_15 z.2)]; rfl
      exact W.zret (ty := .boolean) hx hb hr (by decide +kernel) (fun t ht _ => ⟨_, rfl, hq, ht⟩) (fun _ h9 => nomatch h9) dX0_ticksIn_23
    · skip
      replace c_15 : (htB u bb tt) = true := bI_ne0 c_15
      refine lv_iconst (v := nI 1) hx hb dX0_ticksIn_18 (by decide +kernel) ?_
      refine lv_goto (tgt := 23) hx hb dX0_ticksIn_19 (by decide) ?_
      have hq : nI 1 = bI (tkB u bb tt) := by rw [show tkB u bb tt = true from decide_eq_true (⟨c_6, of_decide_eq_true c_15⟩)]; rfl
      exact W.zret (ty := .boolean) hx hb hr (by decide +kernel) (fun t ht _ => ⟨_, rfl, hq, ht⟩) (fun _ h9 => nomatch h9) dX0_ticksIn_23
set_option maxHeartbeats 4000000 in
set_option maxRecDepth 100000 in
theorem c_X0_countTicks (l : Launch) (D : va_G) (cI : ClassId) (h : Nat) (a : Nat → Nat) (u : MS) (on : Nat → Int32) (bb : Nat) (hI : Inv u) (hbb : bb < mBc u) : Met l yX0_countTicks wsX0_countTicks ({ frames := 2, cells := 0, slots := 0, locals := 45 } : Room) (va_Pc [.ref h, .int (nI bb)] (fun U => va_P D vwCl (pic0 cI h a u on) U.heap ∧ va_K D vwCl [(cI, .int)] U)) (vp_Si (fun r => r = fTk u bb)) 0 0 (fun _ => False) := by
  refine en_pu (cc := cX0_countTicks) (maxL := 4) (ret := (some .int)) _ _ (by decide) rfl (Nat.le_of_ble_eq_true rfl) ?_
  intro p e s m args below meth c ls hx hb hml hr hlocks hts hown hP hK hl
  have hown : s.vm.findClass RX0 = some m.cls := hown
  have hin : ∀ w ∈ wsX00, w ∈ wsX0_countTicks := fun _ h9 => List.mem_cons_of_mem _ (List.mem_append_right _ h9)
  have hl : lv_has ls 4 [(0, .ref h), (1, .int (nI bb))] := hl
  obtain ⟨hIa, hIb, hIc, hId, hIe, hIf, hIg, hIh, hIi, hIj⟩ := id hI
  refine lv_iconst (v := nI 0) hx hb dX0_countTicks_0 (by decide +kernel) ?_
  refine lv_istore_n (lv' := [(2, .int (nI 0)), (0, .ref h), (1, .int (nI bb))]) hx hb dX0_countTicks_1 rfl hl (by decide) rfl (fun ls hl => ?_)
  refine lv_iconst (v := nI 0) hx hb dX0_countTicks_2 (by decide +kernel) ?_
  refine lv_istore_n (lv' := [(3, .int (nI 0)), (2, .int (nI 0)), (0, .ref h), (1, .int (nI bb))]) hx hb dX0_countTicks_3 rfl hl (by decide) rfl (fun ls hl => ?_)
  have lp4 : ∀ (n k : Nat), k + n = mNow u → ∀ (X : Int32), X = fz (tkF u bb) k (nI 0) → ∀ (ls : Array Slot), lv_has ls 4 [(0, .ref h), (1, .int (nI bb)), (2, .int X), (3, .int (nI k))] → W p l e ({ frames := 2, cells := 0, slots := 0, locals := 45 } : Room) s m args below meth c s.heap [] 0 0 (MQ below (vp_Si (fun r => r = fTk u bb)) args s 0 0 (fun _ => False)) (F0 m 4 ls []) := by
    intro n
    induction n with
    | zero =>
      intro k hk X eX ls hl
      have ek : k = mNow u := by omega
      refine lv_iload_n hx hb dX0_countTicks_4 rfl (lv_at hl 3 rfl) ?_
      refine lv_aload_n hx hb dX0_countTicks_5 rfl (lv_at hl 0 rfl) ?_
      refine va_get (D := D) (ci := 0) (v := .int (nI (mNow u))) (C := RX0) (T := TX0) (N := 17) hx hb hts hin hown hK hP 0 rfl rfl 15 (by decide) (hts (.fieldLink RX0 97 "AfternoonMeter" "now" "I") (List.mem_of_getElem? (i := 1) rfl)) (fun _ h9 => h9) rfl dX0_countTicks_6 ?_
      refine lv_icmp_ge (tgt := 30) hx hb dX0_countTicks_9 (by decide) (fun c_9 => ?_) (fun c_9 => ?_)
      · skip
        replace c_9 : (mNow u) ≤ k := leN c_9
        refine lv_iload_n hx hb dX0_countTicks_30 rfl (lv_at hl 2 rfl) ?_
        have hq : X = fTk u bb := by rw [eX, ek]; rfl
        exact W.iret hx hb hr (fun t ht _ => ⟨_, rfl, hq, ht⟩) (fun _ h9 => nomatch h9) dX0_countTicks_31
      · skip
        replace c_9 : k < (mNow u) := nleN c_9
        exact (by omega : False).elim
    | succ n ih =>
      intro k hk X eX ls hl
      refine lv_iload_n hx hb dX0_countTicks_4 rfl (lv_at hl 3 rfl) ?_
      refine lv_aload_n hx hb dX0_countTicks_5 rfl (lv_at hl 0 rfl) ?_
      refine va_get (D := D) (ci := 0) (v := .int (nI (mNow u))) (C := RX0) (T := TX0) (N := 17) hx hb hts hin hown hK hP 0 rfl rfl 15 (by decide) (hts (.fieldLink RX0 97 "AfternoonMeter" "now" "I") (List.mem_of_getElem? (i := 1) rfl)) (fun _ h9 => h9) rfl dX0_countTicks_6 ?_
      refine lv_icmp_ge (tgt := 30) hx hb dX0_countTicks_9 (by decide) (fun c_9 => ?_) (fun c_9 => ?_)
      · skip
        replace c_9 : (mNow u) ≤ k := leN c_9
        exact (by omega : False).elim
      · skip
        replace c_9 : k < (mNow u) := nleN c_9
        refine lv_aload_n hx hb dX0_countTicks_12 rfl (lv_at hl 0 rfl) ?_
        refine lv_iload_n hx hb dX0_countTicks_13 rfl (lv_at hl 1 rfl) ?_
        refine lv_iload_n hx hb dX0_countTicks_14 rfl (lv_at hl 3 rfl) ?_
        refine vp_callSi (W.runV (As := [.int (nI bb), .int (nI k)]) (rest := []) ⟨hx, hb, hml, hown, hts⟩ (c_X0_ticksIn l D cI h a u on bb k hI (by omega) (by omega)) (cwV 2 hts gX0_countTicks_X0_ticksIn rfl rfl rfl (by decide +kernel) ⟨Nat.le_of_ble_eq_true rfl, Nat.le_of_ble_eq_true rfl⟩) (pu_pre hK hP rfl rfl) rfl rfl hl.1 rfl (lv_room (Nat.le_of_ble_eq_true rfl)) dX0_countTicks_15 ⟨Nat.le_of_ble_eq_true rfl, Nat.le_of_ble_eq_true rfl⟩) (fun r hr => ?_)
        subst hr
        refine lv_if_eq (tgt := 24) hx hb dX0_countTicks_18 (by decide) (fun c_18 => ?_) (fun c_18 => ?_)
        · skip
          replace c_18 : (tkB u bb k) = false := bI_eq0 c_18
          refine lv_iinc (v := nI (k + 1)) (lv' := [(3, .int (nI (k + 1))), (0, .ref h), (1, .int (nI bb)), (2, .int X)]) hx hb dX0_countTicks_24 hl (k := 3) rfl (nI_i1 _) (by decide) rfl (fun ls hl => ?_)
          refine lv_goto (tgt := 4) hx hb dX0_countTicks_27 (by decide) ?_
          exact ih (k + 1) (by omega) X (by subst eX; simp [fz, tkF, nI1, c_18]) _ (lv_sub hl [1, 2, 3, 0] rfl)
        · skip
          replace c_18 : (tkB u bb k) = true := bI_ne0 c_18
          refine lv_iinc (v := X + 1) (lv' := [(2, .int (X + 1)), (0, .ref h), (1, .int (nI bb)), (3, .int (nI k))]) hx hb dX0_countTicks_21 hl (k := 2) rfl (rfl) (by decide) rfl (fun ls hl => ?_)
          refine lv_iinc (v := nI (k + 1)) (lv' := [(3, .int (nI (k + 1))), (2, .int (X + 1)), (0, .ref h), (1, .int (nI bb))]) hx hb dX0_countTicks_24 hl (k := 3) rfl (nI_i1 _) (by decide) rfl (fun ls hl => ?_)
          refine lv_goto (tgt := 4) hx hb dX0_countTicks_27 (by decide) ?_
          exact ih (k + 1) (by omega) (X + 1) (by subst eX; simp [fz, tkF, nI1, c_18]) _ (lv_sub hl [2, 3, 1, 0] rfl)
  exact lp4 _ 0 (Nat.zero_add _) (nI 0) (by rfl) _ (lv_sub hl [2, 3, 1, 0] rfl)
set_option maxHeartbeats 4000000 in
set_option maxRecDepth 100000 in
theorem c_X0_countAlone (l : Launch) (D : va_G) (cI : ClassId) (h : Nat) (a : Nat → Nat) (u : MS) (on : Nat → Int32) (np : Nat) (hI : Inv u) (hnp : np < mNc u) : Met l yX0_countAlone wsX0_countAlone ({ frames := 1, cells := 0, slots := 0, locals := 22 } : Room) (va_Pc [.ref h, .int (nI np)] (fun U => va_P D vwCl (pic0 cI h a u on) U.heap ∧ va_K D vwCl [(cI, .int)] U)) (vp_Si (fun r => r = fAl u np)) 0 0 (fun _ => False) := by
  refine en_pu (cc := cX0_countAlone) (maxL := 4) (ret := (some .int)) _ _ (by decide) rfl (Nat.le_of_ble_eq_true rfl) ?_
  intro p e s m args below meth c ls hx hb hml hr hlocks hts hown hP hK hl
  have hown : s.vm.findClass RX0 = some m.cls := hown
  have hin : ∀ w ∈ wsX00, w ∈ wsX0_countAlone := fun _ h9 => List.mem_cons_of_mem _ (List.mem_append_right _ h9)
  have hl : lv_has ls 4 [(0, .ref h), (1, .int (nI np))] := hl
  obtain ⟨hIa, hIb, hIc, hId, hIe, hIf, hIg, hIh, hIi, hIj⟩ := id hI
  obtain ⟨_, _, _, _⟩ := hIg np hnp
  refine lv_iconst (v := nI 0) hx hb dX0_countAlone_0 (by decide +kernel) ?_
  refine lv_istore_n (lv' := [(2, .int (nI 0)), (0, .ref h), (1, .int (nI np))]) hx hb dX0_countAlone_1 rfl hl (by decide) rfl (fun ls hl => ?_)
  refine lv_iconst (v := nI 0) hx hb dX0_countAlone_2 (by decide +kernel) ?_
  refine lv_istore_n (lv' := [(3, .int (nI 0)), (2, .int (nI 0)), (0, .ref h), (1, .int (nI np))]) hx hb dX0_countAlone_3 rfl hl (by decide) rfl (fun ls hl => ?_)
  have lp4 : ∀ (n k : Nat), k + n = 360 → ∀ (X : Int32), X = fz (alF u np) k (nI 0) → ∀ (ls : Array Slot), lv_has ls 4 [(0, .ref h), (1, .int (nI np)), (2, .int X), (3, .int (nI k))] → W p l e ({ frames := 1, cells := 0, slots := 0, locals := 22 } : Room) s m args below meth c s.heap [] 0 0 (MQ below (vp_Si (fun r => r = fAl u np)) args s 0 0 (fun _ => False)) (F0 m 4 ls []) := by
    intro n
    induction n with
    | zero =>
      intro k hk X eX ls hl
      have ek : k = 360 := by omega
      refine lv_iload_n hx hb dX0_countAlone_4 rfl (lv_at hl 3 rfl) ?_
      refine lv_sipush (v := nI 360) hx hb dX0_countAlone_5 (by decide +kernel) ?_
      refine lv_icmp_ge (tgt := 39) hx hb dX0_countAlone_8 (by decide) (fun c_8 => ?_) (fun c_8 => ?_)
      · skip
        replace c_8 : 360 ≤ k := leN c_8
        refine lv_iload_n hx hb dX0_countAlone_39 rfl (lv_at hl 2 rfl) ?_
        have hq : X = fAl u np := by rw [eX, ek]; rfl
        exact W.iret hx hb hr (fun t ht _ => ⟨_, rfl, hq, ht⟩) (fun _ h9 => nomatch h9) dX0_countAlone_40
      · skip
        replace c_8 : k < 360 := nleN c_8
        exact (by omega : False).elim
    | succ n ih =>
      intro k hk X eX ls hl
      refine lv_iload_n hx hb dX0_countAlone_4 rfl (lv_at hl 3 rfl) ?_
      refine lv_sipush (v := nI 360) hx hb dX0_countAlone_5 (by decide +kernel) ?_
      refine lv_icmp_ge (tgt := 39) hx hb dX0_countAlone_8 (by decide) (fun c_8 => ?_) (fun c_8 => ?_)
      · skip
        replace c_8 : 360 ≤ k := leN c_8
        exact (by omega : False).elim
      · skip
        replace c_8 : k < 360 := nleN c_8
        refine lv_aload_n hx hb dX0_countAlone_11 rfl (lv_at hl 0 rfl) ?_
        refine va_get (D := D) (ci := 0) (v := .ref (a 3)) (C := RX0) (T := TX0) (N := 17) hx hb hts hin hown hK hP 0 rfl rfl 5 (by decide) (hts (.fieldLink RX0 19 "AfternoonMeter" "napsOver" "[I") (List.mem_of_getElem? (i := 1) rfl)) (fun _ h9 => h9) rfl dX0_countAlone_12 ?_
        refine lv_iload_n hx hb dX0_countAlone_15 rfl (lv_at hl 3 rfl) ?_
        refine q_iald (v := nI (cN u k)) hx hb hK hP 4 0 rfl rfl (by omega) (by decide) (hIh k (by omega)) dX0_countAlone_16 ?_
        have hcn := cN_le u k
        refine lv_iconst (v := nI 1) hx hb dX0_countAlone_17 (by decide +kernel) ?_
        refine lv_icmp_ne (tgt := 33) hx hb dX0_countAlone_18 (by decide) (fun c_18 => ?_) (fun c_18 => ?_)
        · skip
          replace c_18 : (cN u k) ≠ 1 := neN c_18
          refine lv_iinc (v := nI (k + 1)) (lv' := [(3, .int (nI (k + 1))), (0, .ref h), (1, .int (nI np)), (2, .int X)]) hx hb dX0_countAlone_33 hl (k := 3) rfl (nI_i1 _) (by decide) rfl (fun ls hl => ?_)
          refine lv_goto (tgt := 4) hx hb dX0_countAlone_36 (by decide) ?_
          exact ih (k + 1) (by omega) X (by subst eX; simp [fz, alF, nI1, c_18]) _ (lv_sub hl [1, 2, 3, 0] rfl)
        · skip
          replace c_18 : (cN u k) = 1 := eN c_18
          refine lv_aload_n hx hb dX0_countAlone_21 rfl (lv_at hl 0 rfl) ?_
          refine lv_iload_n hx hb dX0_countAlone_22 rfl (lv_at hl 1 rfl) ?_
          refine lv_iload_n hx hb dX0_countAlone_23 rfl (lv_at hl 3 rfl) ?_
          refine vp_callSi (W.runV (As := [.int (nI np), .int (nI k)]) (rest := []) ⟨hx, hb, hml, hown, hts⟩ (c_X0_covers l D cI h a u on np k (aN u np) (bN u np) (by omega) (hIg np (by omega)).1 (hIg np (by omega)).2.1 (by omega) (by omega) (by omega)) (cwV 2 hts gX0_countAlone_X0_covers rfl rfl rfl (by decide +kernel) ⟨Nat.le_of_ble_eq_true rfl, Nat.le_of_ble_eq_true rfl⟩) (pu_pre hK hP rfl rfl) rfl rfl hl.1 rfl (lv_room (Nat.le_of_ble_eq_true rfl)) dX0_countAlone_24 ⟨Nat.le_of_ble_eq_true rfl, Nat.le_of_ble_eq_true rfl⟩) (fun r hr => ?_)
          subst hr
          refine lv_if_eq (tgt := 33) hx hb dX0_countAlone_27 (by decide) (fun c_27 => ?_) (fun c_27 => ?_)
          · skip
            replace c_27 : (cvB u np k) = false := bI_eq0 c_27
            refine lv_iinc (v := nI (k + 1)) (lv' := [(3, .int (nI (k + 1))), (0, .ref h), (1, .int (nI np)), (2, .int X)]) hx hb dX0_countAlone_33 hl (k := 3) rfl (nI_i1 _) (by decide) rfl (fun ls hl => ?_)
            refine lv_goto (tgt := 4) hx hb dX0_countAlone_36 (by decide) ?_
            exact ih (k + 1) (by omega) X (by subst eX; simp [fz, alF, nI1, c_18, c_27]) _ (lv_sub hl [1, 2, 3, 0] rfl)
          · skip
            replace c_27 : (cvB u np k) = true := bI_ne0 c_27
            refine lv_iinc (v := X + 1) (lv' := [(2, .int (X + 1)), (0, .ref h), (1, .int (nI np)), (3, .int (nI k))]) hx hb dX0_countAlone_30 hl (k := 2) rfl (rfl) (by decide) rfl (fun ls hl => ?_)
            refine lv_iinc (v := nI (k + 1)) (lv' := [(3, .int (nI (k + 1))), (2, .int (X + 1)), (0, .ref h), (1, .int (nI np))]) hx hb dX0_countAlone_33 hl (k := 3) rfl (nI_i1 _) (by decide) rfl (fun ls hl => ?_)
            refine lv_goto (tgt := 4) hx hb dX0_countAlone_36 (by decide) ?_
            exact ih (k + 1) (by omega) (X + 1) (by subst eX; simp [fz, alF, nI1, c_18, c_27]) _ (lv_sub hl [2, 3, 1, 0] rfl)
  exact lp4 _ 0 (Nat.zero_add _) (nI 0) (by rfl) _ (lv_sub hl [2, 3, 1, 0] rfl)
set_option maxHeartbeats 4000000 in
set_option maxRecDepth 100000 in
theorem c_X0_sumOfShadows (l : Launch) (D : va_G) (cI : ClassId) (h : Nat) (a : Nat → Nat) (u : MS) (on : Nat → Int32) (tt : Nat) (hI : Inv u) : Met l yX0_sumOfShadows wsX0_sumOfShadows ({ frames := 1, cells := 0, slots := 0, locals := 22 } : Room) (va_Pc [.ref h, .int (nI tt)] (fun U => va_P D vwCl (pic0 cI h a u on) U.heap ∧ va_K D vwCl [(cI, .int)] U)) (vp_Si (fun r => r = fSum u tt)) 0 0 (fun _ => False) := by
  refine en_pu (cc := cX0_sumOfShadows) (maxL := 4) (ret := (some .int)) _ _ (by decide) rfl (Nat.le_of_ble_eq_true rfl) ?_
  intro p e s m args below meth c ls hx hb hml hr hlocks hts hown hP hK hl
  have hown : s.vm.findClass RX0 = some m.cls := hown
  have hin : ∀ w ∈ wsX00, w ∈ wsX0_sumOfShadows := fun _ h9 => List.mem_cons_of_mem _ (List.mem_append_right _ h9)
  have hl : lv_has ls 4 [(0, .ref h), (1, .int (nI tt))] := hl
  obtain ⟨hIa, hIb, hIc, hId, hIe, hIf, hIg, hIh, hIi, hIj⟩ := id hI
  refine lv_iconst (v := nI 0) hx hb dX0_sumOfShadows_0 (by decide +kernel) ?_
  refine lv_istore_n (lv' := [(2, .int (nI 0)), (0, .ref h), (1, .int (nI tt))]) hx hb dX0_sumOfShadows_1 rfl hl (by decide) rfl (fun ls hl => ?_)
  refine lv_iconst (v := nI 0) hx hb dX0_sumOfShadows_2 (by decide +kernel) ?_
  refine lv_istore_n (lv' := [(3, .int (nI 0)), (2, .int (nI 0)), (0, .ref h), (1, .int (nI tt))]) hx hb dX0_sumOfShadows_3 rfl hl (by decide) rfl (fun ls hl => ?_)
  have lp4 : ∀ (n k : Nat), k + n = mSc u → ∀ (X : Int32), X = fz (shF u tt) k (nI 0) → ∀ (ls : Array Slot), lv_has ls 4 [(0, .ref h), (1, .int (nI tt)), (2, .int X), (3, .int (nI k))] → W p l e ({ frames := 1, cells := 0, slots := 0, locals := 22 } : Room) s m args below meth c s.heap [] 0 0 (MQ below (vp_Si (fun r => r = fSum u tt)) args s 0 0 (fun _ => False)) (F0 m 4 ls []) := by
    intro n
    induction n with
    | zero =>
      intro k hk X eX ls hl
      have ek : k = mSc u := by omega
      refine lv_iload_n hx hb dX0_sumOfShadows_4 rfl (lv_at hl 3 rfl) ?_
      refine lv_aload_n hx hb dX0_sumOfShadows_5 rfl (lv_at hl 0 rfl) ?_
      refine va_get (D := D) (ci := 0) (v := .int (nI (mSc u))) (C := RX0) (T := TX0) (N := 17) hx hb hts hin hown hK hP 0 rfl rfl 1 (by decide) (hts (.fieldLink RX0 48 "AfternoonMeter" "stickCount" "I") (List.mem_of_getElem? (i := 1) rfl)) (fun _ h9 => h9) rfl dX0_sumOfShadows_6 ?_
      refine lv_icmp_ge (tgt := 27) hx hb dX0_sumOfShadows_9 (by decide) (fun c_9 => ?_) (fun c_9 => ?_)
      · skip
        replace c_9 : (mSc u) ≤ k := leN c_9
        refine lv_iload_n hx hb dX0_sumOfShadows_27 rfl (lv_at hl 2 rfl) ?_
        have hq : X = fSum u tt := by rw [eX, ek]; rfl
        exact W.iret hx hb hr (fun t ht _ => ⟨_, rfl, hq, ht⟩) (fun _ h9 => nomatch h9) dX0_sumOfShadows_28
      · skip
        replace c_9 : k < (mSc u) := nleN c_9
        exact (by omega : False).elim
    | succ n ih =>
      intro k hk X eX ls hl
      refine lv_iload_n hx hb dX0_sumOfShadows_4 rfl (lv_at hl 3 rfl) ?_
      refine lv_aload_n hx hb dX0_sumOfShadows_5 rfl (lv_at hl 0 rfl) ?_
      refine va_get (D := D) (ci := 0) (v := .int (nI (mSc u))) (C := RX0) (T := TX0) (N := 17) hx hb hts hin hown hK hP 0 rfl rfl 1 (by decide) (hts (.fieldLink RX0 48 "AfternoonMeter" "stickCount" "I") (List.mem_of_getElem? (i := 1) rfl)) (fun _ h9 => h9) rfl dX0_sumOfShadows_6 ?_
      refine lv_icmp_ge (tgt := 27) hx hb dX0_sumOfShadows_9 (by decide) (fun c_9 => ?_) (fun c_9 => ?_)
      · skip
        replace c_9 : (mSc u) ≤ k := leN c_9
        exact (by omega : False).elim
      · skip
        replace c_9 : k < (mSc u) := nleN c_9
        refine lv_iload_n hx hb dX0_sumOfShadows_12 rfl (lv_at hl 2 rfl) ?_
        refine lv_aload_n hx hb dX0_sumOfShadows_13 rfl (lv_at hl 0 rfl) ?_
        refine lv_iload_n hx hb dX0_sumOfShadows_14 rfl (lv_at hl 3 rfl) ?_
        refine lv_iload_n hx hb dX0_sumOfShadows_15 rfl (lv_at hl 1 rfl) ?_
        refine vp_callSi (W.runV (As := [.int (nI k), .int (nI tt)]) (rest := [.int X]) ⟨hx, hb, hml, hown, hts⟩ (c_X0_shadowOf l D cI h a u on k tt (by omega)) (cwV 2 hts gX0_sumOfShadows_X0_shadowOf rfl rfl rfl (by decide +kernel) ⟨Nat.le_of_ble_eq_true rfl, Nat.le_of_ble_eq_true rfl⟩) (pu_pre hK hP rfl rfl) rfl rfl hl.1 rfl (lv_room (Nat.le_of_ble_eq_true rfl)) dX0_sumOfShadows_16 ⟨Nat.le_of_ble_eq_true rfl, Nat.le_of_ble_eq_true rfl⟩) (fun r hr => ?_)
        subst hr
        refine lv_iadd hx hb dX0_sumOfShadows_19 ?_
        refine lv_istore_n (lv' := [(2, .int (X + (fShad u k tt))), (0, .ref h), (1, .int (nI tt)), (3, .int (nI k))]) hx hb dX0_sumOfShadows_20 rfl hl (by decide) rfl (fun ls hl => ?_)
        refine lv_iinc (v := nI (k + 1)) (lv' := [(3, .int (nI (k + 1))), (2, .int (X + (fShad u k tt))), (0, .ref h), (1, .int (nI tt))]) hx hb dX0_sumOfShadows_21 hl (k := 3) rfl (nI_i1 _) (by decide) rfl (fun ls hl => ?_)
        refine lv_goto (tgt := 4) hx hb dX0_sumOfShadows_24 (by decide) ?_
        exact ih (k + 1) (by omega) (X + (fShad u k tt)) (by subst eX; rfl) _ (lv_sub hl [2, 3, 1, 0] rfl)
  exact lp4 _ 0 (Nat.zero_add _) (nI 0) (by rfl) _ (lv_sub hl [2, 3, 1, 0] rfl)
set_option maxHeartbeats 4000000 in
set_option maxRecDepth 100000 in
theorem c_X0_contentAfter (l : Launch) (D : va_G) (cI : ClassId) (h : Nat) (a : Nat → Nat) (u : MS) (on : Nat → Int32) (tt : Nat) (cc0 : Nat) (rr : Nat) (hI : Inv u) (hO : InvO u on) (ht : tt < 360) (hc9 : cc0 ≤ 1000) (hr9 : rr ≤ 9) : Met l yX0_contentAfter wsX0_contentAfter ({ frames := 1, cells := 0, slots := 0, locals := 13 } : Room) (va_Pc [.ref h, .int (nI tt), .int (nI cc0), .int (nI rr)] (fun U => va_P D vwCl (pic0 cI h a u on) U.heap ∧ va_K D vwCl [(cI, .int)] U)) (vp_Si (fun r => r = nI (cAf u tt cc0 rr))) 0 0 (fun _ => False) := by
  refine en_pu (cc := cX0_contentAfter) (maxL := 4) (ret := (some .int)) _ _ (by decide) rfl (Nat.le_of_ble_eq_true rfl) ?_
  intro p e s m args below meth c ls hx hb hml hr hlocks hts hown hP hK hl
  have hown : s.vm.findClass RX0 = some m.cls := hown
  have hin : ∀ w ∈ wsX00, w ∈ wsX0_contentAfter := fun _ h9 => List.mem_cons_of_mem _ (List.mem_append_right _ h9)
  have hl : lv_has ls 4 [(0, .ref h), (1, .int (nI tt)), (2, .int (nI cc0)), (3, .int (nI rr))] := hl
  obtain ⟨hIa, hIb, hIc, hId, hIe, hIf, hIg, hIh, hIi, hIj⟩ := id hI
  have hm : mSip u * oN u tt ≤ 9 * 6 := Nat.mul_le_mul (by omega) (Nat.le_trans (oN_le u tt) hIc)
  refine lv_aload_n hx hb dX0_contentAfter_0 rfl (lv_at hl 0 rfl) ?_
  refine va_get (D := D) (ci := 0) (v := .ref (a 3)) (C := RX0) (T := TX0) (N := 17) hx hb hts hin hown hK hP 0 rfl rfl 5 (by decide) (hts (.fieldLink RX0 19 "AfternoonMeter" "napsOver" "[I") (List.mem_of_getElem? (i := 1) rfl)) (fun _ h9 => h9) rfl dX0_contentAfter_1 ?_
  refine lv_iload_n hx hb dX0_contentAfter_4 rfl (lv_at hl 1 rfl) ?_
  refine q_iald (v := nI (cN u tt)) hx hb hK hP 4 0 rfl rfl (by omega) (by decide) (hIh tt (by omega)) dX0_contentAfter_5 ?_
  have hcn := cN_le u tt
  refine lv_if_le (tgt := 11) hx hb dX0_contentAfter_6 (by decide) (fun c_6 => ?_) (fun c_6 => ?_)
  · skip
    replace c_6 : (cN u tt) ≤ 0 := leN c_6
    refine lv_iconst (v := nI 0) hx hb dX0_contentAfter_11 (by decide +kernel) ?_
    refine lv_iload_n hx hb dX0_contentAfter_12 rfl (lv_at hl 2 rfl) ?_
    refine lv_iload_n hx hb dX0_contentAfter_13 rfl (lv_at hl 3 rfl) ?_
    refine q_iaddN hx hb dX0_contentAfter_14 ?_
    refine lv_aload_n hx hb dX0_contentAfter_15 rfl (lv_at hl 0 rfl) ?_
    refine va_get (D := D) (ci := 0) (v := .int (nI (mSip u))) (C := RX0) (T := TX0) (N := 17) hx hb hts hin hown hK hP 0 rfl rfl 12 (by decide) (hts (.fieldLink RX0 38 "AfternoonMeter" "sip" "I") (List.mem_of_getElem? (i := 2) rfl)) (fun _ h9 => h9) rfl dX0_contentAfter_16 ?_
    refine lv_aload_n hx hb dX0_contentAfter_19 rfl (lv_at hl 0 rfl) ?_
    refine va_get (D := D) (ci := 0) (v := .ref (a 6)) (C := RX0) (T := TX0) (N := 17) hx hb hts hin hown hK hP 0 rfl rfl 9 (by decide) (hts (.fieldLink RX0 28 "AfternoonMeter" "beesOn" "[I") (List.mem_of_getElem? (i := 3) rfl)) (fun _ h9 => h9) rfl dX0_contentAfter_20 ?_
    refine lv_iload_n hx hb dX0_contentAfter_23 rfl (lv_at hl 1 rfl) ?_
    refine q_iald (v := nI (oN u tt)) hx hb hK hP 7 0 rfl rfl (by omega) (by decide) (hO tt (by omega)) dX0_contentAfter_24 ?_
    have hon := oN_le u tt
    refine q_imulN hx hb dX0_contentAfter_25 ?_
    refine lv_isub hx hb dX0_contentAfter_26 ?_
    refine va_mmax hx hb (hml.trans hl.1.symm) hown (hts (.methodLink RX0 119 Lib.Math.max.name) (List.mem_of_getElem? (i := 4) rfl)) (hts (.static Lib.Math.max.name) (List.mem_of_getElem? (i := 5) rfl)) (hts (.initialized "java/lang/Math") (List.mem_of_getElem? (i := 6) rfl)) (hts _ (List.mem_of_getElem? (i := 7) rfl)) (Nat.le_of_ble_eq_true rfl) (Nat.le_of_ble_eq_true rfl) (Nat.le_of_ble_eq_true rfl) (Nat.le_of_ble_eq_true rfl) dX0_contentAfter_27 ?_
    rw [show (if nI 0 < (nI (cc0 + rr)) - (nI ((mSip u) * (oN u tt))) then (nI (cc0 + rr)) - (nI ((mSip u) * (oN u tt))) else nI 0) = nI (cAf u tt cc0 rr) from (mx0 (by omega) (by omega)).trans (congrArg nI (if_pos (by omega) : cAf u tt cc0 rr = cc0 + rr - mSip u * oN u tt).symm)]
    have hq : nI (cAf u tt cc0 rr) = nI (cAf u tt cc0 rr) := by rfl
    exact W.iret hx hb hr (fun t ht _ => ⟨_, rfl, hq, ht⟩) (fun _ h9 => nomatch h9) dX0_contentAfter_30
  · skip
    replace c_6 : 0 < (cN u tt) := nleN c_6
    refine lv_iload_n hx hb dX0_contentAfter_9 rfl (lv_at hl 2 rfl) ?_
    have hq : nI cc0 = nI (cAf u tt cc0 rr) := by rw [show cAf u tt cc0 rr = cc0 from if_neg (by omega)]
    exact W.iret hx hb hr (fun t ht _ => ⟨_, rfl, hq, ht⟩) (fun _ h9 => nomatch h9) dX0_contentAfter_10
set_option maxHeartbeats 4000000 in
set_option maxRecDepth 100000 in
theorem c_X0_excess (l : Launch) (D : va_G) (cI : ClassId) (h : Nat) (a : Nat → Nat) (u : MS) (on : Nat → Int32) (cc0 : Nat) (hrm : mRoom u ≤ 1000) (hc9 : cc0 ≤ 1000) : Met l yX0_excess wsX0_excess ({ frames := 1, cells := 0, slots := 0, locals := 13 } : Room) (va_Pc [.ref h, .int (nI cc0)] (fun U => va_P D vwCl (pic0 cI h a u on) U.heap ∧ va_K D vwCl [(cI, .int)] U)) (vp_Si (fun r => r = nI (cc0 - mRoom u))) 0 0 (fun _ => False) := by
  refine en_pu (cc := cX0_excess) (maxL := 2) (ret := (some .int)) _ _ (by decide) rfl (Nat.le_of_ble_eq_true rfl) ?_
  intro p e s m args below meth c ls hx hb hml hr hlocks hts hown hP hK hl
  have hown : s.vm.findClass RX0 = some m.cls := hown
  have hin : ∀ w ∈ wsX00, w ∈ wsX0_excess := fun _ h9 => List.mem_cons_of_mem _ (List.mem_append_right _ h9)
  have hl : lv_has ls 2 [(0, .ref h), (1, .int (nI cc0))] := hl
  refine lv_iconst (v := nI 0) hx hb dX0_excess_0 (by decide +kernel) ?_
  refine lv_iload_n hx hb dX0_excess_1 rfl (lv_at hl 1 rfl) ?_
  refine lv_aload_n hx hb dX0_excess_2 rfl (lv_at hl 0 rfl) ?_
  refine va_get (D := D) (ci := 0) (v := .int (nI (mRoom u))) (C := RX0) (T := TX0) (N := 17) hx hb hts hin hown hK hP 0 rfl rfl 10 (by decide) (hts (.fieldLink RX0 31 "AfternoonMeter" "room" "I") (List.mem_of_getElem? (i := 1) rfl)) (fun _ h9 => h9) rfl dX0_excess_3 ?_
  refine lv_isub hx hb dX0_excess_6 ?_
  refine va_mmax hx hb (hml.trans hl.1.symm) hown (hts (.methodLink RX0 119 Lib.Math.max.name) (List.mem_of_getElem? (i := 2) rfl)) (hts (.static Lib.Math.max.name) (List.mem_of_getElem? (i := 3) rfl)) (hts (.initialized "java/lang/Math") (List.mem_of_getElem? (i := 4) rfl)) (hts _ (List.mem_of_getElem? (i := 5) rfl)) (Nat.le_of_ble_eq_true rfl) (Nat.le_of_ble_eq_true rfl) (Nat.le_of_ble_eq_true rfl) (Nat.le_of_ble_eq_true rfl) dX0_excess_7 ?_
  rw [show (if nI 0 < (nI cc0) - (nI (mRoom u)) then (nI cc0) - (nI (mRoom u)) else nI 0) = nI (cc0 - mRoom u) from mx0 (by omega) (by omega)]
  have hq : nI (cc0 - mRoom u) = nI (cc0 - mRoom u) := by rfl
  exact W.iret hx hb hr (fun t ht _ => ⟨_, rfl, hq, ht⟩) (fun _ h9 => nomatch h9) dX0_excess_10
set_option maxHeartbeats 4000000 in
set_option maxRecDepth 100000 in
theorem c_X0_firstSpillWith (l : Launch) (D : va_G) (cI : ClassId) (h : Nat) (a : Nat → Nat) (u : MS) (on : Nat → Int32) (rr : Nat) (hI : Inv u) (hO : InvO u on) (hr9 : rr ≤ 9) : Met l yX0_firstSpillWith wsX0_firstSpillWith ({ frames := 2, cells := 0, slots := 0, locals := 36 } : Room) (va_Pc [.ref h, .int (nI rr)] (fun U => va_P D vwCl (pic0 cI h a u on) U.heap ∧ va_K D vwCl [(cI, .int)] U)) (vp_Si (fun r => r = fSp u rr)) 0 0 (fun _ => False) := by
  refine en_pu (cc := cX0_firstSpillWith) (maxL := 4) (ret := (some .int)) _ _ (by decide) rfl (Nat.le_of_ble_eq_true rfl) ?_
  intro p e s m args below meth c ls hx hb hml hr hlocks hts hown hP hK hl
  have hown : s.vm.findClass RX0 = some m.cls := hown
  have hin : ∀ w ∈ wsX00, w ∈ wsX0_firstSpillWith := fun _ h9 => List.mem_cons_of_mem _ (List.mem_append_right _ h9)
  have hl : lv_has ls 4 [(0, .ref h), (1, .int (nI rr))] := hl
  obtain ⟨hIa, hIb, hIc, hId, hIe, hIf, hIg, hIh, hIi, hIj⟩ := id hI
  refine lv_aload_n hx hb dX0_firstSpillWith_0 rfl (lv_at hl 0 rfl) ?_
  refine va_get (D := D) (ci := 0) (v := .int (nI (mTea u))) (C := RX0) (T := TX0) (N := 17) hx hb hts hin hown hK hP 0 rfl rfl 13 (by decide) (hts (.fieldLink RX0 88 "AfternoonMeter" "inCup" "I") (List.mem_of_getElem? (i := 1) rfl)) (fun _ h9 => h9) rfl dX0_firstSpillWith_1 ?_
  refine lv_istore_n (lv' := [(2, .int (nI (mTea u))), (0, .ref h), (1, .int (nI rr))]) hx hb dX0_firstSpillWith_4 rfl hl (by decide) rfl (fun ls hl => ?_)
  refine lv_aload_n hx hb dX0_firstSpillWith_5 rfl (lv_at hl 1 rfl) ?_
  refine va_get (D := D) (ci := 0) (v := .int (nI (mNow u))) (C := RX0) (T := TX0) (N := 17) hx hb hts hin hown hK hP 0 rfl rfl 15 (by decide) (hts (.fieldLink RX0 97 "AfternoonMeter" "now" "I") (List.mem_of_getElem? (i := 2) rfl)) (fun _ h9 => h9) rfl dX0_firstSpillWith_6 ?_
  refine lv_istore_n (lv' := [(3, .int (nI (mNow u))), (2, .int (nI (mTea u))), (0, .ref h), (1, .int (nI rr))]) hx hb dX0_firstSpillWith_9 rfl hl (by decide) rfl (fun ls hl => ?_)
  have lp10 : ∀ (n k : Nat), k + n = 360 - mNow u → ∀ (X : Nat), X ≤ mRoom u → fSp u rr = spF u rr n (mNow u + k) X → ∀ (ls : Array Slot), lv_has ls 4 [(0, .ref h), (1, .int (nI rr)), (2, .int (nI X)), (3, .int (nI (mNow u + k)))] → W p l e ({ frames := 2, cells := 0, slots := 0, locals := 36 } : Room) s m args below meth c s.heap [] 0 0 (MQ below (vp_Si (fun r => r = fSp u rr)) args s 0 0 (fun _ => False)) (F0 m 10 ls []) := by
    intro n
    induction n with
    | zero =>
      intro k hk X hX hq0 ls hl
      refine lv_iload_n hx hb dX0_firstSpillWith_10 rfl (lv_at hl 3 rfl) ?_
      refine lv_sipush (v := nI 360) hx hb dX0_firstSpillWith_11 (by decide +kernel) ?_
      refine lv_icmp_ge (tgt := 41) hx hb dX0_firstSpillWith_14 (by decide) (fun c_14 => ?_) (fun c_14 => ?_)
      · skip
        replace c_14 : 360 ≤ (mNow u + k) := leN c_14
        refine lv_iconst (v := (-1)) hx hb dX0_firstSpillWith_41 (by decide +kernel) ?_
        have hq : (-1) = fSp u rr := by rw [hq0]; rfl
        exact W.iret hx hb hr (fun t ht _ => ⟨_, rfl, hq, ht⟩) (fun _ h9 => nomatch h9) dX0_firstSpillWith_42
      · skip
        replace c_14 : (mNow u + k) < 360 := nleN c_14
        exact (by omega : False).elim
    | succ n ih =>
      intro k hk X hX hq0 ls hl
      refine lv_iload_n hx hb dX0_firstSpillWith_10 rfl (lv_at hl 3 rfl) ?_
      refine lv_sipush (v := nI 360) hx hb dX0_firstSpillWith_11 (by decide +kernel) ?_
      refine lv_icmp_ge (tgt := 41) hx hb dX0_firstSpillWith_14 (by decide) (fun c_14 => ?_) (fun c_14 => ?_)
      · skip
        replace c_14 : 360 ≤ (mNow u + k) := leN c_14
        exact (by omega : False).elim
      · skip
        replace c_14 : (mNow u + k) < 360 := nleN c_14
        refine lv_aload_n hx hb dX0_firstSpillWith_17 rfl (lv_at hl 0 rfl) ?_
        refine lv_iload_n hx hb dX0_firstSpillWith_18 rfl (lv_at hl 3 rfl) ?_
        refine lv_iload_n hx hb dX0_firstSpillWith_19 rfl (lv_at hl 2 rfl) ?_
        refine lv_iload_n hx hb dX0_firstSpillWith_20 rfl (lv_at hl 1 rfl) ?_
        refine vp_callSi (W.runV (As := [.int (nI (mNow u + k)), .int (nI X), .int (nI rr)]) (rest := []) ⟨hx, hb, hml, hown, hts⟩ (c_X0_contentAfter l D cI h a u on (mNow u + k) X rr hI (by omega) (by omega) (by omega) (by omega)) (cwV 3 hts gX0_firstSpillWith_X0_contentAfter rfl rfl rfl (by decide +kernel) ⟨Nat.le_of_ble_eq_true rfl, Nat.le_of_ble_eq_true rfl⟩) (pu_pre hK hP rfl rfl) rfl rfl hl.1 rfl (lv_room (Nat.le_of_ble_eq_true rfl)) dX0_firstSpillWith_21 ⟨Nat.le_of_ble_eq_true rfl, Nat.le_of_ble_eq_true rfl⟩) (fun r hr => ?_)
        subst hr
        have hca := cAf_le u (mNow u + k) X rr
        refine lv_istore_n (lv' := [(2, .int (nI (cAf u (mNow u + k) X rr))), (0, .ref h), (1, .int (nI rr)), (3, .int (nI (mNow u + k)))]) hx hb dX0_firstSpillWith_24 rfl hl (by decide) rfl (fun ls hl => ?_)
        refine lv_aload_n hx hb dX0_firstSpillWith_25 rfl (lv_at hl 1 rfl) ?_
        refine lv_iload_n hx hb dX0_firstSpillWith_26 rfl (lv_at hl 0 rfl) ?_
        refine vp_callSi (W.runV (As := [.int (nI (cAf u (mNow u + k) X rr))]) (rest := []) ⟨hx, hb, hml, hown, hts⟩ (c_X0_excess l D cI h a u on (cAf u (mNow u + k) X rr) (by omega) (by omega)) (cwV 1 hts gX0_firstSpillWith_X0_excess rfl rfl rfl (by decide +kernel) ⟨Nat.le_of_ble_eq_true rfl, Nat.le_of_ble_eq_true rfl⟩) (pu_pre hK hP rfl rfl) rfl rfl hl.1 rfl (lv_room (Nat.le_of_ble_eq_true rfl)) dX0_firstSpillWith_27 ⟨Nat.le_of_ble_eq_true rfl, Nat.le_of_ble_eq_true rfl⟩) (fun r hr => ?_)
        subst hr
        refine lv_if_le (tgt := 35) hx hb dX0_firstSpillWith_30 (by decide) (fun c_30 => ?_) (fun c_30 => ?_)
        · skip
          replace c_30 : ((cAf u (mNow u + k) X rr) - mRoom u) ≤ 0 := leN c_30
          refine lv_iinc (v := nI (mNow u + k + 1)) (lv' := [(3, .int (nI (mNow u + k + 1))), (2, .int (nI (cAf u (mNow u + k) X rr))), (0, .ref h), (1, .int (nI rr))]) hx hb dX0_firstSpillWith_35 hl (k := 3) rfl (nI_i1 _) (by decide) rfl (fun ls hl => ?_)
          refine lv_goto (tgt := 10) hx hb dX0_firstSpillWith_38 (by decide) ?_
          exact ih (k + 1) (by omega) (cAf u (mNow u + k) X rr) (by omega) (by rw [hq0, sp_go (by omega)]; rfl) _ (lv_sub hl [2, 3, 1, 0] rfl)
        · skip
          replace c_30 : 0 < ((cAf u (mNow u + k) X rr) - mRoom u) := nleN c_30
          refine lv_iload_n hx hb dX0_firstSpillWith_33 rfl (lv_at hl 3 rfl) ?_
          have hq : nI (mNow u + k) = fSp u rr := by rw [hq0, sp_hit (by omega)]
          exact W.iret hx hb hr (fun t ht _ => ⟨_, rfl, hq, ht⟩) (fun _ h9 => nomatch h9) dX0_firstSpillWith_34
  exact lp10 _ 0 (Nat.zero_add _) (mTea u) (by omega) (by rfl) _ (lv_sub hl [2, 3, 1, 0] rfl)
set_option maxHeartbeats 4000000 in
set_option maxRecDepth 100000 in
theorem c_X0_checkMinute (l : Launch) (D : va_G) (cI : ClassId) (h : Nat) (a : Nat → Nat) (u : MS) (on : Nat → Int32) (tt : Nat) (ht : tt < 360) : Met l yX0_checkMinute wsX0_checkMinute ({ frames := 0, cells := 0, slots := 0, locals := 0 } : Room) (va_Pc [.ref h, .int (nI tt)] (fun U => va_P D vwCl (pic0 cI h a u on) U.heap ∧ va_K D vwCl [(cI, .int)] U)) (va_Sv (fun _ => True)) 0 0 (fun _ => False) := by
  refine en_pu (cc := cX0_checkMinute) (maxL := 2) (ret := none) _ _ (by decide) rfl (Nat.le_of_ble_eq_true rfl) ?_
  intro p e s m args below meth c ls hx hb hml hr hlocks hts hown hP hK hl
  have hown : s.vm.findClass RX0 = some m.cls := hown
  have hl : lv_has ls 2 [(0, .ref h), (1, .int (nI tt))] := hl
  refine lv_iload_n hx hb dX0_checkMinute_0 rfl (lv_at hl 1 rfl) ?_
  refine lv_if_lt (tgt := 11) hx hb dX0_checkMinute_1 (by decide) (fun c_1 => ?_) (fun c_1 => ?_)
  · skip
    replace c_1 : tt < 0 := ltN c_1
    exact (by omega : False).elim
  · skip
    replace c_1 : 0 ≤ tt := nltN c_1
    refine lv_iload_n hx hb dX0_checkMinute_4 rfl (lv_at hl 1 rfl) ?_
    refine lv_sipush (v := nI 360) hx hb dX0_checkMinute_5 (by decide +kernel) ?_
    refine lv_icmp_lt (tgt := 21) hx hb dX0_checkMinute_8 (by decide) (fun c_8 => ?_) (fun c_8 => ?_)
    · skip
      replace c_8 : tt < 360 := ltN c_8
      exact W.vret hx hb hr (fun t ht _ => ⟨rfl, trivial, ht⟩) (fun _ h9 => nomatch h9) dX0_checkMinute_21
    · skip
      replace c_8 : 360 ≤ tt := nltN c_8
      exact (by omega : False).elim
set_option maxHeartbeats 4000000 in
set_option maxRecDepth 100000 in
theorem c_X0_checkStick (l : Launch) (D : va_G) (cI : ClassId) (h : Nat) (a : Nat → Nat) (u : MS) (on : Nat → Int32) (sk : Nat) (hI : Inv u) (hsk : sk < mSc u) : Met l yX0_checkStick wsX0_checkStick ({ frames := 0, cells := 0, slots := 0, locals := 0 } : Room) (va_Pc [.ref h, .int (nI sk)] (fun U => va_P D vwCl (pic0 cI h a u on) U.heap ∧ va_K D vwCl [(cI, .int)] U)) (va_Sv (fun _ => True)) 0 0 (fun _ => False) := by
  refine en_pu (cc := cX0_checkStick) (maxL := 2) (ret := none) _ _ (by decide) rfl (Nat.le_of_ble_eq_true rfl) ?_
  intro p e s m args below meth c ls hx hb hml hr hlocks hts hown hP hK hl
  have hown : s.vm.findClass RX0 = some m.cls := hown
  have hin : ∀ w ∈ wsX00, w ∈ wsX0_checkStick := fun _ h9 => List.mem_cons_of_mem _ (List.mem_append_left _ (List.mem_append_right _ h9))
  have hl : lv_has ls 2 [(0, .ref h), (1, .int (nI sk))] := hl
  obtain ⟨hIa, hIb, hIc, hId, hIe, hIf, hIg, hIh, hIi, hIj⟩ := id hI
  refine lv_iload_n hx hb dX0_checkStick_0 rfl (lv_at hl 1 rfl) ?_
  refine lv_if_lt (tgt := 12) hx hb dX0_checkStick_1 (by decide) (fun c_1 => ?_) (fun c_1 => ?_)
  · skip
    replace c_1 : sk < 0 := ltN c_1
    exact (by omega : False).elim
  · skip
    replace c_1 : 0 ≤ sk := nltN c_1
    refine lv_iload_n hx hb dX0_checkStick_4 rfl (lv_at hl 1 rfl) ?_
    refine lv_aload_n hx hb dX0_checkStick_5 rfl (lv_at hl 0 rfl) ?_
    refine va_get (D := D) (ci := 0) (v := .int (nI (mSc u))) (C := RX0) (T := TX0) (N := 17) hx hb hts hin hown hK hP 0 rfl rfl 1 (by decide) (hts (.fieldLink RX0 48 "AfternoonMeter" "stickCount" "I") (List.mem_of_getElem? (i := 3) rfl)) (fun _ h9 => h9) rfl dX0_checkStick_6 ?_
    refine lv_icmp_lt (tgt := 22) hx hb dX0_checkStick_9 (by decide) (fun c_9 => ?_) (fun c_9 => ?_)
    · skip
      replace c_9 : sk < (mSc u) := ltN c_9
      exact W.vret hx hb hr (fun t ht _ => ⟨rfl, trivial, ht⟩) (fun _ h9 => nomatch h9) dX0_checkStick_22
    · skip
      replace c_9 : (mSc u) ≤ sk := nltN c_9
      exact (by omega : False).elim
set_option maxHeartbeats 4000000 in
set_option maxRecDepth 100000 in
theorem c_X0_checkNap (l : Launch) (D : va_G) (cI : ClassId) (h : Nat) (a : Nat → Nat) (u : MS) (on : Nat → Int32) (np : Nat) (hI : Inv u) (hnp : np < mNc u) : Met l yX0_checkNap wsX0_checkNap ({ frames := 0, cells := 0, slots := 0, locals := 0 } : Room) (va_Pc [.ref h, .int (nI np)] (fun U => va_P D vwCl (pic0 cI h a u on) U.heap ∧ va_K D vwCl [(cI, .int)] U)) (va_Sv (fun _ => True)) 0 0 (fun _ => False) := by
  refine en_pu (cc := cX0_checkNap) (maxL := 2) (ret := none) _ _ (by decide) rfl (Nat.le_of_ble_eq_true rfl) ?_
  intro p e s m args below meth c ls hx hb hml hr hlocks hts hown hP hK hl
  have hown : s.vm.findClass RX0 = some m.cls := hown
  have hin : ∀ w ∈ wsX00, w ∈ wsX0_checkNap := fun _ h9 => List.mem_cons_of_mem _ (List.mem_append_left _ (List.mem_append_right _ h9))
  have hl : lv_has ls 2 [(0, .ref h), (1, .int (nI np))] := hl
  obtain ⟨hIa, hIb, hIc, hId, hIe, hIf, hIg, hIh, hIi, hIj⟩ := id hI
  refine lv_iload_n hx hb dX0_checkNap_0 rfl (lv_at hl 1 rfl) ?_
  refine lv_if_lt (tgt := 12) hx hb dX0_checkNap_1 (by decide) (fun c_1 => ?_) (fun c_1 => ?_)
  · skip
    replace c_1 : np < 0 := ltN c_1
    exact (by omega : False).elim
  · skip
    replace c_1 : 0 ≤ np := nltN c_1
    refine lv_iload_n hx hb dX0_checkNap_4 rfl (lv_at hl 1 rfl) ?_
    refine lv_aload_n hx hb dX0_checkNap_5 rfl (lv_at hl 0 rfl) ?_
    refine va_get (D := D) (ci := 0) (v := .int (nI (mNc u))) (C := RX0) (T := TX0) (N := 17) hx hb hts hin hown hK hP 0 rfl rfl 4 (by decide) (hts (.fieldLink RX0 58 "AfternoonMeter" "napCount" "I") (List.mem_of_getElem? (i := 3) rfl)) (fun _ h9 => h9) rfl dX0_checkNap_6 ?_
    refine lv_icmp_lt (tgt := 22) hx hb dX0_checkNap_9 (by decide) (fun c_9 => ?_) (fun c_9 => ?_)
    · skip
      replace c_9 : np < (mNc u) := ltN c_9
      exact W.vret hx hb hr (fun t ht _ => ⟨rfl, trivial, ht⟩) (fun _ h9 => nomatch h9) dX0_checkNap_22
    · skip
      replace c_9 : (mNc u) ≤ np := nltN c_9
      exact (by omega : False).elim
set_option maxHeartbeats 4000000 in
set_option maxRecDepth 100000 in
theorem c_X0_checkBee (l : Launch) (D : va_G) (cI : ClassId) (h : Nat) (a : Nat → Nat) (u : MS) (on : Nat → Int32) (bb : Nat) (hI : Inv u) (hbb : bb < mBc u) : Met l yX0_checkBee wsX0_checkBee ({ frames := 0, cells := 0, slots := 0, locals := 0 } : Room) (va_Pc [.ref h, .int (nI bb)] (fun U => va_P D vwCl (pic0 cI h a u on) U.heap ∧ va_K D vwCl [(cI, .int)] U)) (va_Sv (fun _ => True)) 0 0 (fun _ => False) := by
  refine en_pu (cc := cX0_checkBee) (maxL := 2) (ret := none) _ _ (by decide) rfl (Nat.le_of_ble_eq_true rfl) ?_
  intro p e s m args below meth c ls hx hb hml hr hlocks hts hown hP hK hl
  have hown : s.vm.findClass RX0 = some m.cls := hown
  have hin : ∀ w ∈ wsX00, w ∈ wsX0_checkBee := fun _ h9 => List.mem_cons_of_mem _ (List.mem_append_left _ (List.mem_append_right _ h9))
  have hl : lv_has ls 2 [(0, .ref h), (1, .int (nI bb))] := hl
  obtain ⟨hIa, hIb, hIc, hId, hIe, hIf, hIg, hIh, hIi, hIj⟩ := id hI
  refine lv_iload_n hx hb dX0_checkBee_0 rfl (lv_at hl 1 rfl) ?_
  refine lv_if_lt (tgt := 12) hx hb dX0_checkBee_1 (by decide) (fun c_1 => ?_) (fun c_1 => ?_)
  · skip
    replace c_1 : bb < 0 := ltN c_1
    exact (by omega : False).elim
  · skip
    replace c_1 : 0 ≤ bb := nltN c_1
    refine lv_iload_n hx hb dX0_checkBee_4 rfl (lv_at hl 1 rfl) ?_
    refine lv_aload_n hx hb dX0_checkBee_5 rfl (lv_at hl 0 rfl) ?_
    refine va_get (D := D) (ci := 0) (v := .int (nI (mBc u))) (C := RX0) (T := TX0) (N := 17) hx hb hts hin hown hK hP 0 rfl rfl 8 (by decide) (hts (.fieldLink RX0 73 "AfternoonMeter" "beeCount" "I") (List.mem_of_getElem? (i := 3) rfl)) (fun _ h9 => h9) rfl dX0_checkBee_6 ?_
    refine lv_icmp_lt (tgt := 22) hx hb dX0_checkBee_9 (by decide) (fun c_9 => ?_) (fun c_9 => ?_)
    · skip
      replace c_9 : bb < (mBc u) := ltN c_9
      exact W.vret hx hb hr (fun t ht _ => ⟨rfl, trivial, ht⟩) (fun _ h9 => nomatch h9) dX0_checkBee_22
    · skip
      replace c_9 : (mBc u) ≤ bb := nltN c_9
      exact (by omega : False).elim
