set_option maxHeartbeats 4000000 in
set_option maxRecDepth 100000 in
theorem c_X0_afternoon (l : Launch) (D : va_G) (cI : ClassId) (h : Nat) (a : Nat → Nat) (u : MS) (on : Nat → Int32) : Met l yX0_afternoon wsX0_afternoon ({ frames := 0, cells := 0, slots := 0, locals := 0 } : Room) (va_Pc [.ref h] (fun U => va_P D vwCl (pic0 cI h a u on) U.heap ∧ va_K D vwCl [(cI, .int)] U)) (vp_Si (fun r => r = mAft u)) 0 0 (fun _ => False) := by
  refine en_pu (cc := cX0_afternoon) (maxL := 1) (ret := (some .int)) _ _ (by decide) rfl (Nat.le_of_ble_eq_true rfl) ?_
  intro p e s m args below meth c ls hx hb hml hr hlocks hts hown hP hK hl
  have hown : s.vm.findClass RX0 = some m.cls := hown
  have hin : ∀ w ∈ wsX00, w ∈ wsX0_afternoon := fun _ h9 => List.mem_cons_of_mem _ (List.mem_append_right _ h9)
  have hl : lv_has ls 1 [(0, .ref h)] := hl
  refine lv_aload_n hx hb dX0_afternoon_0 rfl (lv_at hl 0 rfl) ?_
  refine va_get (D := D) (ci := 0) (v := .int (mAft u)) (C := RX0) (T := TX0) (N := 17) hx hb hts hin hown hK hP 0 rfl rfl 16 (by decide) (hts (.fieldLink RX0 109 "AfternoonMeter" "afternoonNumber" "I") (List.mem_of_getElem? (i := 1) rfl)) (fun _ h9 => h9) rfl dX0_afternoon_1 ?_
  have hq : mAft u = mAft u := by rfl
  exact W.iret hx hb hr (fun t ht _ => ⟨_, rfl, hq, ht⟩) (fun _ h9 => nomatch h9) dX0_afternoon_4
set_option maxHeartbeats 4000000 in
set_option maxRecDepth 100000 in
theorem c_X0_minute (l : Launch) (D : va_G) (cI : ClassId) (h : Nat) (a : Nat → Nat) (u : MS) (on : Nat → Int32) : Met l yX0_minute wsX0_minute ({ frames := 0, cells := 0, slots := 0, locals := 0 } : Room) (va_Pc [.ref h] (fun U => va_P D vwCl (pic0 cI h a u on) U.heap ∧ va_K D vwCl [(cI, .int)] U)) (vp_Si (fun r => r = nI (mNow u))) 0 0 (fun _ => False) := by
  refine en_pu (cc := cX0_minute) (maxL := 1) (ret := (some .int)) _ _ (by decide) rfl (Nat.le_of_ble_eq_true rfl) ?_
  intro p e s m args below meth c ls hx hb hml hr hlocks hts hown hP hK hl
  have hown : s.vm.findClass RX0 = some m.cls := hown
  have hin : ∀ w ∈ wsX00, w ∈ wsX0_minute := fun _ h9 => List.mem_cons_of_mem _ (List.mem_append_right _ h9)
  have hl : lv_has ls 1 [(0, .ref h)] := hl
  refine lv_aload_n hx hb dX0_minute_0 rfl (lv_at hl 0 rfl) ?_
  refine va_get (D := D) (ci := 0) (v := .int (nI (mNow u))) (C := RX0) (T := TX0) (N := 17) hx hb hts hin hown hK hP 0 rfl rfl 15 (by decide) (hts (.fieldLink RX0 97 "AfternoonMeter" "now" "I") (List.mem_of_getElem? (i := 1) rfl)) (fun _ h9 => h9) rfl dX0_minute_1 ?_
  have hq : nI (mNow u) = nI (mNow u) := by rfl
  exact W.iret hx hb hr (fun t ht _ => ⟨_, rfl, hq, ht⟩) (fun _ h9 => nomatch h9) dX0_minute_4
set_option maxHeartbeats 4000000 in
set_option maxRecDepth 100000 in
theorem c_X0_sticks (l : Launch) (D : va_G) (cI : ClassId) (h : Nat) (a : Nat → Nat) (u : MS) (on : Nat → Int32) : Met l yX0_sticks wsX0_sticks ({ frames := 0, cells := 0, slots := 0, locals := 0 } : Room) (va_Pc [.ref h] (fun U => va_P D vwCl (pic0 cI h a u on) U.heap ∧ va_K D vwCl [(cI, .int)] U)) (vp_Si (fun r => r = nI (mSc u))) 0 0 (fun _ => False) := by
  refine en_pu (cc := cX0_sticks) (maxL := 1) (ret := (some .int)) _ _ (by decide) rfl (Nat.le_of_ble_eq_true rfl) ?_
  intro p e s m args below meth c ls hx hb hml hr hlocks hts hown hP hK hl
  have hown : s.vm.findClass RX0 = some m.cls := hown
  have hin : ∀ w ∈ wsX00, w ∈ wsX0_sticks := fun _ h9 => List.mem_cons_of_mem _ (List.mem_append_right _ h9)
  have hl : lv_has ls 1 [(0, .ref h)] := hl
  refine lv_aload_n hx hb dX0_sticks_0 rfl (lv_at hl 0 rfl) ?_
  refine va_get (D := D) (ci := 0) (v := .int (nI (mSc u))) (C := RX0) (T := TX0) (N := 17) hx hb hts hin hown hK hP 0 rfl rfl 1 (by decide) (hts (.fieldLink RX0 48 "AfternoonMeter" "stickCount" "I") (List.mem_of_getElem? (i := 1) rfl)) (fun _ h9 => h9) rfl dX0_sticks_1 ?_
  have hq : nI (mSc u) = nI (mSc u) := by rfl
  exact W.iret hx hb hr (fun t ht _ => ⟨_, rfl, hq, ht⟩) (fun _ h9 => nomatch h9) dX0_sticks_4
set_option maxHeartbeats 4000000 in
set_option maxRecDepth 100000 in
theorem c_X0_naps (l : Launch) (D : va_G) (cI : ClassId) (h : Nat) (a : Nat → Nat) (u : MS) (on : Nat → Int32) : Met l yX0_naps wsX0_naps ({ frames := 0, cells := 0, slots := 0, locals := 0 } : Room) (va_Pc [.ref h] (fun U => va_P D vwCl (pic0 cI h a u on) U.heap ∧ va_K D vwCl [(cI, .int)] U)) (vp_Si (fun r => r = nI (mNc u))) 0 0 (fun _ => False) := by
  refine en_pu (cc := cX0_naps) (maxL := 1) (ret := (some .int)) _ _ (by decide) rfl (Nat.le_of_ble_eq_true rfl) ?_
  intro p e s m args below meth c ls hx hb hml hr hlocks hts hown hP hK hl
  have hown : s.vm.findClass RX0 = some m.cls := hown
  have hin : ∀ w ∈ wsX00, w ∈ wsX0_naps := fun _ h9 => List.mem_cons_of_mem _ (List.mem_append_right _ h9)
  have hl : lv_has ls 1 [(0, .ref h)] := hl
  refine lv_aload_n hx hb dX0_naps_0 rfl (lv_at hl 0 rfl) ?_
  refine va_get (D := D) (ci := 0) (v := .int (nI (mNc u))) (C := RX0) (T := TX0) (N := 17) hx hb hts hin hown hK hP 0 rfl rfl 4 (by decide) (hts (.fieldLink RX0 58 "AfternoonMeter" "napCount" "I") (List.mem_of_getElem? (i := 1) rfl)) (fun _ h9 => h9) rfl dX0_naps_1 ?_
  have hq : nI (mNc u) = nI (mNc u) := by rfl
  exact W.iret hx hb hr (fun t ht _ => ⟨_, rfl, hq, ht⟩) (fun _ h9 => nomatch h9) dX0_naps_4
set_option maxHeartbeats 4000000 in
set_option maxRecDepth 100000 in
theorem c_X0_bees (l : Launch) (D : va_G) (cI : ClassId) (h : Nat) (a : Nat → Nat) (u : MS) (on : Nat → Int32) : Met l yX0_bees wsX0_bees ({ frames := 0, cells := 0, slots := 0, locals := 0 } : Room) (va_Pc [.ref h] (fun U => va_P D vwCl (pic0 cI h a u on) U.heap ∧ va_K D vwCl [(cI, .int)] U)) (vp_Si (fun r => r = nI (mBc u))) 0 0 (fun _ => False) := by
  refine en_pu (cc := cX0_bees) (maxL := 1) (ret := (some .int)) _ _ (by decide) rfl (Nat.le_of_ble_eq_true rfl) ?_
  intro p e s m args below meth c ls hx hb hml hr hlocks hts hown hP hK hl
  have hown : s.vm.findClass RX0 = some m.cls := hown
  have hin : ∀ w ∈ wsX00, w ∈ wsX0_bees := fun _ h9 => List.mem_cons_of_mem _ (List.mem_append_right _ h9)
  have hl : lv_has ls 1 [(0, .ref h)] := hl
  refine lv_aload_n hx hb dX0_bees_0 rfl (lv_at hl 0 rfl) ?_
  refine va_get (D := D) (ci := 0) (v := .int (nI (mBc u))) (C := RX0) (T := TX0) (N := 17) hx hb hts hin hown hK hP 0 rfl rfl 8 (by decide) (hts (.fieldLink RX0 73 "AfternoonMeter" "beeCount" "I") (List.mem_of_getElem? (i := 1) rfl)) (fun _ h9 => h9) rfl dX0_bees_1 ?_
  have hq : nI (mBc u) = nI (mBc u) := by rfl
  exact W.iret hx hb hr (fun t ht _ => ⟨_, rfl, hq, ht⟩) (fun _ h9 => nomatch h9) dX0_bees_4
set_option maxHeartbeats 4000000 in
set_option maxRecDepth 100000 in
theorem c_X0_tea (l : Launch) (D : va_G) (cI : ClassId) (h : Nat) (a : Nat → Nat) (u : MS) (on : Nat → Int32) : Met l yX0_tea wsX0_tea ({ frames := 0, cells := 0, slots := 0, locals := 0 } : Room) (va_Pc [.ref h] (fun U => va_P D vwCl (pic0 cI h a u on) U.heap ∧ va_K D vwCl [(cI, .int)] U)) (vp_Si (fun r => r = nI (mTea u))) 0 0 (fun _ => False) := by
  refine en_pu (cc := cX0_tea) (maxL := 1) (ret := (some .int)) _ _ (by decide) rfl (Nat.le_of_ble_eq_true rfl) ?_
  intro p e s m args below meth c ls hx hb hml hr hlocks hts hown hP hK hl
  have hown : s.vm.findClass RX0 = some m.cls := hown
  have hin : ∀ w ∈ wsX00, w ∈ wsX0_tea := fun _ h9 => List.mem_cons_of_mem _ (List.mem_append_right _ h9)
  have hl : lv_has ls 1 [(0, .ref h)] := hl
  refine lv_aload_n hx hb dX0_tea_0 rfl (lv_at hl 0 rfl) ?_
  refine va_get (D := D) (ci := 0) (v := .int (nI (mTea u))) (C := RX0) (T := TX0) (N := 17) hx hb hts hin hown hK hP 0 rfl rfl 13 (by decide) (hts (.fieldLink RX0 88 "AfternoonMeter" "inCup" "I") (List.mem_of_getElem? (i := 1) rfl)) (fun _ h9 => h9) rfl dX0_tea_1 ?_
  have hq : nI (mTea u) = nI (mTea u) := by rfl
  exact W.iret hx hb hr (fun t ht _ => ⟨_, rfl, hq, ht⟩) (fun _ h9 => nomatch h9) dX0_tea_4
set_option maxHeartbeats 4000000 in
set_option maxRecDepth 100000 in
theorem c_X0_spilt (l : Launch) (D : va_G) (cI : ClassId) (h : Nat) (a : Nat → Nat) (u : MS) (on : Nat → Int32) : Met l yX0_spilt wsX0_spilt ({ frames := 0, cells := 0, slots := 0, locals := 0 } : Room) (va_Pc [.ref h] (fun U => va_P D vwCl (pic0 cI h a u on) U.heap ∧ va_K D vwCl [(cI, .int)] U)) (vp_Si (fun r => r = mSpl u)) 0 0 (fun _ => False) := by
  refine en_pu (cc := cX0_spilt) (maxL := 1) (ret := (some .int)) _ _ (by decide) rfl (Nat.le_of_ble_eq_true rfl) ?_
  intro p e s m args below meth c ls hx hb hml hr hlocks hts hown hP hK hl
  have hown : s.vm.findClass RX0 = some m.cls := hown
  have hin : ∀ w ∈ wsX00, w ∈ wsX0_spilt := fun _ h9 => List.mem_cons_of_mem _ (List.mem_append_right _ h9)
  have hl : lv_has ls 1 [(0, .ref h)] := hl
  refine lv_aload_n hx hb dX0_spilt_0 rfl (lv_at hl 0 rfl) ?_
  refine va_get (D := D) (ci := 0) (v := .int (mSpl u)) (C := RX0) (T := TX0) (N := 17) hx hb hts hin hown hK hP 0 rfl rfl 14 (by decide) (hts (.fieldLink RX0 106 "AfternoonMeter" "ranOver" "I") (List.mem_of_getElem? (i := 1) rfl)) (fun _ h9 => h9) rfl dX0_spilt_1 ?_
  have hq : mSpl u = mSpl u := by rfl
  exact W.iret hx hb hr (fun t ht _ => ⟨_, rfl, hq, ht⟩) (fun _ h9 => nomatch h9) dX0_spilt_4
set_option maxHeartbeats 4000000 in
set_option maxRecDepth 100000 in
theorem c_X0_isAsleep (l : Launch) (D : va_G) (cI : ClassId) (h : Nat) (a : Nat → Nat) (u : MS) (on : Nat → Int32) (tt : Nat) (hI : Inv u) (ht : tt < 360) : Met l yX0_isAsleep wsX0_isAsleep ({ frames := 1, cells := 0, slots := 0, locals := 21 } : Room) (va_Pc [.ref h, .int (nI tt)] (fun U => va_P D vwCl (pic0 cI h a u on) U.heap ∧ va_K D vwCl [(cI, .int)] U)) (vp_Si (fun r => r = bI (decide (0 < cN u tt)))) 0 0 (fun _ => False) := by
  refine en_pu (cc := cX0_isAsleep) (maxL := 2) (ret := (some .boolean)) _ _ (by decide) rfl (Nat.le_of_ble_eq_true rfl) ?_
  intro p e s m args below meth c ls hx hb hml hr hlocks hts hown hP hK hl
  have hown : s.vm.findClass RX0 = some m.cls := hown
  have hin : ∀ w ∈ wsX00, w ∈ wsX0_isAsleep := fun _ h9 => List.mem_cons_of_mem _ (List.mem_append_left _ (List.mem_append_right _ h9))
  have hl : lv_has ls 2 [(0, .ref h), (1, .int (nI tt))] := hl
  obtain ⟨hIa, hIb, hIc, hId, hIe, hIf, hIg, hIh, hIi, hIj⟩ := id hI
  refine lv_aload_n hx hb dX0_isAsleep_0 rfl (lv_at hl 0 rfl) ?_
  refine lv_iload_n hx hb dX0_isAsleep_1 rfl (lv_at hl 1 rfl) ?_
  refine va_csv (W.runV (As := [.int (nI tt)]) (rest := []) ⟨hx, hb, hml, hown, hts⟩ (c_X0_checkMinute l D cI h a u on tt (by omega)) (cwV 1 hts gX0_isAsleep_X0_checkMinute rfl rfl rfl (by decide +kernel) ⟨Nat.le_of_ble_eq_true rfl, Nat.le_of_ble_eq_true rfl⟩) (pu_pre hK hP rfl rfl) rfl rfl hl.1 rfl (lv_room (Nat.le_of_ble_eq_true rfl)) dX0_isAsleep_2 ⟨Nat.le_of_ble_eq_true rfl, Nat.le_of_ble_eq_true rfl⟩) (fun _ => ?_)
  refine lv_aload_n hx hb dX0_isAsleep_5 rfl (lv_at hl 0 rfl) ?_
  refine va_get (D := D) (ci := 0) (v := .ref (a 3)) (C := RX0) (T := TX0) (N := 17) hx hb hts hin hown hK hP 0 rfl rfl 5 (by decide) (hts (.fieldLink RX0 19 "AfternoonMeter" "napsOver" "[I") (List.mem_of_getElem? (i := 1) rfl)) (fun _ h9 => h9) rfl dX0_isAsleep_6 ?_
  refine lv_iload_n hx hb dX0_isAsleep_9 rfl (lv_at hl 1 rfl) ?_
  refine q_iald (v := nI (cN u tt)) hx hb hK hP 4 0 rfl rfl (by omega) (by decide) (hIh tt (by omega)) dX0_isAsleep_10 ?_
  have hcn := cN_le u tt
  refine lv_if_le (tgt := 18) hx hb dX0_isAsleep_11 (by decide) (fun c_11 => ?_) (fun c_11 => ?_)
  · skip
    replace c_11 : (cN u tt) ≤ 0 := leN c_11
    refine lv_iconst (v := nI 0) hx hb dX0_isAsleep_18 (by decide +kernel) ?_
    have hq : nI 0 = bI (decide (0 < cN u tt)) := by rw [show decide (0 < cN u tt) = false from decide_eq_false (Nat.not_lt.mpr c_11)]; rfl
    exact W.zret (ty := .boolean) hx hb hr (by decide +kernel) (fun t ht _ => ⟨_, rfl, hq, ht⟩) (fun _ h9 => nomatch h9) dX0_isAsleep_19
  · skip
    replace c_11 : 0 < (cN u tt) := nleN c_11
    refine lv_iconst (v := nI 1) hx hb dX0_isAsleep_14 (by decide +kernel) ?_
    refine lv_goto (tgt := 19) hx hb dX0_isAsleep_15 (by decide) ?_
    have hq : nI 1 = bI (decide (0 < cN u tt)) := by rw [show decide (0 < cN u tt) = true from decide_eq_true (c_11)]; rfl
    exact W.zret (ty := .boolean) hx hb hr (by decide +kernel) (fun t ht _ => ⟨_, rfl, hq, ht⟩) (fun _ h9 => nomatch h9) dX0_isAsleep_19
set_option maxHeartbeats 4000000 in
set_option maxRecDepth 100000 in
theorem c_X0_awakeMinutes (l : Launch) (D : va_G) (cI : ClassId) (h : Nat) (a : Nat → Nat) (u : MS) (on : Nat → Int32) (hI : Inv u) : Met l yX0_awakeMinutes wsX0_awakeMinutes ({ frames := 0, cells := 0, slots := 0, locals := 0 } : Room) (va_Pc [.ref h] (fun U => va_P D vwCl (pic0 cI h a u on) U.heap ∧ va_K D vwCl [(cI, .int)] U)) (vp_Si (fun r => r = fAw u)) 0 0 (fun _ => False) := by
  refine en_pu (cc := cX0_awakeMinutes) (maxL := 3) (ret := (some .int)) _ _ (by decide) rfl (Nat.le_of_ble_eq_true rfl) ?_
  intro p e s m args below meth c ls hx hb hml hr hlocks hts hown hP hK hl
  have hown : s.vm.findClass RX0 = some m.cls := hown
  have hin : ∀ w ∈ wsX00, w ∈ wsX0_awakeMinutes := fun _ h9 => List.mem_cons_of_mem _ (List.mem_append_right _ h9)
  have hl : lv_has ls 3 [(0, .ref h)] := hl
  obtain ⟨hIa, hIb, hIc, hId, hIe, hIf, hIg, hIh, hIi, hIj⟩ := id hI
  refine lv_iconst (v := nI 0) hx hb dX0_awakeMinutes_0 (by decide +kernel) ?_
  refine lv_istore_n (lv' := [(1, .int (nI 0)), (0, .ref h)]) hx hb dX0_awakeMinutes_1 rfl hl (by decide) rfl (fun ls hl => ?_)
  refine lv_iconst (v := nI 0) hx hb dX0_awakeMinutes_2 (by decide +kernel) ?_
  refine lv_istore_n (lv' := [(2, .int (nI 0)), (1, .int (nI 0)), (0, .ref h)]) hx hb dX0_awakeMinutes_3 rfl hl (by decide) rfl (fun ls hl => ?_)
  have lp4 : ∀ (n k : Nat), k + n = mNow u → ∀ (X : Int32), X = fz (awF u) k (nI 0) → ∀ (ls : Array Slot), lv_has ls 3 [(0, .ref h), (1, .int X), (2, .int (nI k))] → W p l e ({ frames := 0, cells := 0, slots := 0, locals := 0 } : Room) s m args below meth c s.heap [] 0 0 (MQ below (vp_Si (fun r => r = fAw u)) args s 0 0 (fun _ => False)) (F0 m 4 ls []) := by
    intro n
    induction n with
    | zero =>
      intro k hk X eX ls hl
      have ek : k = mNow u := by omega
      refine lv_iload_n hx hb dX0_awakeMinutes_4 rfl (lv_at hl 2 rfl) ?_
      refine lv_aload_n hx hb dX0_awakeMinutes_5 rfl (lv_at hl 0 rfl) ?_
      refine va_get (D := D) (ci := 0) (v := .int (nI (mNow u))) (C := RX0) (T := TX0) (N := 17) hx hb hts hin hown hK hP 0 rfl rfl 15 (by decide) (hts (.fieldLink RX0 97 "AfternoonMeter" "now" "I") (List.mem_of_getElem? (i := 1) rfl)) (fun _ h9 => h9) rfl dX0_awakeMinutes_6 ?_
      refine lv_icmp_ge (tgt := 30) hx hb dX0_awakeMinutes_9 (by decide) (fun c_9 => ?_) (fun c_9 => ?_)
      · skip
        replace c_9 : (mNow u) ≤ k := leN c_9
        refine lv_iload_n hx hb dX0_awakeMinutes_30 rfl (lv_at hl 1 rfl) ?_
        have hq : X = fAw u := by rw [eX, ek]; rfl
        exact W.iret hx hb hr (fun t ht _ => ⟨_, rfl, hq, ht⟩) (fun _ h9 => nomatch h9) dX0_awakeMinutes_31
      · skip
        replace c_9 : k < (mNow u) := nleN c_9
        exact (by omega : False).elim
    | succ n ih =>
      intro k hk X eX ls hl
      refine lv_iload_n hx hb dX0_awakeMinutes_4 rfl (lv_at hl 2 rfl) ?_
      refine lv_aload_n hx hb dX0_awakeMinutes_5 rfl (lv_at hl 0 rfl) ?_
      refine va_get (D := D) (ci := 0) (v := .int (nI (mNow u))) (C := RX0) (T := TX0) (N := 17) hx hb hts hin hown hK hP 0 rfl rfl 15 (by decide) (hts (.fieldLink RX0 97 "AfternoonMeter" "now" "I") (List.mem_of_getElem? (i := 1) rfl)) (fun _ h9 => h9) rfl dX0_awakeMinutes_6 ?_
      refine lv_icmp_ge (tgt := 30) hx hb dX0_awakeMinutes_9 (by decide) (fun c_9 => ?_) (fun c_9 => ?_)
      · skip
        replace c_9 : (mNow u) ≤ k := leN c_9
        exact (by omega : False).elim
      · skip
        replace c_9 : k < (mNow u) := nleN c_9
        refine lv_aload_n hx hb dX0_awakeMinutes_12 rfl (lv_at hl 0 rfl) ?_
        refine va_get (D := D) (ci := 0) (v := .ref (a 3)) (C := RX0) (T := TX0) (N := 17) hx hb hts hin hown hK hP 0 rfl rfl 5 (by decide) (hts (.fieldLink RX0 19 "AfternoonMeter" "napsOver" "[I") (List.mem_of_getElem? (i := 2) rfl)) (fun _ h9 => h9) rfl dX0_awakeMinutes_13 ?_
        refine lv_iload_n hx hb dX0_awakeMinutes_16 rfl (lv_at hl 2 rfl) ?_
        refine q_iald (v := nI (cN u k)) hx hb hK hP 4 0 rfl rfl (by omega) (by decide) (hIh k (by omega)) dX0_awakeMinutes_17 ?_
        have hcn := cN_le u k
        refine lv_if_ne (tgt := 24) hx hb dX0_awakeMinutes_18 (by decide) (fun c_18 => ?_) (fun c_18 => ?_)
        · skip
          replace c_18 : (cN u k) ≠ 0 := neN c_18
          refine lv_iinc (v := nI (k + 1)) (lv' := [(2, .int (nI (k + 1))), (0, .ref h), (1, .int X)]) hx hb dX0_awakeMinutes_24 hl (k := 2) rfl (nI_i1 _) (by decide) rfl (fun ls hl => ?_)
          refine lv_goto (tgt := 4) hx hb dX0_awakeMinutes_27 (by decide) ?_
          exact ih (k + 1) (by omega) X (by subst eX; simp [fz, awF, nI1, c_18]) _ (lv_sub hl [1, 2, 0] rfl)
        · skip
          replace c_18 : (cN u k) = 0 := eN c_18
          refine lv_iinc (v := X + 1) (lv' := [(1, .int (X + 1)), (0, .ref h), (2, .int (nI k))]) hx hb dX0_awakeMinutes_21 hl (k := 1) rfl (rfl) (by decide) rfl (fun ls hl => ?_)
          refine lv_iinc (v := nI (k + 1)) (lv' := [(2, .int (nI (k + 1))), (1, .int (X + 1)), (0, .ref h)]) hx hb dX0_awakeMinutes_24 hl (k := 2) rfl (nI_i1 _) (by decide) rfl (fun ls hl => ?_)
          refine lv_goto (tgt := 4) hx hb dX0_awakeMinutes_27 (by decide) ?_
          exact ih (k + 1) (by omega) (X + 1) (by subst eX; simp [fz, awF, nI1, c_18]) _ (lv_sub hl [2, 1, 0] rfl)
  exact lp4 _ 0 (Nat.zero_add _) (nI 0) (by rfl) _ (lv_sub hl [2, 1, 0] rfl)
set_option maxHeartbeats 4000000 in
set_option maxRecDepth 100000 in
theorem c_X0_sleptMinutes (l : Launch) (D : va_G) (cI : ClassId) (h : Nat) (a : Nat → Nat) (u : MS) (on : Nat → Int32) (hI : Inv u) : Met l yX0_sleptMinutes wsX0_sleptMinutes ({ frames := 1, cells := 0, slots := 0, locals := 22 } : Room) (va_Pc [.ref h] (fun U => va_P D vwCl (pic0 cI h a u on) U.heap ∧ va_K D vwCl [(cI, .int)] U)) (vp_Si (fun r => r = nI (mNow u) - fAw u)) 0 0 (fun _ => False) := by
  refine en_pu (cc := cX0_sleptMinutes) (maxL := 1) (ret := (some .int)) _ _ (by decide) rfl (Nat.le_of_ble_eq_true rfl) ?_
  intro p e s m args below meth c ls hx hb hml hr hlocks hts hown hP hK hl
  have hown : s.vm.findClass RX0 = some m.cls := hown
  have hin : ∀ w ∈ wsX00, w ∈ wsX0_sleptMinutes := fun _ h9 => List.mem_cons_of_mem _ (List.mem_append_right _ h9)
  have hl : lv_has ls 1 [(0, .ref h)] := hl
  obtain ⟨hIa, hIb, hIc, hId, hIe, hIf, hIg, hIh, hIi, hIj⟩ := id hI
  refine lv_aload_n hx hb dX0_sleptMinutes_0 rfl (lv_at hl 0 rfl) ?_
  refine va_get (D := D) (ci := 0) (v := .int (nI (mNow u))) (C := RX0) (T := TX0) (N := 17) hx hb hts hin hown hK hP 0 rfl rfl 15 (by decide) (hts (.fieldLink RX0 97 "AfternoonMeter" "now" "I") (List.mem_of_getElem? (i := 1) rfl)) (fun _ h9 => h9) rfl dX0_sleptMinutes_1 ?_
  refine lv_aload_n hx hb dX0_sleptMinutes_4 rfl (lv_at hl 0 rfl) ?_
  refine vp_callSi (W.runV (As := []) (rest := [.int (nI (mNow u))]) ⟨hx, hb, hml, hown, hts⟩ (c_X0_awakeMinutes l D cI h a u on hI) (cwV 0 hts gX0_sleptMinutes_X0_awakeMinutes rfl rfl rfl (by decide +kernel) ⟨Nat.le_of_ble_eq_true rfl, Nat.le_of_ble_eq_true rfl⟩) (pu_pre hK hP rfl rfl) rfl rfl hl.1 rfl (lv_room (Nat.le_of_ble_eq_true rfl)) dX0_sleptMinutes_5 ⟨Nat.le_of_ble_eq_true rfl, Nat.le_of_ble_eq_true rfl⟩) (fun r hr => ?_)
  subst hr
  refine lv_isub hx hb dX0_sleptMinutes_8 ?_
  have hq : (nI (mNow u)) - (fAw u) = nI (mNow u) - fAw u := by rfl
  exact W.iret hx hb hr (fun t ht _ => ⟨_, rfl, hq, ht⟩) (fun _ h9 => nomatch h9) dX0_sleptMinutes_9
set_option maxHeartbeats 4000000 in
set_option maxRecDepth 100000 in
theorem c_X0_longestAwake (l : Launch) (D : va_G) (cI : ClassId) (h : Nat) (a : Nat → Nat) (u : MS) (on : Nat → Int32) (hI : Inv u) : Met l yX0_longestAwake wsX0_longestAwake ({ frames := 1, cells := 0, slots := 0, locals := 13 } : Room) (va_Pc [.ref h] (fun U => va_P D vwCl (pic0 cI h a u on) U.heap ∧ va_K D vwCl [(cI, .int)] U)) (vp_Si (fun r => r = fLong u)) 0 0 (fun _ => False) := by
  refine en_pu (cc := cX0_longestAwake) (maxL := 4) (ret := (some .int)) _ _ (by decide) rfl (Nat.le_of_ble_eq_true rfl) ?_
  intro p e s m args below meth c ls hx hb hml hr hlocks hts hown hP hK hl
  have hown : s.vm.findClass RX0 = some m.cls := hown
  have hin : ∀ w ∈ wsX00, w ∈ wsX0_longestAwake := fun _ h9 => List.mem_cons_of_mem _ (List.mem_append_right _ h9)
  have hl : lv_has ls 4 [(0, .ref h)] := hl
  obtain ⟨hIa, hIb, hIc, hId, hIe, hIf, hIg, hIh, hIi, hIj⟩ := id hI
  refine lv_iconst (v := nI 0) hx hb dX0_longestAwake_0 (by decide +kernel) ?_
  refine lv_istore_n (lv' := [(1, .int (nI 0)), (0, .ref h)]) hx hb dX0_longestAwake_1 rfl hl (by decide) rfl (fun ls hl => ?_)
  refine lv_iconst (v := nI 0) hx hb dX0_longestAwake_2 (by decide +kernel) ?_
  refine lv_istore_n (lv' := [(2, .int (nI 0)), (1, .int (nI 0)), (0, .ref h)]) hx hb dX0_longestAwake_3 rfl hl (by decide) rfl (fun ls hl => ?_)
  refine lv_iconst (v := nI 0) hx hb dX0_longestAwake_4 (by decide +kernel) ?_
  refine lv_istore_n (lv' := [(3, .int (nI 0)), (2, .int (nI 0)), (1, .int (nI 0)), (0, .ref h)]) hx hb dX0_longestAwake_5 rfl hl (by decide) rfl (fun ls hl => ?_)
  have lp6 : ∀ (n k : Nat), k + n = 360 → ∀ (X : Int32), X = (lgS u k).1 → ∀ (Y : Int32), Y = (lgS u k).2 → ∀ (ls : Array Slot), lv_has ls 4 [(0, .ref h), (1, .int X), (2, .int Y), (3, .int (nI k))] → W p l e ({ frames := 1, cells := 0, slots := 0, locals := 13 } : Room) s m args below meth c s.heap [] 0 0 (MQ below (vp_Si (fun r => r = fLong u)) args s 0 0 (fun _ => False)) (F0 m 6 ls []) := by
    intro n
    induction n with
    | zero =>
      intro k hk X eX Y eY ls hl
      have ek : k = 360 := by omega
      refine lv_iload_n hx hb dX0_longestAwake_6 rfl (lv_at hl 3 rfl) ?_
      refine lv_sipush (v := nI 360) hx hb dX0_longestAwake_7 (by decide +kernel) ?_
      refine lv_icmp_ge (tgt := 42) hx hb dX0_longestAwake_10 (by decide) (fun c_10 => ?_) (fun c_10 => ?_)
      · skip
        replace c_10 : 360 ≤ k := leN c_10
        refine lv_iload_n hx hb dX0_longestAwake_42 rfl (lv_at hl 1 rfl) ?_
        have hq : X = fLong u := by rw [eX, ek]; rfl
        exact W.iret hx hb hr (fun t ht _ => ⟨_, rfl, hq, ht⟩) (fun _ h9 => nomatch h9) dX0_longestAwake_43
      · skip
        replace c_10 : k < 360 := nleN c_10
        exact (by omega : False).elim
    | succ n ih =>
      intro k hk X eX Y eY ls hl
      refine lv_iload_n hx hb dX0_longestAwake_6 rfl (lv_at hl 3 rfl) ?_
      refine lv_sipush (v := nI 360) hx hb dX0_longestAwake_7 (by decide +kernel) ?_
      refine lv_icmp_ge (tgt := 42) hx hb dX0_longestAwake_10 (by decide) (fun c_10 => ?_) (fun c_10 => ?_)
      · skip
        replace c_10 : 360 ≤ k := leN c_10
        exact (by omega : False).elim
      · skip
        replace c_10 : k < 360 := nleN c_10
        refine lv_aload_n hx hb dX0_longestAwake_13 rfl (lv_at hl 0 rfl) ?_
        refine va_get (D := D) (ci := 0) (v := .ref (a 3)) (C := RX0) (T := TX0) (N := 17) hx hb hts hin hown hK hP 0 rfl rfl 5 (by decide) (hts (.fieldLink RX0 19 "AfternoonMeter" "napsOver" "[I") (List.mem_of_getElem? (i := 1) rfl)) (fun _ h9 => h9) rfl dX0_longestAwake_14 ?_
        refine lv_iload_n hx hb dX0_longestAwake_17 rfl (lv_at hl 3 rfl) ?_
        refine q_iald (v := nI (cN u k)) hx hb hK hP 4 0 rfl rfl (by omega) (by decide) (hIh k (by omega)) dX0_longestAwake_18 ?_
        have hcn := cN_le u k
        refine lv_if_ne (tgt := 28) hx hb dX0_longestAwake_19 (by decide) (fun c_19 => ?_) (fun c_19 => ?_)
        · skip
          replace c_19 : (cN u k) ≠ 0 := neN c_19
          refine lv_iconst (v := nI 0) hx hb dX0_longestAwake_28 (by decide +kernel) ?_
          refine lv_istore_n (lv' := [(2, .int (nI 0)), (0, .ref h), (1, .int X), (3, .int (nI k))]) hx hb dX0_longestAwake_29 rfl hl (by decide) rfl (fun ls hl => ?_)
          refine lv_iload_n hx hb dX0_longestAwake_30 rfl (lv_at hl 2 rfl) ?_
          refine lv_iload_n hx hb dX0_longestAwake_31 rfl (lv_at hl 0 rfl) ?_
          refine va_mmax hx hb (hml.trans hl.1.symm) hown (hts (.methodLink RX0 119 Lib.Math.max.name) (List.mem_of_getElem? (i := 2) rfl)) (hts (.static Lib.Math.max.name) (List.mem_of_getElem? (i := 3) rfl)) (hts (.initialized "java/lang/Math") (List.mem_of_getElem? (i := 4) rfl)) (hts _ (List.mem_of_getElem? (i := 5) rfl)) (Nat.le_of_ble_eq_true rfl) (Nat.le_of_ble_eq_true rfl) (Nat.le_of_ble_eq_true rfl) (Nat.le_of_ble_eq_true rfl) dX0_longestAwake_32 ?_
          refine lv_istore_n (lv' := [(1, .int (if X < nI 0 then nI 0 else X)), (2, .int (nI 0)), (0, .ref h), (3, .int (nI k))]) hx hb dX0_longestAwake_35 rfl hl (by decide) rfl (fun ls hl => ?_)
          refine lv_iinc (v := nI (k + 1)) (lv' := [(3, .int (nI (k + 1))), (1, .int (if X < nI 0 then nI 0 else X)), (2, .int (nI 0)), (0, .ref h)]) hx hb dX0_longestAwake_36 hl (k := 3) rfl (nI_i1 _) (by decide) rfl (fun ls hl => ?_)
          refine lv_goto (tgt := 6) hx hb dX0_longestAwake_39 (by decide) ?_
          exact ih (k + 1) (by omega) (if X < nI 0 then nI 0 else X) (by subst eX eY; show _ = (lgF u k (lgS u k)).1; rw [lg_no c_19]) (nI 0) (by subst eX eY; show _ = (lgF u k (lgS u k)).2; rw [lg_no c_19]) _ (lv_sub hl [3, 1, 2, 0] rfl)
        · skip
          replace c_19 : (cN u k) = 0 := eN c_19
          refine lv_iload_n hx hb dX0_longestAwake_22 rfl (lv_at hl 2 rfl) ?_
          refine lv_iconst (v := nI 1) hx hb dX0_longestAwake_23 (by decide +kernel) ?_
          refine lv_iadd hx hb dX0_longestAwake_24 ?_
          refine lv_goto (tgt := 29) hx hb dX0_longestAwake_25 (by decide) ?_
          refine lv_istore_n (lv' := [(2, .int (Y + (nI 1))), (0, .ref h), (1, .int X), (3, .int (nI k))]) hx hb dX0_longestAwake_29 rfl hl (by decide) rfl (fun ls hl => ?_)
          refine lv_iload_n hx hb dX0_longestAwake_30 rfl (lv_at hl 2 rfl) ?_
          refine lv_iload_n hx hb dX0_longestAwake_31 rfl (lv_at hl 0 rfl) ?_
          refine va_mmax hx hb (hml.trans hl.1.symm) hown (hts (.methodLink RX0 119 Lib.Math.max.name) (List.mem_of_getElem? (i := 2) rfl)) (hts (.static Lib.Math.max.name) (List.mem_of_getElem? (i := 3) rfl)) (hts (.initialized "java/lang/Math") (List.mem_of_getElem? (i := 4) rfl)) (hts _ (List.mem_of_getElem? (i := 5) rfl)) (Nat.le_of_ble_eq_true rfl) (Nat.le_of_ble_eq_true rfl) (Nat.le_of_ble_eq_true rfl) (Nat.le_of_ble_eq_true rfl) dX0_longestAwake_32 ?_
          refine lv_istore_n (lv' := [(1, .int (if X < Y + (nI 1) then Y + (nI 1) else X)), (2, .int (Y + (nI 1))), (0, .ref h), (3, .int (nI k))]) hx hb dX0_longestAwake_35 rfl hl (by decide) rfl (fun ls hl => ?_)
          refine lv_iinc (v := nI (k + 1)) (lv' := [(3, .int (nI (k + 1))), (1, .int (if X < Y + (nI 1) then Y + (nI 1) else X)), (2, .int (Y + (nI 1))), (0, .ref h)]) hx hb dX0_longestAwake_36 hl (k := 3) rfl (nI_i1 _) (by decide) rfl (fun ls hl => ?_)
          refine lv_goto (tgt := 6) hx hb dX0_longestAwake_39 (by decide) ?_
          exact ih (k + 1) (by omega) (if X < Y + (nI 1) then Y + (nI 1) else X) (by subst eX eY; show _ = (lgF u k (lgS u k)).1; rw [lg_yes c_19]) (Y + (nI 1)) (by subst eX eY; show _ = (lgF u k (lgS u k)).2; rw [lg_yes c_19]) _ (lv_sub hl [3, 1, 2, 0] rfl)
  exact lp6 _ 0 (Nat.zero_add _) (nI 0) (by rfl) (nI 0) (by rfl) _ (lv_sub hl [3, 2, 1, 0] rfl)
set_option maxHeartbeats 4000000 in
set_option maxRecDepth 100000 in
theorem c_X0_shadowAt (l : Launch) (D : va_G) (cI : ClassId) (h : Nat) (a : Nat → Nat) (u : MS) (on : Nat → Int32) (sk : Nat) (tt : Nat) (hI : Inv u) (hsk : sk < mSc u) (ht : tt < 360) : Met l yX0_shadowAt wsX0_shadowAt ({ frames := 1, cells := 0, slots := 0, locals := 22 } : Room) (va_Pc [.ref h, .int (nI sk), .int (nI tt)] (fun U => va_P D vwCl (pic0 cI h a u on) U.heap ∧ va_K D vwCl [(cI, .int)] U)) (vp_Si (fun r => r = fShad u sk tt)) 0 0 (fun _ => False) := by
  refine en_pu (cc := cX0_shadowAt) (maxL := 3) (ret := (some .int)) _ _ (by decide) rfl (Nat.le_of_ble_eq_true rfl) ?_
  intro p e s m args below meth c ls hx hb hml hr hlocks hts hown hP hK hl
  have hown : s.vm.findClass RX0 = some m.cls := hown
  have hin : ∀ w ∈ wsX00, w ∈ wsX0_shadowAt := fun _ h9 => List.mem_cons_of_mem _ (List.mem_append_left _ (List.mem_append_left _ (List.mem_append_right _ h9)))
  have hl : lv_has ls 3 [(0, .ref h), (1, .int (nI sk)), (2, .int (nI tt))] := hl
  obtain ⟨hIa, hIb, hIc, hId, hIe, hIf, hIg, hIh, hIi, hIj⟩ := id hI
  refine lv_aload_n hx hb dX0_shadowAt_0 rfl (lv_at hl 0 rfl) ?_
  refine lv_iload_n hx hb dX0_shadowAt_1 rfl (lv_at hl 1 rfl) ?_
  refine va_csv (W.runV (As := [.int (nI sk)]) (rest := []) ⟨hx, hb, hml, hown, hts⟩ (c_X0_checkStick l D cI h a u on sk hI (by omega)) (cwV 1 hts gX0_shadowAt_X0_checkStick rfl rfl rfl (by decide +kernel) ⟨Nat.le_of_ble_eq_true rfl, Nat.le_of_ble_eq_true rfl⟩) (pu_pre hK hP rfl rfl) rfl rfl hl.1 rfl (lv_room (Nat.le_of_ble_eq_true rfl)) dX0_shadowAt_2 ⟨Nat.le_of_ble_eq_true rfl, Nat.le_of_ble_eq_true rfl⟩) (fun _ => ?_)
  refine lv_aload_n hx hb dX0_shadowAt_5 rfl (lv_at hl 0 rfl) ?_
  refine lv_iload_n hx hb dX0_shadowAt_6 rfl (lv_at hl 2 rfl) ?_
  refine va_csv (W.runV (As := [.int (nI tt)]) (rest := []) ⟨hx, hb, hml, hown, hts⟩ (c_X0_checkMinute l D cI h a u on tt (by omega)) (cwV 1 hts gX0_shadowAt_X0_checkMinute rfl rfl rfl (by decide +kernel) ⟨Nat.le_of_ble_eq_true rfl, Nat.le_of_ble_eq_true rfl⟩) (pu_pre hK hP rfl rfl) rfl rfl hl.1 rfl (lv_room (Nat.le_of_ble_eq_true rfl)) dX0_shadowAt_7 ⟨Nat.le_of_ble_eq_true rfl, Nat.le_of_ble_eq_true rfl⟩) (fun _ => ?_)
  refine lv_aload_n hx hb dX0_shadowAt_10 rfl (lv_at hl 0 rfl) ?_
  refine lv_iload_n hx hb dX0_shadowAt_11 rfl (lv_at hl 1 rfl) ?_
  refine lv_iload_n hx hb dX0_shadowAt_12 rfl (lv_at hl 2 rfl) ?_
  refine vp_callSi (W.runV (As := [.int (nI sk), .int (nI tt)]) (rest := []) ⟨hx, hb, hml, hown, hts⟩ (c_X0_shadowOf l D cI h a u on sk tt (by omega)) (cwV 2 hts gX0_shadowAt_X0_shadowOf rfl rfl rfl (by decide +kernel) ⟨Nat.le_of_ble_eq_true rfl, Nat.le_of_ble_eq_true rfl⟩) (pu_pre hK hP rfl rfl) rfl rfl hl.1 rfl (lv_room (Nat.le_of_ble_eq_true rfl)) dX0_shadowAt_13 ⟨Nat.le_of_ble_eq_true rfl, Nat.le_of_ble_eq_true rfl⟩) (fun r hr => ?_)
  subst hr
  have hq : fShad u sk tt = fShad u sk tt := by rfl
  exact W.iret hx hb hr (fun t ht _ => ⟨_, rfl, hq, ht⟩) (fun _ h9 => nomatch h9) dX0_shadowAt_16
set_option maxHeartbeats 4000000 in
set_option maxRecDepth 100000 in
theorem c_X0_minuteOfShadow (l : Launch) (D : va_G) (cI : ClassId) (h : Nat) (a : Nat → Nat) (u : MS) (on : Nat → Int32) (sk : Nat) (len : Int32) (hI : Inv u) (hsk : sk < mSc u) : Met l yX0_minuteOfShadow wsX0_minuteOfShadow ({ frames := 1, cells := 0, slots := 0, locals := 22 } : Room) (va_Pc [.ref h, .int (nI sk), .int len] (fun U => va_P D vwCl (pic0 cI h a u on) U.heap ∧ va_K D vwCl [(cI, .int)] U)) (vp_Si (fun r => r = fMoS u sk len)) 0 0 (fun _ => False) := by
  refine en_pu (cc := cX0_minuteOfShadow) (maxL := 4) (ret := (some .int)) _ _ (by decide) rfl (Nat.le_of_ble_eq_true rfl) ?_
  intro p e s m args below meth c ls hx hb hml hr hlocks hts hown hP hK hl
  have hown : s.vm.findClass RX0 = some m.cls := hown
  have hin : ∀ w ∈ wsX00, w ∈ wsX0_minuteOfShadow := fun _ h9 => List.mem_cons_of_mem _ (List.mem_append_left _ (List.mem_append_right _ h9))
  have hl : lv_has ls 4 [(0, .ref h), (1, .int (nI sk)), (2, .int len)] := hl
  obtain ⟨hIa, hIb, hIc, hId, hIe, hIf, hIg, hIh, hIi, hIj⟩ := id hI
  refine lv_aload_n hx hb dX0_minuteOfShadow_0 rfl (lv_at hl 0 rfl) ?_
  refine lv_iload_n hx hb dX0_minuteOfShadow_1 rfl (lv_at hl 1 rfl) ?_
  refine va_csv (W.runV (As := [.int (nI sk)]) (rest := []) ⟨hx, hb, hml, hown, hts⟩ (c_X0_checkStick l D cI h a u on sk hI (by omega)) (cwV 1 hts gX0_minuteOfShadow_X0_checkStick rfl rfl rfl (by decide +kernel) ⟨Nat.le_of_ble_eq_true rfl, Nat.le_of_ble_eq_true rfl⟩) (pu_pre hK hP rfl rfl) rfl rfl hl.1 rfl (lv_room (Nat.le_of_ble_eq_true rfl)) dX0_minuteOfShadow_2 ⟨Nat.le_of_ble_eq_true rfl, Nat.le_of_ble_eq_true rfl⟩) (fun _ => ?_)
  refine lv_iconst (v := nI 0) hx hb dX0_minuteOfShadow_5 (by decide +kernel) ?_
  refine lv_istore_n (lv' := [(3, .int (nI 0)), (0, .ref h), (1, .int (nI sk)), (2, .int len)]) hx hb dX0_minuteOfShadow_6 rfl hl (by decide) rfl (fun ls hl => ?_)
  have lp7 : ∀ (n k : Nat), k + n = 360 → fMoS u sk len = fd (msB u sk len) n k → ∀ (ls : Array Slot), lv_has ls 4 [(0, .ref h), (1, .int (nI sk)), (2, .int len), (3, .int (nI k))] → W p l e ({ frames := 1, cells := 0, slots := 0, locals := 22 } : Room) s m args below meth c s.heap [] 0 0 (MQ below (vp_Si (fun r => r = fMoS u sk len)) args s 0 0 (fun _ => False)) (F0 m 7 ls []) := by
    intro n
    induction n with
    | zero =>
      intro k hk hq0 ls hl
      refine lv_iload_n hx hb dX0_minuteOfShadow_7 rfl (lv_at hl 3 rfl) ?_
      refine lv_sipush (v := nI 360) hx hb dX0_minuteOfShadow_8 (by decide +kernel) ?_
      refine lv_icmp_ge (tgt := 32) hx hb dX0_minuteOfShadow_11 (by decide) (fun c_11 => ?_) (fun c_11 => ?_)
      · skip
        replace c_11 : 360 ≤ k := leN c_11
        refine lv_iconst (v := (-1)) hx hb dX0_minuteOfShadow_32 (by decide +kernel) ?_
        have hq : (-1) = fMoS u sk len := by rw [hq0]; rfl
        exact W.iret hx hb hr (fun t ht _ => ⟨_, rfl, hq, ht⟩) (fun _ h9 => nomatch h9) dX0_minuteOfShadow_33
      · skip
        replace c_11 : k < 360 := nleN c_11
        exact (by omega : False).elim
    | succ n ih =>
      intro k hk hq0 ls hl
      refine lv_iload_n hx hb dX0_minuteOfShadow_7 rfl (lv_at hl 3 rfl) ?_
      refine lv_sipush (v := nI 360) hx hb dX0_minuteOfShadow_8 (by decide +kernel) ?_
      refine lv_icmp_ge (tgt := 32) hx hb dX0_minuteOfShadow_11 (by decide) (fun c_11 => ?_) (fun c_11 => ?_)
      · skip
        replace c_11 : 360 ≤ k := leN c_11
        exact (by omega : False).elim
      · skip
        replace c_11 : k < 360 := nleN c_11
        refine lv_aload_n hx hb dX0_minuteOfShadow_14 rfl (lv_at hl 0 rfl) ?_
        refine lv_iload_n hx hb dX0_minuteOfShadow_15 rfl (lv_at hl 1 rfl) ?_
        refine lv_iload_n hx hb dX0_minuteOfShadow_16 rfl (lv_at hl 3 rfl) ?_
        refine vp_callSi (W.runV (As := [.int (nI sk), .int (nI k)]) (rest := []) ⟨hx, hb, hml, hown, hts⟩ (c_X0_shadowOf l D cI h a u on sk k (by omega)) (cwV 2 hts gX0_minuteOfShadow_X0_shadowOf rfl rfl rfl (by decide +kernel) ⟨Nat.le_of_ble_eq_true rfl, Nat.le_of_ble_eq_true rfl⟩) (pu_pre hK hP rfl rfl) rfl rfl hl.1 rfl (lv_room (Nat.le_of_ble_eq_true rfl)) dX0_minuteOfShadow_17 ⟨Nat.le_of_ble_eq_true rfl, Nat.le_of_ble_eq_true rfl⟩) (fun r hr => ?_)
        subst hr
        refine lv_iload_n hx hb dX0_minuteOfShadow_20 rfl (lv_at hl 2 rfl) ?_
        refine lv_icmp_lt (tgt := 26) hx hb dX0_minuteOfShadow_21 (by decide) (fun c_21 => ?_) (fun c_21 => ?_)
        · skip
          refine lv_iinc (v := nI (k + 1)) (lv' := [(3, .int (nI (k + 1))), (0, .ref h), (1, .int (nI sk)), (2, .int len)]) hx hb dX0_minuteOfShadow_26 hl (k := 3) rfl (nI_i1 _) (by decide) rfl (fun ls hl => ?_)
          refine lv_goto (tgt := 7) hx hb dX0_minuteOfShadow_29 (by decide) ?_
          exact ih (k + 1) (by omega) (by rw [hq0, fd_miss (decide_eq_false (Int32.not_le.mpr c_21))]) _ (lv_sub hl [1, 2, 3, 0] rfl)
        · skip
          refine lv_iload_n hx hb dX0_minuteOfShadow_24 rfl (lv_at hl 3 rfl) ?_
          have hq : nI k = fMoS u sk len := by rw [hq0, fd_hit (decide_eq_true (leI c_21))]
          exact W.iret hx hb hr (fun t ht _ => ⟨_, rfl, hq, ht⟩) (fun _ h9 => nomatch h9) dX0_minuteOfShadow_25
  exact lp7 _ 0 (Nat.zero_add _) (by rfl) _ (lv_sub hl [1, 2, 3, 0] rfl)
set_option maxHeartbeats 4000000 in
set_option maxRecDepth 100000 in
theorem c_X0_allShadows (l : Launch) (D : va_G) (cI : ClassId) (h : Nat) (a : Nat → Nat) (u : MS) (on : Nat → Int32) (tt : Nat) (hI : Inv u) (ht : tt < 360) : Met l yX0_allShadows wsX0_allShadows ({ frames := 2, cells := 0, slots := 0, locals := 45 } : Room) (va_Pc [.ref h, .int (nI tt)] (fun U => va_P D vwCl (pic0 cI h a u on) U.heap ∧ va_K D vwCl [(cI, .int)] U)) (vp_Si (fun r => r = fSum u tt)) 0 0 (fun _ => False) := by
  refine en_pu (cc := cX0_allShadows) (maxL := 2) (ret := (some .int)) _ _ (by decide) rfl (Nat.le_of_ble_eq_true rfl) ?_
  intro p e s m args below meth c ls hx hb hml hr hlocks hts hown hP hK hl
  have hown : s.vm.findClass RX0 = some m.cls := hown
  have hin : ∀ w ∈ wsX00, w ∈ wsX0_allShadows := fun _ h9 => List.mem_cons_of_mem _ (List.mem_append_left _ (List.mem_append_right _ h9))
  have hl : lv_has ls 2 [(0, .ref h), (1, .int (nI tt))] := hl
  obtain ⟨hIa, hIb, hIc, hId, hIe, hIf, hIg, hIh, hIi, hIj⟩ := id hI
  refine lv_aload_n hx hb dX0_allShadows_0 rfl (lv_at hl 0 rfl) ?_
  refine lv_iload_n hx hb dX0_allShadows_1 rfl (lv_at hl 1 rfl) ?_
  refine va_csv (W.runV (As := [.int (nI tt)]) (rest := []) ⟨hx, hb, hml, hown, hts⟩ (c_X0_checkMinute l D cI h a u on tt (by omega)) (cwV 1 hts gX0_allShadows_X0_checkMinute rfl rfl rfl (by decide +kernel) ⟨Nat.le_of_ble_eq_true rfl, Nat.le_of_ble_eq_true rfl⟩) (pu_pre hK hP rfl rfl) rfl rfl hl.1 rfl (lv_room (Nat.le_of_ble_eq_true rfl)) dX0_allShadows_2 ⟨Nat.le_of_ble_eq_true rfl, Nat.le_of_ble_eq_true rfl⟩) (fun _ => ?_)
  refine lv_aload_n hx hb dX0_allShadows_5 rfl (lv_at hl 0 rfl) ?_
  refine lv_iload_n hx hb dX0_allShadows_6 rfl (lv_at hl 1 rfl) ?_
  refine vp_callSi (W.runV (As := [.int (nI tt)]) (rest := []) ⟨hx, hb, hml, hown, hts⟩ (c_X0_sumOfShadows l D cI h a u on tt hI) (cwV 1 hts gX0_allShadows_X0_sumOfShadows rfl rfl rfl (by decide +kernel) ⟨Nat.le_of_ble_eq_true rfl, Nat.le_of_ble_eq_true rfl⟩) (pu_pre hK hP rfl rfl) rfl rfl hl.1 rfl (lv_room (Nat.le_of_ble_eq_true rfl)) dX0_allShadows_7 ⟨Nat.le_of_ble_eq_true rfl, Nat.le_of_ble_eq_true rfl⟩) (fun r hr => ?_)
  subst hr
  have hq : fSum u tt = fSum u tt := by rfl
  exact W.iret hx hb hr (fun t ht _ => ⟨_, rfl, hq, ht⟩) (fun _ h9 => nomatch h9) dX0_allShadows_10
set_option maxHeartbeats 4000000 in
set_option maxRecDepth 100000 in
theorem c_X0_startOf (l : Launch) (D : va_G) (cI : ClassId) (h : Nat) (a : Nat → Nat) (u : MS) (on : Nat → Int32) (np : Nat) (hI : Inv u) (hnp : np < mNc u) : Met l yX0_startOf wsX0_startOf ({ frames := 1, cells := 0, slots := 0, locals := 21 } : Room) (va_Pc [.ref h, .int (nI np)] (fun U => va_P D vwCl (pic0 cI h a u on) U.heap ∧ va_K D vwCl [(cI, .int)] U)) (vp_Si (fun r => r = nI (aN u np))) 0 0 (fun _ => False) := by
  refine en_pu (cc := cX0_startOf) (maxL := 2) (ret := (some .int)) _ _ (by decide) rfl (Nat.le_of_ble_eq_true rfl) ?_
  intro p e s m args below meth c ls hx hb hml hr hlocks hts hown hP hK hl
  have hown : s.vm.findClass RX0 = some m.cls := hown
  have hin : ∀ w ∈ wsX00, w ∈ wsX0_startOf := fun _ h9 => List.mem_cons_of_mem _ (List.mem_append_left _ (List.mem_append_right _ h9))
  have hl : lv_has ls 2 [(0, .ref h), (1, .int (nI np))] := hl
  obtain ⟨hIa, hIb, hIc, hId, hIe, hIf, hIg, hIh, hIi, hIj⟩ := id hI
  refine lv_aload_n hx hb dX0_startOf_0 rfl (lv_at hl 0 rfl) ?_
  refine lv_iload_n hx hb dX0_startOf_1 rfl (lv_at hl 1 rfl) ?_
  refine va_csv (W.runV (As := [.int (nI np)]) (rest := []) ⟨hx, hb, hml, hown, hts⟩ (c_X0_checkNap l D cI h a u on np hI (by omega)) (cwV 1 hts gX0_startOf_X0_checkNap rfl rfl rfl (by decide +kernel) ⟨Nat.le_of_ble_eq_true rfl, Nat.le_of_ble_eq_true rfl⟩) (pu_pre hK hP rfl rfl) rfl rfl hl.1 rfl (lv_room (Nat.le_of_ble_eq_true rfl)) dX0_startOf_2 ⟨Nat.le_of_ble_eq_true rfl, Nat.le_of_ble_eq_true rfl⟩) (fun _ => ?_)
  refine lv_aload_n hx hb dX0_startOf_5 rfl (lv_at hl 0 rfl) ?_
  refine va_get (D := D) (ci := 0) (v := .ref (a 1)) (C := RX0) (T := TX0) (N := 17) hx hb hts hin hown hK hP 0 rfl rfl 2 (by decide) (hts (.fieldLink RX0 13 "AfternoonMeter" "napStarts" "[I") (List.mem_of_getElem? (i := 1) rfl)) (fun _ h9 => h9) rfl dX0_startOf_6 ?_
  refine lv_iload_n hx hb dX0_startOf_9 rfl (lv_at hl 1 rfl) ?_
  refine q_iald (v := nI (aN u np)) hx hb hK hP 2 0 rfl rfl (by omega) (by decide) ((hIg np (by omega)).1) dX0_startOf_10 ?_
  obtain ⟨_, _, _, _⟩ := hIg np (by omega)
  have hq : nI (aN u np) = nI (aN u np) := by rfl
  exact W.iret hx hb hr (fun t ht _ => ⟨_, rfl, hq, ht⟩) (fun _ h9 => nomatch h9) dX0_startOf_11
set_option maxHeartbeats 4000000 in
set_option maxRecDepth 100000 in
theorem c_X0_lengthOf (l : Launch) (D : va_G) (cI : ClassId) (h : Nat) (a : Nat → Nat) (u : MS) (on : Nat → Int32) (np : Nat) (hI : Inv u) (hnp : np < mNc u) : Met l yX0_lengthOf wsX0_lengthOf ({ frames := 1, cells := 0, slots := 0, locals := 21 } : Room) (va_Pc [.ref h, .int (nI np)] (fun U => va_P D vwCl (pic0 cI h a u on) U.heap ∧ va_K D vwCl [(cI, .int)] U)) (vp_Si (fun r => r = nI (bN u np - aN u np))) 0 0 (fun _ => False) := by
  refine en_pu (cc := cX0_lengthOf) (maxL := 2) (ret := (some .int)) _ _ (by decide) rfl (Nat.le_of_ble_eq_true rfl) ?_
  intro p e s m args below meth c ls hx hb hml hr hlocks hts hown hP hK hl
  have hown : s.vm.findClass RX0 = some m.cls := hown
  have hin : ∀ w ∈ wsX00, w ∈ wsX0_lengthOf := fun _ h9 => List.mem_cons_of_mem _ (List.mem_append_left _ (List.mem_append_right _ h9))
  have hl : lv_has ls 2 [(0, .ref h), (1, .int (nI np))] := hl
  obtain ⟨hIa, hIb, hIc, hId, hIe, hIf, hIg, hIh, hIi, hIj⟩ := id hI
  refine lv_aload_n hx hb dX0_lengthOf_0 rfl (lv_at hl 0 rfl) ?_
  refine lv_iload_n hx hb dX0_lengthOf_1 rfl (lv_at hl 1 rfl) ?_
  refine va_csv (W.runV (As := [.int (nI np)]) (rest := []) ⟨hx, hb, hml, hown, hts⟩ (c_X0_checkNap l D cI h a u on np hI (by omega)) (cwV 1 hts gX0_lengthOf_X0_checkNap rfl rfl rfl (by decide +kernel) ⟨Nat.le_of_ble_eq_true rfl, Nat.le_of_ble_eq_true rfl⟩) (pu_pre hK hP rfl rfl) rfl rfl hl.1 rfl (lv_room (Nat.le_of_ble_eq_true rfl)) dX0_lengthOf_2 ⟨Nat.le_of_ble_eq_true rfl, Nat.le_of_ble_eq_true rfl⟩) (fun _ => ?_)
  refine lv_aload_n hx hb dX0_lengthOf_5 rfl (lv_at hl 0 rfl) ?_
  refine va_get (D := D) (ci := 0) (v := .ref (a 2)) (C := RX0) (T := TX0) (N := 17) hx hb hts hin hown hK hP 0 rfl rfl 3 (by decide) (hts (.fieldLink RX0 16 "AfternoonMeter" "napEnds" "[I") (List.mem_of_getElem? (i := 1) rfl)) (fun _ h9 => h9) rfl dX0_lengthOf_6 ?_
  refine lv_iload_n hx hb dX0_lengthOf_9 rfl (lv_at hl 1 rfl) ?_
  refine q_iald (v := nI (bN u np)) hx hb hK hP 3 0 rfl rfl (by omega) (by decide) ((hIg np (by omega)).2.1) dX0_lengthOf_10 ?_
  obtain ⟨_, _, _, _⟩ := hIg np (by omega)
  refine lv_aload_n hx hb dX0_lengthOf_11 rfl (lv_at hl 0 rfl) ?_
  refine va_get (D := D) (ci := 0) (v := .ref (a 1)) (C := RX0) (T := TX0) (N := 17) hx hb hts hin hown hK hP 0 rfl rfl 2 (by decide) (hts (.fieldLink RX0 13 "AfternoonMeter" "napStarts" "[I") (List.mem_of_getElem? (i := 2) rfl)) (fun _ h9 => h9) rfl dX0_lengthOf_12 ?_
  refine lv_iload_n hx hb dX0_lengthOf_15 rfl (lv_at hl 1 rfl) ?_
  refine q_iald (v := nI (aN u np)) hx hb hK hP 2 0 rfl rfl (by omega) (by decide) ((hIg np (by omega)).1) dX0_lengthOf_16 ?_
  obtain ⟨_, _, _, _⟩ := hIg np (by omega)
  refine q_isubN hx hb (by omega) dX0_lengthOf_17 ?_
  have hq : nI ((bN u np) - (aN u np)) = nI (bN u np - aN u np) := by rfl
  exact W.iret hx hb hr (fun t ht _ => ⟨_, rfl, hq, ht⟩) (fun _ h9 => nomatch h9) dX0_lengthOf_18
set_option maxHeartbeats 4000000 in
set_option maxRecDepth 100000 in
theorem c_X0_napsAt (l : Launch) (D : va_G) (cI : ClassId) (h : Nat) (a : Nat → Nat) (u : MS) (on : Nat → Int32) (tt : Nat) (hI : Inv u) (ht : tt < 360) : Met l yX0_napsAt wsX0_napsAt ({ frames := 1, cells := 0, slots := 0, locals := 21 } : Room) (va_Pc [.ref h, .int (nI tt)] (fun U => va_P D vwCl (pic0 cI h a u on) U.heap ∧ va_K D vwCl [(cI, .int)] U)) (vp_Si (fun r => r = nI (cN u tt))) 0 0 (fun _ => False) := by
  refine en_pu (cc := cX0_napsAt) (maxL := 2) (ret := (some .int)) _ _ (by decide) rfl (Nat.le_of_ble_eq_true rfl) ?_
  intro p e s m args below meth c ls hx hb hml hr hlocks hts hown hP hK hl
  have hown : s.vm.findClass RX0 = some m.cls := hown
  have hin : ∀ w ∈ wsX00, w ∈ wsX0_napsAt := fun _ h9 => List.mem_cons_of_mem _ (List.mem_append_left _ (List.mem_append_right _ h9))
  have hl : lv_has ls 2 [(0, .ref h), (1, .int (nI tt))] := hl
  obtain ⟨hIa, hIb, hIc, hId, hIe, hIf, hIg, hIh, hIi, hIj⟩ := id hI
  refine lv_aload_n hx hb dX0_napsAt_0 rfl (lv_at hl 0 rfl) ?_
  refine lv_iload_n hx hb dX0_napsAt_1 rfl (lv_at hl 1 rfl) ?_
  refine va_csv (W.runV (As := [.int (nI tt)]) (rest := []) ⟨hx, hb, hml, hown, hts⟩ (c_X0_checkMinute l D cI h a u on tt (by omega)) (cwV 1 hts gX0_napsAt_X0_checkMinute rfl rfl rfl (by decide +kernel) ⟨Nat.le_of_ble_eq_true rfl, Nat.le_of_ble_eq_true rfl⟩) (pu_pre hK hP rfl rfl) rfl rfl hl.1 rfl (lv_room (Nat.le_of_ble_eq_true rfl)) dX0_napsAt_2 ⟨Nat.le_of_ble_eq_true rfl, Nat.le_of_ble_eq_true rfl⟩) (fun _ => ?_)
  refine lv_aload_n hx hb dX0_napsAt_5 rfl (lv_at hl 0 rfl) ?_
  refine va_get (D := D) (ci := 0) (v := .ref (a 3)) (C := RX0) (T := TX0) (N := 17) hx hb hts hin hown hK hP 0 rfl rfl 5 (by decide) (hts (.fieldLink RX0 19 "AfternoonMeter" "napsOver" "[I") (List.mem_of_getElem? (i := 1) rfl)) (fun _ h9 => h9) rfl dX0_napsAt_6 ?_
  refine lv_iload_n hx hb dX0_napsAt_9 rfl (lv_at hl 1 rfl) ?_
  refine q_iald (v := nI (cN u tt)) hx hb hK hP 4 0 rfl rfl (by omega) (by decide) (hIh tt (by omega)) dX0_napsAt_10 ?_
  have hcn := cN_le u tt
  have hq : nI (cN u tt) = nI (cN u tt) := by rfl
  exact W.iret hx hb hr (fun t ht _ => ⟨_, rfl, hq, ht⟩) (fun _ h9 => nomatch h9) dX0_napsAt_11
set_option maxHeartbeats 4000000 in
set_option maxRecDepth 100000 in
theorem c_X0_minutesAlone (l : Launch) (D : va_G) (cI : ClassId) (h : Nat) (a : Nat → Nat) (u : MS) (on : Nat → Int32) (np : Nat) (hI : Inv u) (hnp : np < mNc u) : Met l yX0_minutesAlone wsX0_minutesAlone ({ frames := 2, cells := 0, slots := 0, locals := 45 } : Room) (va_Pc [.ref h, .int (nI np)] (fun U => va_P D vwCl (pic0 cI h a u on) U.heap ∧ va_K D vwCl [(cI, .int)] U)) (vp_Si (fun r => r = fAl u np)) 0 0 (fun _ => False) := by
  refine en_pu (cc := cX0_minutesAlone) (maxL := 2) (ret := (some .int)) _ _ (by decide) rfl (Nat.le_of_ble_eq_true rfl) ?_
  intro p e s m args below meth c ls hx hb hml hr hlocks hts hown hP hK hl
  have hown : s.vm.findClass RX0 = some m.cls := hown
  have hin : ∀ w ∈ wsX00, w ∈ wsX0_minutesAlone := fun _ h9 => List.mem_cons_of_mem _ (List.mem_append_left _ (List.mem_append_right _ h9))
  have hl : lv_has ls 2 [(0, .ref h), (1, .int (nI np))] := hl
  obtain ⟨hIa, hIb, hIc, hId, hIe, hIf, hIg, hIh, hIi, hIj⟩ := id hI
  refine lv_aload_n hx hb dX0_minutesAlone_0 rfl (lv_at hl 0 rfl) ?_
  refine lv_iload_n hx hb dX0_minutesAlone_1 rfl (lv_at hl 1 rfl) ?_
  refine va_csv (W.runV (As := [.int (nI np)]) (rest := []) ⟨hx, hb, hml, hown, hts⟩ (c_X0_checkNap l D cI h a u on np hI (by omega)) (cwV 1 hts gX0_minutesAlone_X0_checkNap rfl rfl rfl (by decide +kernel) ⟨Nat.le_of_ble_eq_true rfl, Nat.le_of_ble_eq_true rfl⟩) (pu_pre hK hP rfl rfl) rfl rfl hl.1 rfl (lv_room (Nat.le_of_ble_eq_true rfl)) dX0_minutesAlone_2 ⟨Nat.le_of_ble_eq_true rfl, Nat.le_of_ble_eq_true rfl⟩) (fun _ => ?_)
  refine lv_aload_n hx hb dX0_minutesAlone_5 rfl (lv_at hl 0 rfl) ?_
  refine lv_iload_n hx hb dX0_minutesAlone_6 rfl (lv_at hl 1 rfl) ?_
  refine vp_callSi (W.runV (As := [.int (nI np)]) (rest := []) ⟨hx, hb, hml, hown, hts⟩ (c_X0_countAlone l D cI h a u on np hI (by omega)) (cwV 1 hts gX0_minutesAlone_X0_countAlone rfl rfl rfl (by decide +kernel) ⟨Nat.le_of_ble_eq_true rfl, Nat.le_of_ble_eq_true rfl⟩) (pu_pre hK hP rfl rfl) rfl rfl hl.1 rfl (lv_room (Nat.le_of_ble_eq_true rfl)) dX0_minutesAlone_7 ⟨Nat.le_of_ble_eq_true rfl, Nat.le_of_ble_eq_true rfl⟩) (fun r hr => ?_)
  subst hr
  have hq : fAl u np = fAl u np := by rfl
  exact W.iret hx hb hr (fun t ht _ => ⟨_, rfl, hq, ht⟩) (fun _ h9 => nomatch h9) dX0_minutesAlone_10
set_option maxHeartbeats 4000000 in
set_option maxRecDepth 100000 in
theorem c_X0_ticksOf (l : Launch) (D : va_G) (cI : ClassId) (h : Nat) (a : Nat → Nat) (u : MS) (on : Nat → Int32) (bb : Nat) (hI : Inv u) (hbb : bb < mBc u) : Met l yX0_ticksOf wsX0_ticksOf ({ frames := 3, cells := 0, slots := 0, locals := 68 } : Room) (va_Pc [.ref h, .int (nI bb)] (fun U => va_P D vwCl (pic0 cI h a u on) U.heap ∧ va_K D vwCl [(cI, .int)] U)) (vp_Si (fun r => r = fTk u bb)) 0 0 (fun _ => False) := by
  refine en_pu (cc := cX0_ticksOf) (maxL := 2) (ret := (some .int)) _ _ (by decide) rfl (Nat.le_of_ble_eq_true rfl) ?_
  intro p e s m args below meth c ls hx hb hml hr hlocks hts hown hP hK hl
  have hown : s.vm.findClass RX0 = some m.cls := hown
  have hin : ∀ w ∈ wsX00, w ∈ wsX0_ticksOf := fun _ h9 => List.mem_cons_of_mem _ (List.mem_append_left _ (List.mem_append_right _ h9))
  have hl : lv_has ls 2 [(0, .ref h), (1, .int (nI bb))] := hl
  obtain ⟨hIa, hIb, hIc, hId, hIe, hIf, hIg, hIh, hIi, hIj⟩ := id hI
  refine lv_aload_n hx hb dX0_ticksOf_0 rfl (lv_at hl 0 rfl) ?_
  refine lv_iload_n hx hb dX0_ticksOf_1 rfl (lv_at hl 1 rfl) ?_
  refine va_csv (W.runV (As := [.int (nI bb)]) (rest := []) ⟨hx, hb, hml, hown, hts⟩ (c_X0_checkBee l D cI h a u on bb hI (by omega)) (cwV 1 hts gX0_ticksOf_X0_checkBee rfl rfl rfl (by decide +kernel) ⟨Nat.le_of_ble_eq_true rfl, Nat.le_of_ble_eq_true rfl⟩) (pu_pre hK hP rfl rfl) rfl rfl hl.1 rfl (lv_room (Nat.le_of_ble_eq_true rfl)) dX0_ticksOf_2 ⟨Nat.le_of_ble_eq_true rfl, Nat.le_of_ble_eq_true rfl⟩) (fun _ => ?_)
  refine lv_aload_n hx hb dX0_ticksOf_5 rfl (lv_at hl 0 rfl) ?_
  refine lv_iload_n hx hb dX0_ticksOf_6 rfl (lv_at hl 1 rfl) ?_
  refine vp_callSi (W.runV (As := [.int (nI bb)]) (rest := []) ⟨hx, hb, hml, hown, hts⟩ (c_X0_countTicks l D cI h a u on bb hI (by omega)) (cwV 1 hts gX0_ticksOf_X0_countTicks rfl rfl rfl (by decide +kernel) ⟨Nat.le_of_ble_eq_true rfl, Nat.le_of_ble_eq_true rfl⟩) (pu_pre hK hP rfl rfl) rfl rfl hl.1 rfl (lv_room (Nat.le_of_ble_eq_true rfl)) dX0_ticksOf_7 ⟨Nat.le_of_ble_eq_true rfl, Nat.le_of_ble_eq_true rfl⟩) (fun r hr => ?_)
  subst hr
  have hq : fTk u bb = fTk u bb := by rfl
  exact W.iret hx hb hr (fun t ht _ => ⟨_, rfl, hq, ht⟩) (fun _ h9 => nomatch h9) dX0_ticksOf_10
set_option maxHeartbeats 4000000 in
set_option maxRecDepth 100000 in
theorem c_X0_measuredBy (l : Launch) (D : va_G) (cI : ClassId) (h : Nat) (a : Nat → Nat) (u : MS) (on : Nat → Int32) (bb : Nat) (hI : Inv u) (hbb : bb < mBc u) : Met l yX0_measuredBy wsX0_measuredBy ({ frames := 3, cells := 0, slots := 0, locals := 68 } : Room) (va_Pc [.ref h, .int (nI bb)] (fun U => va_P D vwCl (pic0 cI h a u on) U.heap ∧ va_K D vwCl [(cI, .int)] U)) (vp_Si (fun r => r = fMe u bb)) 0 0 (fun _ => False) := by
  refine en_pu (cc := cX0_measuredBy) (maxL := 2) (ret := (some .int)) _ _ (by decide) rfl (Nat.le_of_ble_eq_true rfl) ?_
  intro p e s m args below meth c ls hx hb hml hr hlocks hts hown hP hK hl
  have hown : s.vm.findClass RX0 = some m.cls := hown
  have hin : ∀ w ∈ wsX00, w ∈ wsX0_measuredBy := fun _ h9 => List.mem_cons_of_mem _ (List.mem_append_left _ (List.mem_append_right _ h9))
  have hl : lv_has ls 2 [(0, .ref h), (1, .int (nI bb))] := hl
  obtain ⟨hIa, hIb, hIc, hId, hIe, hIf, hIg, hIh, hIi, hIj⟩ := id hI
  refine lv_aload_n hx hb dX0_measuredBy_0 rfl (lv_at hl 0 rfl) ?_
  refine lv_iload_n hx hb dX0_measuredBy_1 rfl (lv_at hl 1 rfl) ?_
  refine va_csv (W.runV (As := [.int (nI bb)]) (rest := []) ⟨hx, hb, hml, hown, hts⟩ (c_X0_checkBee l D cI h a u on bb hI (by omega)) (cwV 1 hts gX0_measuredBy_X0_checkBee rfl rfl rfl (by decide +kernel) ⟨Nat.le_of_ble_eq_true rfl, Nat.le_of_ble_eq_true rfl⟩) (pu_pre hK hP rfl rfl) rfl rfl hl.1 rfl (lv_room (Nat.le_of_ble_eq_true rfl)) dX0_measuredBy_2 ⟨Nat.le_of_ble_eq_true rfl, Nat.le_of_ble_eq_true rfl⟩) (fun _ => ?_)
  refine lv_aload_n hx hb dX0_measuredBy_5 rfl (lv_at hl 0 rfl) ?_
  refine lv_iload_n hx hb dX0_measuredBy_6 rfl (lv_at hl 1 rfl) ?_
  refine vp_callSi (W.runV (As := [.int (nI bb)]) (rest := []) ⟨hx, hb, hml, hown, hts⟩ (c_X0_countTicks l D cI h a u on bb hI (by omega)) (cwV 1 hts gX0_measuredBy_X0_countTicks rfl rfl rfl (by decide +kernel) ⟨Nat.le_of_ble_eq_true rfl, Nat.le_of_ble_eq_true rfl⟩) (pu_pre hK hP rfl rfl) rfl rfl hl.1 rfl (lv_room (Nat.le_of_ble_eq_true rfl)) dX0_measuredBy_7 ⟨Nat.le_of_ble_eq_true rfl, Nat.le_of_ble_eq_true rfl⟩) (fun r hr => ?_)
  subst hr
  refine lv_aload_n hx hb dX0_measuredBy_10 rfl (lv_at hl 0 rfl) ?_
  refine va_get (D := D) (ci := 0) (v := .ref (a 4)) (C := RX0) (T := TX0) (N := 17) hx hb hts hin hown hK hP 0 rfl rfl 6 (by decide) (hts (.fieldLink RX0 22 "AfternoonMeter" "periods" "[I") (List.mem_of_getElem? (i := 1) rfl)) (fun _ h9 => h9) rfl dX0_measuredBy_11 ?_
  refine lv_iload_n hx hb dX0_measuredBy_14 rfl (lv_at hl 1 rfl) ?_
  refine q_iald (v := nI (pN u bb)) hx hb hK hP 5 0 rfl rfl (by omega) (by decide) ((hIf bb (by omega)).1) dX0_measuredBy_15 ?_
  obtain ⟨_, _, _, _, _⟩ := hIf bb (by omega)
  refine lv_imul hx hb dX0_measuredBy_16 ?_
  have hq : (fTk u bb) * (nI (pN u bb)) = fMe u bb := by rfl
  exact W.iret hx hb hr (fun t ht _ => ⟨_, rfl, hq, ht⟩) (fun _ h9 => nomatch h9) dX0_measuredBy_17
set_option maxHeartbeats 4000000 in
set_option maxRecDepth 100000 in
theorem c_X0_errorOf (l : Launch) (D : va_G) (cI : ClassId) (h : Nat) (a : Nat → Nat) (u : MS) (on : Nat → Int32) (bb : Nat) (hI : Inv u) (hbb : bb < mBc u) : Met l yX0_errorOf wsX0_errorOf ({ frames := 4, cells := 0, slots := 0, locals := 89 } : Room) (va_Pc [.ref h, .int (nI bb)] (fun U => va_P D vwCl (pic0 cI h a u on) U.heap ∧ va_K D vwCl [(cI, .int)] U)) (vp_Si (fun r => r = fEr u bb)) 0 0 (fun _ => False) := by
  refine en_pu (cc := cX0_errorOf) (maxL := 2) (ret := (some .int)) _ _ (by decide) rfl (Nat.le_of_ble_eq_true rfl) ?_
  intro p e s m args below meth c ls hx hb hml hr hlocks hts hown hP hK hl
  have hown : s.vm.findClass RX0 = some m.cls := hown
  have hin : ∀ w ∈ wsX00, w ∈ wsX0_errorOf := fun _ h9 => List.mem_cons_of_mem _ (List.mem_append_left _ (List.mem_append_right _ h9))
  have hl : lv_has ls 2 [(0, .ref h), (1, .int (nI bb))] := hl
  obtain ⟨hIa, hIb, hIc, hId, hIe, hIf, hIg, hIh, hIi, hIj⟩ := id hI
  refine lv_aload_n hx hb dX0_errorOf_0 rfl (lv_at hl 0 rfl) ?_
  refine lv_iload_n hx hb dX0_errorOf_1 rfl (lv_at hl 1 rfl) ?_
  refine vp_callSi (W.runV (As := [.int (nI bb)]) (rest := []) ⟨hx, hb, hml, hown, hts⟩ (c_X0_measuredBy l D cI h a u on bb hI (by omega)) (cwV 1 hts gX0_errorOf_X0_measuredBy rfl rfl rfl (by decide +kernel) ⟨Nat.le_of_ble_eq_true rfl, Nat.le_of_ble_eq_true rfl⟩) (pu_pre hK hP rfl rfl) rfl rfl hl.1 rfl (lv_room (Nat.le_of_ble_eq_true rfl)) dX0_errorOf_2 ⟨Nat.le_of_ble_eq_true rfl, Nat.le_of_ble_eq_true rfl⟩) (fun r hr => ?_)
  subst hr
  refine lv_aload_n hx hb dX0_errorOf_5 rfl (lv_at hl 0 rfl) ?_
  refine vp_callSi (W.runV (As := []) (rest := [.int (fMe u bb)]) ⟨hx, hb, hml, hown, hts⟩ (c_X0_awakeMinutes l D cI h a u on hI) (cwV 0 hts gX0_errorOf_X0_awakeMinutes rfl rfl rfl (by decide +kernel) ⟨Nat.le_of_ble_eq_true rfl, Nat.le_of_ble_eq_true rfl⟩) (pu_pre hK hP rfl rfl) rfl rfl hl.1 rfl (lv_room (Nat.le_of_ble_eq_true rfl)) dX0_errorOf_6 ⟨Nat.le_of_ble_eq_true rfl, Nat.le_of_ble_eq_true rfl⟩) (fun r hr => ?_)
  subst hr
  refine lv_isub hx hb dX0_errorOf_9 ?_
  have hq : (fMe u bb) - (fAw u) = fEr u bb := by rfl
  exact W.iret hx hb hr (fun t ht _ => ⟨_, rfl, hq, ht⟩) (fun _ h9 => nomatch h9) dX0_errorOf_10
set_option maxHeartbeats 4000000 in
set_option maxRecDepth 100000 in
theorem c_X0_bestBee (l : Launch) (D : va_G) (cI : ClassId) (h : Nat) (a : Nat → Nat) (u : MS) (on : Nat → Int32) (hI : Inv u) : Met l yX0_bestBee wsX0_bestBee ({ frames := 5, cells := 0, slots := 0, locals := 110 } : Room) (va_Pc [.ref h] (fun U => va_P D vwCl (pic0 cI h a u on) U.heap ∧ va_K D vwCl [(cI, .int)] U)) (vp_Si (fun r => r = fBB u)) 0 0 (fun _ => False) := by
  refine en_pu (cc := cX0_bestBee) (maxL := 5) (ret := (some .int)) _ _ (by decide) rfl (Nat.le_of_ble_eq_true rfl) ?_
  intro p e s m args below meth c ls hx hb hml hr hlocks hts hown hP hK hl
  have hown : s.vm.findClass RX0 = some m.cls := hown
  have hin : ∀ w ∈ wsX00, w ∈ wsX0_bestBee := fun _ h9 => List.mem_cons_of_mem _ (List.mem_append_left _ (List.mem_append_right _ h9))
  have hl : lv_has ls 5 [(0, .ref h)] := hl
  obtain ⟨hIa, hIb, hIc, hId, hIe, hIf, hIg, hIh, hIi, hIj⟩ := id hI
  refine lv_iconst (v := (-1)) hx hb dX0_bestBee_0 (by decide +kernel) ?_
  refine lv_istore_n (lv' := [(1, .int (-1)), (0, .ref h)]) hx hb dX0_bestBee_1 rfl hl (by decide) rfl (fun ls hl => ?_)
  refine lv_iconst (v := nI 0) hx hb dX0_bestBee_2 (by decide +kernel) ?_
  refine lv_istore_n (lv' := [(2, .int (nI 0)), (1, .int (-1)), (0, .ref h)]) hx hb dX0_bestBee_3 rfl hl (by decide) rfl (fun ls hl => ?_)
  refine lv_iconst (v := nI 0) hx hb dX0_bestBee_4 (by decide +kernel) ?_
  refine lv_istore_n (lv' := [(3, .int (nI 0)), (2, .int (nI 0)), (1, .int (-1)), (0, .ref h)]) hx hb dX0_bestBee_5 rfl hl (by decide) rfl (fun ls hl => ?_)
  have lp6 : ∀ (n k : Nat), k + n = mBc u → ∀ (X : Int32), X = (bbS u k).1 → ∀ (Y : Int32), Y = (bbS u k).2 → ∀ (ls : Array Slot), lv_has ls 5 [(0, .ref h), (1, .int X), (2, .int Y), (3, .int (nI k))] → W p l e ({ frames := 5, cells := 0, slots := 0, locals := 110 } : Room) s m args below meth c s.heap [] 0 0 (MQ below (vp_Si (fun r => r = fBB u)) args s 0 0 (fun _ => False)) (F0 m 6 ls []) := by
    intro n
    induction n with
    | zero =>
      intro k hk X eX Y eY ls hl
      have ek : k = mBc u := by omega
      refine lv_iload_n hx hb dX0_bestBee_6 rfl (lv_at hl 3 rfl) ?_
      refine lv_aload_n hx hb dX0_bestBee_7 rfl (lv_at hl 0 rfl) ?_
      refine va_get (D := D) (ci := 0) (v := .int (nI (mBc u))) (C := RX0) (T := TX0) (N := 17) hx hb hts hin hown hK hP 0 rfl rfl 8 (by decide) (hts (.fieldLink RX0 73 "AfternoonMeter" "beeCount" "I") (List.mem_of_getElem? (i := 1) rfl)) (fun _ h9 => h9) rfl dX0_bestBee_8 ?_
      refine lv_icmp_ge (tgt := 46) hx hb dX0_bestBee_11 (by decide) (fun c_11 => ?_) (fun c_11 => ?_)
      · skip
        replace c_11 : (mBc u) ≤ k := leN c_11
        refine lv_iload_n hx hb dX0_bestBee_46 rfl (lv_at hl 1 rfl) ?_
        have hq : X = fBB u := by rw [eX, ek]; rfl
        exact W.iret hx hb hr (fun t ht _ => ⟨_, rfl, hq, ht⟩) (fun _ h9 => nomatch h9) dX0_bestBee_47
      · skip
        replace c_11 : k < (mBc u) := nleN c_11
        exact (by omega : False).elim
    | succ n ih =>
      intro k hk X eX Y eY ls hl
      refine lv_iload_n hx hb dX0_bestBee_6 rfl (lv_at hl 3 rfl) ?_
      refine lv_aload_n hx hb dX0_bestBee_7 rfl (lv_at hl 0 rfl) ?_
      refine va_get (D := D) (ci := 0) (v := .int (nI (mBc u))) (C := RX0) (T := TX0) (N := 17) hx hb hts hin hown hK hP 0 rfl rfl 8 (by decide) (hts (.fieldLink RX0 73 "AfternoonMeter" "beeCount" "I") (List.mem_of_getElem? (i := 1) rfl)) (fun _ h9 => h9) rfl dX0_bestBee_8 ?_
      refine lv_icmp_ge (tgt := 46) hx hb dX0_bestBee_11 (by decide) (fun c_11 => ?_) (fun c_11 => ?_)
      · skip
        replace c_11 : (mBc u) ≤ k := leN c_11
        exact (by omega : False).elim
      · skip
        replace c_11 : k < (mBc u) := nleN c_11
        refine lv_aload_n hx hb dX0_bestBee_14 rfl (lv_at hl 0 rfl) ?_
        refine lv_iload_n hx hb dX0_bestBee_15 rfl (lv_at hl 3 rfl) ?_
        refine vp_callSi (W.runV (As := [.int (nI k)]) (rest := []) ⟨hx, hb, hml, hown, hts⟩ (c_X0_errorOf l D cI h a u on k hI (by omega)) (cwV 1 hts gX0_bestBee_X0_errorOf rfl rfl rfl (by decide +kernel) ⟨Nat.le_of_ble_eq_true rfl, Nat.le_of_ble_eq_true rfl⟩) (pu_pre hK hP rfl rfl) rfl rfl hl.1 rfl (lv_room (Nat.le_of_ble_eq_true rfl)) dX0_bestBee_16 ⟨Nat.le_of_ble_eq_true rfl, Nat.le_of_ble_eq_true rfl⟩) (fun r hr => ?_)
        subst hr
        refine va_mabs hx hb (hml.trans hl.1.symm) hown (hts (.methodLink RX0 149 Lib.Math.abs.name) (List.mem_of_getElem? (i := 2) rfl)) (hts (.static Lib.Math.abs.name) (List.mem_of_getElem? (i := 3) rfl)) (hts (.initialized "java/lang/Math") (List.mem_of_getElem? (i := 4) rfl)) (hts _ (List.mem_of_getElem? (i := 5) rfl)) (Nat.le_of_ble_eq_true rfl) (Nat.le_of_ble_eq_true rfl) (Nat.le_of_ble_eq_true rfl) (Nat.le_of_ble_eq_true rfl) dX0_bestBee_19 ?_
        rw [show (if 0 ≤ fEr u k then fEr u k else 0 - (fEr u k)) = abI (fEr u k) from rfl]
        refine lv_istore (lv' := [(4, .int (abI (fEr u k))), (0, .ref h), (1, .int X), (2, .int Y), (3, .int (nI k))]) hx hb dX0_bestBee_22 hl (by decide) rfl (fun ls hl => ?_)
        refine lv_iload_n hx hb dX0_bestBee_24 rfl (lv_at hl 2 rfl) ?_
        refine lv_iconst (v := (-1)) hx hb dX0_bestBee_25 (by decide +kernel) ?_
        refine lv_icmp_eq (tgt := 35) hx hb dX0_bestBee_26 (by decide) (fun c_26 => ?_) (fun c_26 => ?_)
        · skip
          refine lv_iload_n hx hb dX0_bestBee_35 rfl (lv_at hl 4 rfl) ?_
          refine lv_istore_n (lv' := [(1, .int (nI k)), (4, .int (abI (fEr u k))), (0, .ref h), (2, .int Y), (3, .int (nI k))]) hx hb dX0_bestBee_36 rfl hl (by decide) rfl (fun ls hl => ?_)
          refine lv_iload hx hb dX0_bestBee_37 (lv_at hl 1 rfl) ?_
          refine lv_istore_n (lv' := [(2, .int (abI (fEr u k))), (1, .int (nI k)), (4, .int (abI (fEr u k))), (0, .ref h), (3, .int (nI k))]) hx hb dX0_bestBee_39 rfl hl (by decide) rfl (fun ls hl => ?_)
          refine lv_iinc (v := nI (k + 1)) (lv' := [(3, .int (nI (k + 1))), (2, .int (abI (fEr u k))), (1, .int (nI k)), (4, .int (abI (fEr u k))), (0, .ref h)]) hx hb dX0_bestBee_40 hl (k := 4) rfl (nI_i1 _) (by decide) rfl (fun ls hl => ?_)
          refine lv_goto (tgt := 6) hx hb dX0_bestBee_43 (by decide) ?_
          exact ih (k + 1) (by omega) (nI k) (by subst eX eY; show _ = (bbF u k (bbS u k)).1; rw [bb_yes (Or.inl c_26)]) (abI (fEr u k)) (by subst eX eY; show _ = (bbF u k (bbS u k)).2; rw [bb_yes (Or.inl c_26)]) _ (lv_sub hl [4, 2, 1, 0] rfl)
        · skip
          refine lv_iload hx hb dX0_bestBee_29 (lv_at hl 0 rfl) ?_
          refine lv_iload_n hx hb dX0_bestBee_31 rfl (lv_at hl 3 rfl) ?_
          refine lv_icmp_ge (tgt := 40) hx hb dX0_bestBee_32 (by decide) (fun c_32 => ?_) (fun c_32 => ?_)
          · skip
            refine lv_iinc (v := nI (k + 1)) (lv' := [(3, .int (nI (k + 1))), (4, .int (abI (fEr u k))), (0, .ref h), (1, .int X), (2, .int Y)]) hx hb dX0_bestBee_40 hl (k := 4) rfl (nI_i1 _) (by decide) rfl (fun ls hl => ?_)
            refine lv_goto (tgt := 6) hx hb dX0_bestBee_43 (by decide) ?_
            exact ih (k + 1) (by omega) X (by subst eX eY; show _ = (bbF u k (bbS u k)).1; rw [bb_no (fun z => z.elim c_26 (ngI c_32))]) Y (by subst eX eY; show _ = (bbF u k (bbS u k)).2; rw [bb_no (fun z => z.elim c_26 (ngI c_32))]) _ (lv_sub hl [2, 3, 4, 0] rfl)
          · skip
            refine lv_iload_n hx hb dX0_bestBee_35 rfl (lv_at hl 4 rfl) ?_
            refine lv_istore_n (lv' := [(1, .int (nI k)), (4, .int (abI (fEr u k))), (0, .ref h), (2, .int Y), (3, .int (nI k))]) hx hb dX0_bestBee_36 rfl hl (by decide) rfl (fun ls hl => ?_)
            refine lv_iload hx hb dX0_bestBee_37 (lv_at hl 1 rfl) ?_
            refine lv_istore_n (lv' := [(2, .int (abI (fEr u k))), (1, .int (nI k)), (4, .int (abI (fEr u k))), (0, .ref h), (3, .int (nI k))]) hx hb dX0_bestBee_39 rfl hl (by decide) rfl (fun ls hl => ?_)
            refine lv_iinc (v := nI (k + 1)) (lv' := [(3, .int (nI (k + 1))), (2, .int (abI (fEr u k))), (1, .int (nI k)), (4, .int (abI (fEr u k))), (0, .ref h)]) hx hb dX0_bestBee_40 hl (k := 4) rfl (nI_i1 _) (by decide) rfl (fun ls hl => ?_)
            refine lv_goto (tgt := 6) hx hb dX0_bestBee_43 (by decide) ?_
            exact ih (k + 1) (by omega) (nI k) (by subst eX eY; show _ = (bbF u k (bbS u k)).1; rw [bb_yes (Or.inr (gtI c_32))]) (abI (fEr u k)) (by subst eX eY; show _ = (bbF u k (bbS u k)).2; rw [bb_yes (Or.inr (gtI c_32))]) _ (lv_sub hl [4, 2, 1, 0] rfl)
  exact lp6 _ 0 (Nat.zero_add _) (-1) (by rfl) (nI 0) (by rfl) _ (lv_sub hl [3, 2, 1, 0] rfl)
set_option maxHeartbeats 4000000 in
set_option maxRecDepth 100000 in
theorem c_X0_nextTick (l : Launch) (D : va_G) (cI : ClassId) (h : Nat) (a : Nat → Nat) (u : MS) (on : Nat → Int32) (bb : Nat) (hI : Inv u) (hbb : bb < mBc u) : Met l yX0_nextTick wsX0_nextTick ({ frames := 2, cells := 0, slots := 0, locals := 45 } : Room) (va_Pc [.ref h, .int (nI bb)] (fun U => va_P D vwCl (pic0 cI h a u on) U.heap ∧ va_K D vwCl [(cI, .int)] U)) (vp_Si (fun r => r = fNx u bb)) 0 0 (fun _ => False) := by
  refine en_pu (cc := cX0_nextTick) (maxL := 3) (ret := (some .int)) _ _ (by decide) rfl (Nat.le_of_ble_eq_true rfl) ?_
  intro p e s m args below meth c ls hx hb hml hr hlocks hts hown hP hK hl
  have hown : s.vm.findClass RX0 = some m.cls := hown
  have hin : ∀ w ∈ wsX00, w ∈ wsX0_nextTick := fun _ h9 => List.mem_cons_of_mem _ (List.mem_append_left _ (List.mem_append_right _ h9))
  have hl : lv_has ls 3 [(0, .ref h), (1, .int (nI bb))] := hl
  obtain ⟨hIa, hIb, hIc, hId, hIe, hIf, hIg, hIh, hIi, hIj⟩ := id hI
  refine lv_aload_n hx hb dX0_nextTick_0 rfl (lv_at hl 0 rfl) ?_
  refine lv_iload_n hx hb dX0_nextTick_1 rfl (lv_at hl 1 rfl) ?_
  refine va_csv (W.runV (As := [.int (nI bb)]) (rest := []) ⟨hx, hb, hml, hown, hts⟩ (c_X0_checkBee l D cI h a u on bb hI (by omega)) (cwV 1 hts gX0_nextTick_X0_checkBee rfl rfl rfl (by decide +kernel) ⟨Nat.le_of_ble_eq_true rfl, Nat.le_of_ble_eq_true rfl⟩) (pu_pre hK hP rfl rfl) rfl rfl hl.1 rfl (lv_room (Nat.le_of_ble_eq_true rfl)) dX0_nextTick_2 ⟨Nat.le_of_ble_eq_true rfl, Nat.le_of_ble_eq_true rfl⟩) (fun _ => ?_)
  refine lv_aload_n hx hb dX0_nextTick_5 rfl (lv_at hl 0 rfl) ?_
  refine va_get (D := D) (ci := 0) (v := .int (nI (mNow u))) (C := RX0) (T := TX0) (N := 17) hx hb hts hin hown hK hP 0 rfl rfl 15 (by decide) (hts (.fieldLink RX0 97 "AfternoonMeter" "now" "I") (List.mem_of_getElem? (i := 1) rfl)) (fun _ h9 => h9) rfl dX0_nextTick_6 ?_
  refine lv_istore_n (lv' := [(2, .int (nI (mNow u))), (0, .ref h), (1, .int (nI bb))]) hx hb dX0_nextTick_9 rfl hl (by decide) rfl (fun ls hl => ?_)
  have lp10 : ∀ (n k : Nat), k + n = 360 - mNow u → fNx u bb = fd (tkB u bb) n (mNow u + k) → ∀ (ls : Array Slot), lv_has ls 3 [(0, .ref h), (1, .int (nI bb)), (2, .int (nI (mNow u + k)))] → W p l e ({ frames := 2, cells := 0, slots := 0, locals := 45 } : Room) s m args below meth c s.heap [] 0 0 (MQ below (vp_Si (fun r => r = fNx u bb)) args s 0 0 (fun _ => False)) (F0 m 10 ls []) := by
    intro n
    induction n with
    | zero =>
      intro k hk hq0 ls hl
      refine lv_iload_n hx hb dX0_nextTick_10 rfl (lv_at hl 2 rfl) ?_
      refine lv_sipush (v := nI 360) hx hb dX0_nextTick_11 (by decide +kernel) ?_
      refine lv_icmp_ge (tgt := 34) hx hb dX0_nextTick_14 (by decide) (fun c_14 => ?_) (fun c_14 => ?_)
      · skip
        replace c_14 : 360 ≤ (mNow u + k) := leN c_14
        refine lv_iconst (v := (-1)) hx hb dX0_nextTick_34 (by decide +kernel) ?_
        have hq : (-1) = fNx u bb := by rw [hq0]; rfl
        exact W.iret hx hb hr (fun t ht _ => ⟨_, rfl, hq, ht⟩) (fun _ h9 => nomatch h9) dX0_nextTick_35
      · skip
        replace c_14 : (mNow u + k) < 360 := nleN c_14
        exact (by omega : False).elim
    | succ n ih =>
      intro k hk hq0 ls hl
      refine lv_iload_n hx hb dX0_nextTick_10 rfl (lv_at hl 2 rfl) ?_
      refine lv_sipush (v := nI 360) hx hb dX0_nextTick_11 (by decide +kernel) ?_
      refine lv_icmp_ge (tgt := 34) hx hb dX0_nextTick_14 (by decide) (fun c_14 => ?_) (fun c_14 => ?_)
      · skip
        replace c_14 : 360 ≤ (mNow u + k) := leN c_14
        exact (by omega : False).elim
      · skip
        replace c_14 : (mNow u + k) < 360 := nleN c_14
        refine lv_aload_n hx hb dX0_nextTick_17 rfl (lv_at hl 0 rfl) ?_
        refine lv_iload_n hx hb dX0_nextTick_18 rfl (lv_at hl 1 rfl) ?_
        refine lv_iload_n hx hb dX0_nextTick_19 rfl (lv_at hl 2 rfl) ?_
        refine vp_callSi (W.runV (As := [.int (nI bb), .int (nI (mNow u + k))]) (rest := []) ⟨hx, hb, hml, hown, hts⟩ (c_X0_ticksIn l D cI h a u on bb (mNow u + k) hI (by omega) (by omega)) (cwV 2 hts gX0_nextTick_X0_ticksIn rfl rfl rfl (by decide +kernel) ⟨Nat.le_of_ble_eq_true rfl, Nat.le_of_ble_eq_true rfl⟩) (pu_pre hK hP rfl rfl) rfl rfl hl.1 rfl (lv_room (Nat.le_of_ble_eq_true rfl)) dX0_nextTick_20 ⟨Nat.le_of_ble_eq_true rfl, Nat.le_of_ble_eq_true rfl⟩) (fun r hr => ?_)
        subst hr
        refine lv_if_eq (tgt := 28) hx hb dX0_nextTick_23 (by decide) (fun c_23 => ?_) (fun c_23 => ?_)
        · skip
          replace c_23 : (tkB u bb (mNow u + k)) = false := bI_eq0 c_23
          refine lv_iinc (v := nI (mNow u + k + 1)) (lv' := [(2, .int (nI (mNow u + k + 1))), (0, .ref h), (1, .int (nI bb))]) hx hb dX0_nextTick_28 hl (k := 2) rfl (nI_i1 _) (by decide) rfl (fun ls hl => ?_)
          refine lv_goto (tgt := 10) hx hb dX0_nextTick_31 (by decide) ?_
          exact ih (k + 1) (by omega) (by rw [hq0, fd_miss c_23]; rfl) _ (lv_sub hl [1, 2, 0] rfl)
        · skip
          replace c_23 : (tkB u bb (mNow u + k)) = true := bI_ne0 c_23
          refine lv_iload_n hx hb dX0_nextTick_26 rfl (lv_at hl 2 rfl) ?_
          have hq : nI (mNow u + k) = fNx u bb := by rw [hq0, fd_hit c_23]
          exact W.iret hx hb hr (fun t ht _ => ⟨_, rfl, hq, ht⟩) (fun _ h9 => nomatch h9) dX0_nextTick_27
  exact lp10 _ 0 (Nat.zero_add _) (by rfl) _ (lv_sub hl [1, 2, 0] rfl)
set_option maxHeartbeats 4000000 in
set_option maxRecDepth 100000 in
theorem c_X0_spiltAtEnd (l : Launch) (D : va_G) (cI : ClassId) (h : Nat) (a : Nat → Nat) (u : MS) (on : Nat → Int32) (hI : Inv u) (hO : InvO u on) : Met l yX0_spiltAtEnd wsX0_spiltAtEnd ({ frames := 2, cells := 0, slots := 0, locals := 36 } : Room) (va_Pc [.ref h] (fun U => va_P D vwCl (pic0 cI h a u on) U.heap ∧ va_K D vwCl [(cI, .int)] U)) (vp_Si (fun r => r = fEnd u)) 0 0 (fun _ => False) := by
  refine en_pu (cc := cX0_spiltAtEnd) (maxL := 5) (ret := (some .int)) _ _ (by decide) rfl (Nat.le_of_ble_eq_true rfl) ?_
  intro p e s m args below meth c ls hx hb hml hr hlocks hts hown hP hK hl
  have hown : s.vm.findClass RX0 = some m.cls := hown
  have hin : ∀ w ∈ wsX00, w ∈ wsX0_spiltAtEnd := fun _ h9 => List.mem_cons_of_mem _ (List.mem_append_right _ h9)
  have hl : lv_has ls 5 [(0, .ref h)] := hl
  obtain ⟨hIa, hIb, hIc, hId, hIe, hIf, hIg, hIh, hIi, hIj⟩ := id hI
  refine lv_aload_n hx hb dX0_spiltAtEnd_0 rfl (lv_at hl 0 rfl) ?_
  refine va_get (D := D) (ci := 0) (v := .int (mSpl u)) (C := RX0) (T := TX0) (N := 17) hx hb hts hin hown hK hP 0 rfl rfl 14 (by decide) (hts (.fieldLink RX0 106 "AfternoonMeter" "ranOver" "I") (List.mem_of_getElem? (i := 1) rfl)) (fun _ h9 => h9) rfl dX0_spiltAtEnd_1 ?_
  refine lv_istore_n (lv' := [(1, .int (mSpl u)), (0, .ref h)]) hx hb dX0_spiltAtEnd_4 rfl hl (by decide) rfl (fun ls hl => ?_)
  refine lv_aload_n hx hb dX0_spiltAtEnd_5 rfl (lv_at hl 1 rfl) ?_
  refine va_get (D := D) (ci := 0) (v := .int (nI (mTea u))) (C := RX0) (T := TX0) (N := 17) hx hb hts hin hown hK hP 0 rfl rfl 13 (by decide) (hts (.fieldLink RX0 88 "AfternoonMeter" "inCup" "I") (List.mem_of_getElem? (i := 2) rfl)) (fun _ h9 => h9) rfl dX0_spiltAtEnd_6 ?_
  refine lv_istore_n (lv' := [(2, .int (nI (mTea u))), (1, .int (mSpl u)), (0, .ref h)]) hx hb dX0_spiltAtEnd_9 rfl hl (by decide) rfl (fun ls hl => ?_)
  refine lv_aload_n hx hb dX0_spiltAtEnd_10 rfl (lv_at hl 2 rfl) ?_
  refine va_get (D := D) (ci := 0) (v := .int (nI (mNow u))) (C := RX0) (T := TX0) (N := 17) hx hb hts hin hown hK hP 0 rfl rfl 15 (by decide) (hts (.fieldLink RX0 97 "AfternoonMeter" "now" "I") (List.mem_of_getElem? (i := 3) rfl)) (fun _ h9 => h9) rfl dX0_spiltAtEnd_11 ?_
  refine lv_istore_n (lv' := [(3, .int (nI (mNow u))), (2, .int (nI (mTea u))), (1, .int (mSpl u)), (0, .ref h)]) hx hb dX0_spiltAtEnd_14 rfl hl (by decide) rfl (fun ls hl => ?_)
  have lp15 : ∀ (n k : Nat), k + n = 360 - mNow u → ∀ (X : Int32), X = (enS u k).1 → ∀ (Y : Nat), Y = (enS u k).2 → Y ≤ mRoom u → ∀ (ls : Array Slot), lv_has ls 5 [(0, .ref h), (1, .int X), (2, .int (nI Y)), (3, .int (nI (mNow u + k)))] → W p l e ({ frames := 2, cells := 0, slots := 0, locals := 36 } : Room) s m args below meth c s.heap [] 0 0 (MQ below (vp_Si (fun r => r = fEnd u)) args s 0 0 (fun _ => False)) (F0 m 15 ls []) := by
    intro n
    induction n with
    | zero =>
      intro k hk X eX Y eY hY ls hl
      have ek : k = 360 - mNow u := by omega
      refine lv_iload_n hx hb dX0_spiltAtEnd_15 rfl (lv_at hl 3 rfl) ?_
      refine lv_sipush (v := nI 360) hx hb dX0_spiltAtEnd_16 (by decide +kernel) ?_
      refine lv_icmp_ge (tgt := 56) hx hb dX0_spiltAtEnd_19 (by decide) (fun c_19 => ?_) (fun c_19 => ?_)
      · skip
        replace c_19 : 360 ≤ (mNow u + k) := leN c_19
        refine lv_iload_n hx hb dX0_spiltAtEnd_56 rfl (lv_at hl 1 rfl) ?_
        have hq : X = fEnd u := by rw [eX, ek]; rfl
        exact W.iret hx hb hr (fun t ht _ => ⟨_, rfl, hq, ht⟩) (fun _ h9 => nomatch h9) dX0_spiltAtEnd_57
      · skip
        replace c_19 : (mNow u + k) < 360 := nleN c_19
        exact (by omega : False).elim
    | succ n ih =>
      intro k hk X eX Y eY hY ls hl
      refine lv_iload_n hx hb dX0_spiltAtEnd_15 rfl (lv_at hl 3 rfl) ?_
      refine lv_sipush (v := nI 360) hx hb dX0_spiltAtEnd_16 (by decide +kernel) ?_
      refine lv_icmp_ge (tgt := 56) hx hb dX0_spiltAtEnd_19 (by decide) (fun c_19 => ?_) (fun c_19 => ?_)
      · skip
        replace c_19 : 360 ≤ (mNow u + k) := leN c_19
        exact (by omega : False).elim
      · skip
        replace c_19 : (mNow u + k) < 360 := nleN c_19
        refine lv_aload_n hx hb dX0_spiltAtEnd_22 rfl (lv_at hl 0 rfl) ?_
        refine lv_iload_n hx hb dX0_spiltAtEnd_23 rfl (lv_at hl 3 rfl) ?_
        refine lv_iload_n hx hb dX0_spiltAtEnd_24 rfl (lv_at hl 2 rfl) ?_
        refine lv_aload_n hx hb dX0_spiltAtEnd_25 rfl (lv_at hl 0 rfl) ?_
        refine va_get (D := D) (ci := 0) (v := .int (nI (mRate u))) (C := RX0) (T := TX0) (N := 17) hx hb hts hin hown hK hP 0 rfl rfl 11 (by decide) (hts (.fieldLink RX0 35 "AfternoonMeter" "rate" "I") (List.mem_of_getElem? (i := 4) rfl)) (fun _ h9 => h9) rfl dX0_spiltAtEnd_26 ?_
        refine vp_callSi (W.runV (As := [.int (nI (mNow u + k)), .int (nI Y), .int (nI (mRate u))]) (rest := []) ⟨hx, hb, hml, hown, hts⟩ (c_X0_contentAfter l D cI h a u on (mNow u + k) Y (mRate u) hI (by omega) (by omega) (by omega) (by omega)) (cwV 3 hts gX0_spiltAtEnd_X0_contentAfter rfl rfl rfl (by decide +kernel) ⟨Nat.le_of_ble_eq_true rfl, Nat.le_of_ble_eq_true rfl⟩) (pu_pre hK hP rfl rfl) rfl rfl hl.1 rfl (lv_room (Nat.le_of_ble_eq_true rfl)) dX0_spiltAtEnd_29 ⟨Nat.le_of_ble_eq_true rfl, Nat.le_of_ble_eq_true rfl⟩) (fun r hr => ?_)
        subst hr
        have hca := cAf_le u (mNow u + k) Y (mRate u)
        refine lv_istore_n (lv' := [(2, .int (nI (cAf u (mNow u + k) Y (mRate u)))), (0, .ref h), (1, .int X), (3, .int (nI (mNow u + k)))]) hx hb dX0_spiltAtEnd_32 rfl hl (by decide) rfl (fun ls hl => ?_)
        refine lv_aload_n hx hb dX0_spiltAtEnd_33 rfl (lv_at hl 1 rfl) ?_
        refine lv_iload_n hx hb dX0_spiltAtEnd_34 rfl (lv_at hl 0 rfl) ?_
        refine vp_callSi (W.runV (As := [.int (nI (cAf u (mNow u + k) Y (mRate u)))]) (rest := []) ⟨hx, hb, hml, hown, hts⟩ (c_X0_excess l D cI h a u on (cAf u (mNow u + k) Y (mRate u)) (by omega) (by omega)) (cwV 1 hts gX0_spiltAtEnd_X0_excess rfl rfl rfl (by decide +kernel) ⟨Nat.le_of_ble_eq_true rfl, Nat.le_of_ble_eq_true rfl⟩) (pu_pre hK hP rfl rfl) rfl rfl hl.1 rfl (lv_room (Nat.le_of_ble_eq_true rfl)) dX0_spiltAtEnd_35 ⟨Nat.le_of_ble_eq_true rfl, Nat.le_of_ble_eq_true rfl⟩) (fun r hr => ?_)
        subst hr
        refine lv_istore (lv' := [(4, .int (nI ((cAf u (mNow u + k) Y (mRate u)) - mRoom u))), (2, .int (nI (cAf u (mNow u + k) Y (mRate u)))), (0, .ref h), (1, .int X), (3, .int (nI (mNow u + k)))]) hx hb dX0_spiltAtEnd_38 hl (by decide) rfl (fun ls hl => ?_)
        refine lv_iload_n hx hb dX0_spiltAtEnd_40 rfl (lv_at hl 3 rfl) ?_
        refine lv_iload hx hb dX0_spiltAtEnd_41 (lv_at hl 0 rfl) ?_
        refine lv_iadd hx hb dX0_spiltAtEnd_43 ?_
        refine lv_istore_n (lv' := [(1, .int (X + (nI ((cAf u (mNow u + k) Y (mRate u)) - mRoom u)))), (4, .int (nI ((cAf u (mNow u + k) Y (mRate u)) - mRoom u))), (2, .int (nI (cAf u (mNow u + k) Y (mRate u)))), (0, .ref h), (3, .int (nI (mNow u + k)))]) hx hb dX0_spiltAtEnd_44 rfl hl (by decide) rfl (fun ls hl => ?_)
        refine lv_iload_n hx hb dX0_spiltAtEnd_45 rfl (lv_at hl 2 rfl) ?_
        refine lv_iload hx hb dX0_spiltAtEnd_46 (lv_at hl 1 rfl) ?_
        refine q_isubN hx hb (by omega) dX0_spiltAtEnd_48 ?_
        refine lv_istore_n (lv' := [(2, .int (nI ((cAf u (mNow u + k) Y (mRate u)) - ((cAf u (mNow u + k) Y (mRate u)) - mRoom u)))), (1, .int (X + (nI ((cAf u (mNow u + k) Y (mRate u)) - mRoom u)))), (4, .int (nI ((cAf u (mNow u + k) Y (mRate u)) - mRoom u))), (0, .ref h), (3, .int (nI (mNow u + k)))]) hx hb dX0_spiltAtEnd_49 rfl hl (by decide) rfl (fun ls hl => ?_)
        refine lv_iinc (v := nI (mNow u + k + 1)) (lv' := [(3, .int (nI (mNow u + k + 1))), (2, .int (nI ((cAf u (mNow u + k) Y (mRate u)) - ((cAf u (mNow u + k) Y (mRate u)) - mRoom u)))), (1, .int (X + (nI ((cAf u (mNow u + k) Y (mRate u)) - mRoom u)))), (4, .int (nI ((cAf u (mNow u + k) Y (mRate u)) - mRoom u))), (0, .ref h)]) hx hb dX0_spiltAtEnd_50 hl (k := 4) rfl (nI_i1 _) (by decide) rfl (fun ls hl => ?_)
        refine lv_goto (tgt := 15) hx hb dX0_spiltAtEnd_53 (by decide) ?_
        exact ih (k + 1) (by omega) (X + (nI ((cAf u (mNow u + k) Y (mRate u)) - mRoom u))) (by subst eX eY; rfl) ((cAf u (mNow u + k) Y (mRate u)) - ((cAf u (mNow u + k) Y (mRate u)) - mRoom u)) (by subst eX eY; rfl) (by omega) _ (lv_sub hl [4, 2, 1, 0] rfl)
  exact lp15 _ 0 (Nat.zero_add _) (mSpl u) (by rfl) (mTea u) (by rfl) (by omega) _ (lv_sub hl [3, 2, 1, 0] rfl)
set_option maxHeartbeats 4000000 in
set_option maxRecDepth 100000 in
theorem c_X0_minuteOfSpill (l : Launch) (D : va_G) (cI : ClassId) (h : Nat) (a : Nat → Nat) (u : MS) (on : Nat → Int32) (hI : Inv u) (hO : InvO u on) : Met l yX0_minuteOfSpill wsX0_minuteOfSpill ({ frames := 3, cells := 0, slots := 0, locals := 59 } : Room) (va_Pc [.ref h] (fun U => va_P D vwCl (pic0 cI h a u on) U.heap ∧ va_K D vwCl [(cI, .int)] U)) (vp_Si (fun r => r = fSp u (mRate u))) 0 0 (fun _ => False) := by
  refine en_pu (cc := cX0_minuteOfSpill) (maxL := 1) (ret := (some .int)) _ _ (by decide) rfl (Nat.le_of_ble_eq_true rfl) ?_
  intro p e s m args below meth c ls hx hb hml hr hlocks hts hown hP hK hl
  have hown : s.vm.findClass RX0 = some m.cls := hown
  have hin : ∀ w ∈ wsX00, w ∈ wsX0_minuteOfSpill := fun _ h9 => List.mem_cons_of_mem _ (List.mem_append_right _ h9)
  have hl : lv_has ls 1 [(0, .ref h)] := hl
  obtain ⟨hIa, hIb, hIc, hId, hIe, hIf, hIg, hIh, hIi, hIj⟩ := id hI
  refine lv_aload_n hx hb dX0_minuteOfSpill_0 rfl (lv_at hl 0 rfl) ?_
  refine lv_aload_n hx hb dX0_minuteOfSpill_1 rfl (lv_at hl 0 rfl) ?_
  refine va_get (D := D) (ci := 0) (v := .int (nI (mRate u))) (C := RX0) (T := TX0) (N := 17) hx hb hts hin hown hK hP 0 rfl rfl 11 (by decide) (hts (.fieldLink RX0 35 "AfternoonMeter" "rate" "I") (List.mem_of_getElem? (i := 1) rfl)) (fun _ h9 => h9) rfl dX0_minuteOfSpill_2 ?_
  refine vp_callSi (W.runV (As := [.int (nI (mRate u))]) (rest := []) ⟨hx, hb, hml, hown, hts⟩ (c_X0_firstSpillWith l D cI h a u on (mRate u) hI (by omega) (by omega)) (cwV 1 hts gX0_minuteOfSpill_X0_firstSpillWith rfl rfl rfl (by decide +kernel) ⟨Nat.le_of_ble_eq_true rfl, Nat.le_of_ble_eq_true rfl⟩) (pu_pre hK hP rfl rfl) rfl rfl hl.1 rfl (lv_room (Nat.le_of_ble_eq_true rfl)) dX0_minuteOfSpill_5 ⟨Nat.le_of_ble_eq_true rfl, Nat.le_of_ble_eq_true rfl⟩) (fun r hr => ?_)
  subst hr
  have hq : fSp u (mRate u) = fSp u (mRate u) := by rfl
  exact W.iret hx hb hr (fun t ht _ => ⟨_, rfl, hq, ht⟩) (fun _ h9 => nomatch h9) dX0_minuteOfSpill_8
set_option maxHeartbeats 4000000 in
set_option maxRecDepth 100000 in
theorem c_X0_safeRate (l : Launch) (D : va_G) (cI : ClassId) (h : Nat) (a : Nat → Nat) (u : MS) (on : Nat → Int32) (hI : Inv u) (hO : InvO u on) : Met l yX0_safeRate wsX0_safeRate ({ frames := 3, cells := 0, slots := 0, locals := 59 } : Room) (va_Pc [.ref h] (fun U => va_P D vwCl (pic0 cI h a u on) U.heap ∧ va_K D vwCl [(cI, .int)] U)) (vp_Si (fun r => r = nI (sfF u 9))) 0 0 (fun _ => False) := by
  refine en_pu (cc := cX0_safeRate) (maxL := 2) (ret := (some .int)) _ _ (by decide) rfl (Nat.le_of_ble_eq_true rfl) ?_
  intro p e s m args below meth c ls hx hb hml hr hlocks hts hown hP hK hl
  have hown : s.vm.findClass RX0 = some m.cls := hown
  have hin : ∀ w ∈ wsX00, w ∈ wsX0_safeRate := fun _ h9 => List.mem_cons_of_mem _ (List.mem_append_right _ h9)
  have hl : lv_has ls 2 [(0, .ref h)] := hl
  obtain ⟨hIa, hIb, hIc, hId, hIe, hIf, hIg, hIh, hIi, hIj⟩ := id hI
  refine lv_bipush (v := nI 9) hx hb dX0_safeRate_0 (by decide +kernel) ?_
  refine lv_istore_n (lv' := [(1, .int (nI 9)), (0, .ref h)]) hx hb dX0_safeRate_2 rfl hl (by decide) rfl (fun ls hl => ?_)
  have lp3 : ∀ (n k : Nat), k + n = 9 → sfF u 9 = sfF u n → ∀ (ls : Array Slot), lv_has ls 2 [(0, .ref h), (1, .int (nI n))] → W p l e ({ frames := 3, cells := 0, slots := 0, locals := 59 } : Room) s m args below meth c s.heap [] 0 0 (MQ below (vp_Si (fun r => r = nI (sfF u 9))) args s 0 0 (fun _ => False)) (F0 m 3 ls []) := by
    intro n
    induction n with
    | zero =>
      intro k hk hq0 ls hl
      refine lv_iload_n hx hb dX0_safeRate_3 rfl (lv_at hl 1 rfl) ?_
      refine lv_if_le (tgt := 22) hx hb dX0_safeRate_4 (by decide) (fun c_4 => ?_) (fun c_4 => ?_)
      · skip
        replace c_4 : 0 ≤ 0 := leN c_4
        refine lv_iload_n hx hb dX0_safeRate_22 rfl (lv_at hl 1 rfl) ?_
        have hq : nI 0 = nI (sfF u 9) := by rw [hq0]; rfl
        exact W.iret hx hb hr (fun t ht _ => ⟨_, rfl, hq, ht⟩) (fun _ h9 => nomatch h9) dX0_safeRate_23
      · skip
        replace c_4 : 0 < 0 := nleN c_4
        exact (by omega : False).elim
    | succ n ih =>
      intro k hk hq0 ls hl
      refine lv_iload_n hx hb dX0_safeRate_3 rfl (lv_at hl 1 rfl) ?_
      refine lv_if_le (tgt := 22) hx hb dX0_safeRate_4 (by decide) (fun c_4 => ?_) (fun c_4 => ?_)
      · skip
        replace c_4 : (n + 1) ≤ 0 := leN c_4
        exact (by omega : False).elim
      · skip
        replace c_4 : 0 < (n + 1) := nleN c_4
        refine lv_aload_n hx hb dX0_safeRate_7 rfl (lv_at hl 0 rfl) ?_
        refine lv_iload_n hx hb dX0_safeRate_8 rfl (lv_at hl 1 rfl) ?_
        refine vp_callSi (W.runV (As := [.int (nI (n + 1))]) (rest := []) ⟨hx, hb, hml, hown, hts⟩ (c_X0_firstSpillWith l D cI h a u on (n + 1) hI (by omega) (by omega)) (cwV 1 hts gX0_safeRate_X0_firstSpillWith rfl rfl rfl (by decide +kernel) ⟨Nat.le_of_ble_eq_true rfl, Nat.le_of_ble_eq_true rfl⟩) (pu_pre hK hP rfl rfl) rfl rfl hl.1 rfl (lv_room (Nat.le_of_ble_eq_true rfl)) dX0_safeRate_9 ⟨Nat.le_of_ble_eq_true rfl, Nat.le_of_ble_eq_true rfl⟩) (fun r hr => ?_)
        subst hr
        refine lv_iconst (v := (-1)) hx hb dX0_safeRate_12 (by decide +kernel) ?_
        refine lv_icmp_eq (tgt := 22) hx hb dX0_safeRate_13 (by decide) (fun c_13 => ?_) (fun c_13 => ?_)
        · skip
          refine lv_iload_n hx hb dX0_safeRate_22 rfl (lv_at hl 1 rfl) ?_
          have hq : nI (n + 1) = nI (sfF u 9) := by rw [hq0, sf_yes c_13]
          exact W.iret hx hb hr (fun t ht _ => ⟨_, rfl, hq, ht⟩) (fun _ h9 => nomatch h9) dX0_safeRate_23
        · skip
          refine lv_iinc (v := nI n) (lv' := [(1, .int (nI n)), (0, .ref h)]) hx hb dX0_safeRate_16 hl (k := 1) rfl (pk_m1 _) (by decide) rfl (fun ls hl => ?_)
          refine lv_goto (tgt := 3) hx hb dX0_safeRate_19 (by decide) ?_
          exact ih (k + 1) (by omega) (by rw [hq0, sf_no c_13]) _ (lv_sub hl [1, 0] rfl)
  exact lp3 _ 0 (Nat.zero_add _) (by rfl) _ (lv_sub hl [1, 0] rfl)
set_option maxHeartbeats 4000000 in
set_option maxRecDepth 100000 in
theorem c_X0_bestToGiveUp (l : Launch) (D : va_G) (cI : ClassId) (h : Nat) (a : Nat → Nat) (u : MS) (on : Nat → Int32) (hI : Inv u) : Met l yX0_bestToGiveUp wsX0_bestToGiveUp ({ frames := 2, cells := 0, slots := 0, locals := 45 } : Room) (va_Pc [.ref h] (fun U => va_P D vwCl (pic0 cI h a u on) U.heap ∧ va_K D vwCl [(cI, .int)] U)) (vp_Si (fun r => r = fBG u)) 0 0 (fun _ => False) := by
  refine en_pu (cc := cX0_bestToGiveUp) (maxL := 5) (ret := (some .int)) _ _ (by decide) rfl (Nat.le_of_ble_eq_true rfl) ?_
  intro p e s m args below meth c ls hx hb hml hr hlocks hts hown hP hK hl
  have hown : s.vm.findClass RX0 = some m.cls := hown
  have hin : ∀ w ∈ wsX00, w ∈ wsX0_bestToGiveUp := fun _ h9 => List.mem_cons_of_mem _ (List.mem_append_right _ h9)
  have hl : lv_has ls 5 [(0, .ref h)] := hl
  obtain ⟨hIa, hIb, hIc, hId, hIe, hIf, hIg, hIh, hIi, hIj⟩ := id hI
  refine lv_iconst (v := (-1)) hx hb dX0_bestToGiveUp_0 (by decide +kernel) ?_
  refine lv_istore_n (lv' := [(1, .int (-1)), (0, .ref h)]) hx hb dX0_bestToGiveUp_1 rfl hl (by decide) rfl (fun ls hl => ?_)
  refine lv_iconst (v := nI 0) hx hb dX0_bestToGiveUp_2 (by decide +kernel) ?_
  refine lv_istore_n (lv' := [(2, .int (nI 0)), (1, .int (-1)), (0, .ref h)]) hx hb dX0_bestToGiveUp_3 rfl hl (by decide) rfl (fun ls hl => ?_)
  refine lv_iconst (v := nI 0) hx hb dX0_bestToGiveUp_4 (by decide +kernel) ?_
  refine lv_istore_n (lv' := [(3, .int (nI 0)), (2, .int (nI 0)), (1, .int (-1)), (0, .ref h)]) hx hb dX0_bestToGiveUp_5 rfl hl (by decide) rfl (fun ls hl => ?_)
  have lp6 : ∀ (n k : Nat), k + n = mNc u → ∀ (X : Int32), X = (bgS u k).1 → ∀ (Y : Int32), Y = (bgS u k).2 → ∀ (ls : Array Slot), lv_has ls 5 [(0, .ref h), (1, .int X), (2, .int Y), (3, .int (nI k))] → W p l e ({ frames := 2, cells := 0, slots := 0, locals := 45 } : Room) s m args below meth c s.heap [] 0 0 (MQ below (vp_Si (fun r => r = fBG u)) args s 0 0 (fun _ => False)) (F0 m 6 ls []) := by
    intro n
    induction n with
    | zero =>
      intro k hk X eX Y eY ls hl
      have ek : k = mNc u := by omega
      refine lv_iload_n hx hb dX0_bestToGiveUp_6 rfl (lv_at hl 3 rfl) ?_
      refine lv_aload_n hx hb dX0_bestToGiveUp_7 rfl (lv_at hl 0 rfl) ?_
      refine va_get (D := D) (ci := 0) (v := .int (nI (mNc u))) (C := RX0) (T := TX0) (N := 17) hx hb hts hin hown hK hP 0 rfl rfl 4 (by decide) (hts (.fieldLink RX0 58 "AfternoonMeter" "napCount" "I") (List.mem_of_getElem? (i := 1) rfl)) (fun _ h9 => h9) rfl dX0_bestToGiveUp_8 ?_
      refine lv_icmp_ge (tgt := 43) hx hb dX0_bestToGiveUp_11 (by decide) (fun c_11 => ?_) (fun c_11 => ?_)
      · skip
        replace c_11 : (mNc u) ≤ k := leN c_11
        refine lv_iload_n hx hb dX0_bestToGiveUp_43 rfl (lv_at hl 1 rfl) ?_
        have hq : X = fBG u := by rw [eX, ek]; rfl
        exact W.iret hx hb hr (fun t ht _ => ⟨_, rfl, hq, ht⟩) (fun _ h9 => nomatch h9) dX0_bestToGiveUp_44
      · skip
        replace c_11 : k < (mNc u) := nleN c_11
        exact (by omega : False).elim
    | succ n ih =>
      intro k hk X eX Y eY ls hl
      refine lv_iload_n hx hb dX0_bestToGiveUp_6 rfl (lv_at hl 3 rfl) ?_
      refine lv_aload_n hx hb dX0_bestToGiveUp_7 rfl (lv_at hl 0 rfl) ?_
      refine va_get (D := D) (ci := 0) (v := .int (nI (mNc u))) (C := RX0) (T := TX0) (N := 17) hx hb hts hin hown hK hP 0 rfl rfl 4 (by decide) (hts (.fieldLink RX0 58 "AfternoonMeter" "napCount" "I") (List.mem_of_getElem? (i := 1) rfl)) (fun _ h9 => h9) rfl dX0_bestToGiveUp_8 ?_
      refine lv_icmp_ge (tgt := 43) hx hb dX0_bestToGiveUp_11 (by decide) (fun c_11 => ?_) (fun c_11 => ?_)
      · skip
        replace c_11 : (mNc u) ≤ k := leN c_11
        exact (by omega : False).elim
      · skip
        replace c_11 : k < (mNc u) := nleN c_11
        refine lv_aload_n hx hb dX0_bestToGiveUp_14 rfl (lv_at hl 0 rfl) ?_
        refine lv_iload_n hx hb dX0_bestToGiveUp_15 rfl (lv_at hl 3 rfl) ?_
        refine vp_callSi (W.runV (As := [.int (nI k)]) (rest := []) ⟨hx, hb, hml, hown, hts⟩ (c_X0_countAlone l D cI h a u on k hI (by omega)) (cwV 1 hts gX0_bestToGiveUp_X0_countAlone rfl rfl rfl (by decide +kernel) ⟨Nat.le_of_ble_eq_true rfl, Nat.le_of_ble_eq_true rfl⟩) (pu_pre hK hP rfl rfl) rfl rfl hl.1 rfl (lv_room (Nat.le_of_ble_eq_true rfl)) dX0_bestToGiveUp_16 ⟨Nat.le_of_ble_eq_true rfl, Nat.le_of_ble_eq_true rfl⟩) (fun r hr => ?_)
        subst hr
        refine lv_istore (lv' := [(4, .int (fAl u k)), (0, .ref h), (1, .int X), (2, .int Y), (3, .int (nI k))]) hx hb dX0_bestToGiveUp_19 hl (by decide) rfl (fun ls hl => ?_)
        refine lv_iload_n hx hb dX0_bestToGiveUp_21 rfl (lv_at hl 2 rfl) ?_
        refine lv_iconst (v := (-1)) hx hb dX0_bestToGiveUp_22 (by decide +kernel) ?_
        refine lv_icmp_eq (tgt := 32) hx hb dX0_bestToGiveUp_23 (by decide) (fun c_23 => ?_) (fun c_23 => ?_)
        · skip
          refine lv_iload_n hx hb dX0_bestToGiveUp_32 rfl (lv_at hl 4 rfl) ?_
          refine lv_istore_n (lv' := [(1, .int (nI k)), (4, .int (fAl u k)), (0, .ref h), (2, .int Y), (3, .int (nI k))]) hx hb dX0_bestToGiveUp_33 rfl hl (by decide) rfl (fun ls hl => ?_)
          refine lv_iload hx hb dX0_bestToGiveUp_34 (lv_at hl 1 rfl) ?_
          refine lv_istore_n (lv' := [(2, .int (fAl u k)), (1, .int (nI k)), (4, .int (fAl u k)), (0, .ref h), (3, .int (nI k))]) hx hb dX0_bestToGiveUp_36 rfl hl (by decide) rfl (fun ls hl => ?_)
          refine lv_iinc (v := nI (k + 1)) (lv' := [(3, .int (nI (k + 1))), (2, .int (fAl u k)), (1, .int (nI k)), (4, .int (fAl u k)), (0, .ref h)]) hx hb dX0_bestToGiveUp_37 hl (k := 4) rfl (nI_i1 _) (by decide) rfl (fun ls hl => ?_)
          refine lv_goto (tgt := 6) hx hb dX0_bestToGiveUp_40 (by decide) ?_
          exact ih (k + 1) (by omega) (nI k) (by subst eX eY; show _ = (bgF u k (bgS u k)).1; rw [bg_yes (Or.inl c_23)]) (fAl u k) (by subst eX eY; show _ = (bgF u k (bgS u k)).2; rw [bg_yes (Or.inl c_23)]) _ (lv_sub hl [4, 2, 1, 0] rfl)
        · skip
          refine lv_iload hx hb dX0_bestToGiveUp_26 (lv_at hl 0 rfl) ?_
          refine lv_iload_n hx hb dX0_bestToGiveUp_28 rfl (lv_at hl 3 rfl) ?_
          refine lv_icmp_le (tgt := 37) hx hb dX0_bestToGiveUp_29 (by decide) (fun c_29 => ?_) (fun c_29 => ?_)
          · skip
            refine lv_iinc (v := nI (k + 1)) (lv' := [(3, .int (nI (k + 1))), (4, .int (fAl u k)), (0, .ref h), (1, .int X), (2, .int Y)]) hx hb dX0_bestToGiveUp_37 hl (k := 4) rfl (nI_i1 _) (by decide) rfl (fun ls hl => ?_)
            refine lv_goto (tgt := 6) hx hb dX0_bestToGiveUp_40 (by decide) ?_
            exact ih (k + 1) (by omega) X (by subst eX eY; show _ = (bgF u k (bgS u k)).1; rw [bg_no (fun z => z.elim c_23 (ngI c_29))]) Y (by subst eX eY; show _ = (bgF u k (bgS u k)).2; rw [bg_no (fun z => z.elim c_23 (ngI c_29))]) _ (lv_sub hl [2, 3, 4, 0] rfl)
          · skip
            refine lv_iload_n hx hb dX0_bestToGiveUp_32 rfl (lv_at hl 4 rfl) ?_
            refine lv_istore_n (lv' := [(1, .int (nI k)), (4, .int (fAl u k)), (0, .ref h), (2, .int Y), (3, .int (nI k))]) hx hb dX0_bestToGiveUp_33 rfl hl (by decide) rfl (fun ls hl => ?_)
            refine lv_iload hx hb dX0_bestToGiveUp_34 (lv_at hl 1 rfl) ?_
            refine lv_istore_n (lv' := [(2, .int (fAl u k)), (1, .int (nI k)), (4, .int (fAl u k)), (0, .ref h), (3, .int (nI k))]) hx hb dX0_bestToGiveUp_36 rfl hl (by decide) rfl (fun ls hl => ?_)
            refine lv_iinc (v := nI (k + 1)) (lv' := [(3, .int (nI (k + 1))), (2, .int (fAl u k)), (1, .int (nI k)), (4, .int (fAl u k)), (0, .ref h)]) hx hb dX0_bestToGiveUp_37 hl (k := 4) rfl (nI_i1 _) (by decide) rfl (fun ls hl => ?_)
            refine lv_goto (tgt := 6) hx hb dX0_bestToGiveUp_40 (by decide) ?_
            exact ih (k + 1) (by omega) (nI k) (by subst eX eY; show _ = (bgF u k (bgS u k)).1; rw [bg_yes (Or.inr (gtI c_29))]) (fAl u k) (by subst eX eY; show _ = (bgF u k (bgS u k)).2; rw [bg_yes (Or.inr (gtI c_29))]) _ (lv_sub hl [4, 2, 1, 0] rfl)
  exact lp6 _ 0 (Nat.zero_add _) (-1) (by rfl) (nI 0) (by rfl) _ (lv_sub hl [3, 2, 1, 0] rfl)
set_option maxHeartbeats 4000000 in
set_option maxRecDepth 100000 in
theorem c_X0_meanLastShadow (l : Launch) (D : va_G) (cI : ClassId) (h : Nat) (a : Nat → Nat) (u : MS) (on : Nat → Int32) (hI : Inv u) : Met l yX0_meanLastShadow wsX0_meanLastShadow ({ frames := 2, cells := 0, slots := 0, locals := 45 } : Room) (va_Pc [.ref h] (fun U => va_P D vwCl (pic0 cI h a u on) U.heap ∧ va_K D vwCl [(cI, .int)] U)) (vp_Sd (fun r => r = fMean u)) 0 0 (fun _ => False) := by
  refine en_pu (cc := cX0_meanLastShadow) (maxL := 1) (ret := (some .double)) _ _ (by decide) rfl (Nat.le_of_ble_eq_true rfl) ?_
  intro p e s m args below meth c ls hx hb hml hr hlocks hts hown hP hK hl
  have hown : s.vm.findClass RX0 = some m.cls := hown
  have hin : ∀ w ∈ wsX00, w ∈ wsX0_meanLastShadow := fun _ h9 => List.mem_cons_of_mem _ (List.mem_append_right _ h9)
  have hl : lv_has ls 1 [(0, .ref h)] := hl
  obtain ⟨hIa, hIb, hIc, hId, hIe, hIf, hIg, hIh, hIi, hIj⟩ := id hI
  refine lv_aload_n hx hb dX0_meanLastShadow_0 rfl (lv_at hl 0 rfl) ?_
  refine va_get (D := D) (ci := 0) (v := .int (nI (mSc u))) (C := RX0) (T := TX0) (N := 17) hx hb hts hin hown hK hP 0 rfl rfl 1 (by decide) (hts (.fieldLink RX0 48 "AfternoonMeter" "stickCount" "I") (List.mem_of_getElem? (i := 1) rfl)) (fun _ h9 => h9) rfl dX0_meanLastShadow_1 ?_
  refine lv_if_ne (tgt := 9) hx hb dX0_meanLastShadow_4 (by decide) (fun c_4 => ?_) (fun c_4 => ?_)
  · skip
    replace c_4 : (mSc u) ≠ 0 := neN c_4
    refine lv_aload_n hx hb dX0_meanLastShadow_9 rfl (lv_at hl 0 rfl) ?_
    refine lv_sipush (v := nI 359) hx hb dX0_meanLastShadow_10 (by decide +kernel) ?_
    refine vp_callSi (W.runV (As := [.int (nI 359)]) (rest := []) ⟨hx, hb, hml, hown, hts⟩ (c_X0_sumOfShadows l D cI h a u on 359 hI) (cwV 1 hts gX0_meanLastShadow_X0_sumOfShadows rfl rfl rfl (by decide +kernel) ⟨Nat.le_of_ble_eq_true rfl, Nat.le_of_ble_eq_true rfl⟩) (pu_pre hK hP rfl rfl) rfl rfl hl.1 rfl (lv_room (Nat.le_of_ble_eq_true rfl)) dX0_meanLastShadow_13 ⟨Nat.le_of_ble_eq_true rfl, Nat.le_of_ble_eq_true rfl⟩) (fun r hr => ?_)
    subst hr
    refine lv_i2d hx hb dX0_meanLastShadow_16 ?_
    refine lv_aload_n hx hb dX0_meanLastShadow_17 rfl (lv_at hl 0 rfl) ?_
    refine va_get (D := D) (ci := 0) (v := .int (nI (mSc u))) (C := RX0) (T := TX0) (N := 17) hx hb hts hin hown hK hP 0 rfl rfl 1 (by decide) (hts (.fieldLink RX0 48 "AfternoonMeter" "stickCount" "I") (List.mem_of_getElem? (i := 1) rfl)) (fun _ h9 => h9) rfl dX0_meanLastShadow_18 ?_
    refine lv_i2d hx hb dX0_meanLastShadow_21 ?_
    refine lv_ddiv hx hb dX0_meanLastShadow_22 (mean_ok hI c_4) ?_
    have hq : FP.ddiv (FP.i2d (fSum u 359)) (FP.i2d (nI (mSc u))) = fMean u := by rw [fMean, if_neg c_4]
    exact W.dret hx hb hr (fun t ht _ => ⟨_, rfl, hq, ht⟩) (fun _ h9 => nomatch h9) dX0_meanLastShadow_23
  · skip
    replace c_4 : (mSc u) = 0 := eN c_4
    refine lv_dconst0 hx hb dX0_meanLastShadow_7 ?_
    have hq : FP.dconst0 = fMean u := by rw [fMean, if_pos c_4]
    exact W.dret hx hb hr (fun t ht _ => ⟨_, rfl, hq, ht⟩) (fun _ h9 => nomatch h9) dX0_meanLastShadow_8
