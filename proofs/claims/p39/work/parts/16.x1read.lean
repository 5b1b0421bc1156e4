set_option maxHeartbeats 4000000 in
set_option maxRecDepth 100000 in
theorem c_X1_isIn (l : Launch) (v0 : Int32) (lo : Int32) (hi : Int32) : Met l yX1_isIn wsX1_isIn ({ frames := 0, cells := 0, slots := 0, locals := 0 } : Room) (fun v _ => v = ([.int v0, .int lo, .int hi] : List Value).toArray) (vp_Si (fun r => r = bI (isB v0 lo hi))) 0 0 (fun _ => False) := by
  refine en_st (cc := cX1_isIn) (maxL := 3) (ret := (some .boolean)) _ (by decide) rfl (Nat.le_of_ble_eq_true rfl) ?_
  intro p e s m args below meth c ls hx hb hml hr hlocks hts hown hl
  have hown : s.vm.findClass RX1 = some m.cls := hown
  have hl : lv_has ls 3 [(0, .int v0), (1, .int lo), (2, .int hi)] := hl
  refine lv_iload_n hx hb dX1_isIn_0 rfl (lv_at hl 0 rfl) ?_
  refine lv_iload_n hx hb dX1_isIn_1 rfl (lv_at hl 1 rfl) ?_
  refine lv_icmp_lt (tgt := 14) hx hb dX1_isIn_2 (by decide) (fun c_2 => ?_) (fun c_2 => ?_)
  · skip
    refine lv_iconst (v := nI 0) hx hb dX1_isIn_14 (by decide +kernel) ?_
    have hq : nI 0 = bI (isB v0 lo hi) := by rw [show isB v0 lo hi = false from decide_eq_false (fun z => ngI z.1 c_2)]; rfl
    exact W.zret (ty := .boolean) hx hb hr (by decide +kernel) (fun t ht _ => ⟨_, rfl, hq, ht⟩) (fun _ h9 => nomatch h9) dX1_isIn_15
  · skip
    refine lv_iload_n hx hb dX1_isIn_5 rfl (lv_at hl 0 rfl) ?_
    refine lv_iload_n hx hb dX1_isIn_6 rfl (lv_at hl 2 rfl) ?_
    refine lv_icmp_gt (tgt := 14) hx hb dX1_isIn_7 (by decide) (fun c_7 => ?_) (fun c_7 => ?_)
    · skip
      refine lv_iconst (v := nI 0) hx hb dX1_isIn_14 (by decide +kernel) ?_
      have hq : nI 0 = bI (isB v0 lo hi) := by rw [show isB v0 lo hi = false from decide_eq_false (fun z => ngI z.2 c_7)]; rfl
      exact W.zret (ty := .boolean) hx hb hr (by decide +kernel) (fun t ht _ => ⟨_, rfl, hq, ht⟩) (fun _ h9 => nomatch h9) dX1_isIn_15
    · skip
      refine lv_iconst (v := nI 1) hx hb dX1_isIn_10 (by decide +kernel) ?_
      refine lv_goto (tgt := 15) hx hb dX1_isIn_11 (by decide) ?_
      have hq : nI 1 = bI (isB v0 lo hi) := by rw [show isB v0 lo hi = true from decide_eq_true ⟨leI c_2, leI c_7⟩]; rfl
      exact W.zret (ty := .boolean) hx hb hr (by decide +kernel) (fun t ht _ => ⟨_, rfl, hq, ht⟩) (fun _ h9 => nomatch h9) dX1_isIn_15
set_option maxHeartbeats 4000000 in
set_option maxRecDepth 100000 in
theorem c_X1_isStick (l : Launch) (D : va_G) (cI : ClassId) (h : Nat) (a : Nat → Nat) (u : MS) (th : Int32) (v0 : Int32) (hI : Inv u) : Met l yX1_isStick wsX1_isStick ({ frames := 1, cells := 0, slots := 0, locals := 22 } : Room) (va_Pc [.ref h, .int v0] (fun U => va_P D vwCl (pic1 cI h a u th) U.heap ∧ va_K D vwCl [(cI, .int)] U)) (vp_Si (fun r => r = bI (inR v0 (mSc u)))) 0 0 (fun _ => False) := by
  refine en_pu (cc := cX1_isStick) (maxL := 2) (ret := (some .boolean)) _ _ (by decide) rfl (Nat.le_of_ble_eq_true rfl) ?_
  intro p e s m args below meth c ls hx hb hml hr hlocks hts hown hP hK hl
  have hown : s.vm.findClass RX1 = some m.cls := hown
  have hin : ∀ w ∈ wsX10, w ∈ wsX1_isStick := fun _ h9 => List.mem_cons_of_mem _ (List.mem_append_right _ h9)
  have hl : lv_has ls 2 [(0, .ref h), (1, .int v0)] := hl
  obtain ⟨hIa, hIb, hIc, hId, hIe, hIf, hIg, hIh, hIi, hIj⟩ := id hI
  refine lv_iload_n hx hb dX1_isStick_0 rfl (lv_at hl 1 rfl) ?_
  refine lv_iconst (v := nI 0) hx hb dX1_isStick_1 (by decide +kernel) ?_
  refine lv_aload_n hx hb dX1_isStick_2 rfl (lv_at hl 0 rfl) ?_
  refine va_get (D := D) (ci := 1) (v := .int (nI (mSc u))) (C := RX1) (T := TX1) (N := 17) hx hb hts hin hown hK hP 0 rfl rfl 1 (by decide) (hts (.fieldLink RX1 41 "AfternoonMeterModel" "sticks" "I") (List.mem_of_getElem? (i := 1) rfl)) (fun _ h9 => h9) rfl dX1_isStick_3 ?_
  refine lv_iconst (v := nI 1) hx hb dX1_isStick_6 (by decide +kernel) ?_
  refine lv_isub hx hb dX1_isStick_7 ?_
  refine vp_callSi (W.runS (As := [.int v0, .int (nI 0), .int ((nI (mSc u)) - (nI 1))]) (rest := []) ⟨hx, hb, hml, hown, hts⟩ (c_X1_isIn l v0 (nI 0) ((nI (mSc u)) - (nI 1))) (va_cwS 3 hts gX1_isStick_X1_isIn rfl rfl rfl (by decide +kernel) ⟨Nat.le_of_ble_eq_true rfl, Nat.le_of_ble_eq_true rfl⟩) preEq rfl rfl hl.1 rfl (lv_room (Nat.le_of_ble_eq_true rfl)) dX1_isStick_8 ⟨Nat.le_of_ble_eq_true rfl, Nat.le_of_ble_eq_true rfl⟩) (fun r hr => ?_)
  subst hr
  have hq : bI (isB v0 (nI 0) ((nI (mSc u)) - (nI 1))) = bI (inR v0 (mSc u)) := by rw [isB_m1 (by omega)]
  exact W.zret (ty := .boolean) hx hb hr (bI_nar _) (fun t ht _ => ⟨_, rfl, hq, ht⟩) (fun _ h9 => nomatch h9) dX1_isStick_11
set_option maxHeartbeats 4000000 in
set_option maxRecDepth 100000 in
theorem c_X1_isNap (l : Launch) (D : va_G) (cI : ClassId) (h : Nat) (a : Nat → Nat) (u : MS) (th : Int32) (v0 : Int32) (hI : Inv u) : Met l yX1_isNap wsX1_isNap ({ frames := 1, cells := 0, slots := 0, locals := 22 } : Room) (va_Pc [.ref h, .int v0] (fun U => va_P D vwCl (pic1 cI h a u th) U.heap ∧ va_K D vwCl [(cI, .int)] U)) (vp_Si (fun r => r = bI (inR v0 (mNc u)))) 0 0 (fun _ => False) := by
  refine en_pu (cc := cX1_isNap) (maxL := 2) (ret := (some .boolean)) _ _ (by decide) rfl (Nat.le_of_ble_eq_true rfl) ?_
  intro p e s m args below meth c ls hx hb hml hr hlocks hts hown hP hK hl
  have hown : s.vm.findClass RX1 = some m.cls := hown
  have hin : ∀ w ∈ wsX10, w ∈ wsX1_isNap := fun _ h9 => List.mem_cons_of_mem _ (List.mem_append_right _ h9)
  have hl : lv_has ls 2 [(0, .ref h), (1, .int v0)] := hl
  obtain ⟨hIa, hIb, hIc, hId, hIe, hIf, hIg, hIh, hIi, hIj⟩ := id hI
  refine lv_iload_n hx hb dX1_isNap_0 rfl (lv_at hl 1 rfl) ?_
  refine lv_iconst (v := nI 0) hx hb dX1_isNap_1 (by decide +kernel) ?_
  refine lv_aload_n hx hb dX1_isNap_2 rfl (lv_at hl 0 rfl) ?_
  refine va_get (D := D) (ci := 1) (v := .int (nI (mNc u))) (C := RX1) (T := TX1) (N := 17) hx hb hts hin hown hK hP 0 rfl rfl 3 (by decide) (hts (.fieldLink RX1 48 "AfternoonMeterModel" "naps" "I") (List.mem_of_getElem? (i := 1) rfl)) (fun _ h9 => h9) rfl dX1_isNap_3 ?_
  refine lv_iconst (v := nI 1) hx hb dX1_isNap_6 (by decide +kernel) ?_
  refine lv_isub hx hb dX1_isNap_7 ?_
  refine vp_callSi (W.runS (As := [.int v0, .int (nI 0), .int ((nI (mNc u)) - (nI 1))]) (rest := []) ⟨hx, hb, hml, hown, hts⟩ (c_X1_isIn l v0 (nI 0) ((nI (mNc u)) - (nI 1))) (va_cwS 3 hts gX1_isNap_X1_isIn rfl rfl rfl (by decide +kernel) ⟨Nat.le_of_ble_eq_true rfl, Nat.le_of_ble_eq_true rfl⟩) preEq rfl rfl hl.1 rfl (lv_room (Nat.le_of_ble_eq_true rfl)) dX1_isNap_8 ⟨Nat.le_of_ble_eq_true rfl, Nat.le_of_ble_eq_true rfl⟩) (fun r hr => ?_)
  subst hr
  have hq : bI (isB v0 (nI 0) ((nI (mNc u)) - (nI 1))) = bI (inR v0 (mNc u)) := by rw [isB_m1 (by omega)]
  exact W.zret (ty := .boolean) hx hb hr (bI_nar _) (fun t ht _ => ⟨_, rfl, hq, ht⟩) (fun _ h9 => nomatch h9) dX1_isNap_11
set_option maxHeartbeats 4000000 in
set_option maxRecDepth 100000 in
theorem c_X1_isBee (l : Launch) (D : va_G) (cI : ClassId) (h : Nat) (a : Nat → Nat) (u : MS) (th : Int32) (v0 : Int32) (hI : Inv u) : Met l yX1_isBee wsX1_isBee ({ frames := 1, cells := 0, slots := 0, locals := 22 } : Room) (va_Pc [.ref h, .int v0] (fun U => va_P D vwCl (pic1 cI h a u th) U.heap ∧ va_K D vwCl [(cI, .int)] U)) (vp_Si (fun r => r = bI (inR v0 (mBc u)))) 0 0 (fun _ => False) := by
  refine en_pu (cc := cX1_isBee) (maxL := 2) (ret := (some .boolean)) _ _ (by decide) rfl (Nat.le_of_ble_eq_true rfl) ?_
  intro p e s m args below meth c ls hx hb hml hr hlocks hts hown hP hK hl
  have hown : s.vm.findClass RX1 = some m.cls := hown
  have hin : ∀ w ∈ wsX10, w ∈ wsX1_isBee := fun _ h9 => List.mem_cons_of_mem _ (List.mem_append_right _ h9)
  have hl : lv_has ls 2 [(0, .ref h), (1, .int v0)] := hl
  obtain ⟨hIa, hIb, hIc, hId, hIe, hIf, hIg, hIh, hIi, hIj⟩ := id hI
  refine lv_iload_n hx hb dX1_isBee_0 rfl (lv_at hl 1 rfl) ?_
  refine lv_iconst (v := nI 0) hx hb dX1_isBee_1 (by decide +kernel) ?_
  refine lv_aload_n hx hb dX1_isBee_2 rfl (lv_at hl 0 rfl) ?_
  refine va_get (D := D) (ci := 1) (v := .int (nI (mBc u))) (C := RX1) (T := TX1) (N := 17) hx hb hts hin hown hK hP 0 rfl rfl 7 (by decide) (hts (.fieldLink RX1 51 "AfternoonMeterModel" "bees" "I") (List.mem_of_getElem? (i := 1) rfl)) (fun _ h9 => h9) rfl dX1_isBee_3 ?_
  refine lv_iconst (v := nI 1) hx hb dX1_isBee_6 (by decide +kernel) ?_
  refine lv_isub hx hb dX1_isBee_7 ?_
  refine vp_callSi (W.runS (As := [.int v0, .int (nI 0), .int ((nI (mBc u)) - (nI 1))]) (rest := []) ⟨hx, hb, hml, hown, hts⟩ (c_X1_isIn l v0 (nI 0) ((nI (mBc u)) - (nI 1))) (va_cwS 3 hts gX1_isBee_X1_isIn rfl rfl rfl (by decide +kernel) ⟨Nat.le_of_ble_eq_true rfl, Nat.le_of_ble_eq_true rfl⟩) preEq rfl rfl hl.1 rfl (lv_room (Nat.le_of_ble_eq_true rfl)) dX1_isBee_8 ⟨Nat.le_of_ble_eq_true rfl, Nat.le_of_ble_eq_true rfl⟩) (fun r hr => ?_)
  subst hr
  have hq : bI (isB v0 (nI 0) ((nI (mBc u)) - (nI 1))) = bI (inR v0 (mBc u)) := by rw [isB_m1 (by omega)]
  exact W.zret (ty := .boolean) hx hb hr (bI_nar _) (fun t ht _ => ⟨_, rfl, hq, ht⟩) (fun _ h9 => nomatch h9) dX1_isBee_11
set_option maxHeartbeats 4000000 in
set_option maxRecDepth 100000 in
theorem c_X1_isMinute (l : Launch) (v0 : Int32) : Met l yX1_isMinute wsX1_isMinute ({ frames := 1, cells := 0, slots := 0, locals := 22 } : Room) (fun v _ => v = ([.int v0] : List Value).toArray) (vp_Si (fun r => r = bI (inR v0 360))) 0 0 (fun _ => False) := by
  refine en_st (cc := cX1_isMinute) (maxL := 1) (ret := (some .boolean)) _ (by decide) rfl (Nat.le_of_ble_eq_true rfl) ?_
  intro p e s m args below meth c ls hx hb hml hr hlocks hts hown hl
  have hown : s.vm.findClass RX1 = some m.cls := hown
  have hl : lv_has ls 1 [(0, .int v0)] := hl
  refine lv_iload_n hx hb dX1_isMinute_0 rfl (lv_at hl 0 rfl) ?_
  refine lv_iconst (v := nI 0) hx hb dX1_isMinute_1 (by decide +kernel) ?_
  refine lv_sipush (v := nI 359) hx hb dX1_isMinute_2 (by decide +kernel) ?_
  refine vp_callSi (W.runS (As := [.int v0, .int (nI 0), .int (nI 359)]) (rest := []) ⟨hx, hb, hml, hown, hts⟩ (c_X1_isIn l v0 (nI 0) (nI 359)) (va_cwS 3 hts gX1_isMinute_X1_isIn rfl rfl rfl (by decide +kernel) ⟨Nat.le_of_ble_eq_true rfl, Nat.le_of_ble_eq_true rfl⟩) preEq rfl rfl hl.1 rfl (lv_room (Nat.le_of_ble_eq_true rfl)) dX1_isMinute_5 ⟨Nat.le_of_ble_eq_true rfl, Nat.le_of_ble_eq_true rfl⟩) (fun r hr => ?_)
  subst hr
  have hq : bI (isB v0 (nI 0) (nI 359)) = bI (inR v0 360) := by rw [isB_359]
  exact W.zret (ty := .boolean) hx hb hr (bI_nar _) (fun t ht _ => ⟨_, rfl, hq, ht⟩) (fun _ h9 => nomatch h9) dX1_isMinute_8
set_option maxHeartbeats 4000000 in
set_option maxRecDepth 100000 in
theorem c_X1_isAwake (l : Launch) (D : va_G) (cI : ClassId) (h : Nat) (a : Nat → Nat) (u : MS) (th : Int32) (tt : Nat) (hI : Inv u) (ht : tt < 360) : Met l yX1_isAwake wsX1_isAwake ({ frames := 0, cells := 0, slots := 0, locals := 0 } : Room) (va_Pc [.ref h, .int (nI tt)] (fun U => va_P D vwCl (pic1 cI h a u th) U.heap ∧ va_K D vwCl [(cI, .int)] U)) (vp_Si (fun r => r = bI (awB u tt))) 0 0 (fun _ => False) := by
  refine en_pu (cc := cX1_isAwake) (maxL := 2) (ret := (some .boolean)) _ _ (by decide) rfl (Nat.le_of_ble_eq_true rfl) ?_
  intro p e s m args below meth c ls hx hb hml hr hlocks hts hown hP hK hl
  have hown : s.vm.findClass RX1 = some m.cls := hown
  have hin : ∀ w ∈ wsX10, w ∈ wsX1_isAwake := fun _ h9 => List.mem_cons_of_mem _ (List.mem_append_right _ h9)
  have hl : lv_has ls 2 [(0, .ref h), (1, .int (nI tt))] := hl
  obtain ⟨hIa, hIb, hIc, hId, hIe, hIf, hIg, hIh, hIi, hIj⟩ := id hI
  refine lv_aload_n hx hb dX1_isAwake_0 rfl (lv_at hl 0 rfl) ?_
  refine va_get (D := D) (ci := 1) (v := .ref (a 3)) (C := RX1) (T := TX1) (N := 17) hx hb hts hin hown hK hP 0 rfl rfl 6 (by decide) (hts (.fieldLink RX1 19 "AfternoonMeterModel" "cover" "[I") (List.mem_of_getElem? (i := 1) rfl)) (fun _ h9 => h9) rfl dX1_isAwake_1 ?_
  refine lv_iload_n hx hb dX1_isAwake_4 rfl (lv_at hl 1 rfl) ?_
  refine q_iald (v := nI (cN u tt)) hx hb hK hP 4 0 rfl rfl (by omega) (by decide) (hIh tt (by omega)) dX1_isAwake_5 ?_
  have hcn := cN_le u tt
  refine lv_if_ne (tgt := 13) hx hb dX1_isAwake_6 (by decide) (fun c_6 => ?_) (fun c_6 => ?_)
  · skip
    replace c_6 : (cN u tt) ≠ 0 := neN c_6
    refine lv_iconst (v := nI 0) hx hb dX1_isAwake_13 (by decide +kernel) ?_
    have hq : nI 0 = bI (awB u tt) := by rw [show awB u tt = false from decide_eq_false (c_6)]; rfl
    exact W.zret (ty := .boolean) hx hb hr (by decide +kernel) (fun t ht _ => ⟨_, rfl, hq, ht⟩) (fun _ h9 => nomatch h9) dX1_isAwake_14
  · skip
    replace c_6 : (cN u tt) = 0 := eN c_6
    refine lv_iconst (v := nI 1) hx hb dX1_isAwake_9 (by decide +kernel) ?_
    refine lv_goto (tgt := 14) hx hb dX1_isAwake_10 (by decide) ?_
    have hq : nI 1 = bI (awB u tt) := by rw [show awB u tt = true from decide_eq_true (c_6)]; rfl
    exact W.zret (ty := .boolean) hx hb hr (by decide +kernel) (fun t ht _ => ⟨_, rfl, hq, ht⟩) (fun _ h9 => nomatch h9) dX1_isAwake_14
set_option maxHeartbeats 4000000 in
set_option maxRecDepth 100000 in
theorem c_X1_awake (l : Launch) (D : va_G) (cI : ClassId) (h : Nat) (a : Nat → Nat) (u : MS) (th : Int32) (nn : Nat) (hI : Inv u) (hn9 : nn ≤ 360) : Met l yX1_awake wsX1_awake ({ frames := 1, cells := 0, slots := 0, locals := 21 } : Room) (va_Pc [.ref h, .int (nI nn)] (fun U => va_P D vwCl (pic1 cI h a u th) U.heap ∧ va_K D vwCl [(cI, .int)] U)) (vp_Si (fun r => r = fz (awF u) nn (nI 0))) 0 0 (fun _ => False) := by
  refine en_pu (cc := cX1_awake) (maxL := 4) (ret := (some .int)) _ _ (by decide) rfl (Nat.le_of_ble_eq_true rfl) ?_
  intro p e s m args below meth c ls hx hb hml hr hlocks hts hown hP hK hl
  have hown : s.vm.findClass RX1 = some m.cls := hown
  have hin : ∀ w ∈ wsX10, w ∈ wsX1_awake := fun _ h9 => List.mem_cons_of_mem _ (List.mem_append_right _ h9)
  have hl : lv_has ls 4 [(0, .ref h), (1, .int (nI nn))] := hl
  obtain ⟨hIa, hIb, hIc, hId, hIe, hIf, hIg, hIh, hIi, hIj⟩ := id hI
  refine lv_iconst (v := nI 0) hx hb dX1_awake_0 (by decide +kernel) ?_
  refine lv_istore_n (lv' := [(2, .int (nI 0)), (0, .ref h), (1, .int (nI nn))]) hx hb dX1_awake_1 rfl hl (by decide) rfl (fun ls hl => ?_)
  refine lv_iconst (v := nI 0) hx hb dX1_awake_2 (by decide +kernel) ?_
  refine lv_istore_n (lv' := [(3, .int (nI 0)), (2, .int (nI 0)), (0, .ref h), (1, .int (nI nn))]) hx hb dX1_awake_3 rfl hl (by decide) rfl (fun ls hl => ?_)
  have lp4 : ∀ (n k : Nat), k + n = nn → ∀ (X : Int32), X = fz (awF u) k (nI 0) → ∀ (ls : Array Slot), lv_has ls 4 [(0, .ref h), (1, .int (nI nn)), (2, .int X), (3, .int (nI k))] → W p l e ({ frames := 1, cells := 0, slots := 0, locals := 21 } : Room) s m args below meth c s.heap [] 0 0 (MQ below (vp_Si (fun r => r = fz (awF u) nn (nI 0))) args s 0 0 (fun _ => False)) (F0 m 4 ls []) := by
    intro n
    induction n with
    | zero =>
      intro k hk X eX ls hl
      have ek : k = nn := by omega
      refine lv_iload_n hx hb dX1_awake_4 rfl (lv_at hl 3 rfl) ?_
      refine lv_iload_n hx hb dX1_awake_5 rfl (lv_at hl 1 rfl) ?_
      refine lv_icmp_ge (tgt := 31) hx hb dX1_awake_6 (by decide) (fun c_6 => ?_) (fun c_6 => ?_)
      · skip
        replace c_6 : nn ≤ k := leN c_6
        refine lv_iload_n hx hb dX1_awake_31 rfl (lv_at hl 2 rfl) ?_
        have hq : X = fz (awF u) nn (nI 0) := by rw [eX, ek]
        exact W.iret hx hb hr (fun t ht _ => ⟨_, rfl, hq, ht⟩) (fun _ h9 => nomatch h9) dX1_awake_32
      · skip
        replace c_6 : k < nn := nleN c_6
        exact (by omega : False).elim
    | succ n ih =>
      intro k hk X eX ls hl
      refine lv_iload_n hx hb dX1_awake_4 rfl (lv_at hl 3 rfl) ?_
      refine lv_iload_n hx hb dX1_awake_5 rfl (lv_at hl 1 rfl) ?_
      refine lv_icmp_ge (tgt := 31) hx hb dX1_awake_6 (by decide) (fun c_6 => ?_) (fun c_6 => ?_)
      · skip
        replace c_6 : nn ≤ k := leN c_6
        exact (by omega : False).elim
      · skip
        replace c_6 : k < nn := nleN c_6
        refine lv_iload_n hx hb dX1_awake_9 rfl (lv_at hl 2 rfl) ?_
        refine lv_aload_n hx hb dX1_awake_10 rfl (lv_at hl 0 rfl) ?_
        refine lv_iload_n hx hb dX1_awake_11 rfl (lv_at hl 3 rfl) ?_
        refine vp_callSi (W.runV (As := [.int (nI k)]) (rest := [.int X]) ⟨hx, hb, hml, hown, hts⟩ (c_X1_isAwake l D cI h a u th k hI (by omega)) (cwV 1 hts gX1_awake_X1_isAwake rfl rfl rfl (by decide +kernel) ⟨Nat.le_of_ble_eq_true rfl, Nat.le_of_ble_eq_true rfl⟩) (pu_pre hK hP rfl rfl) rfl rfl hl.1 rfl (lv_room (Nat.le_of_ble_eq_true rfl)) dX1_awake_12 ⟨Nat.le_of_ble_eq_true rfl, Nat.le_of_ble_eq_true rfl⟩) (fun r hr => ?_)
        subst hr
        refine lv_if_eq (tgt := 22) hx hb dX1_awake_15 (by decide) (fun c_15 => ?_) (fun c_15 => ?_)
        · skip
          replace c_15 : (awB u k) = false := bI_eq0 c_15
          refine lv_iconst (v := nI 0) hx hb dX1_awake_22 (by decide +kernel) ?_
          refine lv_iadd hx hb dX1_awake_23 ?_
          refine lv_istore_n (lv' := [(2, .int (X + (nI 0))), (0, .ref h), (1, .int (nI nn)), (3, .int (nI k))]) hx hb dX1_awake_24 rfl hl (by decide) rfl (fun ls hl => ?_)
          refine lv_iinc (v := nI (k + 1)) (lv' := [(3, .int (nI (k + 1))), (2, .int (X + (nI 0))), (0, .ref h), (1, .int (nI nn))]) hx hb dX1_awake_25 hl (k := 3) rfl (nI_i1 _) (by decide) rfl (fun ls hl => ?_)
          refine lv_goto (tgt := 4) hx hb dX1_awake_28 (by decide) ?_
          exact ih (k + 1) (by omega) (X + (nI 0)) (by subst eX; show _ = awF u k (fz (awF u) k (nI 0)); rw [aw_f c_15]) _ (lv_sub hl [2, 3, 1, 0] rfl)
        · skip
          replace c_15 : (awB u k) = true := bI_ne0 c_15
          refine lv_iconst (v := nI 1) hx hb dX1_awake_18 (by decide +kernel) ?_
          refine lv_goto (tgt := 23) hx hb dX1_awake_19 (by decide) ?_
          refine lv_iadd hx hb dX1_awake_23 ?_
          refine lv_istore_n (lv' := [(2, .int (X + (nI 1))), (0, .ref h), (1, .int (nI nn)), (3, .int (nI k))]) hx hb dX1_awake_24 rfl hl (by decide) rfl (fun ls hl => ?_)
          refine lv_iinc (v := nI (k + 1)) (lv' := [(3, .int (nI (k + 1))), (2, .int (X + (nI 1))), (0, .ref h), (1, .int (nI nn))]) hx hb dX1_awake_25 hl (k := 3) rfl (nI_i1 _) (by decide) rfl (fun ls hl => ?_)
          refine lv_goto (tgt := 4) hx hb dX1_awake_28 (by decide) ?_
          exact ih (k + 1) (by omega) (X + (nI 1)) (by subst eX; show _ = awF u k (fz (awF u) k (nI 0)); rw [aw_t c_15]) _ (lv_sub hl [2, 3, 1, 0] rfl)
  exact lp4 _ 0 (Nat.zero_add _) (nI 0) (by rfl) _ (lv_sub hl [2, 3, 1, 0] rfl)
set_option maxHeartbeats 4000000 in
set_option maxRecDepth 100000 in
theorem c_X1_longest (l : Launch) (D : va_G) (cI : ClassId) (h : Nat) (a : Nat → Nat) (u : MS) (th : Int32) (hI : Inv u) : Met l yX1_longest wsX1_longest ({ frames := 1, cells := 0, slots := 0, locals := 21 } : Room) (va_Pc [.ref h] (fun U => va_P D vwCl (pic1 cI h a u th) U.heap ∧ va_K D vwCl [(cI, .int)] U)) (vp_Si (fun r => r = fLong u)) 0 0 (fun _ => False) := by
  refine en_pu (cc := cX1_longest) (maxL := 4) (ret := (some .int)) _ _ (by decide) rfl (Nat.le_of_ble_eq_true rfl) ?_
  intro p e s m args below meth c ls hx hb hml hr hlocks hts hown hP hK hl
  have hown : s.vm.findClass RX1 = some m.cls := hown
  have hin : ∀ w ∈ wsX10, w ∈ wsX1_longest := fun _ h9 => List.mem_cons_of_mem _ (List.mem_append_right _ h9)
  have hl : lv_has ls 4 [(0, .ref h)] := hl
  obtain ⟨hIa, hIb, hIc, hId, hIe, hIf, hIg, hIh, hIi, hIj⟩ := id hI
  refine lv_iconst (v := nI 0) hx hb dX1_longest_0 (by decide +kernel) ?_
  refine lv_istore_n (lv' := [(1, .int (nI 0)), (0, .ref h)]) hx hb dX1_longest_1 rfl hl (by decide) rfl (fun ls hl => ?_)
  refine lv_iconst (v := nI 0) hx hb dX1_longest_2 (by decide +kernel) ?_
  refine lv_istore_n (lv' := [(2, .int (nI 0)), (1, .int (nI 0)), (0, .ref h)]) hx hb dX1_longest_3 rfl hl (by decide) rfl (fun ls hl => ?_)
  refine lv_iconst (v := nI 0) hx hb dX1_longest_4 (by decide +kernel) ?_
  refine lv_istore_n (lv' := [(3, .int (nI 0)), (2, .int (nI 0)), (1, .int (nI 0)), (0, .ref h)]) hx hb dX1_longest_5 rfl hl (by decide) rfl (fun ls hl => ?_)
  have lp6 : ∀ (n k : Nat), k + n = 360 → ∀ (X : Int32), X = (lgS u k).1 → ∀ (Y : Int32), Y = (lgS u k).2 → ∀ (ls : Array Slot), lv_has ls 4 [(0, .ref h), (1, .int X), (2, .int Y), (3, .int (nI k))] → W p l e ({ frames := 1, cells := 0, slots := 0, locals := 21 } : Room) s m args below meth c s.heap [] 0 0 (MQ below (vp_Si (fun r => r = fLong u)) args s 0 0 (fun _ => False)) (F0 m 6 ls []) := by
    intro n
    induction n with
    | zero =>
      intro k hk X eX Y eY ls hl
      have ek : k = 360 := by omega
      refine lv_iload_n hx hb dX1_longest_6 rfl (lv_at hl 3 rfl) ?_
      refine lv_sipush (v := nI 360) hx hb dX1_longest_7 (by decide +kernel) ?_
      refine lv_icmp_ge (tgt := 41) hx hb dX1_longest_10 (by decide) (fun c_10 => ?_) (fun c_10 => ?_)
      · skip
        replace c_10 : 360 ≤ k := leN c_10
        refine lv_iload_n hx hb dX1_longest_41 rfl (lv_at hl 1 rfl) ?_
        have hq : X = fLong u := by rw [eX, ek]; rfl
        exact W.iret hx hb hr (fun t ht _ => ⟨_, rfl, hq, ht⟩) (fun _ h9 => nomatch h9) dX1_longest_42
      · skip
        replace c_10 : k < 360 := nleN c_10
        exact (by omega : False).elim
    | succ n ih =>
      intro k hk X eX Y eY ls hl
      refine lv_iload_n hx hb dX1_longest_6 rfl (lv_at hl 3 rfl) ?_
      refine lv_sipush (v := nI 360) hx hb dX1_longest_7 (by decide +kernel) ?_
      refine lv_icmp_ge (tgt := 41) hx hb dX1_longest_10 (by decide) (fun c_10 => ?_) (fun c_10 => ?_)
      · skip
        replace c_10 : 360 ≤ k := leN c_10
        exact (by omega : False).elim
      · skip
        replace c_10 : k < 360 := nleN c_10
        refine lv_aload_n hx hb dX1_longest_13 rfl (lv_at hl 0 rfl) ?_
        refine lv_iload_n hx hb dX1_longest_14 rfl (lv_at hl 3 rfl) ?_
        refine vp_callSi (W.runV (As := [.int (nI k)]) (rest := []) ⟨hx, hb, hml, hown, hts⟩ (c_X1_isAwake l D cI h a u th k hI (by omega)) (cwV 1 hts gX1_longest_X1_isAwake rfl rfl rfl (by decide +kernel) ⟨Nat.le_of_ble_eq_true rfl, Nat.le_of_ble_eq_true rfl⟩) (pu_pre hK hP rfl rfl) rfl rfl hl.1 rfl (lv_room (Nat.le_of_ble_eq_true rfl)) dX1_longest_15 ⟨Nat.le_of_ble_eq_true rfl, Nat.le_of_ble_eq_true rfl⟩) (fun r hr => ?_)
        subst hr
        refine lv_if_eq (tgt := 27) hx hb dX1_longest_18 (by decide) (fun c_18 => ?_) (fun c_18 => ?_)
        · skip
          replace c_18 : (awB u k) = false := bI_eq0 c_18
          refine lv_iconst (v := nI 0) hx hb dX1_longest_27 (by decide +kernel) ?_
          refine lv_istore_n (lv' := [(2, .int (nI 0)), (0, .ref h), (1, .int X), (3, .int (nI k))]) hx hb dX1_longest_28 rfl hl (by decide) rfl (fun ls hl => ?_)
          refine lv_iload_n hx hb dX1_longest_29 rfl (lv_at hl 2 rfl) ?_
          refine lv_iload_n hx hb dX1_longest_30 rfl (lv_at hl 0 rfl) ?_
          refine va_mmax hx hb (hml.trans hl.1.symm) hown (hts (.methodLink RX1 58 Lib.Math.max.name) (List.mem_of_getElem? (i := 1) rfl)) (hts (.static Lib.Math.max.name) (List.mem_of_getElem? (i := 2) rfl)) (hts (.initialized "java/lang/Math") (List.mem_of_getElem? (i := 3) rfl)) (hts _ (List.mem_of_getElem? (i := 4) rfl)) (Nat.le_of_ble_eq_true rfl) (Nat.le_of_ble_eq_true rfl) (Nat.le_of_ble_eq_true rfl) (Nat.le_of_ble_eq_true rfl) dX1_longest_31 ?_
          refine lv_istore_n (lv' := [(1, .int (if X < nI 0 then nI 0 else X)), (2, .int (nI 0)), (0, .ref h), (3, .int (nI k))]) hx hb dX1_longest_34 rfl hl (by decide) rfl (fun ls hl => ?_)
          refine lv_iinc (v := nI (k + 1)) (lv' := [(3, .int (nI (k + 1))), (1, .int (if X < nI 0 then nI 0 else X)), (2, .int (nI 0)), (0, .ref h)]) hx hb dX1_longest_35 hl (k := 3) rfl (nI_i1 _) (by decide) rfl (fun ls hl => ?_)
          refine lv_goto (tgt := 6) hx hb dX1_longest_38 (by decide) ?_
          exact ih (k + 1) (by omega) (if X < nI 0 then nI 0 else X) (by subst eX eY; show _ = (lgF u k (lgS u k)).1; rw [lg_no (of_decide_eq_false c_18)]) (nI 0) (by subst eX eY; show _ = (lgF u k (lgS u k)).2; rw [lg_no (of_decide_eq_false c_18)]) _ (lv_sub hl [3, 1, 2, 0] rfl)
        · skip
          replace c_18 : (awB u k) = true := bI_ne0 c_18
          refine lv_iload_n hx hb dX1_longest_21 rfl (lv_at hl 2 rfl) ?_
          refine lv_iconst (v := nI 1) hx hb dX1_longest_22 (by decide +kernel) ?_
          refine lv_iadd hx hb dX1_longest_23 ?_
          refine lv_goto (tgt := 28) hx hb dX1_longest_24 (by decide) ?_
          refine lv_istore_n (lv' := [(2, .int (Y + (nI 1))), (0, .ref h), (1, .int X), (3, .int (nI k))]) hx hb dX1_longest_28 rfl hl (by decide) rfl (fun ls hl => ?_)
          refine lv_iload_n hx hb dX1_longest_29 rfl (lv_at hl 2 rfl) ?_
          refine lv_iload_n hx hb dX1_longest_30 rfl (lv_at hl 0 rfl) ?_
          refine va_mmax hx hb (hml.trans hl.1.symm) hown (hts (.methodLink RX1 58 Lib.Math.max.name) (List.mem_of_getElem? (i := 1) rfl)) (hts (.static Lib.Math.max.name) (List.mem_of_getElem? (i := 2) rfl)) (hts (.initialized "java/lang/Math") (List.mem_of_getElem? (i := 3) rfl)) (hts _ (List.mem_of_getElem? (i := 4) rfl)) (Nat.le_of_ble_eq_true rfl) (Nat.le_of_ble_eq_true rfl) (Nat.le_of_ble_eq_true rfl) (Nat.le_of_ble_eq_true rfl) dX1_longest_31 ?_
          refine lv_istore_n (lv' := [(1, .int (if X < Y + (nI 1) then Y + (nI 1) else X)), (2, .int (Y + (nI 1))), (0, .ref h), (3, .int (nI k))]) hx hb dX1_longest_34 rfl hl (by decide) rfl (fun ls hl => ?_)
          refine lv_iinc (v := nI (k + 1)) (lv' := [(3, .int (nI (k + 1))), (1, .int (if X < Y + (nI 1) then Y + (nI 1) else X)), (2, .int (Y + (nI 1))), (0, .ref h)]) hx hb dX1_longest_35 hl (k := 3) rfl (nI_i1 _) (by decide) rfl (fun ls hl => ?_)
          refine lv_goto (tgt := 6) hx hb dX1_longest_38 (by decide) ?_
          exact ih (k + 1) (by omega) (if X < Y + (nI 1) then Y + (nI 1) else X) (by subst eX eY; show _ = (lgF u k (lgS u k)).1; rw [lg_yes (of_decide_eq_true c_18)]) (Y + (nI 1)) (by subst eX eY; show _ = (lgF u k (lgS u k)).2; rw [lg_yes (of_decide_eq_true c_18)]) _ (lv_sub hl [3, 1, 2, 0] rfl)
  exact lp6 _ 0 (Nat.zero_add _) (nI 0) (by rfl) (nI 0) (by rfl) _ (lv_sub hl [3, 2, 1, 0] rfl)
set_option maxHeartbeats 4000000 in
set_option maxRecDepth 100000 in
theorem c_X1_alone (l : Launch) (D : va_G) (cI : ClassId) (h : Nat) (a : Nat → Nat) (u : MS) (th : Int32) (np : Nat) (hI : Inv u) (hnp : np < mNc u) : Met l yX1_alone wsX1_alone ({ frames := 0, cells := 0, slots := 0, locals := 0 } : Room) (va_Pc [.ref h, .int (nI np)] (fun U => va_P D vwCl (pic1 cI h a u th) U.heap ∧ va_K D vwCl [(cI, .int)] U)) (vp_Si (fun r => r = fAl u np)) 0 0 (fun _ => False) := by
  refine en_pu (cc := cX1_alone) (maxL := 4) (ret := (some .int)) _ _ (by decide) rfl (Nat.le_of_ble_eq_true rfl) ?_
  intro p e s m args below meth c ls hx hb hml hr hlocks hts hown hP hK hl
  have hown : s.vm.findClass RX1 = some m.cls := hown
  have hin : ∀ w ∈ wsX10, w ∈ wsX1_alone := fun _ h9 => List.mem_cons_of_mem _ (List.mem_append_right _ h9)
  have hl : lv_has ls 4 [(0, .ref h), (1, .int (nI np))] := hl
  obtain ⟨hIa, hIb, hIc, hId, hIe, hIf, hIg, hIh, hIi, hIj⟩ := id hI
  obtain ⟨hp1, hp2, hp3, hp4⟩ := hIg np hnp
  refine lv_iconst (v := nI 0) hx hb dX1_alone_0 (by decide +kernel) ?_
  refine lv_istore_n (lv' := [(2, .int (nI 0)), (0, .ref h), (1, .int (nI np))]) hx hb dX1_alone_1 rfl hl (by decide) rfl (fun ls hl => ?_)
  refine lv_aload_n hx hb dX1_alone_2 rfl (lv_at hl 1 rfl) ?_
  refine va_get (D := D) (ci := 1) (v := .ref (a 1)) (C := RX1) (T := TX1) (N := 17) hx hb hts hin hown hK hP 0 rfl rfl 4 (by decide) (hts (.fieldLink RX1 13 "AfternoonMeterModel" "from" "[I") (List.mem_of_getElem? (i := 1) rfl)) (fun _ h9 => h9) rfl dX1_alone_3 ?_
  refine lv_iload_n hx hb dX1_alone_6 rfl (lv_at hl 2 rfl) ?_
  refine q_iald (v := nI (aN u np)) hx hb hK hP 2 0 rfl rfl (by omega) (by decide) ((hIg np (by omega)).1) dX1_alone_7 ?_
  obtain ⟨_, _, _, _⟩ := hIg np (by omega)
  refine lv_istore_n (lv' := [(3, .int (nI (aN u np))), (2, .int (nI 0)), (0, .ref h), (1, .int (nI np))]) hx hb dX1_alone_8 rfl hl (by decide) rfl (fun ls hl => ?_)
  have lp9 : ∀ (n k : Nat), k + n = bN u np - aN u np → ∀ (X : Int32), X = fs (alG u) (aN u np) k (nI 0) → ∀ (ls : Array Slot), lv_has ls 4 [(0, .ref h), (1, .int (nI np)), (2, .int X), (3, .int (nI (aN u np + k)))] → W p l e ({ frames := 0, cells := 0, slots := 0, locals := 0 } : Room) s m args below meth c s.heap [] 0 0 (MQ below (vp_Si (fun r => r = fAl u np)) args s 0 0 (fun _ => False)) (F0 m 9 ls []) := by
    intro n
    induction n with
    | zero =>
      intro k hk X eX ls hl
      have ek : k = bN u np - aN u np := by omega
      refine lv_iload_n hx hb dX1_alone_9 rfl (lv_at hl 3 rfl) ?_
      refine lv_aload_n hx hb dX1_alone_10 rfl (lv_at hl 0 rfl) ?_
      refine va_get (D := D) (ci := 1) (v := .ref (a 2)) (C := RX1) (T := TX1) (N := 17) hx hb hts hin hown hK hP 0 rfl rfl 5 (by decide) (hts (.fieldLink RX1 16 "AfternoonMeterModel" "to" "[I") (List.mem_of_getElem? (i := 2) rfl)) (fun _ h9 => h9) rfl dX1_alone_11 ?_
      refine lv_iload_n hx hb dX1_alone_14 rfl (lv_at hl 1 rfl) ?_
      refine q_iald (v := nI (bN u np)) hx hb hK hP 3 0 rfl rfl (by omega) (by decide) ((hIg np (by omega)).2.1) dX1_alone_15 ?_
      obtain ⟨_, _, _, _⟩ := hIg np (by omega)
      refine lv_icmp_ge (tgt := 43) hx hb dX1_alone_16 (by decide) (fun c_16 => ?_) (fun c_16 => ?_)
      · skip
        replace c_16 : (bN u np) ≤ (aN u np + k) := leN c_16
        refine lv_iload_n hx hb dX1_alone_43 rfl (lv_at hl 2 rfl) ?_
        have hq : X = fAl u np := by rw [eX, ek]; exact alone_eq hp3 hp4
        exact W.iret hx hb hr (fun t ht _ => ⟨_, rfl, hq, ht⟩) (fun _ h9 => nomatch h9) dX1_alone_44
      · skip
        replace c_16 : (aN u np + k) < (bN u np) := nleN c_16
        exact (by omega : False).elim
    | succ n ih =>
      intro k hk X eX ls hl
      refine lv_iload_n hx hb dX1_alone_9 rfl (lv_at hl 3 rfl) ?_
      refine lv_aload_n hx hb dX1_alone_10 rfl (lv_at hl 0 rfl) ?_
      refine va_get (D := D) (ci := 1) (v := .ref (a 2)) (C := RX1) (T := TX1) (N := 17) hx hb hts hin hown hK hP 0 rfl rfl 5 (by decide) (hts (.fieldLink RX1 16 "AfternoonMeterModel" "to" "[I") (List.mem_of_getElem? (i := 2) rfl)) (fun _ h9 => h9) rfl dX1_alone_11 ?_
      refine lv_iload_n hx hb dX1_alone_14 rfl (lv_at hl 1 rfl) ?_
      refine q_iald (v := nI (bN u np)) hx hb hK hP 3 0 rfl rfl (by omega) (by decide) ((hIg np (by omega)).2.1) dX1_alone_15 ?_
      obtain ⟨_, _, _, _⟩ := hIg np (by omega)
      refine lv_icmp_ge (tgt := 43) hx hb dX1_alone_16 (by decide) (fun c_16 => ?_) (fun c_16 => ?_)
      · skip
        replace c_16 : (bN u np) ≤ (aN u np + k) := leN c_16
        exact (by omega : False).elim
      · skip
        replace c_16 : (aN u np + k) < (bN u np) := nleN c_16
        refine lv_iload_n hx hb dX1_alone_19 rfl (lv_at hl 2 rfl) ?_
        refine lv_aload_n hx hb dX1_alone_20 rfl (lv_at hl 0 rfl) ?_
        refine va_get (D := D) (ci := 1) (v := .ref (a 3)) (C := RX1) (T := TX1) (N := 17) hx hb hts hin hown hK hP 0 rfl rfl 6 (by decide) (hts (.fieldLink RX1 19 "AfternoonMeterModel" "cover" "[I") (List.mem_of_getElem? (i := 3) rfl)) (fun _ h9 => h9) rfl dX1_alone_21 ?_
        refine lv_iload_n hx hb dX1_alone_24 rfl (lv_at hl 3 rfl) ?_
        refine q_iald (v := nI (cN u (aN u np + k))) hx hb hK hP 4 0 rfl rfl (by omega) (by decide) (hIh (aN u np + k) (by omega)) dX1_alone_25 ?_
        have hcn := cN_le u (aN u np + k)
        refine lv_iconst (v := nI 1) hx hb dX1_alone_26 (by decide +kernel) ?_
        refine lv_icmp_ne (tgt := 34) hx hb dX1_alone_27 (by decide) (fun c_27 => ?_) (fun c_27 => ?_)
        · skip
          replace c_27 : (cN u (aN u np + k)) ≠ 1 := neN c_27
          refine lv_iconst (v := nI 0) hx hb dX1_alone_34 (by decide +kernel) ?_
          refine lv_iadd hx hb dX1_alone_35 ?_
          refine lv_istore_n (lv' := [(2, .int (X + (nI 0))), (0, .ref h), (1, .int (nI np)), (3, .int (nI (aN u np + k)))]) hx hb dX1_alone_36 rfl hl (by decide) rfl (fun ls hl => ?_)
          refine lv_iinc (v := nI (aN u np + k + 1)) (lv' := [(3, .int (nI (aN u np + k + 1))), (2, .int (X + (nI 0))), (0, .ref h), (1, .int (nI np))]) hx hb dX1_alone_37 hl (k := 3) rfl (nI_i1 _) (by decide) rfl (fun ls hl => ?_)
          refine lv_goto (tgt := 9) hx hb dX1_alone_40 (by decide) ?_
          exact ih (k + 1) (by omega) (X + (nI 0)) (by subst eX; show _ = alG u (aN u np + k) (fs (alG u) (aN u np) k (nI 0)); rw [al_f c_27]) _ (lv_sub hl [2, 3, 1, 0] rfl)
        · skip
          replace c_27 : (cN u (aN u np + k)) = 1 := eN c_27
          refine lv_iconst (v := nI 1) hx hb dX1_alone_30 (by decide +kernel) ?_
          refine lv_goto (tgt := 35) hx hb dX1_alone_31 (by decide) ?_
          refine lv_iadd hx hb dX1_alone_35 ?_
          refine lv_istore_n (lv' := [(2, .int (X + (nI 1))), (0, .ref h), (1, .int (nI np)), (3, .int (nI (aN u np + k)))]) hx hb dX1_alone_36 rfl hl (by decide) rfl (fun ls hl => ?_)
          refine lv_iinc (v := nI (aN u np + k + 1)) (lv' := [(3, .int (nI (aN u np + k + 1))), (2, .int (X + (nI 1))), (0, .ref h), (1, .int (nI np))]) hx hb dX1_alone_37 hl (k := 3) rfl (nI_i1 _) (by decide) rfl (fun ls hl => ?_)
          refine lv_goto (tgt := 9) hx hb dX1_alone_40 (by decide) ?_
          exact ih (k + 1) (by omega) (X + (nI 1)) (by subst eX; show _ = alG u (aN u np + k) (fs (alG u) (aN u np) k (nI 0)); rw [al_t c_27]) _ (lv_sub hl [2, 3, 1, 0] rfl)
  exact lp9 _ 0 (Nat.zero_add _) (nI 0) (by rfl) _ (lv_sub hl [2, 3, 1, 0] rfl)
set_option maxHeartbeats 4000000 in
set_option maxRecDepth 100000 in
theorem c_X1_ticks (l : Launch) (D : va_G) (cI : ClassId) (h : Nat) (a : Nat → Nat) (u : MS) (th : Int32) (bb : Nat) (tt : Nat) (hI : Inv u) (hbb : bb < mBc u) (ht : tt < 360) : Met l yX1_ticks wsX1_ticks ({ frames := 1, cells := 0, slots := 0, locals := 21 } : Room) (va_Pc [.ref h, .int (nI bb), .int (nI tt)] (fun U => va_P D vwCl (pic1 cI h a u th) U.heap ∧ va_K D vwCl [(cI, .int)] U)) (vp_Si (fun r => r = bI (tkB u bb tt))) 0 0 (fun _ => False) := by
  refine en_pu (cc := cX1_ticks) (maxL := 3) (ret := (some .boolean)) _ _ (by decide) rfl (Nat.le_of_ble_eq_true rfl) ?_
  intro p e s m args below meth c ls hx hb hml hr hlocks hts hown hP hK hl
  have hown : s.vm.findClass RX1 = some m.cls := hown
  have hin : ∀ w ∈ wsX10, w ∈ wsX1_ticks := fun _ h9 => List.mem_cons_of_mem _ (List.mem_append_right _ h9)
  have hl : lv_has ls 3 [(0, .ref h), (1, .int (nI bb)), (2, .int (nI tt))] := hl
  obtain ⟨hIa, hIb, hIc, hId, hIe, hIf, hIg, hIh, hIi, hIj⟩ := id hI
  have hm : tt % pN u bb < pN u bb := Nat.mod_lt tt (by have g9 := (hIf bb hbb).2.2.1; omega)
  refine lv_aload_n hx hb dX1_ticks_0 rfl (lv_at hl 0 rfl) ?_
  refine lv_iload_n hx hb dX1_ticks_1 rfl (lv_at hl 2 rfl) ?_
  refine vp_callSi (W.runV (As := [.int (nI tt)]) (rest := []) ⟨hx, hb, hml, hown, hts⟩ (c_X1_isAwake l D cI h a u th tt hI (by omega)) (cwV 1 hts gX1_ticks_X1_isAwake rfl rfl rfl (by decide +kernel) ⟨Nat.le_of_ble_eq_true rfl, Nat.le_of_ble_eq_true rfl⟩) (pu_pre hK hP rfl rfl) rfl rfl hl.1 rfl (lv_room (Nat.le_of_ble_eq_true rfl)) dX1_ticks_2 ⟨Nat.le_of_ble_eq_true rfl, Nat.le_of_ble_eq_true rfl⟩) (fun r hr => ?_)
  subst hr
  refine lv_if_eq (tgt := 29) hx hb dX1_ticks_5 (by decide) (fun c_5 => ?_) (fun c_5 => ?_)
  · skip
    replace c_5 : (awB u tt) = false := bI_eq0 c_5
    refine lv_iconst (v := nI 0) hx hb dX1_ticks_29 (by decide +kernel) ?_
    have hq : nI 0 = bI (tkB u bb tt) := by rw [show tkB u bb tt = false from decide_eq_false (fun z => of_decide_eq_false c_5 z.1)]; rfl
    exact W.zret (ty := .boolean) hx hb hr (by decide +kernel) (fun t ht _ => ⟨_, rfl, hq, ht⟩) (fun _ h9 => nomatch h9) dX1_ticks_30
  · skip
    replace c_5 : (awB u tt) = true := bI_ne0 c_5
    refine lv_iload_n hx hb dX1_ticks_8 rfl (lv_at hl 2 rfl) ?_
    refine lv_aload_n hx hb dX1_ticks_9 rfl (lv_at hl 0 rfl) ?_
    refine va_get (D := D) (ci := 1) (v := .ref (a 4)) (C := RX1) (T := TX1) (N := 17) hx hb hts hin hown hK hP 0 rfl rfl 8 (by decide) (hts (.fieldLink RX1 22 "AfternoonMeterModel" "period" "[I") (List.mem_of_getElem? (i := 1) rfl)) (fun _ h9 => h9) rfl dX1_ticks_10 ?_
    refine lv_iload_n hx hb dX1_ticks_13 rfl (lv_at hl 1 rfl) ?_
    refine q_iald (v := nI (pN u bb)) hx hb hK hP 5 0 rfl rfl (by omega) (by decide) ((hIf bb (by omega)).1) dX1_ticks_14 ?_
    obtain ⟨_, _, _, _, _⟩ := hIf bb (by omega)
    refine q_iremN hx hb (by omega) (by omega) (by omega) dX1_ticks_15 ?_
    refine lv_aload_n hx hb dX1_ticks_16 rfl (lv_at hl 0 rfl) ?_
    refine va_get (D := D) (ci := 1) (v := .ref (a 5)) (C := RX1) (T := TX1) (N := 17) hx hb hts hin hown hK hP 0 rfl rfl 9 (by decide) (hts (.fieldLink RX1 25 "AfternoonMeterModel" "beat" "[I") (List.mem_of_getElem? (i := 2) rfl)) (fun _ h9 => h9) rfl dX1_ticks_17 ?_
    refine lv_iload_n hx hb dX1_ticks_20 rfl (lv_at hl 1 rfl) ?_
    refine q_iald (v := nI (qN u bb)) hx hb hK hP 6 0 rfl rfl (by omega) (by decide) ((hIf bb (by omega)).2.1) dX1_ticks_21 ?_
    obtain ⟨_, _, _, _, _⟩ := hIf bb (by omega)
    refine lv_icmp_ne (tgt := 29) hx hb dX1_ticks_22 (by decide) (fun c_22 => ?_) (fun c_22 => ?_)
    · skip
      replace c_22 : (tt % (pN u bb)) ≠ (qN u bb) := neN c_22
      refine lv_iconst (v := nI 0) hx hb dX1_ticks_29 (by decide +kernel) ?_
      have hq : nI 0 = bI (tkB u bb tt) := by rw [show tkB u bb tt = false from decide_eq_false (fun z => c_22 z.2)]; rfl
      exact W.zret (ty := .boolean) hx hb hr (by decide +kernel) (fun t ht _ => ⟨_, rfl, hq, ht⟩) (fun _ h9 => nomatch h9) dX1_ticks_30
    · skip
      replace c_22 : (tt % (pN u bb)) = (qN u bb) := eN c_22
      refine lv_iconst (v := nI 1) hx hb dX1_ticks_25 (by decide +kernel) ?_
      refine lv_goto (tgt := 30) hx hb dX1_ticks_26 (by decide) ?_
      have hq : nI 1 = bI (tkB u bb tt) := by rw [show tkB u bb tt = true from decide_eq_true (⟨of_decide_eq_true c_5, c_22⟩)]; rfl
      exact W.zret (ty := .boolean) hx hb hr (by decide +kernel) (fun t ht _ => ⟨_, rfl, hq, ht⟩) (fun _ h9 => nomatch h9) dX1_ticks_30
set_option maxHeartbeats 4000000 in
set_option maxRecDepth 100000 in
theorem c_X1_ticked (l : Launch) (D : va_G) (cI : ClassId) (h : Nat) (a : Nat → Nat) (u : MS) (th : Int32) (bb : Nat) (hI : Inv u) (hbb : bb < mBc u) : Met l yX1_ticked wsX1_ticked ({ frames := 2, cells := 0, slots := 0, locals := 43 } : Room) (va_Pc [.ref h, .int (nI bb)] (fun U => va_P D vwCl (pic1 cI h a u th) U.heap ∧ va_K D vwCl [(cI, .int)] U)) (vp_Si (fun r => r = fTk u bb)) 0 0 (fun _ => False) := by
  refine en_pu (cc := cX1_ticked) (maxL := 4) (ret := (some .int)) _ _ (by decide) rfl (Nat.le_of_ble_eq_true rfl) ?_
  intro p e s m args below meth c ls hx hb hml hr hlocks hts hown hP hK hl
  have hown : s.vm.findClass RX1 = some m.cls := hown
  have hin : ∀ w ∈ wsX10, w ∈ wsX1_ticked := fun _ h9 => List.mem_cons_of_mem _ (List.mem_append_right _ h9)
  have hl : lv_has ls 4 [(0, .ref h), (1, .int (nI bb))] := hl
  obtain ⟨hIa, hIb, hIc, hId, hIe, hIf, hIg, hIh, hIi, hIj⟩ := id hI
  refine lv_iconst (v := nI 0) hx hb dX1_ticked_0 (by decide +kernel) ?_
  refine lv_istore_n (lv' := [(2, .int (nI 0)), (0, .ref h), (1, .int (nI bb))]) hx hb dX1_ticked_1 rfl hl (by decide) rfl (fun ls hl => ?_)
  refine lv_iconst (v := nI 0) hx hb dX1_ticked_2 (by decide +kernel) ?_
  refine lv_istore_n (lv' := [(3, .int (nI 0)), (2, .int (nI 0)), (0, .ref h), (1, .int (nI bb))]) hx hb dX1_ticked_3 rfl hl (by decide) rfl (fun ls hl => ?_)
  have lp4 : ∀ (n k : Nat), k + n = mNow u → ∀ (X : Int32), X = fz (tkF u bb) k (nI 0) → ∀ (ls : Array Slot), lv_has ls 4 [(0, .ref h), (1, .int (nI bb)), (2, .int X), (3, .int (nI k))] → W p l e ({ frames := 2, cells := 0, slots := 0, locals := 43 } : Room) s m args below meth c s.heap [] 0 0 (MQ below (vp_Si (fun r => r = fTk u bb)) args s 0 0 (fun _ => False)) (F0 m 4 ls []) := by
    intro n
    induction n with
    | zero =>
      intro k hk X eX ls hl
      have ek : k = mNow u := by omega
      refine lv_iload_n hx hb dX1_ticked_4 rfl (lv_at hl 3 rfl) ?_
      refine lv_aload_n hx hb dX1_ticked_5 rfl (lv_at hl 0 rfl) ?_
      refine va_get (D := D) (ci := 1) (v := .int (nI (mNow u))) (C := RX1) (T := TX1) (N := 17) hx hb hts hin hown hK hP 0 rfl rfl 14 (by decide) (hts (.fieldLink RX1 64 "AfternoonMeterModel" "minute" "I") (List.mem_of_getElem? (i := 1) rfl)) (fun _ h9 => h9) rfl dX1_ticked_6 ?_
      refine lv_icmp_ge (tgt := 35) hx hb dX1_ticked_9 (by decide) (fun c_9 => ?_) (fun c_9 => ?_)
      · skip
        replace c_9 : (mNow u) ≤ k := leN c_9
        refine lv_iload_n hx hb dX1_ticked_35 rfl (lv_at hl 2 rfl) ?_
        have hq : X = fTk u bb := by rw [eX, ek]; rfl
        exact W.iret hx hb hr (fun t ht _ => ⟨_, rfl, hq, ht⟩) (fun _ h9 => nomatch h9) dX1_ticked_36
      · skip
        replace c_9 : k < (mNow u) := nleN c_9
        exact (by omega : False).elim
    | succ n ih =>
      intro k hk X eX ls hl
      refine lv_iload_n hx hb dX1_ticked_4 rfl (lv_at hl 3 rfl) ?_
      refine lv_aload_n hx hb dX1_ticked_5 rfl (lv_at hl 0 rfl) ?_
      refine va_get (D := D) (ci := 1) (v := .int (nI (mNow u))) (C := RX1) (T := TX1) (N := 17) hx hb hts hin hown hK hP 0 rfl rfl 14 (by decide) (hts (.fieldLink RX1 64 "AfternoonMeterModel" "minute" "I") (List.mem_of_getElem? (i := 1) rfl)) (fun _ h9 => h9) rfl dX1_ticked_6 ?_
      refine lv_icmp_ge (tgt := 35) hx hb dX1_ticked_9 (by decide) (fun c_9 => ?_) (fun c_9 => ?_)
      · skip
        replace c_9 : (mNow u) ≤ k := leN c_9
        exact (by omega : False).elim
      · skip
        replace c_9 : k < (mNow u) := nleN c_9
        refine lv_iload_n hx hb dX1_ticked_12 rfl (lv_at hl 2 rfl) ?_
        refine lv_aload_n hx hb dX1_ticked_13 rfl (lv_at hl 0 rfl) ?_
        refine lv_iload_n hx hb dX1_ticked_14 rfl (lv_at hl 1 rfl) ?_
        refine lv_iload_n hx hb dX1_ticked_15 rfl (lv_at hl 3 rfl) ?_
        refine vp_callSi (W.runV (As := [.int (nI bb), .int (nI k)]) (rest := [.int X]) ⟨hx, hb, hml, hown, hts⟩ (c_X1_ticks l D cI h a u th bb k hI (by omega) (by omega)) (cwV 2 hts gX1_ticked_X1_ticks rfl rfl rfl (by decide +kernel) ⟨Nat.le_of_ble_eq_true rfl, Nat.le_of_ble_eq_true rfl⟩) (pu_pre hK hP rfl rfl) rfl rfl hl.1 rfl (lv_room (Nat.le_of_ble_eq_true rfl)) dX1_ticked_16 ⟨Nat.le_of_ble_eq_true rfl, Nat.le_of_ble_eq_true rfl⟩) (fun r hr => ?_)
        subst hr
        refine lv_if_eq (tgt := 26) hx hb dX1_ticked_19 (by decide) (fun c_19 => ?_) (fun c_19 => ?_)
        · skip
          replace c_19 : (tkB u bb k) = false := bI_eq0 c_19
          refine lv_iconst (v := nI 0) hx hb dX1_ticked_26 (by decide +kernel) ?_
          refine lv_iadd hx hb dX1_ticked_27 ?_
          refine lv_istore_n (lv' := [(2, .int (X + (nI 0))), (0, .ref h), (1, .int (nI bb)), (3, .int (nI k))]) hx hb dX1_ticked_28 rfl hl (by decide) rfl (fun ls hl => ?_)
          refine lv_iinc (v := nI (k + 1)) (lv' := [(3, .int (nI (k + 1))), (2, .int (X + (nI 0))), (0, .ref h), (1, .int (nI bb))]) hx hb dX1_ticked_29 hl (k := 3) rfl (nI_i1 _) (by decide) rfl (fun ls hl => ?_)
          refine lv_goto (tgt := 4) hx hb dX1_ticked_32 (by decide) ?_
          exact ih (k + 1) (by omega) (X + (nI 0)) (by subst eX; show _ = tkF u bb k (fz (tkF u bb) k (nI 0)); rw [tk_f c_19]) _ (lv_sub hl [2, 3, 1, 0] rfl)
        · skip
          replace c_19 : (tkB u bb k) = true := bI_ne0 c_19
          refine lv_iconst (v := nI 1) hx hb dX1_ticked_22 (by decide +kernel) ?_
          refine lv_goto (tgt := 27) hx hb dX1_ticked_23 (by decide) ?_
          refine lv_iadd hx hb dX1_ticked_27 ?_
          refine lv_istore_n (lv' := [(2, .int (X + (nI 1))), (0, .ref h), (1, .int (nI bb)), (3, .int (nI k))]) hx hb dX1_ticked_28 rfl hl (by decide) rfl (fun ls hl => ?_)
          refine lv_iinc (v := nI (k + 1)) (lv' := [(3, .int (nI (k + 1))), (2, .int (X + (nI 1))), (0, .ref h), (1, .int (nI bb))]) hx hb dX1_ticked_29 hl (k := 3) rfl (nI_i1 _) (by decide) rfl (fun ls hl => ?_)
          refine lv_goto (tgt := 4) hx hb dX1_ticked_32 (by decide) ?_
          exact ih (k + 1) (by omega) (X + (nI 1)) (by subst eX; show _ = tkF u bb k (fz (tkF u bb) k (nI 0)); rw [tk_t c_19]) _ (lv_sub hl [2, 3, 1, 0] rfl)
  exact lp4 _ 0 (Nat.zero_add _) (nI 0) (by rfl) _ (lv_sub hl [2, 3, 1, 0] rfl)
set_option maxHeartbeats 4000000 in
set_option maxRecDepth 100000 in
theorem c_X1_next (l : Launch) (D : va_G) (cI : ClassId) (h : Nat) (a : Nat → Nat) (u : MS) (th : Int32) (bb : Nat) (hI : Inv u) (hbb : bb < mBc u) : Met l yX1_next wsX1_next ({ frames := 2, cells := 0, slots := 0, locals := 43 } : Room) (va_Pc [.ref h, .int (nI bb)] (fun U => va_P D vwCl (pic1 cI h a u th) U.heap ∧ va_K D vwCl [(cI, .int)] U)) (vp_Si (fun r => r = fNx u bb)) 0 0 (fun _ => False) := by
  refine en_pu (cc := cX1_next) (maxL := 3) (ret := (some .int)) _ _ (by decide) rfl (Nat.le_of_ble_eq_true rfl) ?_
  intro p e s m args below meth c ls hx hb hml hr hlocks hts hown hP hK hl
  have hown : s.vm.findClass RX1 = some m.cls := hown
  have hin : ∀ w ∈ wsX10, w ∈ wsX1_next := fun _ h9 => List.mem_cons_of_mem _ (List.mem_append_right _ h9)
  have hl : lv_has ls 3 [(0, .ref h), (1, .int (nI bb))] := hl
  obtain ⟨hIa, hIb, hIc, hId, hIe, hIf, hIg, hIh, hIi, hIj⟩ := id hI
  refine lv_aload_n hx hb dX1_next_0 rfl (lv_at hl 0 rfl) ?_
  refine va_get (D := D) (ci := 1) (v := .int (nI (mNow u))) (C := RX1) (T := TX1) (N := 17) hx hb hts hin hown hK hP 0 rfl rfl 14 (by decide) (hts (.fieldLink RX1 64 "AfternoonMeterModel" "minute" "I") (List.mem_of_getElem? (i := 1) rfl)) (fun _ h9 => h9) rfl dX1_next_1 ?_
  refine lv_istore_n (lv' := [(2, .int (nI (mNow u))), (0, .ref h), (1, .int (nI bb))]) hx hb dX1_next_4 rfl hl (by decide) rfl (fun ls hl => ?_)
  have lp5 : ∀ (n k : Nat), k + n = 360 - mNow u → fNx u bb = fd (tkB u bb) n (mNow u + k) → ∀ (ls : Array Slot), lv_has ls 3 [(0, .ref h), (1, .int (nI bb)), (2, .int (nI (mNow u + k)))] → W p l e ({ frames := 2, cells := 0, slots := 0, locals := 43 } : Room) s m args below meth c s.heap [] 0 0 (MQ below (vp_Si (fun r => r = fNx u bb)) args s 0 0 (fun _ => False)) (F0 m 5 ls []) := by
    intro n
    induction n with
    | zero =>
      intro k hk hq0 ls hl
      refine lv_iload_n hx hb dX1_next_5 rfl (lv_at hl 2 rfl) ?_
      refine lv_sipush (v := nI 360) hx hb dX1_next_6 (by decide +kernel) ?_
      refine lv_icmp_ge (tgt := 29) hx hb dX1_next_9 (by decide) (fun c_9 => ?_) (fun c_9 => ?_)
      · skip
        replace c_9 : 360 ≤ (mNow u + k) := leN c_9
        refine lv_iconst (v := (-1)) hx hb dX1_next_29 (by decide +kernel) ?_
        have hq : (-1) = fNx u bb := by rw [hq0]; rfl
        exact W.iret hx hb hr (fun t ht _ => ⟨_, rfl, hq, ht⟩) (fun _ h9 => nomatch h9) dX1_next_30
      · skip
        replace c_9 : (mNow u + k) < 360 := nleN c_9
        exact (by omega : False).elim
    | succ n ih =>
      intro k hk hq0 ls hl
      refine lv_iload_n hx hb dX1_next_5 rfl (lv_at hl 2 rfl) ?_
      refine lv_sipush (v := nI 360) hx hb dX1_next_6 (by decide +kernel) ?_
      refine lv_icmp_ge (tgt := 29) hx hb dX1_next_9 (by decide) (fun c_9 => ?_) (fun c_9 => ?_)
      · skip
        replace c_9 : 360 ≤ (mNow u + k) := leN c_9
        exact (by omega : False).elim
      · skip
        replace c_9 : (mNow u + k) < 360 := nleN c_9
        refine lv_aload_n hx hb dX1_next_12 rfl (lv_at hl 0 rfl) ?_
        refine lv_iload_n hx hb dX1_next_13 rfl (lv_at hl 1 rfl) ?_
        refine lv_iload_n hx hb dX1_next_14 rfl (lv_at hl 2 rfl) ?_
        refine vp_callSi (W.runV (As := [.int (nI bb), .int (nI (mNow u + k))]) (rest := []) ⟨hx, hb, hml, hown, hts⟩ (c_X1_ticks l D cI h a u th bb (mNow u + k) hI (by omega) (by omega)) (cwV 2 hts gX1_next_X1_ticks rfl rfl rfl (by decide +kernel) ⟨Nat.le_of_ble_eq_true rfl, Nat.le_of_ble_eq_true rfl⟩) (pu_pre hK hP rfl rfl) rfl rfl hl.1 rfl (lv_room (Nat.le_of_ble_eq_true rfl)) dX1_next_15 ⟨Nat.le_of_ble_eq_true rfl, Nat.le_of_ble_eq_true rfl⟩) (fun r hr => ?_)
        subst hr
        refine lv_if_eq (tgt := 23) hx hb dX1_next_18 (by decide) (fun c_18 => ?_) (fun c_18 => ?_)
        · skip
          replace c_18 : (tkB u bb (mNow u + k)) = false := bI_eq0 c_18
          refine lv_iinc (v := nI (mNow u + k + 1)) (lv' := [(2, .int (nI (mNow u + k + 1))), (0, .ref h), (1, .int (nI bb))]) hx hb dX1_next_23 hl (k := 2) rfl (nI_i1 _) (by decide) rfl (fun ls hl => ?_)
          refine lv_goto (tgt := 5) hx hb dX1_next_26 (by decide) ?_
          exact ih (k + 1) (by omega) (by rw [hq0, fd_miss c_18]; rfl) _ (lv_sub hl [1, 2, 0] rfl)
        · skip
          replace c_18 : (tkB u bb (mNow u + k)) = true := bI_ne0 c_18
          refine lv_iload_n hx hb dX1_next_21 rfl (lv_at hl 2 rfl) ?_
          have hq : nI (mNow u + k) = fNx u bb := by rw [hq0, fd_hit c_18]
          exact W.iret hx hb hr (fun t ht _ => ⟨_, rfl, hq, ht⟩) (fun _ h9 => nomatch h9) dX1_next_22
  exact lp5 _ 0 (Nat.zero_add _) (by rfl) _ (lv_sub hl [1, 2, 0] rfl)
set_option maxHeartbeats 4000000 in
set_option maxRecDepth 100000 in
theorem c_X1_error (l : Launch) (D : va_G) (cI : ClassId) (h : Nat) (a : Nat → Nat) (u : MS) (th : Int32) (bb : Nat) (hI : Inv u) (hbb : bb < mBc u) : Met l yX1_error wsX1_error ({ frames := 3, cells := 0, slots := 0, locals := 66 } : Room) (va_Pc [.ref h, .int (nI bb)] (fun U => va_P D vwCl (pic1 cI h a u th) U.heap ∧ va_K D vwCl [(cI, .int)] U)) (vp_Si (fun r => r = fEr u bb)) 0 0 (fun _ => False) := by
  refine en_pu (cc := cX1_error) (maxL := 2) (ret := (some .int)) _ _ (by decide) rfl (Nat.le_of_ble_eq_true rfl) ?_
  intro p e s m args below meth c ls hx hb hml hr hlocks hts hown hP hK hl
  have hown : s.vm.findClass RX1 = some m.cls := hown
  have hin : ∀ w ∈ wsX10, w ∈ wsX1_error := fun _ h9 => List.mem_cons_of_mem _ (List.mem_append_right _ h9)
  have hl : lv_has ls 2 [(0, .ref h), (1, .int (nI bb))] := hl
  obtain ⟨hIa, hIb, hIc, hId, hIe, hIf, hIg, hIh, hIi, hIj⟩ := id hI
  refine lv_aload_n hx hb dX1_error_0 rfl (lv_at hl 0 rfl) ?_
  refine lv_iload_n hx hb dX1_error_1 rfl (lv_at hl 1 rfl) ?_
  refine vp_callSi (W.runV (As := [.int (nI bb)]) (rest := []) ⟨hx, hb, hml, hown, hts⟩ (c_X1_ticked l D cI h a u th bb hI (by omega)) (cwV 1 hts gX1_error_X1_ticked rfl rfl rfl (by decide +kernel) ⟨Nat.le_of_ble_eq_true rfl, Nat.le_of_ble_eq_true rfl⟩) (pu_pre hK hP rfl rfl) rfl rfl hl.1 rfl (lv_room (Nat.le_of_ble_eq_true rfl)) dX1_error_2 ⟨Nat.le_of_ble_eq_true rfl, Nat.le_of_ble_eq_true rfl⟩) (fun r hr => ?_)
  subst hr
  refine lv_aload_n hx hb dX1_error_5 rfl (lv_at hl 0 rfl) ?_
  refine va_get (D := D) (ci := 1) (v := .ref (a 4)) (C := RX1) (T := TX1) (N := 17) hx hb hts hin hown hK hP 0 rfl rfl 8 (by decide) (hts (.fieldLink RX1 22 "AfternoonMeterModel" "period" "[I") (List.mem_of_getElem? (i := 1) rfl)) (fun _ h9 => h9) rfl dX1_error_6 ?_
  refine lv_iload_n hx hb dX1_error_9 rfl (lv_at hl 1 rfl) ?_
  refine q_iald (v := nI (pN u bb)) hx hb hK hP 5 0 rfl rfl (by omega) (by decide) ((hIf bb (by omega)).1) dX1_error_10 ?_
  obtain ⟨_, _, _, _, _⟩ := hIf bb (by omega)
  refine lv_imul hx hb dX1_error_11 ?_
  refine lv_aload_n hx hb dX1_error_12 rfl (lv_at hl 0 rfl) ?_
  refine lv_aload_n hx hb dX1_error_13 rfl (lv_at hl 0 rfl) ?_
  refine va_get (D := D) (ci := 1) (v := .int (nI (mNow u))) (C := RX1) (T := TX1) (N := 17) hx hb hts hin hown hK hP 0 rfl rfl 14 (by decide) (hts (.fieldLink RX1 64 "AfternoonMeterModel" "minute" "I") (List.mem_of_getElem? (i := 2) rfl)) (fun _ h9 => h9) rfl dX1_error_14 ?_
  refine vp_callSi (W.runV (As := [.int (nI (mNow u))]) (rest := [.int ((fTk u bb) * (nI (pN u bb)))]) ⟨hx, hb, hml, hown, hts⟩ (c_X1_awake l D cI h a u th (mNow u) hI (by omega)) (cwV 1 hts gX1_error_X1_awake rfl rfl rfl (by decide +kernel) ⟨Nat.le_of_ble_eq_true rfl, Nat.le_of_ble_eq_true rfl⟩) (pu_pre hK hP rfl rfl) rfl rfl hl.1 rfl (lv_room (Nat.le_of_ble_eq_true rfl)) dX1_error_17 ⟨Nat.le_of_ble_eq_true rfl, Nat.le_of_ble_eq_true rfl⟩) (fun r hr => ?_)
  subst hr
  refine lv_isub hx hb dX1_error_20 ?_
  have hq : ((fTk u bb) * (nI (pN u bb))) - (fz (awF u) (mNow u) (nI 0)) = fEr u bb := by rfl
  exact W.iret hx hb hr (fun t ht _ => ⟨_, rfl, hq, ht⟩) (fun _ h9 => nomatch h9) dX1_error_21
set_option maxHeartbeats 4000000 in
set_option maxRecDepth 100000 in
theorem c_X1_best (l : Launch) (D : va_G) (cI : ClassId) (h : Nat) (a : Nat → Nat) (u : MS) (th : Int32) (hI : Inv u) : Met l yX1_best wsX1_best ({ frames := 4, cells := 0, slots := 0, locals := 87 } : Room) (va_Pc [.ref h] (fun U => va_P D vwCl (pic1 cI h a u th) U.heap ∧ va_K D vwCl [(cI, .int)] U)) (vp_Si (fun r => r = fBB u)) 0 0 (fun _ => False) := by
  refine en_pu (cc := cX1_best) (maxL := 3) (ret := (some .int)) _ _ (by decide) rfl (Nat.le_of_ble_eq_true rfl) ?_
  intro p e s m args below meth c ls hx hb hml hr hlocks hts hown hP hK hl
  have hown : s.vm.findClass RX1 = some m.cls := hown
  have hin : ∀ w ∈ wsX10, w ∈ wsX1_best := fun _ h9 => List.mem_cons_of_mem _ (List.mem_append_right _ h9)
  have hl : lv_has ls 3 [(0, .ref h)] := hl
  obtain ⟨hIa, hIb, hIc, hId, hIe, hIf, hIg, hIh, hIi, hIj⟩ := id hI
  refine lv_iconst (v := (-1)) hx hb dX1_best_0 (by decide +kernel) ?_
  refine lv_istore_n (lv' := [(1, .int (-1)), (0, .ref h)]) hx hb dX1_best_1 rfl hl (by decide) rfl (fun ls hl => ?_)
  refine lv_iconst (v := nI 0) hx hb dX1_best_2 (by decide +kernel) ?_
  refine lv_istore_n (lv' := [(2, .int (nI 0)), (1, .int (-1)), (0, .ref h)]) hx hb dX1_best_3 rfl hl (by decide) rfl (fun ls hl => ?_)
  have lp4 : ∀ (n k : Nat), k + n = mBc u → ∀ (X : Int32), X = (bbS u k).1 → ∀ (ls : Array Slot), lv_has ls 3 [(0, .ref h), (1, .int X), (2, .int (nI k))] → W p l e ({ frames := 4, cells := 0, slots := 0, locals := 87 } : Room) s m args below meth c s.heap [] 0 0 (MQ below (vp_Si (fun r => r = fBB u)) args s 0 0 (fun _ => False)) (F0 m 4 ls []) := by
    intro n
    induction n with
    | zero =>
      intro k hk X eX ls hl
      have ek : k = mBc u := by omega
      refine lv_iload_n hx hb dX1_best_4 rfl (lv_at hl 2 rfl) ?_
      refine lv_aload_n hx hb dX1_best_5 rfl (lv_at hl 0 rfl) ?_
      refine va_get (D := D) (ci := 1) (v := .int (nI (mBc u))) (C := RX1) (T := TX1) (N := 17) hx hb hts hin hown hK hP 0 rfl rfl 7 (by decide) (hts (.fieldLink RX1 51 "AfternoonMeterModel" "bees" "I") (List.mem_of_getElem? (i := 1) rfl)) (fun _ h9 => h9) rfl dX1_best_6 ?_
      refine lv_icmp_ge (tgt := 44) hx hb dX1_best_9 (by decide) (fun c_9 => ?_) (fun c_9 => ?_)
      · skip
        replace c_9 : (mBc u) ≤ k := leN c_9
        refine lv_iload_n hx hb dX1_best_44 rfl (lv_at hl 1 rfl) ?_
        have hq : X = fBB u := by rw [eX, ek]; rfl
        exact W.iret hx hb hr (fun t ht _ => ⟨_, rfl, hq, ht⟩) (fun _ h9 => nomatch h9) dX1_best_45
      · skip
        replace c_9 : k < (mBc u) := nleN c_9
        exact (by omega : False).elim
    | succ n ih =>
      intro k hk X eX ls hl
      refine lv_iload_n hx hb dX1_best_4 rfl (lv_at hl 2 rfl) ?_
      refine lv_aload_n hx hb dX1_best_5 rfl (lv_at hl 0 rfl) ?_
      refine va_get (D := D) (ci := 1) (v := .int (nI (mBc u))) (C := RX1) (T := TX1) (N := 17) hx hb hts hin hown hK hP 0 rfl rfl 7 (by decide) (hts (.fieldLink RX1 51 "AfternoonMeterModel" "bees" "I") (List.mem_of_getElem? (i := 1) rfl)) (fun _ h9 => h9) rfl dX1_best_6 ?_
      refine lv_icmp_ge (tgt := 44) hx hb dX1_best_9 (by decide) (fun c_9 => ?_) (fun c_9 => ?_)
      · skip
        replace c_9 : (mBc u) ≤ k := leN c_9
        exact (by omega : False).elim
      · skip
        replace c_9 : k < (mBc u) := nleN c_9
        refine lv_iload_n hx hb dX1_best_12 rfl (lv_at hl 1 rfl) ?_
        refine lv_iconst (v := (-1)) hx hb dX1_best_13 (by decide +kernel) ?_
        refine lv_icmp_eq (tgt := 36) hx hb dX1_best_14 (by decide) (fun c_14 => ?_) (fun c_14 => ?_)
        · skip
          refine lv_iload_n hx hb dX1_best_36 rfl (lv_at hl 2 rfl) ?_
          refine lv_istore_n (lv' := [(1, .int (nI k)), (0, .ref h), (2, .int (nI k))]) hx hb dX1_best_37 rfl hl (by decide) rfl (fun ls hl => ?_)
          refine lv_iinc (v := nI (k + 1)) (lv' := [(2, .int (nI (k + 1))), (1, .int (nI k)), (0, .ref h)]) hx hb dX1_best_38 hl (k := 2) rfl (nI_i1 _) (by decide) rfl (fun ls hl => ?_)
          refine lv_goto (tgt := 4) hx hb dX1_best_41 (by decide) ?_
          exact ih (k + 1) (by omega) (nI k) (by show _ = (bbF u k (bbS u k)).1; rw [bb_yes (Or.inl (eX.symm.trans c_14))]) _ (lv_sub hl [2, 1, 0] rfl)
        · skip
          obtain ⟨j, hj, ej, ej2⟩ := (bb_best u k).resolve_left (fun z => c_14 (eX.trans z))
          have ex9 : X = nI j := eX.trans ej
          subst ex9
          refine lv_aload_n hx hb dX1_best_17 rfl (lv_at hl 0 rfl) ?_
          refine lv_iload_n hx hb dX1_best_18 rfl (lv_at hl 2 rfl) ?_
          refine vp_callSi (W.runV (As := [.int (nI k)]) (rest := []) ⟨hx, hb, hml, hown, hts⟩ (c_X1_error l D cI h a u th k hI (by omega)) (cwV 1 hts gX1_best_X1_error rfl rfl rfl (by decide +kernel) ⟨Nat.le_of_ble_eq_true rfl, Nat.le_of_ble_eq_true rfl⟩) (pu_pre hK hP rfl rfl) rfl rfl hl.1 rfl (lv_room (Nat.le_of_ble_eq_true rfl)) dX1_best_19 ⟨Nat.le_of_ble_eq_true rfl, Nat.le_of_ble_eq_true rfl⟩) (fun r hr => ?_)
          subst hr
          refine va_mabs hx hb (hml.trans hl.1.symm) hown (hts (.methodLink RX1 81 Lib.Math.abs.name) (List.mem_of_getElem? (i := 2) rfl)) (hts (.static Lib.Math.abs.name) (List.mem_of_getElem? (i := 3) rfl)) (hts (.initialized "java/lang/Math") (List.mem_of_getElem? (i := 4) rfl)) (hts _ (List.mem_of_getElem? (i := 5) rfl)) (Nat.le_of_ble_eq_true rfl) (Nat.le_of_ble_eq_true rfl) (Nat.le_of_ble_eq_true rfl) (Nat.le_of_ble_eq_true rfl) dX1_best_22 ?_
          rw [show (if 0 ≤ fEr u k then fEr u k else 0 - (fEr u k)) = abI (fEr u k) from rfl]
          refine lv_aload_n hx hb dX1_best_25 rfl (lv_at hl 0 rfl) ?_
          refine lv_iload_n hx hb dX1_best_26 rfl (lv_at hl 1 rfl) ?_
          refine vp_callSi (W.runV (As := [.int (nI j)]) (rest := [.int (abI (fEr u k))]) ⟨hx, hb, hml, hown, hts⟩ (c_X1_error l D cI h a u th j hI (by omega)) (cwV 1 hts gX1_best_X1_error rfl rfl rfl (by decide +kernel) ⟨Nat.le_of_ble_eq_true rfl, Nat.le_of_ble_eq_true rfl⟩) (pu_pre hK hP rfl rfl) rfl rfl hl.1 rfl (lv_room (Nat.le_of_ble_eq_true rfl)) dX1_best_27 ⟨Nat.le_of_ble_eq_true rfl, Nat.le_of_ble_eq_true rfl⟩) (fun r hr => ?_)
          subst hr
          refine va_mabs hx hb (hml.trans hl.1.symm) hown (hts (.methodLink RX1 81 Lib.Math.abs.name) (List.mem_of_getElem? (i := 2) rfl)) (hts (.static Lib.Math.abs.name) (List.mem_of_getElem? (i := 3) rfl)) (hts (.initialized "java/lang/Math") (List.mem_of_getElem? (i := 4) rfl)) (hts _ (List.mem_of_getElem? (i := 5) rfl)) (Nat.le_of_ble_eq_true rfl) (Nat.le_of_ble_eq_true rfl) (Nat.le_of_ble_eq_true rfl) (Nat.le_of_ble_eq_true rfl) dX1_best_30 ?_
          rw [show (if 0 ≤ fEr u j then fEr u j else 0 - (fEr u j)) = abI (fEr u j) from rfl]
          refine lv_icmp_ge (tgt := 38) hx hb dX1_best_33 (by decide) (fun c_33 => ?_) (fun c_33 => ?_)
          · skip
            refine lv_iinc (v := nI (k + 1)) (lv' := [(2, .int (nI (k + 1))), (0, .ref h), (1, .int (nI j))]) hx hb dX1_best_38 hl (k := 2) rfl (nI_i1 _) (by decide) rfl (fun ls hl => ?_)
            refine lv_goto (tgt := 4) hx hb dX1_best_41 (by decide) ?_
            exact ih (k + 1) (by omega) (nI j) (by show _ = (bbF u k (bbS u k)).1; rw [bb_no (fun z => z.elim (fun z => c_14 (eX.trans z)) (fun z => ngI c_33 (by rw [ej2] at z; exact z)))]; exact eX) _ (lv_sub hl [1, 2, 0] rfl)
          · skip
            refine lv_iload_n hx hb dX1_best_36 rfl (lv_at hl 2 rfl) ?_
            refine lv_istore_n (lv' := [(1, .int (nI k)), (0, .ref h), (2, .int (nI k))]) hx hb dX1_best_37 rfl hl (by decide) rfl (fun ls hl => ?_)
            refine lv_iinc (v := nI (k + 1)) (lv' := [(2, .int (nI (k + 1))), (1, .int (nI k)), (0, .ref h)]) hx hb dX1_best_38 hl (k := 2) rfl (nI_i1 _) (by decide) rfl (fun ls hl => ?_)
            refine lv_goto (tgt := 4) hx hb dX1_best_41 (by decide) ?_
            exact ih (k + 1) (by omega) (nI k) (by show _ = (bbF u k (bbS u k)).1; rw [bb_yes (Or.inr (by rw [ej2]; exact gtI c_33))]) _ (lv_sub hl [2, 1, 0] rfl)
  exact lp4 _ 0 (Nat.zero_add _) (-1) (by rfl) _ (lv_sub hl [2, 1, 0] rfl)
set_option maxHeartbeats 4000000 in
set_option maxRecDepth 100000 in
theorem c_X1_worst (l : Launch) (D : va_G) (cI : ClassId) (h : Nat) (a : Nat → Nat) (u : MS) (th : Int32) (hI : Inv u) : Met l yX1_worst wsX1_worst ({ frames := 1, cells := 0, slots := 0, locals := 23 } : Room) (va_Pc [.ref h] (fun U => va_P D vwCl (pic1 cI h a u th) U.heap ∧ va_K D vwCl [(cI, .int)] U)) (vp_Si (fun r => r = fBG u)) 0 0 (fun _ => False) := by
  refine en_pu (cc := cX1_worst) (maxL := 3) (ret := (some .int)) _ _ (by decide) rfl (Nat.le_of_ble_eq_true rfl) ?_
  intro p e s m args below meth c ls hx hb hml hr hlocks hts hown hP hK hl
  have hown : s.vm.findClass RX1 = some m.cls := hown
  have hin : ∀ w ∈ wsX10, w ∈ wsX1_worst := fun _ h9 => List.mem_cons_of_mem _ (List.mem_append_right _ h9)
  have hl : lv_has ls 3 [(0, .ref h)] := hl
  obtain ⟨hIa, hIb, hIc, hId, hIe, hIf, hIg, hIh, hIi, hIj⟩ := id hI
  refine lv_iconst (v := (-1)) hx hb dX1_worst_0 (by decide +kernel) ?_
  refine lv_istore_n (lv' := [(1, .int (-1)), (0, .ref h)]) hx hb dX1_worst_1 rfl hl (by decide) rfl (fun ls hl => ?_)
  refine lv_iconst (v := nI 0) hx hb dX1_worst_2 (by decide +kernel) ?_
  refine lv_istore_n (lv' := [(2, .int (nI 0)), (1, .int (-1)), (0, .ref h)]) hx hb dX1_worst_3 rfl hl (by decide) rfl (fun ls hl => ?_)
  have lp4 : ∀ (n k : Nat), k + n = mNc u → ∀ (X : Int32), X = (bgS u k).1 → ∀ (ls : Array Slot), lv_has ls 3 [(0, .ref h), (1, .int X), (2, .int (nI k))] → W p l e ({ frames := 1, cells := 0, slots := 0, locals := 23 } : Room) s m args below meth c s.heap [] 0 0 (MQ below (vp_Si (fun r => r = fBG u)) args s 0 0 (fun _ => False)) (F0 m 4 ls []) := by
    intro n
    induction n with
    | zero =>
      intro k hk X eX ls hl
      have ek : k = mNc u := by omega
      refine lv_iload_n hx hb dX1_worst_4 rfl (lv_at hl 2 rfl) ?_
      refine lv_aload_n hx hb dX1_worst_5 rfl (lv_at hl 0 rfl) ?_
      refine va_get (D := D) (ci := 1) (v := .int (nI (mNc u))) (C := RX1) (T := TX1) (N := 17) hx hb hts hin hown hK hP 0 rfl rfl 3 (by decide) (hts (.fieldLink RX1 48 "AfternoonMeterModel" "naps" "I") (List.mem_of_getElem? (i := 1) rfl)) (fun _ h9 => h9) rfl dX1_worst_6 ?_
      refine lv_icmp_ge (tgt := 38) hx hb dX1_worst_9 (by decide) (fun c_9 => ?_) (fun c_9 => ?_)
      · skip
        replace c_9 : (mNc u) ≤ k := leN c_9
        refine lv_iload_n hx hb dX1_worst_38 rfl (lv_at hl 1 rfl) ?_
        have hq : X = fBG u := by rw [eX, ek]; rfl
        exact W.iret hx hb hr (fun t ht _ => ⟨_, rfl, hq, ht⟩) (fun _ h9 => nomatch h9) dX1_worst_39
      · skip
        replace c_9 : k < (mNc u) := nleN c_9
        exact (by omega : False).elim
    | succ n ih =>
      intro k hk X eX ls hl
      refine lv_iload_n hx hb dX1_worst_4 rfl (lv_at hl 2 rfl) ?_
      refine lv_aload_n hx hb dX1_worst_5 rfl (lv_at hl 0 rfl) ?_
      refine va_get (D := D) (ci := 1) (v := .int (nI (mNc u))) (C := RX1) (T := TX1) (N := 17) hx hb hts hin hown hK hP 0 rfl rfl 3 (by decide) (hts (.fieldLink RX1 48 "AfternoonMeterModel" "naps" "I") (List.mem_of_getElem? (i := 1) rfl)) (fun _ h9 => h9) rfl dX1_worst_6 ?_
      refine lv_icmp_ge (tgt := 38) hx hb dX1_worst_9 (by decide) (fun c_9 => ?_) (fun c_9 => ?_)
      · skip
        replace c_9 : (mNc u) ≤ k := leN c_9
        exact (by omega : False).elim
      · skip
        replace c_9 : k < (mNc u) := nleN c_9
        refine lv_iload_n hx hb dX1_worst_12 rfl (lv_at hl 1 rfl) ?_
        refine lv_iconst (v := (-1)) hx hb dX1_worst_13 (by decide +kernel) ?_
        refine lv_icmp_eq (tgt := 30) hx hb dX1_worst_14 (by decide) (fun c_14 => ?_) (fun c_14 => ?_)
        · skip
          refine lv_iload_n hx hb dX1_worst_30 rfl (lv_at hl 2 rfl) ?_
          refine lv_istore_n (lv' := [(1, .int (nI k)), (0, .ref h), (2, .int (nI k))]) hx hb dX1_worst_31 rfl hl (by decide) rfl (fun ls hl => ?_)
          refine lv_iinc (v := nI (k + 1)) (lv' := [(2, .int (nI (k + 1))), (1, .int (nI k)), (0, .ref h)]) hx hb dX1_worst_32 hl (k := 2) rfl (nI_i1 _) (by decide) rfl (fun ls hl => ?_)
          refine lv_goto (tgt := 4) hx hb dX1_worst_35 (by decide) ?_
          exact ih (k + 1) (by omega) (nI k) (by show _ = (bgF u k (bgS u k)).1; rw [bg_yes (Or.inl (eX.symm.trans c_14))]) _ (lv_sub hl [2, 1, 0] rfl)
        · skip
          obtain ⟨j, hj, ej, ej2⟩ := (bg_best u k).resolve_left (fun z => c_14 (eX.trans z))
          have ex9 : X = nI j := eX.trans ej
          subst ex9
          refine lv_aload_n hx hb dX1_worst_17 rfl (lv_at hl 0 rfl) ?_
          refine lv_iload_n hx hb dX1_worst_18 rfl (lv_at hl 2 rfl) ?_
          refine vp_callSi (W.runV (As := [.int (nI k)]) (rest := []) ⟨hx, hb, hml, hown, hts⟩ (c_X1_alone l D cI h a u th k hI (by omega)) (cwV 1 hts gX1_worst_X1_alone rfl rfl rfl (by decide +kernel) ⟨Nat.le_of_ble_eq_true rfl, Nat.le_of_ble_eq_true rfl⟩) (pu_pre hK hP rfl rfl) rfl rfl hl.1 rfl (lv_room (Nat.le_of_ble_eq_true rfl)) dX1_worst_19 ⟨Nat.le_of_ble_eq_true rfl, Nat.le_of_ble_eq_true rfl⟩) (fun r hr => ?_)
          subst hr
          refine lv_aload_n hx hb dX1_worst_22 rfl (lv_at hl 0 rfl) ?_
          refine lv_iload_n hx hb dX1_worst_23 rfl (lv_at hl 1 rfl) ?_
          refine vp_callSi (W.runV (As := [.int (nI j)]) (rest := [.int (fAl u k)]) ⟨hx, hb, hml, hown, hts⟩ (c_X1_alone l D cI h a u th j hI (by omega)) (cwV 1 hts gX1_worst_X1_alone rfl rfl rfl (by decide +kernel) ⟨Nat.le_of_ble_eq_true rfl, Nat.le_of_ble_eq_true rfl⟩) (pu_pre hK hP rfl rfl) rfl rfl hl.1 rfl (lv_room (Nat.le_of_ble_eq_true rfl)) dX1_worst_24 ⟨Nat.le_of_ble_eq_true rfl, Nat.le_of_ble_eq_true rfl⟩) (fun r hr => ?_)
          subst hr
          refine lv_icmp_le (tgt := 32) hx hb dX1_worst_27 (by decide) (fun c_27 => ?_) (fun c_27 => ?_)
          · skip
            refine lv_iinc (v := nI (k + 1)) (lv' := [(2, .int (nI (k + 1))), (0, .ref h), (1, .int (nI j))]) hx hb dX1_worst_32 hl (k := 2) rfl (nI_i1 _) (by decide) rfl (fun ls hl => ?_)
            refine lv_goto (tgt := 4) hx hb dX1_worst_35 (by decide) ?_
            exact ih (k + 1) (by omega) (nI j) (by show _ = (bgF u k (bgS u k)).1; rw [bg_no (fun z => z.elim (fun z => c_14 (eX.trans z)) (fun z => ngI c_27 (by rw [ej2] at z; exact z)))]; exact eX) _ (lv_sub hl [1, 2, 0] rfl)
          · skip
            refine lv_iload_n hx hb dX1_worst_30 rfl (lv_at hl 2 rfl) ?_
            refine lv_istore_n (lv' := [(1, .int (nI k)), (0, .ref h), (2, .int (nI k))]) hx hb dX1_worst_31 rfl hl (by decide) rfl (fun ls hl => ?_)
            refine lv_iinc (v := nI (k + 1)) (lv' := [(2, .int (nI (k + 1))), (1, .int (nI k)), (0, .ref h)]) hx hb dX1_worst_32 hl (k := 2) rfl (nI_i1 _) (by decide) rfl (fun ls hl => ?_)
            refine lv_goto (tgt := 4) hx hb dX1_worst_35 (by decide) ?_
            exact ih (k + 1) (by omega) (nI k) (by show _ = (bgF u k (bgS u k)).1; rw [bg_yes (Or.inr (by rw [ej2]; exact gtI c_27))]) _ (lv_sub hl [2, 1, 0] rfl)
  exact lp4 _ 0 (Nat.zero_add _) (-1) (by rfl) _ (lv_sub hl [2, 1, 0] rfl)
set_option maxHeartbeats 4000000 in
set_option maxRecDepth 100000 in
theorem c_X1_shadow (l : Launch) (D : va_G) (cI : ClassId) (h : Nat) (a : Nat → Nat) (u : MS) (th : Int32) (sk : Nat) (tt : Nat) (h4 : sk < 4) : Met l yX1_shadow wsX1_shadow ({ frames := 0, cells := 0, slots := 0, locals := 0 } : Room) (va_Pc [.ref h, .int (nI sk), .int (nI tt)] (fun U => va_P D vwCl (pic1 cI h a u th) U.heap ∧ va_K D vwCl [(cI, .int)] U)) (vp_Si (fun r => r = fShad u sk tt)) 0 0 (fun _ => False) := by
  refine en_pu (cc := cX1_shadow) (maxL := 3) (ret := (some .int)) _ _ (by decide) rfl (Nat.le_of_ble_eq_true rfl) ?_
  intro p e s m args below meth c ls hx hb hml hr hlocks hts hown hP hK hl
  have hown : s.vm.findClass RX1 = some m.cls := hown
  have hin : ∀ w ∈ wsX10, w ∈ wsX1_shadow := fun _ h9 => List.mem_cons_of_mem _ (List.mem_append_right _ h9)
  have hl : lv_has ls 3 [(0, .ref h), (1, .int (nI sk)), (2, .int (nI tt))] := hl
  refine lv_aload_n hx hb dX1_shadow_0 rfl (lv_at hl 0 rfl) ?_
  refine va_get (D := D) (ci := 1) (v := .ref (a 0)) (C := RX1) (T := TX1) (N := 17) hx hb hts hin hown hK hP 0 rfl rfl 2 (by decide) (hts (.fieldLink RX1 9 "AfternoonMeterModel" "height" "[I") (List.mem_of_getElem? (i := 1) rfl)) (fun _ h9 => h9) rfl dX1_shadow_1 ?_
  refine lv_iload_n hx hb dX1_shadow_4 rfl (lv_at hl 1 rfl) ?_
  refine q_iald (v := (mHt u) sk) hx hb hK hP 1 0 rfl rfl (by omega) (by decide) (rfl) dX1_shadow_5 ?_
  refine lv_bipush (v := nI 60) hx hb dX1_shadow_6 (by decide +kernel) ?_
  refine lv_iload_n hx hb dX1_shadow_8 rfl (lv_at hl 2 rfl) ?_
  refine q_iaddN hx hb dX1_shadow_9 ?_
  refine lv_imul hx hb dX1_shadow_10 ?_
  refine lv_bipush (v := nI 120) hx hb dX1_shadow_11 (by decide +kernel) ?_
  refine lv_idiv hx hb dX1_shadow_13 (by decide +kernel) ?_
  have hq : (((mHt u) sk) * (nI (60 + tt))) / (nI 120) = fShad u sk tt := by rfl
  exact W.iret hx hb hr (fun t ht _ => ⟨_, rfl, hq, ht⟩) (fun _ h9 => nomatch h9) dX1_shadow_14
set_option maxHeartbeats 4000000 in
set_option maxRecDepth 100000 in
theorem c_X1_poured (l : Launch) (D : va_G) (cI : ClassId) (h : Nat) (a : Nat → Nat) (u : MS) (th : Int32) (tt : Nat) (cc0 : Nat) (rr : Nat) (hI : Inv u) (ht : tt < 360) (hc9 : cc0 ≤ 1000) (hr9 : rr ≤ 9) : Met l yX1_poured wsX1_poured ({ frames := 2, cells := 0, slots := 0, locals := 43 } : Room) (va_Pc [.ref h, .int (nI tt), .int (nI cc0), .int (nI rr)] (fun U => va_P D vwCl (pic1 cI h a u th) U.heap ∧ va_K D vwCl [(cI, .int)] U)) (vp_Si (fun r => r = nI (cAf u tt cc0 rr))) 0 0 (fun _ => False) := by
  refine en_pu (cc := cX1_poured) (maxL := 6) (ret := (some .int)) _ _ (by decide) rfl (Nat.le_of_ble_eq_true rfl) ?_
  intro p e s m args below meth c ls hx hb hml hr hlocks hts hown hP hK hl
  have hown : s.vm.findClass RX1 = some m.cls := hown
  have hin : ∀ w ∈ wsX10, w ∈ wsX1_poured := fun _ h9 => List.mem_cons_of_mem _ (List.mem_append_right _ h9)
  have hl : lv_has ls 6 [(0, .ref h), (1, .int (nI tt)), (2, .int (nI cc0)), (3, .int (nI rr))] := hl
  obtain ⟨hIa, hIb, hIc, hId, hIe, hIf, hIg, hIh, hIi, hIj⟩ := id hI
  refine lv_aload_n hx hb dX1_poured_0 rfl (lv_at hl 0 rfl) ?_
  refine lv_iload_n hx hb dX1_poured_1 rfl (lv_at hl 1 rfl) ?_
  refine vp_callSi (W.runV (As := [.int (nI tt)]) (rest := []) ⟨hx, hb, hml, hown, hts⟩ (c_X1_isAwake l D cI h a u th tt hI (by omega)) (cwV 1 hts gX1_poured_X1_isAwake rfl rfl rfl (by decide +kernel) ⟨Nat.le_of_ble_eq_true rfl, Nat.le_of_ble_eq_true rfl⟩) (pu_pre hK hP rfl rfl) rfl rfl hl.1 rfl (lv_room (Nat.le_of_ble_eq_true rfl)) dX1_poured_2 ⟨Nat.le_of_ble_eq_true rfl, Nat.le_of_ble_eq_true rfl⟩) (fun r hr => ?_)
  subst hr
  refine lv_if_ne (tgt := 10) hx hb dX1_poured_5 (by decide) (fun c_5 => ?_) (fun c_5 => ?_)
  · skip
    replace c_5 : (awB u tt) = true := bI_ne0 c_5
    refine lv_iload_n hx hb dX1_poured_10 rfl (lv_at hl 2 rfl) ?_
    refine lv_iload_n hx hb dX1_poured_11 rfl (lv_at hl 3 rfl) ?_
    refine q_iaddN hx hb dX1_poured_12 ?_
    refine lv_istore (lv' := [(4, .int (nI (cc0 + rr))), (0, .ref h), (1, .int (nI tt)), (2, .int (nI cc0)), (3, .int (nI rr))]) hx hb dX1_poured_13 hl (by decide) rfl (fun ls hl => ?_)
    refine lv_iconst (v := nI 0) hx hb dX1_poured_15 (by decide +kernel) ?_
    refine lv_istore (lv' := [(5, .int (nI 0)), (4, .int (nI (cc0 + rr))), (0, .ref h), (1, .int (nI tt)), (2, .int (nI cc0)), (3, .int (nI rr))]) hx hb dX1_poured_16 hl (by decide) rfl (fun ls hl => ?_)
    have lp18 : ∀ (n k : Nat), k + n = mBc u → ∀ (X : Nat), X = (cc0 + rr) - mSip u * ct (fun b => htB u b tt) k → ∀ (ls : Array Slot), lv_has ls 6 [(0, .ref h), (1, .int (nI tt)), (2, .int (nI cc0)), (3, .int (nI rr)), (4, .int (nI X)), (5, .int (nI k))] → W p l e ({ frames := 2, cells := 0, slots := 0, locals := 43 } : Room) s m args below meth c s.heap [] 0 0 (MQ below (vp_Si (fun r => r = nI (cAf u tt cc0 rr))) args s 0 0 (fun _ => False)) (F0 m 18 ls []) := by
      intro n
      induction n with
      | zero =>
        intro k hk X eX ls hl
        have ek : k = mBc u := by omega
        refine lv_iload hx hb dX1_poured_18 (lv_at hl 5 rfl) ?_
        refine lv_aload_n hx hb dX1_poured_20 rfl (lv_at hl 0 rfl) ?_
        refine va_get (D := D) (ci := 1) (v := .int (nI (mBc u))) (C := RX1) (T := TX1) (N := 17) hx hb hts hin hown hK hP 0 rfl rfl 7 (by decide) (hts (.fieldLink RX1 51 "AfternoonMeterModel" "bees" "I") (List.mem_of_getElem? (i := 1) rfl)) (fun _ h9 => h9) rfl dX1_poured_21 ?_
        refine lv_icmp_ge (tgt := 57) hx hb dX1_poured_24 (by decide) (fun c_24 => ?_) (fun c_24 => ?_)
        · skip
          replace c_24 : (mBc u) ≤ k := leN c_24
          refine lv_iload hx hb dX1_poured_57 (lv_at hl 4 rfl) ?_
          have hq : nI X = nI (cAf u tt cc0 rr) := by rw [eX, ek, show cAf u tt cc0 rr = cc0 + rr - mSip u * oN u tt from if_pos (of_decide_eq_true c_5)]; rfl
          exact W.iret hx hb hr (fun t ht _ => ⟨_, rfl, hq, ht⟩) (fun _ h9 => nomatch h9) dX1_poured_59
        · skip
          replace c_24 : k < (mBc u) := nleN c_24
          exact (by omega : False).elim
      | succ n ih =>
        intro k hk X eX ls hl
        refine lv_iload hx hb dX1_poured_18 (lv_at hl 5 rfl) ?_
        refine lv_aload_n hx hb dX1_poured_20 rfl (lv_at hl 0 rfl) ?_
        refine va_get (D := D) (ci := 1) (v := .int (nI (mBc u))) (C := RX1) (T := TX1) (N := 17) hx hb hts hin hown hK hP 0 rfl rfl 7 (by decide) (hts (.fieldLink RX1 51 "AfternoonMeterModel" "bees" "I") (List.mem_of_getElem? (i := 1) rfl)) (fun _ h9 => h9) rfl dX1_poured_21 ?_
        refine lv_icmp_ge (tgt := 57) hx hb dX1_poured_24 (by decide) (fun c_24 => ?_) (fun c_24 => ?_)
        · skip
          replace c_24 : (mBc u) ≤ k := leN c_24
          exact (by omega : False).elim
        · skip
          replace c_24 : k < (mBc u) := nleN c_24
          refine lv_aload_n hx hb dX1_poured_27 rfl (lv_at hl 0 rfl) ?_
          refine lv_iload hx hb dX1_poured_28 (lv_at hl 5 rfl) ?_
          refine lv_iload_n hx hb dX1_poured_30 rfl (lv_at hl 1 rfl) ?_
          refine vp_callSi (W.runV (As := [.int (nI k), .int (nI tt)]) (rest := []) ⟨hx, hb, hml, hown, hts⟩ (c_X1_ticks l D cI h a u th k tt hI (by omega) (by omega)) (cwV 2 hts gX1_poured_X1_ticks rfl rfl rfl (by decide +kernel) ⟨Nat.le_of_ble_eq_true rfl, Nat.le_of_ble_eq_true rfl⟩) (pu_pre hK hP rfl rfl) rfl rfl hl.1 rfl (lv_room (Nat.le_of_ble_eq_true rfl)) dX1_poured_31 ⟨Nat.le_of_ble_eq_true rfl, Nat.le_of_ble_eq_true rfl⟩) (fun r hr => ?_)
          subst hr
          refine lv_if_eq (tgt := 51) hx hb dX1_poured_34 (by decide) (fun c_34 => ?_) (fun c_34 => ?_)
          · skip
            replace c_34 : (tkB u k tt) = false := bI_eq0 c_34
            refine lv_iinc (v := nI (k + 1)) (lv' := [(5, .int (nI (k + 1))), (0, .ref h), (1, .int (nI tt)), (2, .int (nI cc0)), (3, .int (nI rr)), (4, .int (nI X))]) hx hb dX1_poured_51 hl (k := 5) rfl (nI_i1 _) (by decide) rfl (fun ls hl => ?_)
            refine lv_goto (tgt := 18) hx hb dX1_poured_54 (by decide) ?_
            exact ih (k + 1) (by omega) X (by exact pd_f eX (ht_f c_5 c_34)) _ (lv_sub hl [1, 2, 3, 4, 5, 0] rfl)
          · skip
            replace c_34 : (tkB u k tt) = true := bI_ne0 c_34
            refine lv_iload hx hb dX1_poured_37 (lv_at hl 4 rfl) ?_
            refine lv_iload hx hb dX1_poured_39 (lv_at hl 4 rfl) ?_
            refine lv_aload_n hx hb dX1_poured_41 rfl (lv_at hl 0 rfl) ?_
            refine va_get (D := D) (ci := 1) (v := .int (nI (mSip u))) (C := RX1) (T := TX1) (N := 17) hx hb hts hin hown hK hP 0 rfl rfl 12 (by decide) (hts (.fieldLink RX1 35 "AfternoonMeterModel" "sip" "I") (List.mem_of_getElem? (i := 2) rfl)) (fun _ h9 => h9) rfl dX1_poured_42 ?_
            refine va_mmin hx hb (hml.trans hl.1.symm) hown (hts (.methodLink RX1 84 Lib.Math.min.name) (List.mem_of_getElem? (i := 3) rfl)) (hts (.static Lib.Math.min.name) (List.mem_of_getElem? (i := 4) rfl)) (hts (.initialized "java/lang/Math") (List.mem_of_getElem? (i := 5) rfl)) (hts _ (List.mem_of_getElem? (i := 6) rfl)) (Nat.le_of_ble_eq_true rfl) (Nat.le_of_ble_eq_true rfl) (Nat.le_of_ble_eq_true rfl) (Nat.le_of_ble_eq_true rfl) dX1_poured_45 ?_
            rw [show (if nI (mSip u) < nI X then nI (mSip u) else nI X) = nI (min (mSip u) X) from mnN (by omega) (by omega)]
            refine q_isubN hx hb (by omega) dX1_poured_48 ?_
            refine lv_istore (lv' := [(4, .int (nI (X - (min (mSip u) X)))), (0, .ref h), (1, .int (nI tt)), (2, .int (nI cc0)), (3, .int (nI rr)), (5, .int (nI k))]) hx hb dX1_poured_49 hl (by decide) rfl (fun ls hl => ?_)
            refine lv_iinc (v := nI (k + 1)) (lv' := [(5, .int (nI (k + 1))), (4, .int (nI (X - (min (mSip u) X)))), (0, .ref h), (1, .int (nI tt)), (2, .int (nI cc0)), (3, .int (nI rr))]) hx hb dX1_poured_51 hl (k := 5) rfl (nI_i1 _) (by decide) rfl (fun ls hl => ?_)
            refine lv_goto (tgt := 18) hx hb dX1_poured_54 (by decide) ?_
            exact ih (k + 1) (by omega) (X - (min (mSip u) X)) (by exact pd_t eX (ht_t c_34)) _ (lv_sub hl [2, 3, 4, 5, 1, 0] rfl)
    exact lp18 _ 0 (Nat.zero_add _) (cc0 + rr) (by rfl) _ (lv_sub hl [2, 3, 4, 5, 1, 0] rfl)
  · skip
    replace c_5 : (awB u tt) = false := bI_eq0 c_5
    refine lv_iload_n hx hb dX1_poured_8 rfl (lv_at hl 2 rfl) ?_
    have hq : nI cc0 = nI (cAf u tt cc0 rr) := by rw [show cAf u tt cc0 rr = cc0 from if_neg (of_decide_eq_false c_5)]
    exact W.iret hx hb hr (fun t ht _ => ⟨_, rfl, hq, ht⟩) (fun _ h9 => nomatch h9) dX1_poured_9
set_option maxHeartbeats 4000000 in
set_option maxRecDepth 100000 in
theorem c_X1_spill (l : Launch) (D : va_G) (cI : ClassId) (h : Nat) (a : Nat → Nat) (u : MS) (th : Int32) (rr : Nat) (hI : Inv u) (hr9 : rr ≤ 9) : Met l yX1_spill wsX1_spill ({ frames := 3, cells := 0, slots := 0, locals := 68 } : Room) (va_Pc [.ref h, .int (nI rr)] (fun U => va_P D vwCl (pic1 cI h a u th) U.heap ∧ va_K D vwCl [(cI, .int)] U)) (vp_Si (fun r => r = fSp u rr)) 0 0 (fun _ => False) := by
  refine en_pu (cc := cX1_spill) (maxL := 4) (ret := (some .int)) _ _ (by decide) rfl (Nat.le_of_ble_eq_true rfl) ?_
  intro p e s m args below meth c ls hx hb hml hr hlocks hts hown hP hK hl
  have hown : s.vm.findClass RX1 = some m.cls := hown
  have hin : ∀ w ∈ wsX10, w ∈ wsX1_spill := fun _ h9 => List.mem_cons_of_mem _ (List.mem_append_right _ h9)
  have hl : lv_has ls 4 [(0, .ref h), (1, .int (nI rr))] := hl
  obtain ⟨hIa, hIb, hIc, hId, hIe, hIf, hIg, hIh, hIi, hIj⟩ := id hI
  refine lv_aload_n hx hb dX1_spill_0 rfl (lv_at hl 0 rfl) ?_
  refine va_get (D := D) (ci := 1) (v := .int (nI (mTea u))) (C := RX1) (T := TX1) (N := 17) hx hb hts hin hown hK hP 0 rfl rfl 15 (by decide) (hts (.fieldLink RX1 87 "AfternoonMeterModel" "tea" "I") (List.mem_of_getElem? (i := 1) rfl)) (fun _ h9 => h9) rfl dX1_spill_1 ?_
  refine lv_istore_n (lv' := [(2, .int (nI (mTea u))), (0, .ref h), (1, .int (nI rr))]) hx hb dX1_spill_4 rfl hl (by decide) rfl (fun ls hl => ?_)
  refine lv_aload_n hx hb dX1_spill_5 rfl (lv_at hl 1 rfl) ?_
  refine va_get (D := D) (ci := 1) (v := .int (nI (mNow u))) (C := RX1) (T := TX1) (N := 17) hx hb hts hin hown hK hP 0 rfl rfl 14 (by decide) (hts (.fieldLink RX1 64 "AfternoonMeterModel" "minute" "I") (List.mem_of_getElem? (i := 2) rfl)) (fun _ h9 => h9) rfl dX1_spill_6 ?_
  refine lv_istore_n (lv' := [(3, .int (nI (mNow u))), (2, .int (nI (mTea u))), (0, .ref h), (1, .int (nI rr))]) hx hb dX1_spill_9 rfl hl (by decide) rfl (fun ls hl => ?_)
  have lp10 : ∀ (n k : Nat), k + n = 360 - mNow u → ∀ (X : Nat), X ≤ mRoom u → fSp u rr = spF u rr n (mNow u + k) X → ∀ (ls : Array Slot), lv_has ls 4 [(0, .ref h), (1, .int (nI rr)), (2, .int (nI X)), (3, .int (nI (mNow u + k)))] → W p l e ({ frames := 3, cells := 0, slots := 0, locals := 68 } : Room) s m args below meth c s.heap [] 0 0 (MQ below (vp_Si (fun r => r = fSp u rr)) args s 0 0 (fun _ => False)) (F0 m 10 ls []) := by
    intro n
    induction n with
    | zero =>
      intro k hk X hX hq0 ls hl
      refine lv_iload_n hx hb dX1_spill_10 rfl (lv_at hl 3 rfl) ?_
      refine lv_sipush (v := nI 360) hx hb dX1_spill_11 (by decide +kernel) ?_
      refine lv_icmp_ge (tgt := 41) hx hb dX1_spill_14 (by decide) (fun c_14 => ?_) (fun c_14 => ?_)
      · skip
        replace c_14 : 360 ≤ (mNow u + k) := leN c_14
        refine lv_iconst (v := (-1)) hx hb dX1_spill_41 (by decide +kernel) ?_
        have hq : (-1) = fSp u rr := by rw [hq0]; rfl
        exact W.iret hx hb hr (fun t ht _ => ⟨_, rfl, hq, ht⟩) (fun _ h9 => nomatch h9) dX1_spill_42
      · skip
        replace c_14 : (mNow u + k) < 360 := nleN c_14
        exact (by omega : False).elim
    | succ n ih =>
      intro k hk X hX hq0 ls hl
      refine lv_iload_n hx hb dX1_spill_10 rfl (lv_at hl 3 rfl) ?_
      refine lv_sipush (v := nI 360) hx hb dX1_spill_11 (by decide +kernel) ?_
      refine lv_icmp_ge (tgt := 41) hx hb dX1_spill_14 (by decide) (fun c_14 => ?_) (fun c_14 => ?_)
      · skip
        replace c_14 : 360 ≤ (mNow u + k) := leN c_14
        exact (by omega : False).elim
      · skip
        replace c_14 : (mNow u + k) < 360 := nleN c_14
        refine lv_aload_n hx hb dX1_spill_17 rfl (lv_at hl 0 rfl) ?_
        refine lv_iload_n hx hb dX1_spill_18 rfl (lv_at hl 3 rfl) ?_
        refine lv_iload_n hx hb dX1_spill_19 rfl (lv_at hl 2 rfl) ?_
        refine lv_iload_n hx hb dX1_spill_20 rfl (lv_at hl 1 rfl) ?_
        refine vp_callSi (W.runV (As := [.int (nI (mNow u + k)), .int (nI X), .int (nI rr)]) (rest := []) ⟨hx, hb, hml, hown, hts⟩ (c_X1_poured l D cI h a u th (mNow u + k) X rr hI (by omega) (by omega) (by omega)) (cwV 3 hts gX1_spill_X1_poured rfl rfl rfl (by decide +kernel) ⟨Nat.le_of_ble_eq_true rfl, Nat.le_of_ble_eq_true rfl⟩) (pu_pre hK hP rfl rfl) rfl rfl hl.1 rfl (lv_room (Nat.le_of_ble_eq_true rfl)) dX1_spill_21 ⟨Nat.le_of_ble_eq_true rfl, Nat.le_of_ble_eq_true rfl⟩) (fun r hr => ?_)
        subst hr
        have hca := cAf_le u (mNow u + k) X rr
        refine lv_istore_n (lv' := [(2, .int (nI (cAf u (mNow u + k) X rr))), (0, .ref h), (1, .int (nI rr)), (3, .int (nI (mNow u + k)))]) hx hb dX1_spill_24 rfl hl (by decide) rfl (fun ls hl => ?_)
        refine lv_iload_n hx hb dX1_spill_25 rfl (lv_at hl 0 rfl) ?_
        refine lv_aload_n hx hb dX1_spill_26 rfl (lv_at hl 1 rfl) ?_
        refine va_get (D := D) (ci := 1) (v := .int (nI (mRoom u))) (C := RX1) (T := TX1) (N := 17) hx hb hts hin hown hK hP 0 rfl rfl 10 (by decide) (hts (.fieldLink RX1 28 "AfternoonMeterModel" "room" "I") (List.mem_of_getElem? (i := 3) rfl)) (fun _ h9 => h9) rfl dX1_spill_27 ?_
        refine lv_icmp_le (tgt := 35) hx hb dX1_spill_30 (by decide) (fun c_30 => ?_) (fun c_30 => ?_)
        · skip
          replace c_30 : (cAf u (mNow u + k) X rr) ≤ (mRoom u) := leN c_30
          refine lv_iinc (v := nI (mNow u + k + 1)) (lv' := [(3, .int (nI (mNow u + k + 1))), (2, .int (nI (cAf u (mNow u + k) X rr))), (0, .ref h), (1, .int (nI rr))]) hx hb dX1_spill_35 hl (k := 3) rfl (nI_i1 _) (by decide) rfl (fun ls hl => ?_)
          refine lv_goto (tgt := 10) hx hb dX1_spill_38 (by decide) ?_
          exact ih (k + 1) (by omega) (cAf u (mNow u + k) X rr) (by omega) (by rw [hq0, sp_go (by omega)]; rfl) _ (lv_sub hl [2, 3, 1, 0] rfl)
        · skip
          replace c_30 : (mRoom u) < (cAf u (mNow u + k) X rr) := nleN c_30
          refine lv_iload_n hx hb dX1_spill_33 rfl (lv_at hl 3 rfl) ?_
          have hq : nI (mNow u + k) = fSp u rr := by rw [hq0, sp_hit (by omega)]
          exact W.iret hx hb hr (fun t ht _ => ⟨_, rfl, hq, ht⟩) (fun _ h9 => nomatch h9) dX1_spill_34
  exact lp10 _ 0 (Nat.zero_add _) (mTea u) (by omega) (by rfl) _ (lv_sub hl [2, 3, 1, 0] rfl)
set_option maxHeartbeats 4000000 in
set_option maxRecDepth 100000 in
theorem c_X1_atEnd (l : Launch) (D : va_G) (cI : ClassId) (h : Nat) (a : Nat → Nat) (u : MS) (th : Int32) (hI : Inv u) : Met l yX1_atEnd wsX1_atEnd ({ frames := 3, cells := 0, slots := 0, locals := 68 } : Room) (va_Pc [.ref h] (fun U => va_P D vwCl (pic1 cI h a u th) U.heap ∧ va_K D vwCl [(cI, .int)] U)) (vp_Si (fun r => r = fEnd u)) 0 0 (fun _ => False) := by
  refine en_pu (cc := cX1_atEnd) (maxL := 5) (ret := (some .int)) _ _ (by decide) rfl (Nat.le_of_ble_eq_true rfl) ?_
  intro p e s m args below meth c ls hx hb hml hr hlocks hts hown hP hK hl
  have hown : s.vm.findClass RX1 = some m.cls := hown
  have hin : ∀ w ∈ wsX10, w ∈ wsX1_atEnd := fun _ h9 => List.mem_cons_of_mem _ (List.mem_append_right _ h9)
  have hl : lv_has ls 5 [(0, .ref h)] := hl
  obtain ⟨hIa, hIb, hIc, hId, hIe, hIf, hIg, hIh, hIi, hIj⟩ := id hI
  refine lv_aload_n hx hb dX1_atEnd_0 rfl (lv_at hl 0 rfl) ?_
  refine va_get (D := D) (ci := 1) (v := .int (nI (mTea u))) (C := RX1) (T := TX1) (N := 17) hx hb hts hin hown hK hP 0 rfl rfl 15 (by decide) (hts (.fieldLink RX1 87 "AfternoonMeterModel" "tea" "I") (List.mem_of_getElem? (i := 1) rfl)) (fun _ h9 => h9) rfl dX1_atEnd_1 ?_
  refine lv_istore_n (lv' := [(1, .int (nI (mTea u))), (0, .ref h)]) hx hb dX1_atEnd_4 rfl hl (by decide) rfl (fun ls hl => ?_)
  refine lv_aload_n hx hb dX1_atEnd_5 rfl (lv_at hl 1 rfl) ?_
  refine va_get (D := D) (ci := 1) (v := .int (mSpl u)) (C := RX1) (T := TX1) (N := 17) hx hb hts hin hown hK hP 0 rfl rfl 16 (by decide) (hts (.fieldLink RX1 94 "AfternoonMeterModel" "spilt" "I") (List.mem_of_getElem? (i := 2) rfl)) (fun _ h9 => h9) rfl dX1_atEnd_6 ?_
  refine lv_istore_n (lv' := [(2, .int (mSpl u)), (1, .int (nI (mTea u))), (0, .ref h)]) hx hb dX1_atEnd_9 rfl hl (by decide) rfl (fun ls hl => ?_)
  refine lv_aload_n hx hb dX1_atEnd_10 rfl (lv_at hl 2 rfl) ?_
  refine va_get (D := D) (ci := 1) (v := .int (nI (mNow u))) (C := RX1) (T := TX1) (N := 17) hx hb hts hin hown hK hP 0 rfl rfl 14 (by decide) (hts (.fieldLink RX1 64 "AfternoonMeterModel" "minute" "I") (List.mem_of_getElem? (i := 3) rfl)) (fun _ h9 => h9) rfl dX1_atEnd_11 ?_
  refine lv_istore_n (lv' := [(3, .int (nI (mNow u))), (2, .int (mSpl u)), (1, .int (nI (mTea u))), (0, .ref h)]) hx hb dX1_atEnd_14 rfl hl (by decide) rfl (fun ls hl => ?_)
  have lp15 : ∀ (n k : Nat), k + n = 360 - mNow u → ∀ (X : Int32), X = (enS u k).1 → ∀ (Y : Nat), Y = (enS u k).2 → Y ≤ mRoom u → ∀ (ls : Array Slot), lv_has ls 5 [(0, .ref h), (1, .int (nI Y)), (2, .int X), (3, .int (nI (mNow u + k)))] → W p l e ({ frames := 3, cells := 0, slots := 0, locals := 68 } : Room) s m args below meth c s.heap [] 0 0 (MQ below (vp_Si (fun r => r = fEnd u)) args s 0 0 (fun _ => False)) (F0 m 15 ls []) := by
    intro n
    induction n with
    | zero =>
      intro k hk X eX Y eY hY ls hl
      have ek : k = 360 - mNow u := by omega
      refine lv_iload_n hx hb dX1_atEnd_15 rfl (lv_at hl 3 rfl) ?_
      refine lv_sipush (v := nI 360) hx hb dX1_atEnd_16 (by decide +kernel) ?_
      refine lv_icmp_ge (tgt := 57) hx hb dX1_atEnd_19 (by decide) (fun c_19 => ?_) (fun c_19 => ?_)
      · skip
        replace c_19 : 360 ≤ (mNow u + k) := leN c_19
        refine lv_iload_n hx hb dX1_atEnd_57 rfl (lv_at hl 2 rfl) ?_
        have hq : X = fEnd u := by rw [eX, ek]; rfl
        exact W.iret hx hb hr (fun t ht _ => ⟨_, rfl, hq, ht⟩) (fun _ h9 => nomatch h9) dX1_atEnd_58
      · skip
        replace c_19 : (mNow u + k) < 360 := nleN c_19
        exact (by omega : False).elim
    | succ n ih =>
      intro k hk X eX Y eY hY ls hl
      refine lv_iload_n hx hb dX1_atEnd_15 rfl (lv_at hl 3 rfl) ?_
      refine lv_sipush (v := nI 360) hx hb dX1_atEnd_16 (by decide +kernel) ?_
      refine lv_icmp_ge (tgt := 57) hx hb dX1_atEnd_19 (by decide) (fun c_19 => ?_) (fun c_19 => ?_)
      · skip
        replace c_19 : 360 ≤ (mNow u + k) := leN c_19
        exact (by omega : False).elim
      · skip
        replace c_19 : (mNow u + k) < 360 := nleN c_19
        refine lv_aload_n hx hb dX1_atEnd_22 rfl (lv_at hl 0 rfl) ?_
        refine lv_iload_n hx hb dX1_atEnd_23 rfl (lv_at hl 3 rfl) ?_
        refine lv_iload_n hx hb dX1_atEnd_24 rfl (lv_at hl 1 rfl) ?_
        refine lv_aload_n hx hb dX1_atEnd_25 rfl (lv_at hl 0 rfl) ?_
        refine va_get (D := D) (ci := 1) (v := .int (nI (mRate u))) (C := RX1) (T := TX1) (N := 17) hx hb hts hin hown hK hP 0 rfl rfl 11 (by decide) (hts (.fieldLink RX1 32 "AfternoonMeterModel" "rate" "I") (List.mem_of_getElem? (i := 4) rfl)) (fun _ h9 => h9) rfl dX1_atEnd_26 ?_
        refine vp_callSi (W.runV (As := [.int (nI (mNow u + k)), .int (nI Y), .int (nI (mRate u))]) (rest := []) ⟨hx, hb, hml, hown, hts⟩ (c_X1_poured l D cI h a u th (mNow u + k) Y (mRate u) hI (by omega) (by omega) (by omega)) (cwV 3 hts gX1_atEnd_X1_poured rfl rfl rfl (by decide +kernel) ⟨Nat.le_of_ble_eq_true rfl, Nat.le_of_ble_eq_true rfl⟩) (pu_pre hK hP rfl rfl) rfl rfl hl.1 rfl (lv_room (Nat.le_of_ble_eq_true rfl)) dX1_atEnd_29 ⟨Nat.le_of_ble_eq_true rfl, Nat.le_of_ble_eq_true rfl⟩) (fun r hr => ?_)
        subst hr
        have hca := cAf_le u (mNow u + k) Y (mRate u)
        refine lv_istore (lv' := [(4, .int (nI (cAf u (mNow u + k) Y (mRate u)))), (0, .ref h), (1, .int (nI Y)), (2, .int X), (3, .int (nI (mNow u + k)))]) hx hb dX1_atEnd_32 hl (by decide) rfl (fun ls hl => ?_)
        refine lv_aload_n hx hb dX1_atEnd_34 rfl (lv_at hl 1 rfl) ?_
        refine va_get (D := D) (ci := 1) (v := .int (nI (mRoom u))) (C := RX1) (T := TX1) (N := 17) hx hb hts hin hown hK hP 0 rfl rfl 10 (by decide) (hts (.fieldLink RX1 28 "AfternoonMeterModel" "room" "I") (List.mem_of_getElem? (i := 5) rfl)) (fun _ h9 => h9) rfl dX1_atEnd_35 ?_
        refine lv_iload hx hb dX1_atEnd_38 (lv_at hl 0 rfl) ?_
        refine va_mmin hx hb (hml.trans hl.1.symm) hown (hts (.methodLink RX1 84 Lib.Math.min.name) (List.mem_of_getElem? (i := 6) rfl)) (hts (.static Lib.Math.min.name) (List.mem_of_getElem? (i := 7) rfl)) (hts (.initialized "java/lang/Math") (List.mem_of_getElem? (i := 8) rfl)) (hts _ (List.mem_of_getElem? (i := 9) rfl)) (Nat.le_of_ble_eq_true rfl) (Nat.le_of_ble_eq_true rfl) (Nat.le_of_ble_eq_true rfl) (Nat.le_of_ble_eq_true rfl) dX1_atEnd_40 ?_
        rw [show (if nI (cAf u (mNow u + k) Y (mRate u)) < nI (mRoom u) then nI (cAf u (mNow u + k) Y (mRate u)) else nI (mRoom u)) = nI (cAf u (mNow u + k) Y (mRate u) - (cAf u (mNow u + k) Y (mRate u) - mRoom u)) from (mnN (by omega) (by omega)).trans (congrArg nI (by omega))]
        refine lv_istore_n (lv' := [(1, .int (nI (cAf u (mNow u + k) Y (mRate u) - (cAf u (mNow u + k) Y (mRate u) - mRoom u)))), (4, .int (nI (cAf u (mNow u + k) Y (mRate u)))), (0, .ref h), (2, .int X), (3, .int (nI (mNow u + k)))]) hx hb dX1_atEnd_43 rfl hl (by decide) rfl (fun ls hl => ?_)
        refine lv_iload_n hx hb dX1_atEnd_44 rfl (lv_at hl 3 rfl) ?_
        refine lv_iload hx hb dX1_atEnd_45 (lv_at hl 1 rfl) ?_
        refine lv_iload_n hx hb dX1_atEnd_47 rfl (lv_at hl 0 rfl) ?_
        refine q_isubN hx hb (by omega) dX1_atEnd_48 ?_
        refine lv_iadd hx hb dX1_atEnd_49 ?_
        refine lv_istore_n (lv' := [(2, .int (X + (nI ((cAf u (mNow u + k) Y (mRate u)) - (cAf u (mNow u + k) Y (mRate u) - (cAf u (mNow u + k) Y (mRate u) - mRoom u)))))), (1, .int (nI (cAf u (mNow u + k) Y (mRate u) - (cAf u (mNow u + k) Y (mRate u) - mRoom u)))), (4, .int (nI (cAf u (mNow u + k) Y (mRate u)))), (0, .ref h), (3, .int (nI (mNow u + k)))]) hx hb dX1_atEnd_50 rfl hl (by decide) rfl (fun ls hl => ?_)
        refine lv_iinc (v := nI (mNow u + k + 1)) (lv' := [(3, .int (nI (mNow u + k + 1))), (2, .int (X + (nI ((cAf u (mNow u + k) Y (mRate u)) - (cAf u (mNow u + k) Y (mRate u) - (cAf u (mNow u + k) Y (mRate u) - mRoom u)))))), (1, .int (nI (cAf u (mNow u + k) Y (mRate u) - (cAf u (mNow u + k) Y (mRate u) - mRoom u)))), (4, .int (nI (cAf u (mNow u + k) Y (mRate u)))), (0, .ref h)]) hx hb dX1_atEnd_51 hl (k := 4) rfl (nI_i1 _) (by decide) rfl (fun ls hl => ?_)
        refine lv_goto (tgt := 15) hx hb dX1_atEnd_54 (by decide) ?_
        exact ih (k + 1) (by omega) (X + (nI ((cAf u (mNow u + k) Y (mRate u)) - (cAf u (mNow u + k) Y (mRate u) - (cAf u (mNow u + k) Y (mRate u) - mRoom u))))) (by subst eX eY; exact congrArg (fun z => (enS u k).1 + nI z) (sub3 _ _)) (cAf u (mNow u + k) Y (mRate u) - (cAf u (mNow u + k) Y (mRate u) - mRoom u)) (by subst eX eY; rfl) (by omega) _ (lv_sub hl [4, 2, 1, 0] rfl)
  exact lp15 _ 0 (Nat.zero_add _) (mSpl u) (by rfl) (mTea u) (by rfl) (by omega) _ (lv_sub hl [3, 2, 1, 0] rfl)
set_option maxHeartbeats 4000000 in
set_option maxRecDepth 100000 in
theorem c_X1_safest (l : Launch) (D : va_G) (cI : ClassId) (h : Nat) (a : Nat → Nat) (u : MS) (th : Int32) (hI : Inv u) : Met l yX1_safest wsX1_safest ({ frames := 4, cells := 0, slots := 0, locals := 91 } : Room) (va_Pc [.ref h] (fun U => va_P D vwCl (pic1 cI h a u th) U.heap ∧ va_K D vwCl [(cI, .int)] U)) (vp_Si (fun r => r = nI (sfF u 9))) 0 0 (fun _ => False) := by
  refine en_pu (cc := cX1_safest) (maxL := 2) (ret := (some .int)) _ _ (by decide) rfl (Nat.le_of_ble_eq_true rfl) ?_
  intro p e s m args below meth c ls hx hb hml hr hlocks hts hown hP hK hl
  have hown : s.vm.findClass RX1 = some m.cls := hown
  have hin : ∀ w ∈ wsX10, w ∈ wsX1_safest := fun _ h9 => List.mem_cons_of_mem _ (List.mem_append_right _ h9)
  have hl : lv_has ls 2 [(0, .ref h)] := hl
  obtain ⟨hIa, hIb, hIc, hId, hIe, hIf, hIg, hIh, hIi, hIj⟩ := id hI
  refine lv_bipush (v := nI 9) hx hb dX1_safest_0 (by decide +kernel) ?_
  refine lv_istore_n (lv' := [(1, .int (nI 9)), (0, .ref h)]) hx hb dX1_safest_2 rfl hl (by decide) rfl (fun ls hl => ?_)
  have lp3 : ∀ (n k : Nat), k + n = 9 → sfF u 9 = sfF u n → ∀ (ls : Array Slot), lv_has ls 2 [(0, .ref h), (1, .int (nI n))] → W p l e ({ frames := 4, cells := 0, slots := 0, locals := 91 } : Room) s m args below meth c s.heap [] 0 0 (MQ below (vp_Si (fun r => r = nI (sfF u 9))) args s 0 0 (fun _ => False)) (F0 m 3 ls []) := by
    intro n
    induction n with
    | zero =>
      intro k hk hq0 ls hl
      refine lv_iload_n hx hb dX1_safest_3 rfl (lv_at hl 1 rfl) ?_
      refine lv_if_le (tgt := 22) hx hb dX1_safest_4 (by decide) (fun c_4 => ?_) (fun c_4 => ?_)
      · skip
        replace c_4 : 0 ≤ 0 := leN c_4
        refine lv_iload_n hx hb dX1_safest_22 rfl (lv_at hl 1 rfl) ?_
        have hq : nI 0 = nI (sfF u 9) := by rw [hq0]; rfl
        exact W.iret hx hb hr (fun t ht _ => ⟨_, rfl, hq, ht⟩) (fun _ h9 => nomatch h9) dX1_safest_23
      · skip
        replace c_4 : 0 < 0 := nleN c_4
        exact (by omega : False).elim
    | succ n ih =>
      intro k hk hq0 ls hl
      refine lv_iload_n hx hb dX1_safest_3 rfl (lv_at hl 1 rfl) ?_
      refine lv_if_le (tgt := 22) hx hb dX1_safest_4 (by decide) (fun c_4 => ?_) (fun c_4 => ?_)
      · skip
        replace c_4 : (n + 1) ≤ 0 := leN c_4
        exact (by omega : False).elim
      · skip
        replace c_4 : 0 < (n + 1) := nleN c_4
        refine lv_aload_n hx hb dX1_safest_7 rfl (lv_at hl 0 rfl) ?_
        refine lv_iload_n hx hb dX1_safest_8 rfl (lv_at hl 1 rfl) ?_
        refine vp_callSi (W.runV (As := [.int (nI (n + 1))]) (rest := []) ⟨hx, hb, hml, hown, hts⟩ (c_X1_spill l D cI h a u th (n + 1) hI (by omega)) (cwV 1 hts gX1_safest_X1_spill rfl rfl rfl (by decide +kernel) ⟨Nat.le_of_ble_eq_true rfl, Nat.le_of_ble_eq_true rfl⟩) (pu_pre hK hP rfl rfl) rfl rfl hl.1 rfl (lv_room (Nat.le_of_ble_eq_true rfl)) dX1_safest_9 ⟨Nat.le_of_ble_eq_true rfl, Nat.le_of_ble_eq_true rfl⟩) (fun r hr => ?_)
        subst hr
        refine lv_iconst (v := (-1)) hx hb dX1_safest_12 (by decide +kernel) ?_
        refine lv_icmp_eq (tgt := 22) hx hb dX1_safest_13 (by decide) (fun c_13 => ?_) (fun c_13 => ?_)
        · skip
          refine lv_iload_n hx hb dX1_safest_22 rfl (lv_at hl 1 rfl) ?_
          have hq : nI (n + 1) = nI (sfF u 9) := by rw [hq0, sf_yes c_13]
          exact W.iret hx hb hr (fun t ht _ => ⟨_, rfl, hq, ht⟩) (fun _ h9 => nomatch h9) dX1_safest_23
        · skip
          refine lv_iinc (v := nI n) (lv' := [(1, .int (nI n)), (0, .ref h)]) hx hb dX1_safest_16 hl (k := 1) rfl (pk_m1 _) (by decide) rfl (fun ls hl => ?_)
          refine lv_goto (tgt := 3) hx hb dX1_safest_19 (by decide) ?_
          exact ih (k + 1) (by omega) (by rw [hq0, sf_no c_13]) _ (lv_sub hl [1, 0] rfl)
  exact lp3 _ 0 (Nat.zero_add _) (by rfl) _ (lv_sub hl [1, 0] rfl)
