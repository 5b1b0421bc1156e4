set_option maxHeartbeats 4000000 in
set_option maxRecDepth 100000 in
theorem t1_X0_checkMinute (l : Launch) (htr : l.stackTraces = false) (D : va_G) (cI : ClassId) (h : Nat) (a : Nat → Nat) (u : MS) (on : Nat → Int32) (sz : Nat) (v0 : Int32) (hp : inR v0 360 = false) : vx_Met l yX0_checkMinute wsX0_checkMinute ({ frames := 6, cells := 1, slots := 6, locals := 82 } : Room) (va_Pc [.ref h, .int v0] (fun U => U.heap.size = sz ∧ va_P D vwCl (pic0 cI h a u on) U.heap ∧ va_K D vwCl [(cI, .int)] U ∧ tE (fun q => sz ≤ q) U)) ((fun A : Nat → Prop => va_Qv (fun _ : Unit => False) (fun _ _ => True) A) (fun q => sz ≤ q)) ((fun A : Nat → Prop => vx_X (fun _ : Unit => True) (fun E _ _ => E = "java/lang/IllegalArgumentException") A) (fun q => sz ≤ q)) 1 6 (fun q => sz ≤ q) := by
  refine en_th (cc := cX0_checkMinute) (maxL := 2) (ret := none) _ _ (fun A : Nat → Prop => va_Qv (fun _ : Unit => False) (fun _ _ => True) A) (fun A : Nat → Prop => vx_X (fun _ : Unit => True) (fun E _ _ => E = "java/lang/IllegalArgumentException") A) (by decide) rfl (Nat.le_of_ble_eq_true rfl) ?_
  intro p e s m args below meth c ls A hx hb hml hr hlocks hts hown hto hP hK hE hA hAs hS hl
  have hown : s.vm.findClass RX0 = some m.cls := hown
  have hl : lv_has ls 2 [(0, .ref h), (1, .int v0)] := hl
  refine lv_iload_n hx hb dX0_checkMinute_0 rfl (lv_at hl 1 rfl) ?_
  refine lv_if_lt (tgt := 11) hx hb dX0_checkMinute_1 (by decide) (fun c_1 => ?_) (fun c_1 => ?_)
  · skip
    obtain ⟨sa9, hstr⟩ := hE.1 (190, "a minute is 0 to 359") (by decide +kernel)
    exact vx_throwS hx hb htr (cls := "java/lang/IllegalArgumentException") (text := "a minute is 0 to 359") (sa := sa9) (names := ["java/lang/RuntimeException", "java/lang/Exception"]) hown fit_1 fit_n (hts (.classLink RX0 41 "java/lang/IllegalArgumentException") (List.mem_of_getElem? (i := 1) rfl)) (hts (.initialized "java/lang/IllegalArgumentException") (List.mem_of_getElem? (i := 2) rfl)) hstr (vx_hat (fun w h9 => hts w (List.mem_cons_of_mem _ (List.mem_append_right _ h9))) nb_41 (hE.ws (by decide +kernel))) ot_41 hE.2.1 hE.2.2.1 hS (hl.1.trans hml.symm) dX0_checkMinute_11 dX0_checkMinute_14 dX0_checkMinute_15 dX0_checkMinute_17 dX0_checkMinute_20 (fun x hx9 => (hto x hx9).elim) (Nat.le_of_ble_eq_true rfl) (Nat.le_of_ble_eq_true rfl) (Nat.le_of_ble_eq_true rfl) (Nat.le_of_ble_eq_true rfl) hlocks (fun t hvm hz hk => ⟨(), trivial, rfl, hz, fun q h1 _ => hk q h1⟩) hS.2.2 (Nat.le_of_ble_eq_true rfl) (Nat.le_of_ble_eq_true rfl)
  · skip
    refine lv_iload_n hx hb dX0_checkMinute_4 rfl (lv_at hl 1 rfl) ?_
    refine lv_sipush (v := nI 360) hx hb dX0_checkMinute_5 (by decide +kernel) ?_
    refine lv_icmp_lt (tgt := 21) hx hb dX0_checkMinute_8 (by decide) (fun c_8 => ?_) (fun c_8 => ?_)
    · skip
      exact (of_decide_eq_false hp ⟨leI c_1, c_8⟩).elim
    · skip
      obtain ⟨sa9, hstr⟩ := hE.1 (190, "a minute is 0 to 359") (by decide +kernel)
      exact vx_throwS hx hb htr (cls := "java/lang/IllegalArgumentException") (text := "a minute is 0 to 359") (sa := sa9) (names := ["java/lang/RuntimeException", "java/lang/Exception"]) hown fit_1 fit_n (hts (.classLink RX0 41 "java/lang/IllegalArgumentException") (List.mem_of_getElem? (i := 1) rfl)) (hts (.initialized "java/lang/IllegalArgumentException") (List.mem_of_getElem? (i := 2) rfl)) hstr (vx_hat (fun w h9 => hts w (List.mem_cons_of_mem _ (List.mem_append_right _ h9))) nb_41 (hE.ws (by decide +kernel))) ot_41 hE.2.1 hE.2.2.1 hS (hl.1.trans hml.symm) dX0_checkMinute_11 dX0_checkMinute_14 dX0_checkMinute_15 dX0_checkMinute_17 dX0_checkMinute_20 (fun x hx9 => (hto x hx9).elim) (Nat.le_of_ble_eq_true rfl) (Nat.le_of_ble_eq_true rfl) (Nat.le_of_ble_eq_true rfl) (Nat.le_of_ble_eq_true rfl) hlocks (fun t hvm hz hk => ⟨(), trivial, rfl, hz, fun q h1 _ => hk q h1⟩) hS.2.2 (Nat.le_of_ble_eq_true rfl) (Nat.le_of_ble_eq_true rfl)
set_option maxHeartbeats 4000000 in
set_option maxRecDepth 100000 in
theorem t1_X0_checkStick (l : Launch) (htr : l.stackTraces = false) (D : va_G) (cI : ClassId) (h : Nat) (a : Nat → Nat) (u : MS) (on : Nat → Int32) (sz : Nat) (v0 : Int32) (hp : inR v0 (mSc u) = false) : vx_Met l yX0_checkStick wsX0_checkStick ({ frames := 6, cells := 1, slots := 6, locals := 82 } : Room) (va_Pc [.ref h, .int v0] (fun U => U.heap.size = sz ∧ va_P D vwCl (pic0 cI h a u on) U.heap ∧ va_K D vwCl [(cI, .int)] U ∧ tE (fun q => sz ≤ q) U)) ((fun A : Nat → Prop => va_Qv (fun _ : Unit => False) (fun _ _ => True) A) (fun q => sz ≤ q)) ((fun A : Nat → Prop => vx_X (fun _ : Unit => True) (fun E _ _ => E = "java/lang/IndexOutOfBoundsException") A) (fun q => sz ≤ q)) 1 6 (fun q => sz ≤ q) := by
  refine en_th (cc := cX0_checkStick) (maxL := 2) (ret := none) _ _ (fun A : Nat → Prop => va_Qv (fun _ : Unit => False) (fun _ _ => True) A) (fun A : Nat → Prop => vx_X (fun _ : Unit => True) (fun E _ _ => E = "java/lang/IndexOutOfBoundsException") A) (by decide) rfl (Nat.le_of_ble_eq_true rfl) ?_
  intro p e s m args below meth c ls A hx hb hml hr hlocks hts hown hto hP hK hE hA hAs hS hl
  have hown : s.vm.findClass RX0 = some m.cls := hown
  have hin : ∀ w ∈ wsX00, w ∈ wsX0_checkStick := fun _ h9 => List.mem_cons_of_mem _ (List.mem_append_left _ (List.mem_append_right _ h9))
  have hl : lv_has ls 2 [(0, .ref h), (1, .int v0)] := hl
  refine lv_iload_n hx hb dX0_checkStick_0 rfl (lv_at hl 1 rfl) ?_
  refine lv_if_lt (tgt := 12) hx hb dX0_checkStick_1 (by decide) (fun c_1 => ?_) (fun c_1 => ?_)
  · skip
    obtain ⟨sa9, hstr⟩ := hE.1 (194, "there is no such stick") (by decide +kernel)
    exact vx_throwS hx hb htr (cls := "java/lang/IndexOutOfBoundsException") (text := "there is no such stick") (sa := sa9) (names := ["java/lang/RuntimeException", "java/lang/Exception"]) hown fit_3 fit_n (hts (.classLink RX0 192 "java/lang/IndexOutOfBoundsException") (List.mem_of_getElem? (i := 1) rfl)) (hts (.initialized "java/lang/IndexOutOfBoundsException") (List.mem_of_getElem? (i := 2) rfl)) hstr (vx_hat (fun w h9 => hts w (List.mem_cons_of_mem _ (List.mem_append_right _ h9))) nb_192 (hE.ws (by decide +kernel))) ot_192 hE.2.1 hE.2.2.1 hS (hl.1.trans hml.symm) dX0_checkStick_12 dX0_checkStick_15 dX0_checkStick_16 dX0_checkStick_18 dX0_checkStick_21 (fun x hx9 => (hto x hx9).elim) (Nat.le_of_ble_eq_true rfl) (Nat.le_of_ble_eq_true rfl) (Nat.le_of_ble_eq_true rfl) (Nat.le_of_ble_eq_true rfl) hlocks (fun t hvm hz hk => ⟨(), trivial, rfl, hz, fun q h1 _ => hk q h1⟩) hS.2.2 (Nat.le_of_ble_eq_true rfl) (Nat.le_of_ble_eq_true rfl)
  · skip
    refine lv_iload_n hx hb dX0_checkStick_4 rfl (lv_at hl 1 rfl) ?_
    refine lv_aload_n hx hb dX0_checkStick_5 rfl (lv_at hl 0 rfl) ?_
    refine va_get (D := D) (ci := 0) (v := .int (nI (mSc u))) (C := RX0) (T := TX0) (N := 17) hx hb hts hin hown hK hP 0 rfl rfl 1 (by decide) (hts (.fieldLink RX0 48 "AfternoonMeter" "stickCount" "I") (List.mem_of_getElem? (i := 3) rfl)) (fun _ h9 => h9) rfl dX0_checkStick_6 ?_
    refine lv_icmp_lt (tgt := 22) hx hb dX0_checkStick_9 (by decide) (fun c_9 => ?_) (fun c_9 => ?_)
    · skip
      exact (of_decide_eq_false hp ⟨leI c_1, c_9⟩).elim
    · skip
      obtain ⟨sa9, hstr⟩ := hE.1 (194, "there is no such stick") (by decide +kernel)
      exact vx_throwS hx hb htr (cls := "java/lang/IndexOutOfBoundsException") (text := "there is no such stick") (sa := sa9) (names := ["java/lang/RuntimeException", "java/lang/Exception"]) hown fit_3 fit_n (hts (.classLink RX0 192 "java/lang/IndexOutOfBoundsException") (List.mem_of_getElem? (i := 1) rfl)) (hts (.initialized "java/lang/IndexOutOfBoundsException") (List.mem_of_getElem? (i := 2) rfl)) hstr (vx_hat (fun w h9 => hts w (List.mem_cons_of_mem _ (List.mem_append_right _ h9))) nb_192 (hE.ws (by decide +kernel))) ot_192 hE.2.1 hE.2.2.1 hS (hl.1.trans hml.symm) dX0_checkStick_12 dX0_checkStick_15 dX0_checkStick_16 dX0_checkStick_18 dX0_checkStick_21 (fun x hx9 => (hto x hx9).elim) (Nat.le_of_ble_eq_true rfl) (Nat.le_of_ble_eq_true rfl) (Nat.le_of_ble_eq_true rfl) (Nat.le_of_ble_eq_true rfl) hlocks (fun t hvm hz hk => ⟨(), trivial, rfl, hz, fun q h1 _ => hk q h1⟩) hS.2.2 (Nat.le_of_ble_eq_true rfl) (Nat.le_of_ble_eq_true rfl)
set_option maxHeartbeats 4000000 in
set_option maxRecDepth 100000 in
theorem t1_X0_checkNap (l : Launch) (htr : l.stackTraces = false) (D : va_G) (cI : ClassId) (h : Nat) (a : Nat → Nat) (u : MS) (on : Nat → Int32) (sz : Nat) (v0 : Int32) (hp : inR v0 (mNc u) = false) : vx_Met l yX0_checkNap wsX0_checkNap ({ frames := 6, cells := 1, slots := 6, locals := 82 } : Room) (va_Pc [.ref h, .int v0] (fun U => U.heap.size = sz ∧ va_P D vwCl (pic0 cI h a u on) U.heap ∧ va_K D vwCl [(cI, .int)] U ∧ tE (fun q => sz ≤ q) U)) ((fun A : Nat → Prop => va_Qv (fun _ : Unit => False) (fun _ _ => True) A) (fun q => sz ≤ q)) ((fun A : Nat → Prop => vx_X (fun _ : Unit => True) (fun E _ _ => E = "java/lang/IndexOutOfBoundsException") A) (fun q => sz ≤ q)) 1 6 (fun q => sz ≤ q) := by
  refine en_th (cc := cX0_checkNap) (maxL := 2) (ret := none) _ _ (fun A : Nat → Prop => va_Qv (fun _ : Unit => False) (fun _ _ => True) A) (fun A : Nat → Prop => vx_X (fun _ : Unit => True) (fun E _ _ => E = "java/lang/IndexOutOfBoundsException") A) (by decide) rfl (Nat.le_of_ble_eq_true rfl) ?_
  intro p e s m args below meth c ls A hx hb hml hr hlocks hts hown hto hP hK hE hA hAs hS hl
  have hown : s.vm.findClass RX0 = some m.cls := hown
  have hin : ∀ w ∈ wsX00, w ∈ wsX0_checkNap := fun _ h9 => List.mem_cons_of_mem _ (List.mem_append_left _ (List.mem_append_right _ h9))
  have hl : lv_has ls 2 [(0, .ref h), (1, .int v0)] := hl
  refine lv_iload_n hx hb dX0_checkNap_0 rfl (lv_at hl 1 rfl) ?_
  refine lv_if_lt (tgt := 12) hx hb dX0_checkNap_1 (by decide) (fun c_1 => ?_) (fun c_1 => ?_)
  · skip
    obtain ⟨sa9, hstr⟩ := hE.1 (197, "there is no such nap") (by decide +kernel)
    exact vx_throwS hx hb htr (cls := "java/lang/IndexOutOfBoundsException") (text := "there is no such nap") (sa := sa9) (names := ["java/lang/RuntimeException", "java/lang/Exception"]) hown fit_3 fit_n (hts (.classLink RX0 192 "java/lang/IndexOutOfBoundsException") (List.mem_of_getElem? (i := 1) rfl)) (hts (.initialized "java/lang/IndexOutOfBoundsException") (List.mem_of_getElem? (i := 2) rfl)) hstr (vx_hat (fun w h9 => hts w (List.mem_cons_of_mem _ (List.mem_append_right _ h9))) nb_192 (hE.ws (by decide +kernel))) ot_192 hE.2.1 hE.2.2.1 hS (hl.1.trans hml.symm) dX0_checkNap_12 dX0_checkNap_15 dX0_checkNap_16 dX0_checkNap_18 dX0_checkNap_21 (fun x hx9 => (hto x hx9).elim) (Nat.le_of_ble_eq_true rfl) (Nat.le_of_ble_eq_true rfl) (Nat.le_of_ble_eq_true rfl) (Nat.le_of_ble_eq_true rfl) hlocks (fun t hvm hz hk => ⟨(), trivial, rfl, hz, fun q h1 _ => hk q h1⟩) hS.2.2 (Nat.le_of_ble_eq_true rfl) (Nat.le_of_ble_eq_true rfl)
  · skip
    refine lv_iload_n hx hb dX0_checkNap_4 rfl (lv_at hl 1 rfl) ?_
    refine lv_aload_n hx hb dX0_checkNap_5 rfl (lv_at hl 0 rfl) ?_
    refine va_get (D := D) (ci := 0) (v := .int (nI (mNc u))) (C := RX0) (T := TX0) (N := 17) hx hb hts hin hown hK hP 0 rfl rfl 4 (by decide) (hts (.fieldLink RX0 58 "AfternoonMeter" "napCount" "I") (List.mem_of_getElem? (i := 3) rfl)) (fun _ h9 => h9) rfl dX0_checkNap_6 ?_
    refine lv_icmp_lt (tgt := 22) hx hb dX0_checkNap_9 (by decide) (fun c_9 => ?_) (fun c_9 => ?_)
    · skip
      exact (of_decide_eq_false hp ⟨leI c_1, c_9⟩).elim
    · skip
      obtain ⟨sa9, hstr⟩ := hE.1 (197, "there is no such nap") (by decide +kernel)
      exact vx_throwS hx hb htr (cls := "java/lang/IndexOutOfBoundsException") (text := "there is no such nap") (sa := sa9) (names := ["java/lang/RuntimeException", "java/lang/Exception"]) hown fit_3 fit_n (hts (.classLink RX0 192 "java/lang/IndexOutOfBoundsException") (List.mem_of_getElem? (i := 1) rfl)) (hts (.initialized "java/lang/IndexOutOfBoundsException") (List.mem_of_getElem? (i := 2) rfl)) hstr (vx_hat (fun w h9 => hts w (List.mem_cons_of_mem _ (List.mem_append_right _ h9))) nb_192 (hE.ws (by decide +kernel))) ot_192 hE.2.1 hE.2.2.1 hS (hl.1.trans hml.symm) dX0_checkNap_12 dX0_checkNap_15 dX0_checkNap_16 dX0_checkNap_18 dX0_checkNap_21 (fun x hx9 => (hto x hx9).elim) (Nat.le_of_ble_eq_true rfl) (Nat.le_of_ble_eq_true rfl) (Nat.le_of_ble_eq_true rfl) (Nat.le_of_ble_eq_true rfl) hlocks (fun t hvm hz hk => ⟨(), trivial, rfl, hz, fun q h1 _ => hk q h1⟩) hS.2.2 (Nat.le_of_ble_eq_true rfl) (Nat.le_of_ble_eq_true rfl)
set_option maxHeartbeats 4000000 in
set_option maxRecDepth 100000 in
theorem t1_X0_checkBee (l : Launch) (htr : l.stackTraces = false) (D : va_G) (cI : ClassId) (h : Nat) (a : Nat → Nat) (u : MS) (on : Nat → Int32) (sz : Nat) (v0 : Int32) (hp : inR v0 (mBc u) = false) : vx_Met l yX0_checkBee wsX0_checkBee ({ frames := 6, cells := 1, slots := 6, locals := 82 } : Room) (va_Pc [.ref h, .int v0] (fun U => U.heap.size = sz ∧ va_P D vwCl (pic0 cI h a u on) U.heap ∧ va_K D vwCl [(cI, .int)] U ∧ tE (fun q => sz ≤ q) U)) ((fun A : Nat → Prop => va_Qv (fun _ : Unit => False) (fun _ _ => True) A) (fun q => sz ≤ q)) ((fun A : Nat → Prop => vx_X (fun _ : Unit => True) (fun E _ _ => E = "java/lang/IndexOutOfBoundsException") A) (fun q => sz ≤ q)) 1 6 (fun q => sz ≤ q) := by
  refine en_th (cc := cX0_checkBee) (maxL := 2) (ret := none) _ _ (fun A : Nat → Prop => va_Qv (fun _ : Unit => False) (fun _ _ => True) A) (fun A : Nat → Prop => vx_X (fun _ : Unit => True) (fun E _ _ => E = "java/lang/IndexOutOfBoundsException") A) (by decide) rfl (Nat.le_of_ble_eq_true rfl) ?_
  intro p e s m args below meth c ls A hx hb hml hr hlocks hts hown hto hP hK hE hA hAs hS hl
  have hown : s.vm.findClass RX0 = some m.cls := hown
  have hin : ∀ w ∈ wsX00, w ∈ wsX0_checkBee := fun _ h9 => List.mem_cons_of_mem _ (List.mem_append_left _ (List.mem_append_right _ h9))
  have hl : lv_has ls 2 [(0, .ref h), (1, .int v0)] := hl
  refine lv_iload_n hx hb dX0_checkBee_0 rfl (lv_at hl 1 rfl) ?_
  refine lv_if_lt (tgt := 12) hx hb dX0_checkBee_1 (by decide) (fun c_1 => ?_) (fun c_1 => ?_)
  · skip
    obtain ⟨sa9, hstr⟩ := hE.1 (199, "there is no such bee") (by decide +kernel)
    exact vx_throwS hx hb htr (cls := "java/lang/IndexOutOfBoundsException") (text := "there is no such bee") (sa := sa9) (names := ["java/lang/RuntimeException", "java/lang/Exception"]) hown fit_3 fit_n (hts (.classLink RX0 192 "java/lang/IndexOutOfBoundsException") (List.mem_of_getElem? (i := 1) rfl)) (hts (.initialized "java/lang/IndexOutOfBoundsException") (List.mem_of_getElem? (i := 2) rfl)) hstr (vx_hat (fun w h9 => hts w (List.mem_cons_of_mem _ (List.mem_append_right _ h9))) nb_192 (hE.ws (by decide +kernel))) ot_192 hE.2.1 hE.2.2.1 hS (hl.1.trans hml.symm) dX0_checkBee_12 dX0_checkBee_15 dX0_checkBee_16 dX0_checkBee_18 dX0_checkBee_21 (fun x hx9 => (hto x hx9).elim) (Nat.le_of_ble_eq_true rfl) (Nat.le_of_ble_eq_true rfl) (Nat.le_of_ble_eq_true rfl) (Nat.le_of_ble_eq_true rfl) hlocks (fun t hvm hz hk => ⟨(), trivial, rfl, hz, fun q h1 _ => hk q h1⟩) hS.2.2 (Nat.le_of_ble_eq_true rfl) (Nat.le_of_ble_eq_true rfl)
  · skip
    refine lv_iload_n hx hb dX0_checkBee_4 rfl (lv_at hl 1 rfl) ?_
    refine lv_aload_n hx hb dX0_checkBee_5 rfl (lv_at hl 0 rfl) ?_
    refine va_get (D := D) (ci := 0) (v := .int (nI (mBc u))) (C := RX0) (T := TX0) (N := 17) hx hb hts hin hown hK hP 0 rfl rfl 8 (by decide) (hts (.fieldLink RX0 73 "AfternoonMeter" "beeCount" "I") (List.mem_of_getElem? (i := 3) rfl)) (fun _ h9 => h9) rfl dX0_checkBee_6 ?_
    refine lv_icmp_lt (tgt := 22) hx hb dX0_checkBee_9 (by decide) (fun c_9 => ?_) (fun c_9 => ?_)
    · skip
      exact (of_decide_eq_false hp ⟨leI c_1, c_9⟩).elim
    · skip
      obtain ⟨sa9, hstr⟩ := hE.1 (199, "there is no such bee") (by decide +kernel)
      exact vx_throwS hx hb htr (cls := "java/lang/IndexOutOfBoundsException") (text := "there is no such bee") (sa := sa9) (names := ["java/lang/RuntimeException", "java/lang/Exception"]) hown fit_3 fit_n (hts (.classLink RX0 192 "java/lang/IndexOutOfBoundsException") (List.mem_of_getElem? (i := 1) rfl)) (hts (.initialized "java/lang/IndexOutOfBoundsException") (List.mem_of_getElem? (i := 2) rfl)) hstr (vx_hat (fun w h9 => hts w (List.mem_cons_of_mem _ (List.mem_append_right _ h9))) nb_192 (hE.ws (by decide +kernel))) ot_192 hE.2.1 hE.2.2.1 hS (hl.1.trans hml.symm) dX0_checkBee_12 dX0_checkBee_15 dX0_checkBee_16 dX0_checkBee_18 dX0_checkBee_21 (fun x hx9 => (hto x hx9).elim) (Nat.le_of_ble_eq_true rfl) (Nat.le_of_ble_eq_true rfl) (Nat.le_of_ble_eq_true rfl) (Nat.le_of_ble_eq_true rfl) hlocks (fun t hvm hz hk => ⟨(), trivial, rfl, hz, fun q h1 _ => hk q h1⟩) hS.2.2 (Nat.le_of_ble_eq_true rfl) (Nat.le_of_ble_eq_true rfl)
set_option maxHeartbeats 4000000 in
set_option maxRecDepth 100000 in
theorem t1_X0_isAsleep (l : Launch) (htr : l.stackTraces = false) (D : va_G) (cI : ClassId) (h : Nat) (a : Nat → Nat) (u : MS) (on : Nat → Int32) (sz : Nat) (v0 : Int32) (hp : inR v0 360 = false) : vx_Met l yX0_isAsleep wsX0_isAsleep ({ frames := 7, cells := 1, slots := 6, locals := 103 } : Room) (va_Pc [.ref h, .int v0] (fun U => U.heap.size = sz ∧ va_P D vwCl (pic0 cI h a u on) U.heap ∧ va_K D vwCl [(cI, .int)] U ∧ tE (fun q => sz ≤ q) U)) ((fun A : Nat → Prop => va_Qi (fun (_ : Int32) (_ : Unit) => False) (fun _ _ => True) A) (fun q => sz ≤ q)) ((fun A : Nat → Prop => vx_X (fun _ : Unit => True) (fun E _ _ => E = "java/lang/IllegalArgumentException") A) (fun q => sz ≤ q)) 1 6 (fun q => sz ≤ q) := by
  refine en_th (cc := cX0_isAsleep) (maxL := 2) (ret := (some .boolean)) _ _ (fun A : Nat → Prop => va_Qi (fun (_ : Int32) (_ : Unit) => False) (fun _ _ => True) A) (fun A : Nat → Prop => vx_X (fun _ : Unit => True) (fun E _ _ => E = "java/lang/IllegalArgumentException") A) (by decide) rfl (Nat.le_of_ble_eq_true rfl) ?_
  intro p e s m args below meth c ls A hx hb hml hr hlocks hts hown hto hP hK hE hA hAs hS hl
  have hown : s.vm.findClass RX0 = some m.cls := hown
  have hin : ∀ w ∈ wsX00, w ∈ wsX0_isAsleep := fun _ h9 => List.mem_cons_of_mem _ (List.mem_append_left _ (List.mem_append_right _ h9))
  have hl : lv_has ls 2 [(0, .ref h), (1, .int v0)] := hl
  refine lv_aload_n hx hb dX0_isAsleep_0 rfl (lv_at hl 0 rfl) ?_
  refine lv_iload_n hx hb dX0_isAsleep_1 rfl (lv_at hl 1 rfl) ?_
  refine vx_callv (vx_runV (As := [.int v0]) (rest := []) ⟨hx, hb, hml, hown, hts⟩ (t1_X0_checkMinute l htr D cI h a u on s.heap.size v0 hp) (cwV 1 hts gX0_isAsleep_X0_checkMinute rfl rfl rfl (by decide +kernel) ⟨Nat.le_of_ble_eq_true rfl, Nat.le_of_ble_eq_true rfl⟩) ⟨th_blind, va_recv (ci := 0) (q0 := 0) hK hP rfl rfl, fun U hU hW => ⟨rfl, by rw [hU], by rw [hU]; exact hP, va_K.moved hW.alike hK, hE.go hS hW hU (fun q h9 => hA q h9)⟩⟩ rfl rfl hl.1 rfl (lv_room (Nat.le_of_ble_eq_true rfl)) dX0_isAsleep_2 ⟨Nat.le_of_ble_eq_true rfl, Nat.le_of_ble_eq_true rfl⟩) hS (fun q _ h9 => hA q h9) (fun q h9 => hA q h9) (fun q _ h9 => hA q h9) (fun E ce q9 w9 t9 H9 l9 ht9 hvm9 _ hE9 hz9 hk9 hS9 hce hcv hcl => ?_) (fun w9 t9 H9 l9 e1 e2 hw9 => hw9.elim)
  exact vx_out (E := E) (fun x hx9 => (hto x hx9).elim) hlocks hce hcv hcl (fun t ht hvm => ⟨(), trivial, hE9, hS9.F ht⟩) hS9.2.2 (Nat.le_of_ble_eq_true rfl) (Nat.le_of_ble_eq_true rfl)
set_option maxHeartbeats 4000000 in
set_option maxRecDepth 100000 in
theorem t1_X0_allShadows (l : Launch) (htr : l.stackTraces = false) (D : va_G) (cI : ClassId) (h : Nat) (a : Nat → Nat) (u : MS) (on : Nat → Int32) (sz : Nat) (v0 : Int32) (hp : inR v0 360 = false) : vx_Met l yX0_allShadows wsX0_allShadows ({ frames := 7, cells := 1, slots := 6, locals := 103 } : Room) (va_Pc [.ref h, .int v0] (fun U => U.heap.size = sz ∧ va_P D vwCl (pic0 cI h a u on) U.heap ∧ va_K D vwCl [(cI, .int)] U ∧ tE (fun q => sz ≤ q) U)) ((fun A : Nat → Prop => va_Qi (fun (_ : Int32) (_ : Unit) => False) (fun _ _ => True) A) (fun q => sz ≤ q)) ((fun A : Nat → Prop => vx_X (fun _ : Unit => True) (fun E _ _ => E = "java/lang/IllegalArgumentException") A) (fun q => sz ≤ q)) 1 6 (fun q => sz ≤ q) := by
  refine en_th (cc := cX0_allShadows) (maxL := 2) (ret := (some .int)) _ _ (fun A : Nat → Prop => va_Qi (fun (_ : Int32) (_ : Unit) => False) (fun _ _ => True) A) (fun A : Nat → Prop => vx_X (fun _ : Unit => True) (fun E _ _ => E = "java/lang/IllegalArgumentException") A) (by decide) rfl (Nat.le_of_ble_eq_true rfl) ?_
  intro p e s m args below meth c ls A hx hb hml hr hlocks hts hown hto hP hK hE hA hAs hS hl
  have hown : s.vm.findClass RX0 = some m.cls := hown
  have hin : ∀ w ∈ wsX00, w ∈ wsX0_allShadows := fun _ h9 => List.mem_cons_of_mem _ (List.mem_append_left _ (List.mem_append_right _ h9))
  have hl : lv_has ls 2 [(0, .ref h), (1, .int v0)] := hl
  refine lv_aload_n hx hb dX0_allShadows_0 rfl (lv_at hl 0 rfl) ?_
  refine lv_iload_n hx hb dX0_allShadows_1 rfl (lv_at hl 1 rfl) ?_
  refine vx_callv (vx_runV (As := [.int v0]) (rest := []) ⟨hx, hb, hml, hown, hts⟩ (t1_X0_checkMinute l htr D cI h a u on s.heap.size v0 hp) (cwV 1 hts gX0_allShadows_X0_checkMinute rfl rfl rfl (by decide +kernel) ⟨Nat.le_of_ble_eq_true rfl, Nat.le_of_ble_eq_true rfl⟩) ⟨th_blind, va_recv (ci := 0) (q0 := 0) hK hP rfl rfl, fun U hU hW => ⟨rfl, by rw [hU], by rw [hU]; exact hP, va_K.moved hW.alike hK, hE.go hS hW hU (fun q h9 => hA q h9)⟩⟩ rfl rfl hl.1 rfl (lv_room (Nat.le_of_ble_eq_true rfl)) dX0_allShadows_2 ⟨Nat.le_of_ble_eq_true rfl, Nat.le_of_ble_eq_true rfl⟩) hS (fun q _ h9 => hA q h9) (fun q h9 => hA q h9) (fun q _ h9 => hA q h9) (fun E ce q9 w9 t9 H9 l9 ht9 hvm9 _ hE9 hz9 hk9 hS9 hce hcv hcl => ?_) (fun w9 t9 H9 l9 e1 e2 hw9 => hw9.elim)
  exact vx_out (E := E) (fun x hx9 => (hto x hx9).elim) hlocks hce hcv hcl (fun t ht hvm => ⟨(), trivial, hE9, hS9.F ht⟩) hS9.2.2 (Nat.le_of_ble_eq_true rfl) (Nat.le_of_ble_eq_true rfl)
set_option maxHeartbeats 4000000 in
set_option maxRecDepth 100000 in
theorem t1_X0_napsAt (l : Launch) (htr : l.stackTraces = false) (D : va_G) (cI : ClassId) (h : Nat) (a : Nat → Nat) (u : MS) (on : Nat → Int32) (sz : Nat) (v0 : Int32) (hp : inR v0 360 = false) : vx_Met l yX0_napsAt wsX0_napsAt ({ frames := 7, cells := 1, slots := 6, locals := 103 } : Room) (va_Pc [.ref h, .int v0] (fun U => U.heap.size = sz ∧ va_P D vwCl (pic0 cI h a u on) U.heap ∧ va_K D vwCl [(cI, .int)] U ∧ tE (fun q => sz ≤ q) U)) ((fun A : Nat → Prop => va_Qi (fun (_ : Int32) (_ : Unit) => False) (fun _ _ => True) A) (fun q => sz ≤ q)) ((fun A : Nat → Prop => vx_X (fun _ : Unit => True) (fun E _ _ => E = "java/lang/IllegalArgumentException") A) (fun q => sz ≤ q)) 1 6 (fun q => sz ≤ q) := by
  refine en_th (cc := cX0_napsAt) (maxL := 2) (ret := (some .int)) _ _ (fun A : Nat → Prop => va_Qi (fun (_ : Int32) (_ : Unit) => False) (fun _ _ => True) A) (fun A : Nat → Prop => vx_X (fun _ : Unit => True) (fun E _ _ => E = "java/lang/IllegalArgumentException") A) (by decide) rfl (Nat.le_of_ble_eq_true rfl) ?_
  intro p e s m args below meth c ls A hx hb hml hr hlocks hts hown hto hP hK hE hA hAs hS hl
  have hown : s.vm.findClass RX0 = some m.cls := hown
  have hin : ∀ w ∈ wsX00, w ∈ wsX0_napsAt := fun _ h9 => List.mem_cons_of_mem _ (List.mem_append_left _ (List.mem_append_right _ h9))
  have hl : lv_has ls 2 [(0, .ref h), (1, .int v0)] := hl
  refine lv_aload_n hx hb dX0_napsAt_0 rfl (lv_at hl 0 rfl) ?_
  refine lv_iload_n hx hb dX0_napsAt_1 rfl (lv_at hl 1 rfl) ?_
  refine vx_callv (vx_runV (As := [.int v0]) (rest := []) ⟨hx, hb, hml, hown, hts⟩ (t1_X0_checkMinute l htr D cI h a u on s.heap.size v0 hp) (cwV 1 hts gX0_napsAt_X0_checkMinute rfl rfl rfl (by decide +kernel) ⟨Nat.le_of_ble_eq_true rfl, Nat.le_of_ble_eq_true rfl⟩) ⟨th_blind, va_recv (ci := 0) (q0 := 0) hK hP rfl rfl, fun U hU hW => ⟨rfl, by rw [hU], by rw [hU]; exact hP, va_K.moved hW.alike hK, hE.go hS hW hU (fun q h9 => hA q h9)⟩⟩ rfl rfl hl.1 rfl (lv_room (Nat.le_of_ble_eq_true rfl)) dX0_napsAt_2 ⟨Nat.le_of_ble_eq_true rfl, Nat.le_of_ble_eq_true rfl⟩) hS (fun q _ h9 => hA q h9) (fun q h9 => hA q h9) (fun q _ h9 => hA q h9) (fun E ce q9 w9 t9 H9 l9 ht9 hvm9 _ hE9 hz9 hk9 hS9 hce hcv hcl => ?_) (fun w9 t9 H9 l9 e1 e2 hw9 => hw9.elim)
  exact vx_out (E := E) (fun x hx9 => (hto x hx9).elim) hlocks hce hcv hcl (fun t ht hvm => ⟨(), trivial, hE9, hS9.F ht⟩) hS9.2.2 (Nat.le_of_ble_eq_true rfl) (Nat.le_of_ble_eq_true rfl)
set_option maxHeartbeats 4000000 in
set_option maxRecDepth 100000 in
theorem t1_X0_startOf (l : Launch) (htr : l.stackTraces = false) (D : va_G) (cI : ClassId) (h : Nat) (a : Nat → Nat) (u : MS) (on : Nat → Int32) (sz : Nat) (v0 : Int32) (hp : inR v0 (mNc u) = false) : vx_Met l yX0_startOf wsX0_startOf ({ frames := 7, cells := 1, slots := 6, locals := 103 } : Room) (va_Pc [.ref h, .int v0] (fun U => U.heap.size = sz ∧ va_P D vwCl (pic0 cI h a u on) U.heap ∧ va_K D vwCl [(cI, .int)] U ∧ tE (fun q => sz ≤ q) U)) ((fun A : Nat → Prop => va_Qi (fun (_ : Int32) (_ : Unit) => False) (fun _ _ => True) A) (fun q => sz ≤ q)) ((fun A : Nat → Prop => vx_X (fun _ : Unit => True) (fun E _ _ => E = "java/lang/IndexOutOfBoundsException") A) (fun q => sz ≤ q)) 1 6 (fun q => sz ≤ q) := by
  refine en_th (cc := cX0_startOf) (maxL := 2) (ret := (some .int)) _ _ (fun A : Nat → Prop => va_Qi (fun (_ : Int32) (_ : Unit) => False) (fun _ _ => True) A) (fun A : Nat → Prop => vx_X (fun _ : Unit => True) (fun E _ _ => E = "java/lang/IndexOutOfBoundsException") A) (by decide) rfl (Nat.le_of_ble_eq_true rfl) ?_
  intro p e s m args below meth c ls A hx hb hml hr hlocks hts hown hto hP hK hE hA hAs hS hl
  have hown : s.vm.findClass RX0 = some m.cls := hown
  have hin : ∀ w ∈ wsX00, w ∈ wsX0_startOf := fun _ h9 => List.mem_cons_of_mem _ (List.mem_append_left _ (List.mem_append_right _ h9))
  have hl : lv_has ls 2 [(0, .ref h), (1, .int v0)] := hl
  refine lv_aload_n hx hb dX0_startOf_0 rfl (lv_at hl 0 rfl) ?_
  refine lv_iload_n hx hb dX0_startOf_1 rfl (lv_at hl 1 rfl) ?_
  refine vx_callv (vx_runV (As := [.int v0]) (rest := []) ⟨hx, hb, hml, hown, hts⟩ (t1_X0_checkNap l htr D cI h a u on s.heap.size v0 hp) (cwV 1 hts gX0_startOf_X0_checkNap rfl rfl rfl (by decide +kernel) ⟨Nat.le_of_ble_eq_true rfl, Nat.le_of_ble_eq_true rfl⟩) ⟨th_blind, va_recv (ci := 0) (q0 := 0) hK hP rfl rfl, fun U hU hW => ⟨rfl, by rw [hU], by rw [hU]; exact hP, va_K.moved hW.alike hK, hE.go hS hW hU (fun q h9 => hA q h9)⟩⟩ rfl rfl hl.1 rfl (lv_room (Nat.le_of_ble_eq_true rfl)) dX0_startOf_2 ⟨Nat.le_of_ble_eq_true rfl, Nat.le_of_ble_eq_true rfl⟩) hS (fun q _ h9 => hA q h9) (fun q h9 => hA q h9) (fun q _ h9 => hA q h9) (fun E ce q9 w9 t9 H9 l9 ht9 hvm9 _ hE9 hz9 hk9 hS9 hce hcv hcl => ?_) (fun w9 t9 H9 l9 e1 e2 hw9 => hw9.elim)
  exact vx_out (E := E) (fun x hx9 => (hto x hx9).elim) hlocks hce hcv hcl (fun t ht hvm => ⟨(), trivial, hE9, hS9.F ht⟩) hS9.2.2 (Nat.le_of_ble_eq_true rfl) (Nat.le_of_ble_eq_true rfl)
set_option maxHeartbeats 4000000 in
set_option maxRecDepth 100000 in
theorem t1_X0_lengthOf (l : Launch) (htr : l.stackTraces = false) (D : va_G) (cI : ClassId) (h : Nat) (a : Nat → Nat) (u : MS) (on : Nat → Int32) (sz : Nat) (v0 : Int32) (hp : inR v0 (mNc u) = false) : vx_Met l yX0_lengthOf wsX0_lengthOf ({ frames := 7, cells := 1, slots := 6, locals := 103 } : Room) (va_Pc [.ref h, .int v0] (fun U => U.heap.size = sz ∧ va_P D vwCl (pic0 cI h a u on) U.heap ∧ va_K D vwCl [(cI, .int)] U ∧ tE (fun q => sz ≤ q) U)) ((fun A : Nat → Prop => va_Qi (fun (_ : Int32) (_ : Unit) => False) (fun _ _ => True) A) (fun q => sz ≤ q)) ((fun A : Nat → Prop => vx_X (fun _ : Unit => True) (fun E _ _ => E = "java/lang/IndexOutOfBoundsException") A) (fun q => sz ≤ q)) 1 6 (fun q => sz ≤ q) := by
  refine en_th (cc := cX0_lengthOf) (maxL := 2) (ret := (some .int)) _ _ (fun A : Nat → Prop => va_Qi (fun (_ : Int32) (_ : Unit) => False) (fun _ _ => True) A) (fun A : Nat → Prop => vx_X (fun _ : Unit => True) (fun E _ _ => E = "java/lang/IndexOutOfBoundsException") A) (by decide) rfl (Nat.le_of_ble_eq_true rfl) ?_
  intro p e s m args below meth c ls A hx hb hml hr hlocks hts hown hto hP hK hE hA hAs hS hl
  have hown : s.vm.findClass RX0 = some m.cls := hown
  have hin : ∀ w ∈ wsX00, w ∈ wsX0_lengthOf := fun _ h9 => List.mem_cons_of_mem _ (List.mem_append_left _ (List.mem_append_right _ h9))
  have hl : lv_has ls 2 [(0, .ref h), (1, .int v0)] := hl
  refine lv_aload_n hx hb dX0_lengthOf_0 rfl (lv_at hl 0 rfl) ?_
  refine lv_iload_n hx hb dX0_lengthOf_1 rfl (lv_at hl 1 rfl) ?_
  refine vx_callv (vx_runV (As := [.int v0]) (rest := []) ⟨hx, hb, hml, hown, hts⟩ (t1_X0_checkNap l htr D cI h a u on s.heap.size v0 hp) (cwV 1 hts gX0_lengthOf_X0_checkNap rfl rfl rfl (by decide +kernel) ⟨Nat.le_of_ble_eq_true rfl, Nat.le_of_ble_eq_true rfl⟩) ⟨th_blind, va_recv (ci := 0) (q0 := 0) hK hP rfl rfl, fun U hU hW => ⟨rfl, by rw [hU], by rw [hU]; exact hP, va_K.moved hW.alike hK, hE.go hS hW hU (fun q h9 => hA q h9)⟩⟩ rfl rfl hl.1 rfl (lv_room (Nat.le_of_ble_eq_true rfl)) dX0_lengthOf_2 ⟨Nat.le_of_ble_eq_true rfl, Nat.le_of_ble_eq_true rfl⟩) hS (fun q _ h9 => hA q h9) (fun q h9 => hA q h9) (fun q _ h9 => hA q h9) (fun E ce q9 w9 t9 H9 l9 ht9 hvm9 _ hE9 hz9 hk9 hS9 hce hcv hcl => ?_) (fun w9 t9 H9 l9 e1 e2 hw9 => hw9.elim)
  exact vx_out (E := E) (fun x hx9 => (hto x hx9).elim) hlocks hce hcv hcl (fun t ht hvm => ⟨(), trivial, hE9, hS9.F ht⟩) hS9.2.2 (Nat.le_of_ble_eq_true rfl) (Nat.le_of_ble_eq_true rfl)
set_option maxHeartbeats 4000000 in
set_option maxRecDepth 100000 in
theorem t1_X0_minutesAlone (l : Launch) (htr : l.stackTraces = false) (D : va_G) (cI : ClassId) (h : Nat) (a : Nat → Nat) (u : MS) (on : Nat → Int32) (sz : Nat) (v0 : Int32) (hp : inR v0 (mNc u) = false) : vx_Met l yX0_minutesAlone wsX0_minutesAlone ({ frames := 7, cells := 1, slots := 6, locals := 103 } : Room) (va_Pc [.ref h, .int v0] (fun U => U.heap.size = sz ∧ va_P D vwCl (pic0 cI h a u on) U.heap ∧ va_K D vwCl [(cI, .int)] U ∧ tE (fun q => sz ≤ q) U)) ((fun A : Nat → Prop => va_Qi (fun (_ : Int32) (_ : Unit) => False) (fun _ _ => True) A) (fun q => sz ≤ q)) ((fun A : Nat → Prop => vx_X (fun _ : Unit => True) (fun E _ _ => E = "java/lang/IndexOutOfBoundsException") A) (fun q => sz ≤ q)) 1 6 (fun q => sz ≤ q) := by
  refine en_th (cc := cX0_minutesAlone) (maxL := 2) (ret := (some .int)) _ _ (fun A : Nat → Prop => va_Qi (fun (_ : Int32) (_ : Unit) => False) (fun _ _ => True) A) (fun A : Nat → Prop => vx_X (fun _ : Unit => True) (fun E _ _ => E = "java/lang/IndexOutOfBoundsException") A) (by decide) rfl (Nat.le_of_ble_eq_true rfl) ?_
  intro p e s m args below meth c ls A hx hb hml hr hlocks hts hown hto hP hK hE hA hAs hS hl
  have hown : s.vm.findClass RX0 = some m.cls := hown
  have hin : ∀ w ∈ wsX00, w ∈ wsX0_minutesAlone := fun _ h9 => List.mem_cons_of_mem _ (List.mem_append_left _ (List.mem_append_right _ h9))
  have hl : lv_has ls 2 [(0, .ref h), (1, .int v0)] := hl
  refine lv_aload_n hx hb dX0_minutesAlone_0 rfl (lv_at hl 0 rfl) ?_
  refine lv_iload_n hx hb dX0_minutesAlone_1 rfl (lv_at hl 1 rfl) ?_
  refine vx_callv (vx_runV (As := [.int v0]) (rest := []) ⟨hx, hb, hml, hown, hts⟩ (t1_X0_checkNap l htr D cI h a u on s.heap.size v0 hp) (cwV 1 hts gX0_minutesAlone_X0_checkNap rfl rfl rfl (by decide +kernel) ⟨Nat.le_of_ble_eq_true rfl, Nat.le_of_ble_eq_true rfl⟩) ⟨th_blind, va_recv (ci := 0) (q0 := 0) hK hP rfl rfl, fun U hU hW => ⟨rfl, by rw [hU], by rw [hU]; exact hP, va_K.moved hW.alike hK, hE.go hS hW hU (fun q h9 => hA q h9)⟩⟩ rfl rfl hl.1 rfl (lv_room (Nat.le_of_ble_eq_true rfl)) dX0_minutesAlone_2 ⟨Nat.le_of_ble_eq_true rfl, Nat.le_of_ble_eq_true rfl⟩) hS (fun q _ h9 => hA q h9) (fun q h9 => hA q h9) (fun q _ h9 => hA q h9) (fun E ce q9 w9 t9 H9 l9 ht9 hvm9 _ hE9 hz9 hk9 hS9 hce hcv hcl => ?_) (fun w9 t9 H9 l9 e1 e2 hw9 => hw9.elim)
  exact vx_out (E := E) (fun x hx9 => (hto x hx9).elim) hlocks hce hcv hcl (fun t ht hvm => ⟨(), trivial, hE9, hS9.F ht⟩) hS9.2.2 (Nat.le_of_ble_eq_true rfl) (Nat.le_of_ble_eq_true rfl)
set_option maxHeartbeats 4000000 in
set_option maxRecDepth 100000 in
theorem t1_X0_giveUp (l : Launch) (htr : l.stackTraces = false) (D : va_G) (cI : ClassId) (h : Nat) (a : Nat → Nat) (u : MS) (on : Nat → Int32) (sz : Nat) (v0 : Int32) (hp : inR v0 (mNc u) = false) : vx_Met l yX0_giveUp wsX0_giveUp ({ frames := 7, cells := 1, slots := 6, locals := 103 } : Room) (va_Pc [.ref h, .int v0] (fun U => U.heap.size = sz ∧ va_P D vwCl (pic0 cI h a u on) U.heap ∧ va_K D vwCl [(cI, .int)] U ∧ tE (fun q => sz ≤ q) U)) ((fun A : Nat → Prop => va_Qi (fun (_ : Int32) (_ : Unit) => False) (fun _ _ => True) A) (fun q => sz ≤ q)) ((fun A : Nat → Prop => vx_X (fun _ : Unit => True) (fun E _ _ => E = "java/lang/IndexOutOfBoundsException") A) (fun q => sz ≤ q)) 1 6 (fun q => sz ≤ q) := by
  refine en_th (cc := cX0_giveUp) (maxL := 3) (ret := (some .int)) _ _ (fun A : Nat → Prop => va_Qi (fun (_ : Int32) (_ : Unit) => False) (fun _ _ => True) A) (fun A : Nat → Prop => vx_X (fun _ : Unit => True) (fun E _ _ => E = "java/lang/IndexOutOfBoundsException") A) (by decide) rfl (Nat.le_of_ble_eq_true rfl) ?_
  intro p e s m args below meth c ls A hx hb hml hr hlocks hts hown hto hP hK hE hA hAs hS hl
  have hown : s.vm.findClass RX0 = some m.cls := hown
  have hin : ∀ w ∈ wsX00, w ∈ wsX0_giveUp := fun _ h9 => List.mem_cons_of_mem _ (List.mem_append_left _ (List.mem_append_right _ h9))
  have hl : lv_has ls 3 [(0, .ref h), (1, .int v0)] := hl
  refine lv_aload_n hx hb dX0_giveUp_0 rfl (lv_at hl 0 rfl) ?_
  refine lv_iload_n hx hb dX0_giveUp_1 rfl (lv_at hl 1 rfl) ?_
  refine vx_callv (vx_runV (As := [.int v0]) (rest := []) ⟨hx, hb, hml, hown, hts⟩ (t1_X0_checkNap l htr D cI h a u on s.heap.size v0 hp) (cwV 1 hts gX0_giveUp_X0_checkNap rfl rfl rfl (by decide +kernel) ⟨Nat.le_of_ble_eq_true rfl, Nat.le_of_ble_eq_true rfl⟩) ⟨th_blind, va_recv (ci := 0) (q0 := 0) hK hP rfl rfl, fun U hU hW => ⟨rfl, by rw [hU], by rw [hU]; exact hP, va_K.moved hW.alike hK, hE.go hS hW hU (fun q h9 => hA q h9)⟩⟩ rfl rfl hl.1 rfl (lv_room (Nat.le_of_ble_eq_true rfl)) dX0_giveUp_2 ⟨Nat.le_of_ble_eq_true rfl, Nat.le_of_ble_eq_true rfl⟩) hS (fun q _ h9 => hA q h9) (fun q h9 => hA q h9) (fun q _ h9 => hA q h9) (fun E ce q9 w9 t9 H9 l9 ht9 hvm9 _ hE9 hz9 hk9 hS9 hce hcv hcl => ?_) (fun w9 t9 H9 l9 e1 e2 hw9 => hw9.elim)
  exact vx_out (E := E) (fun x hx9 => (hto x hx9).elim) hlocks hce hcv hcl (fun t ht hvm => ⟨(), trivial, hE9, hS9.F ht⟩) hS9.2.2 (Nat.le_of_ble_eq_true rfl) (Nat.le_of_ble_eq_true rfl)
set_option maxHeartbeats 4000000 in
set_option maxRecDepth 100000 in
theorem t1_X0_ticksOf (l : Launch) (htr : l.stackTraces = false) (D : va_G) (cI : ClassId) (h : Nat) (a : Nat → Nat) (u : MS) (on : Nat → Int32) (sz : Nat) (v0 : Int32) (hp : inR v0 (mBc u) = false) : vx_Met l yX0_ticksOf wsX0_ticksOf ({ frames := 7, cells := 1, slots := 6, locals := 103 } : Room) (va_Pc [.ref h, .int v0] (fun U => U.heap.size = sz ∧ va_P D vwCl (pic0 cI h a u on) U.heap ∧ va_K D vwCl [(cI, .int)] U ∧ tE (fun q => sz ≤ q) U)) ((fun A : Nat → Prop => va_Qi (fun (_ : Int32) (_ : Unit) => False) (fun _ _ => True) A) (fun q => sz ≤ q)) ((fun A : Nat → Prop => vx_X (fun _ : Unit => True) (fun E _ _ => E = "java/lang/IndexOutOfBoundsException") A) (fun q => sz ≤ q)) 1 6 (fun q => sz ≤ q) := by
  refine en_th (cc := cX0_ticksOf) (maxL := 2) (ret := (some .int)) _ _ (fun A : Nat → Prop => va_Qi (fun (_ : Int32) (_ : Unit) => False) (fun _ _ => True) A) (fun A : Nat → Prop => vx_X (fun _ : Unit => True) (fun E _ _ => E = "java/lang/IndexOutOfBoundsException") A) (by decide) rfl (Nat.le_of_ble_eq_true rfl) ?_
  intro p e s m args below meth c ls A hx hb hml hr hlocks hts hown hto hP hK hE hA hAs hS hl
  have hown : s.vm.findClass RX0 = some m.cls := hown
  have hin : ∀ w ∈ wsX00, w ∈ wsX0_ticksOf := fun _ h9 => List.mem_cons_of_mem _ (List.mem_append_left _ (List.mem_append_right _ h9))
  have hl : lv_has ls 2 [(0, .ref h), (1, .int v0)] := hl
  refine lv_aload_n hx hb dX0_ticksOf_0 rfl (lv_at hl 0 rfl) ?_
  refine lv_iload_n hx hb dX0_ticksOf_1 rfl (lv_at hl 1 rfl) ?_
  refine vx_callv (vx_runV (As := [.int v0]) (rest := []) ⟨hx, hb, hml, hown, hts⟩ (t1_X0_checkBee l htr D cI h a u on s.heap.size v0 hp) (cwV 1 hts gX0_ticksOf_X0_checkBee rfl rfl rfl (by decide +kernel) ⟨Nat.le_of_ble_eq_true rfl, Nat.le_of_ble_eq_true rfl⟩) ⟨th_blind, va_recv (ci := 0) (q0 := 0) hK hP rfl rfl, fun U hU hW => ⟨rfl, by rw [hU], by rw [hU]; exact hP, va_K.moved hW.alike hK, hE.go hS hW hU (fun q h9 => hA q h9)⟩⟩ rfl rfl hl.1 rfl (lv_room (Nat.le_of_ble_eq_true rfl)) dX0_ticksOf_2 ⟨Nat.le_of_ble_eq_true rfl, Nat.le_of_ble_eq_true rfl⟩) hS (fun q _ h9 => hA q h9) (fun q h9 => hA q h9) (fun q _ h9 => hA q h9) (fun E ce q9 w9 t9 H9 l9 ht9 hvm9 _ hE9 hz9 hk9 hS9 hce hcv hcl => ?_) (fun w9 t9 H9 l9 e1 e2 hw9 => hw9.elim)
  exact vx_out (E := E) (fun x hx9 => (hto x hx9).elim) hlocks hce hcv hcl (fun t ht hvm => ⟨(), trivial, hE9, hS9.F ht⟩) hS9.2.2 (Nat.le_of_ble_eq_true rfl) (Nat.le_of_ble_eq_true rfl)
set_option maxHeartbeats 4000000 in
set_option maxRecDepth 100000 in
theorem t1_X0_measuredBy (l : Launch) (htr : l.stackTraces = false) (D : va_G) (cI : ClassId) (h : Nat) (a : Nat → Nat) (u : MS) (on : Nat → Int32) (sz : Nat) (v0 : Int32) (hp : inR v0 (mBc u) = false) : vx_Met l yX0_measuredBy wsX0_measuredBy ({ frames := 7, cells := 1, slots := 6, locals := 103 } : Room) (va_Pc [.ref h, .int v0] (fun U => U.heap.size = sz ∧ va_P D vwCl (pic0 cI h a u on) U.heap ∧ va_K D vwCl [(cI, .int)] U ∧ tE (fun q => sz ≤ q) U)) ((fun A : Nat → Prop => va_Qi (fun (_ : Int32) (_ : Unit) => False) (fun _ _ => True) A) (fun q => sz ≤ q)) ((fun A : Nat → Prop => vx_X (fun _ : Unit => True) (fun E _ _ => E = "java/lang/IndexOutOfBoundsException") A) (fun q => sz ≤ q)) 1 6 (fun q => sz ≤ q) := by
  refine en_th (cc := cX0_measuredBy) (maxL := 2) (ret := (some .int)) _ _ (fun A : Nat → Prop => va_Qi (fun (_ : Int32) (_ : Unit) => False) (fun _ _ => True) A) (fun A : Nat → Prop => vx_X (fun _ : Unit => True) (fun E _ _ => E = "java/lang/IndexOutOfBoundsException") A) (by decide) rfl (Nat.le_of_ble_eq_true rfl) ?_
  intro p e s m args below meth c ls A hx hb hml hr hlocks hts hown hto hP hK hE hA hAs hS hl
  have hown : s.vm.findClass RX0 = some m.cls := hown
  have hin : ∀ w ∈ wsX00, w ∈ wsX0_measuredBy := fun _ h9 => List.mem_cons_of_mem _ (List.mem_append_left _ (List.mem_append_right _ h9))
  have hl : lv_has ls 2 [(0, .ref h), (1, .int v0)] := hl
  refine lv_aload_n hx hb dX0_measuredBy_0 rfl (lv_at hl 0 rfl) ?_
  refine lv_iload_n hx hb dX0_measuredBy_1 rfl (lv_at hl 1 rfl) ?_
  refine vx_callv (vx_runV (As := [.int v0]) (rest := []) ⟨hx, hb, hml, hown, hts⟩ (t1_X0_checkBee l htr D cI h a u on s.heap.size v0 hp) (cwV 1 hts gX0_measuredBy_X0_checkBee rfl rfl rfl (by decide +kernel) ⟨Nat.le_of_ble_eq_true rfl, Nat.le_of_ble_eq_true rfl⟩) ⟨th_blind, va_recv (ci := 0) (q0 := 0) hK hP rfl rfl, fun U hU hW => ⟨rfl, by rw [hU], by rw [hU]; exact hP, va_K.moved hW.alike hK, hE.go hS hW hU (fun q h9 => hA q h9)⟩⟩ rfl rfl hl.1 rfl (lv_room (Nat.le_of_ble_eq_true rfl)) dX0_measuredBy_2 ⟨Nat.le_of_ble_eq_true rfl, Nat.le_of_ble_eq_true rfl⟩) hS (fun q _ h9 => hA q h9) (fun q h9 => hA q h9) (fun q _ h9 => hA q h9) (fun E ce q9 w9 t9 H9 l9 ht9 hvm9 _ hE9 hz9 hk9 hS9 hce hcv hcl => ?_) (fun w9 t9 H9 l9 e1 e2 hw9 => hw9.elim)
  exact vx_out (E := E) (fun x hx9 => (hto x hx9).elim) hlocks hce hcv hcl (fun t ht hvm => ⟨(), trivial, hE9, hS9.F ht⟩) hS9.2.2 (Nat.le_of_ble_eq_true rfl) (Nat.le_of_ble_eq_true rfl)
set_option maxHeartbeats 4000000 in
set_option maxRecDepth 100000 in
theorem t1_X0_nextTick (l : Launch) (htr : l.stackTraces = false) (D : va_G) (cI : ClassId) (h : Nat) (a : Nat → Nat) (u : MS) (on : Nat → Int32) (sz : Nat) (v0 : Int32) (hp : inR v0 (mBc u) = false) : vx_Met l yX0_nextTick wsX0_nextTick ({ frames := 7, cells := 1, slots := 6, locals := 103 } : Room) (va_Pc [.ref h, .int v0] (fun U => U.heap.size = sz ∧ va_P D vwCl (pic0 cI h a u on) U.heap ∧ va_K D vwCl [(cI, .int)] U ∧ tE (fun q => sz ≤ q) U)) ((fun A : Nat → Prop => va_Qi (fun (_ : Int32) (_ : Unit) => False) (fun _ _ => True) A) (fun q => sz ≤ q)) ((fun A : Nat → Prop => vx_X (fun _ : Unit => True) (fun E _ _ => E = "java/lang/IndexOutOfBoundsException") A) (fun q => sz ≤ q)) 1 6 (fun q => sz ≤ q) := by
  refine en_th (cc := cX0_nextTick) (maxL := 3) (ret := (some .int)) _ _ (fun A : Nat → Prop => va_Qi (fun (_ : Int32) (_ : Unit) => False) (fun _ _ => True) A) (fun A : Nat → Prop => vx_X (fun _ : Unit => True) (fun E _ _ => E = "java/lang/IndexOutOfBoundsException") A) (by decide) rfl (Nat.le_of_ble_eq_true rfl) ?_
  intro p e s m args below meth c ls A hx hb hml hr hlocks hts hown hto hP hK hE hA hAs hS hl
  have hown : s.vm.findClass RX0 = some m.cls := hown
  have hin : ∀ w ∈ wsX00, w ∈ wsX0_nextTick := fun _ h9 => List.mem_cons_of_mem _ (List.mem_append_left _ (List.mem_append_right _ h9))
  have hl : lv_has ls 3 [(0, .ref h), (1, .int v0)] := hl
  refine lv_aload_n hx hb dX0_nextTick_0 rfl (lv_at hl 0 rfl) ?_
  refine lv_iload_n hx hb dX0_nextTick_1 rfl (lv_at hl 1 rfl) ?_
  refine vx_callv (vx_runV (As := [.int v0]) (rest := []) ⟨hx, hb, hml, hown, hts⟩ (t1_X0_checkBee l htr D cI h a u on s.heap.size v0 hp) (cwV 1 hts gX0_nextTick_X0_checkBee rfl rfl rfl (by decide +kernel) ⟨Nat.le_of_ble_eq_true rfl, Nat.le_of_ble_eq_true rfl⟩) ⟨th_blind, va_recv (ci := 0) (q0 := 0) hK hP rfl rfl, fun U hU hW => ⟨rfl, by rw [hU], by rw [hU]; exact hP, va_K.moved hW.alike hK, hE.go hS hW hU (fun q h9 => hA q h9)⟩⟩ rfl rfl hl.1 rfl (lv_room (Nat.le_of_ble_eq_true rfl)) dX0_nextTick_2 ⟨Nat.le_of_ble_eq_true rfl, Nat.le_of_ble_eq_true rfl⟩) hS (fun q _ h9 => hA q h9) (fun q h9 => hA q h9) (fun q _ h9 => hA q h9) (fun E ce q9 w9 t9 H9 l9 ht9 hvm9 _ hE9 hz9 hk9 hS9 hce hcv hcl => ?_) (fun w9 t9 H9 l9 e1 e2 hw9 => hw9.elim)
  exact vx_out (E := E) (fun x hx9 => (hto x hx9).elim) hlocks hce hcv hcl (fun t ht hvm => ⟨(), trivial, hE9, hS9.F ht⟩) hS9.2.2 (Nat.le_of_ble_eq_true rfl) (Nat.le_of_ble_eq_true rfl)
set_option maxHeartbeats 4000000 in
set_option maxRecDepth 100000 in
theorem t1_X0_errorOf (l : Launch) (htr : l.stackTraces = false) (D : va_G) (cI : ClassId) (h : Nat) (a : Nat → Nat) (u : MS) (on : Nat → Int32) (sz : Nat) (v0 : Int32) (hp : inR v0 (mBc u) = false) : vx_Met l yX0_errorOf wsX0_errorOf ({ frames := 8, cells := 1, slots := 6, locals := 124 } : Room) (va_Pc [.ref h, .int v0] (fun U => U.heap.size = sz ∧ va_P D vwCl (pic0 cI h a u on) U.heap ∧ va_K D vwCl [(cI, .int)] U ∧ tE (fun q => sz ≤ q) U)) ((fun A : Nat → Prop => va_Qi (fun (_ : Int32) (_ : Unit) => False) (fun _ _ => True) A) (fun q => sz ≤ q)) ((fun A : Nat → Prop => vx_X (fun _ : Unit => True) (fun E _ _ => E = "java/lang/IndexOutOfBoundsException") A) (fun q => sz ≤ q)) 1 6 (fun q => sz ≤ q) := by
  refine en_th (cc := cX0_errorOf) (maxL := 2) (ret := (some .int)) _ _ (fun A : Nat → Prop => va_Qi (fun (_ : Int32) (_ : Unit) => False) (fun _ _ => True) A) (fun A : Nat → Prop => vx_X (fun _ : Unit => True) (fun E _ _ => E = "java/lang/IndexOutOfBoundsException") A) (by decide) rfl (Nat.le_of_ble_eq_true rfl) ?_
  intro p e s m args below meth c ls A hx hb hml hr hlocks hts hown hto hP hK hE hA hAs hS hl
  have hown : s.vm.findClass RX0 = some m.cls := hown
  have hin : ∀ w ∈ wsX00, w ∈ wsX0_errorOf := fun _ h9 => List.mem_cons_of_mem _ (List.mem_append_left _ (List.mem_append_right _ h9))
  have hl : lv_has ls 2 [(0, .ref h), (1, .int v0)] := hl
  refine lv_aload_n hx hb dX0_errorOf_0 rfl (lv_at hl 0 rfl) ?_
  refine lv_iload_n hx hb dX0_errorOf_1 rfl (lv_at hl 1 rfl) ?_
  refine vx_calli (vx_runV (As := [.int v0]) (rest := []) ⟨hx, hb, hml, hown, hts⟩ (t1_X0_measuredBy l htr D cI h a u on s.heap.size v0 hp) (cwV 1 hts gX0_errorOf_X0_measuredBy rfl rfl rfl (by decide +kernel) ⟨Nat.le_of_ble_eq_true rfl, Nat.le_of_ble_eq_true rfl⟩) ⟨th_blind, va_recv (ci := 0) (q0 := 0) hK hP rfl rfl, fun U hU hW => ⟨rfl, by rw [hU], by rw [hU]; exact hP, va_K.moved hW.alike hK, hE.go hS hW hU (fun q h9 => hA q h9)⟩⟩ rfl rfl hl.1 rfl (lv_room (Nat.le_of_ble_eq_true rfl)) dX0_errorOf_2 ⟨Nat.le_of_ble_eq_true rfl, Nat.le_of_ble_eq_true rfl⟩) hS (fun q _ h9 => hA q h9) (fun q h9 => hA q h9) (fun q _ h9 => hA q h9) (fun E ce q9 w9 t9 H9 l9 ht9 hvm9 _ hE9 hz9 hk9 hS9 hce hcv hcl => ?_) (fun r9 w9 t9 H9 l9 e1 e2 hw9 => hw9.elim)
  exact vx_out (E := E) (fun x hx9 => (hto x hx9).elim) hlocks hce hcv hcl (fun t ht hvm => ⟨(), trivial, hE9, hS9.F ht⟩) hS9.2.2 (Nat.le_of_ble_eq_true rfl) (Nat.le_of_ble_eq_true rfl)
set_option maxHeartbeats 4000000 in
set_option maxRecDepth 100000 in
theorem t1_X0_minuteOfShadow (l : Launch) (htr : l.stackTraces = false) (D : va_G) (cI : ClassId) (h : Nat) (a : Nat → Nat) (u : MS) (on : Nat → Int32) (sz : Nat) (v0 : Int32) (len : Int32) (hp : inR v0 (mSc u) = false) : vx_Met l yX0_minuteOfShadow wsX0_minuteOfShadow ({ frames := 7, cells := 1, slots := 6, locals := 103 } : Room) (va_Pc [.ref h, .int v0, .int len] (fun U => U.heap.size = sz ∧ va_P D vwCl (pic0 cI h a u on) U.heap ∧ va_K D vwCl [(cI, .int)] U ∧ tE (fun q => sz ≤ q) U)) ((fun A : Nat → Prop => va_Qi (fun (_ : Int32) (_ : Unit) => False) (fun _ _ => True) A) (fun q => sz ≤ q)) ((fun A : Nat → Prop => vx_X (fun _ : Unit => True) (fun E _ _ => E = "java/lang/IndexOutOfBoundsException") A) (fun q => sz ≤ q)) 1 6 (fun q => sz ≤ q) := by
  refine en_th (cc := cX0_minuteOfShadow) (maxL := 4) (ret := (some .int)) _ _ (fun A : Nat → Prop => va_Qi (fun (_ : Int32) (_ : Unit) => False) (fun _ _ => True) A) (fun A : Nat → Prop => vx_X (fun _ : Unit => True) (fun E _ _ => E = "java/lang/IndexOutOfBoundsException") A) (by decide) rfl (Nat.le_of_ble_eq_true rfl) ?_
  intro p e s m args below meth c ls A hx hb hml hr hlocks hts hown hto hP hK hE hA hAs hS hl
  have hown : s.vm.findClass RX0 = some m.cls := hown
  have hin : ∀ w ∈ wsX00, w ∈ wsX0_minuteOfShadow := fun _ h9 => List.mem_cons_of_mem _ (List.mem_append_left _ (List.mem_append_right _ h9))
  have hl : lv_has ls 4 [(0, .ref h), (1, .int v0), (2, .int len)] := hl
  refine lv_aload_n hx hb dX0_minuteOfShadow_0 rfl (lv_at hl 0 rfl) ?_
  refine lv_iload_n hx hb dX0_minuteOfShadow_1 rfl (lv_at hl 1 rfl) ?_
  refine vx_callv (vx_runV (As := [.int v0]) (rest := []) ⟨hx, hb, hml, hown, hts⟩ (t1_X0_checkStick l htr D cI h a u on s.heap.size v0 hp) (cwV 1 hts gX0_minuteOfShadow_X0_checkStick rfl rfl rfl (by decide +kernel) ⟨Nat.le_of_ble_eq_true rfl, Nat.le_of_ble_eq_true rfl⟩) ⟨th_blind, va_recv (ci := 0) (q0 := 0) hK hP rfl rfl, fun U hU hW => ⟨rfl, by rw [hU], by rw [hU]; exact hP, va_K.moved hW.alike hK, hE.go hS hW hU (fun q h9 => hA q h9)⟩⟩ rfl rfl hl.1 rfl (lv_room (Nat.le_of_ble_eq_true rfl)) dX0_minuteOfShadow_2 ⟨Nat.le_of_ble_eq_true rfl, Nat.le_of_ble_eq_true rfl⟩) hS (fun q _ h9 => hA q h9) (fun q h9 => hA q h9) (fun q _ h9 => hA q h9) (fun E ce q9 w9 t9 H9 l9 ht9 hvm9 _ hE9 hz9 hk9 hS9 hce hcv hcl => ?_) (fun w9 t9 H9 l9 e1 e2 hw9 => hw9.elim)
  exact vx_out (E := E) (fun x hx9 => (hto x hx9).elim) hlocks hce hcv hcl (fun t ht hvm => ⟨(), trivial, hE9, hS9.F ht⟩) hS9.2.2 (Nat.le_of_ble_eq_true rfl) (Nat.le_of_ble_eq_true rfl)
set_option maxHeartbeats 4000000 in
set_option maxRecDepth 100000 in
theorem t1_X0_shadowAt (l : Launch) (htr : l.stackTraces = false) (D : va_G) (cI : ClassId) (h : Nat) (a : Nat → Nat) (u : MS) (on : Nat → Int32) (sz : Nat) (v0 : Int32) (v1 : Int32) (hp : inR v0 (mSc u) = false) : vx_Met l yX0_shadowAt wsX0_shadowAt ({ frames := 7, cells := 1, slots := 6, locals := 103 } : Room) (va_Pc [.ref h, .int v0, .int v1] (fun U => U.heap.size = sz ∧ va_P D vwCl (pic0 cI h a u on) U.heap ∧ va_K D vwCl [(cI, .int)] U ∧ tE (fun q => sz ≤ q) U)) ((fun A : Nat → Prop => va_Qi (fun (_ : Int32) (_ : Unit) => False) (fun _ _ => True) A) (fun q => sz ≤ q)) ((fun A : Nat → Prop => vx_X (fun _ : Unit => True) (fun E _ _ => E = "java/lang/IndexOutOfBoundsException") A) (fun q => sz ≤ q)) 1 6 (fun q => sz ≤ q) := by
  refine en_th (cc := cX0_shadowAt) (maxL := 3) (ret := (some .int)) _ _ (fun A : Nat → Prop => va_Qi (fun (_ : Int32) (_ : Unit) => False) (fun _ _ => True) A) (fun A : Nat → Prop => vx_X (fun _ : Unit => True) (fun E _ _ => E = "java/lang/IndexOutOfBoundsException") A) (by decide) rfl (Nat.le_of_ble_eq_true rfl) ?_
  intro p e s m args below meth c ls A hx hb hml hr hlocks hts hown hto hP hK hE hA hAs hS hl
  have hown : s.vm.findClass RX0 = some m.cls := hown
  have hin : ∀ w ∈ wsX00, w ∈ wsX0_shadowAt := fun _ h9 => List.mem_cons_of_mem _ (List.mem_append_left _ (List.mem_append_left _ (List.mem_append_right _ h9)))
  have hl : lv_has ls 3 [(0, .ref h), (1, .int v0), (2, .int v1)] := hl
  refine lv_aload_n hx hb dX0_shadowAt_0 rfl (lv_at hl 0 rfl) ?_
  refine lv_iload_n hx hb dX0_shadowAt_1 rfl (lv_at hl 1 rfl) ?_
  refine vx_callv (vx_runV (As := [.int v0]) (rest := []) ⟨hx, hb, hml, hown, hts⟩ (t1_X0_checkStick l htr D cI h a u on s.heap.size v0 hp) (cwV 1 hts gX0_shadowAt_X0_checkStick rfl rfl rfl (by decide +kernel) ⟨Nat.le_of_ble_eq_true rfl, Nat.le_of_ble_eq_true rfl⟩) ⟨th_blind, va_recv (ci := 0) (q0 := 0) hK hP rfl rfl, fun U hU hW => ⟨rfl, by rw [hU], by rw [hU]; exact hP, va_K.moved hW.alike hK, hE.go hS hW hU (fun q h9 => hA q h9)⟩⟩ rfl rfl hl.1 rfl (lv_room (Nat.le_of_ble_eq_true rfl)) dX0_shadowAt_2 ⟨Nat.le_of_ble_eq_true rfl, Nat.le_of_ble_eq_true rfl⟩) hS (fun q _ h9 => hA q h9) (fun q h9 => hA q h9) (fun q _ h9 => hA q h9) (fun E ce q9 w9 t9 H9 l9 ht9 hvm9 _ hE9 hz9 hk9 hS9 hce hcv hcl => ?_) (fun w9 t9 H9 l9 e1 e2 hw9 => hw9.elim)
  exact vx_out (E := E) (fun x hx9 => (hto x hx9).elim) hlocks hce hcv hcl (fun t ht hvm => ⟨(), trivial, hE9, hS9.F ht⟩) hS9.2.2 (Nat.le_of_ble_eq_true rfl) (Nat.le_of_ble_eq_true rfl)
set_option maxHeartbeats 4000000 in
set_option maxRecDepth 100000 in
theorem t2_X0_shadowAt (l : Launch) (htr : l.stackTraces = false) (D : va_G) (cI : ClassId) (h : Nat) (a : Nat → Nat) (u : MS) (on : Nat → Int32) (sz : Nat) (sk : Nat) (v1 : Int32) (hI : Inv u) (hsk : sk < mSc u) (hp : inR v1 360 = false) : vx_Met l yX0_shadowAt wsX0_shadowAt ({ frames := 7, cells := 1, slots := 6, locals := 103 } : Room) (va_Pc [.ref h, .int (nI sk), .int v1] (fun U => U.heap.size = sz ∧ va_P D vwCl (pic0 cI h a u on) U.heap ∧ va_K D vwCl [(cI, .int)] U ∧ tE (fun q => sz ≤ q) U)) ((fun A : Nat → Prop => va_Qi (fun (_ : Int32) (_ : Unit) => False) (fun _ _ => True) A) (fun q => sz ≤ q)) ((fun A : Nat → Prop => vx_X (fun _ : Unit => True) (fun E _ _ => E = "java/lang/IllegalArgumentException") A) (fun q => sz ≤ q)) 1 6 (fun q => sz ≤ q) := by
  refine en_th (cc := cX0_shadowAt) (maxL := 3) (ret := (some .int)) _ _ (fun A : Nat → Prop => va_Qi (fun (_ : Int32) (_ : Unit) => False) (fun _ _ => True) A) (fun A : Nat → Prop => vx_X (fun _ : Unit => True) (fun E _ _ => E = "java/lang/IllegalArgumentException") A) (by decide) rfl (Nat.le_of_ble_eq_true rfl) ?_
  intro p e s m args below meth c ls A hx hb hml hr hlocks hts hown hto hP hK hE hA hAs hS hl
  have hown : s.vm.findClass RX0 = some m.cls := hown
  have hin : ∀ w ∈ wsX00, w ∈ wsX0_shadowAt := fun _ h9 => List.mem_cons_of_mem _ (List.mem_append_left _ (List.mem_append_left _ (List.mem_append_right _ h9)))
  have hl : lv_has ls 3 [(0, .ref h), (1, .int (nI sk)), (2, .int v1)] := hl
  obtain ⟨hIa, hIb, hIc, hId, hIe, hIf, hIg, hIh, hIi, hIj⟩ := id hI
  refine lv_aload_n hx hb dX0_shadowAt_0 rfl (lv_at hl 0 rfl) ?_
  refine lv_iload_n hx hb dX0_shadowAt_1 rfl (lv_at hl 1 rfl) ?_
  refine va_csv (W.runV (As := [.int (nI sk)]) (rest := []) ⟨hx, hb, hml, hown, hts⟩ (c_X0_checkStick l D cI h a u on sk hI (by omega)) (cwV 1 hts gX0_shadowAt_X0_checkStick rfl rfl rfl (by decide +kernel) ⟨Nat.le_of_ble_eq_true rfl, Nat.le_of_ble_eq_true rfl⟩) (pu_pre hK hP rfl rfl) rfl rfl hl.1 rfl (lv_room (Nat.le_of_ble_eq_true rfl)) dX0_shadowAt_2 ⟨Nat.le_of_ble_eq_true rfl, Nat.le_of_ble_eq_true rfl⟩) (fun _ => ?_)
  refine lv_aload_n hx hb dX0_shadowAt_5 rfl (lv_at hl 0 rfl) ?_
  refine lv_iload_n hx hb dX0_shadowAt_6 rfl (lv_at hl 2 rfl) ?_
  refine vx_callv (vx_runV (As := [.int v1]) (rest := []) ⟨hx, hb, hml, hown, hts⟩ (t1_X0_checkMinute l htr D cI h a u on s.heap.size v1 hp) (cwV 1 hts gX0_shadowAt_X0_checkMinute rfl rfl rfl (by decide +kernel) ⟨Nat.le_of_ble_eq_true rfl, Nat.le_of_ble_eq_true rfl⟩) ⟨th_blind, va_recv (ci := 0) (q0 := 0) hK hP rfl rfl, fun U hU hW => ⟨rfl, by rw [hU], by rw [hU]; exact hP, va_K.moved hW.alike hK, hE.go hS hW hU (fun q h9 => hA q h9)⟩⟩ rfl rfl hl.1 rfl (lv_room (Nat.le_of_ble_eq_true rfl)) dX0_shadowAt_7 ⟨Nat.le_of_ble_eq_true rfl, Nat.le_of_ble_eq_true rfl⟩) hS (fun q _ h9 => hA q h9) (fun q h9 => hA q h9) (fun q _ h9 => hA q h9) (fun E ce q9 w9 t9 H9 l9 ht9 hvm9 _ hE9 hz9 hk9 hS9 hce hcv hcl => ?_) (fun w9 t9 H9 l9 e1 e2 hw9 => hw9.elim)
  exact vx_out (E := E) (fun x hx9 => (hto x hx9).elim) hlocks hce hcv hcl (fun t ht hvm => ⟨(), trivial, hE9, hS9.F ht⟩) hS9.2.2 (Nat.le_of_ble_eq_true rfl) (Nat.le_of_ble_eq_true rfl)
set_option maxHeartbeats 4000000 in
set_option maxRecDepth 100000 in
theorem t1_X0_addStick (l : Launch) (htr : l.stackTraces = false) (D : va_G) (cI : ClassId) (h : Nat) (a : Nat → Nat) (u : MS) (on : Nat → Int32) (sz : Nat) (v0 : Int32) (hp : isB v0 (nI 1) (nI 30) = false) : vx_Met l yX0_addStick wsX0_addStick ({ frames := 6, cells := 1, slots := 6, locals := 82 } : Room) (va_Pc [.ref h, .int v0] (fun U => U.heap.size = sz ∧ va_P D vwCl (pic0 cI h a u on) U.heap ∧ va_K D vwCl [(cI, .int)] U ∧ tE (fun q => sz ≤ q) U)) ((fun A : Nat → Prop => va_Qi (fun (_ : Int32) (_ : Unit) => False) (fun _ _ => True) A) (fun q => sz ≤ q)) ((fun A : Nat → Prop => vx_X (fun _ : Unit => True) (fun E _ _ => E = "java/lang/IllegalArgumentException") A) (fun q => sz ≤ q)) 1 6 (fun q => sz ≤ q) := by
  refine en_th (cc := cX0_addStick) (maxL := 3) (ret := (some .int)) _ _ (fun A : Nat → Prop => va_Qi (fun (_ : Int32) (_ : Unit) => False) (fun _ _ => True) A) (fun A : Nat → Prop => vx_X (fun _ : Unit => True) (fun E _ _ => E = "java/lang/IllegalArgumentException") A) (by decide) rfl (Nat.le_of_ble_eq_true rfl) ?_
  intro p e s m args below meth c ls A hx hb hml hr hlocks hts hown hto hP hK hE hA hAs hS hl
  have hown : s.vm.findClass RX0 = some m.cls := hown
  have hin : ∀ w ∈ wsX00, w ∈ wsX0_addStick := fun _ h9 => List.mem_cons_of_mem _ (List.mem_append_left _ (List.mem_append_left _ (List.mem_append_right _ h9)))
  have hl : lv_has ls 3 [(0, .ref h), (1, .int v0)] := hl
  refine lv_iload_n hx hb dX0_addStick_0 rfl (lv_at hl 1 rfl) ?_
  refine lv_iconst (v := nI 1) hx hb dX0_addStick_1 (by decide +kernel) ?_
  refine lv_icmp_lt (tgt := 11) hx hb dX0_addStick_2 (by decide) (fun c_2 => ?_) (fun c_2 => ?_)
  · skip
    obtain ⟨sa9, hstr⟩ := hE.1 (43, "a height is 1 to 30") (by decide +kernel)
    exact vx_throwS hx hb htr (cls := "java/lang/IllegalArgumentException") (text := "a height is 1 to 30") (sa := sa9) (names := ["java/lang/RuntimeException", "java/lang/Exception"]) hown fit_1 fit_n (hts (.classLink RX0 41 "java/lang/IllegalArgumentException") (List.mem_of_getElem? (i := 1) rfl)) (hts (.initialized "java/lang/IllegalArgumentException") (List.mem_of_getElem? (i := 2) rfl)) hstr (vx_hat (fun w h9 => hts w (List.mem_cons_of_mem _ (List.mem_append_left _ (List.mem_append_right _ h9)))) nb_41 (hE.ws (by decide +kernel))) ot_41 hE.2.1 hE.2.2.1 hS (hl.1.trans hml.symm) dX0_addStick_11 dX0_addStick_14 dX0_addStick_15 dX0_addStick_17 dX0_addStick_20 (fun x hx9 => (hto x hx9).elim) (Nat.le_of_ble_eq_true rfl) (Nat.le_of_ble_eq_true rfl) (Nat.le_of_ble_eq_true rfl) (Nat.le_of_ble_eq_true rfl) hlocks (fun t hvm hz hk => ⟨(), trivial, rfl, hz, fun q h1 _ => hk q h1⟩) hS.2.2 (Nat.le_of_ble_eq_true rfl) (Nat.le_of_ble_eq_true rfl)
  · skip
    refine lv_iload_n hx hb dX0_addStick_5 rfl (lv_at hl 1 rfl) ?_
    refine lv_bipush (v := nI 30) hx hb dX0_addStick_6 (by decide +kernel) ?_
    refine lv_icmp_le (tgt := 21) hx hb dX0_addStick_8 (by decide) (fun c_8 => ?_) (fun c_8 => ?_)
    · skip
      exact (of_decide_eq_false hp ⟨leI c_2, c_8⟩).elim
    · skip
      obtain ⟨sa9, hstr⟩ := hE.1 (43, "a height is 1 to 30") (by decide +kernel)
      exact vx_throwS hx hb htr (cls := "java/lang/IllegalArgumentException") (text := "a height is 1 to 30") (sa := sa9) (names := ["java/lang/RuntimeException", "java/lang/Exception"]) hown fit_1 fit_n (hts (.classLink RX0 41 "java/lang/IllegalArgumentException") (List.mem_of_getElem? (i := 1) rfl)) (hts (.initialized "java/lang/IllegalArgumentException") (List.mem_of_getElem? (i := 2) rfl)) hstr (vx_hat (fun w h9 => hts w (List.mem_cons_of_mem _ (List.mem_append_left _ (List.mem_append_right _ h9)))) nb_41 (hE.ws (by decide +kernel))) ot_41 hE.2.1 hE.2.2.1 hS (hl.1.trans hml.symm) dX0_addStick_11 dX0_addStick_14 dX0_addStick_15 dX0_addStick_17 dX0_addStick_20 (fun x hx9 => (hto x hx9).elim) (Nat.le_of_ble_eq_true rfl) (Nat.le_of_ble_eq_true rfl) (Nat.le_of_ble_eq_true rfl) (Nat.le_of_ble_eq_true rfl) hlocks (fun t hvm hz hk => ⟨(), trivial, rfl, hz, fun q h1 _ => hk q h1⟩) hS.2.2 (Nat.le_of_ble_eq_true rfl) (Nat.le_of_ble_eq_true rfl)
set_option maxHeartbeats 4000000 in
set_option maxRecDepth 100000 in
theorem t2_X0_addStick (l : Launch) (htr : l.stackTraces = false) (D : va_G) (cI : ClassId) (h : Nat) (a : Nat → Nat) (u : MS) (on : Nat → Int32) (sz : Nat) (pp : Nat) (hp : 1 ≤ pp ∧ pp ≤ 30) (hs : mSc u = 4) : vx_Met l yX0_addStick wsX0_addStick ({ frames := 6, cells := 1, slots := 6, locals := 82 } : Room) (va_Pc [.ref h, .int (nI pp)] (fun U => U.heap.size = sz ∧ va_P D vwCl (pic0 cI h a u on) U.heap ∧ va_K D vwCl [(cI, .int)] U ∧ tE (fun q => sz ≤ q) U)) ((fun A : Nat → Prop => va_Qi (fun (_ : Int32) (_ : Unit) => False) (fun _ _ => True) A) (fun q => sz ≤ q)) ((fun A : Nat → Prop => vx_X (fun _ : Unit => True) (fun E _ _ => E = "java/lang/IllegalStateException") A) (fun q => sz ≤ q)) 1 6 (fun q => sz ≤ q) := by
  refine en_th (cc := cX0_addStick) (maxL := 3) (ret := (some .int)) _ _ (fun A : Nat → Prop => va_Qi (fun (_ : Int32) (_ : Unit) => False) (fun _ _ => True) A) (fun A : Nat → Prop => vx_X (fun _ : Unit => True) (fun E _ _ => E = "java/lang/IllegalStateException") A) (by decide) rfl (Nat.le_of_ble_eq_true rfl) ?_
  intro p e s m args below meth c ls A hx hb hml hr hlocks hts hown hto hP hK hE hA hAs hS hl
  have hown : s.vm.findClass RX0 = some m.cls := hown
  have hin : ∀ w ∈ wsX00, w ∈ wsX0_addStick := fun _ h9 => List.mem_cons_of_mem _ (List.mem_append_left _ (List.mem_append_left _ (List.mem_append_right _ h9)))
  have hl : lv_has ls 3 [(0, .ref h), (1, .int (nI pp))] := hl
  refine lv_iload_n hx hb dX0_addStick_0 rfl (lv_at hl 1 rfl) ?_
  refine lv_iconst (v := nI 1) hx hb dX0_addStick_1 (by decide +kernel) ?_
  refine lv_icmp_lt (tgt := 11) hx hb dX0_addStick_2 (by decide) (fun c_2 => ?_) (fun c_2 => ?_)
  · skip
    replace c_2 : pp < 1 := ltN c_2
    exact (by omega : False).elim
  · skip
    replace c_2 : 1 ≤ pp := nltN c_2
    refine lv_iload_n hx hb dX0_addStick_5 rfl (lv_at hl 1 rfl) ?_
    refine lv_bipush (v := nI 30) hx hb dX0_addStick_6 (by decide +kernel) ?_
    refine lv_icmp_le (tgt := 21) hx hb dX0_addStick_8 (by decide) (fun c_8 => ?_) (fun c_8 => ?_)
    · skip
      replace c_8 : pp ≤ 30 := leN c_8
      refine lv_aload_n hx hb dX0_addStick_21 rfl (lv_at hl 0 rfl) ?_
      refine va_get (D := D) (ci := 0) (v := .int (nI (mSc u))) (C := RX0) (T := TX0) (N := 17) hx hb hts hin hown hK hP 0 rfl rfl 1 (by decide) (hts (.fieldLink RX0 48 "AfternoonMeter" "stickCount" "I") (List.mem_of_getElem? (i := 5) rfl)) (fun _ h9 => h9) rfl dX0_addStick_22 ?_
      refine lv_iconst (v := nI 4) hx hb dX0_addStick_25 (by decide +kernel) ?_
      refine lv_icmp_lt (tgt := 39) hx hb dX0_addStick_26 (by decide) (fun c_26 => ?_) (fun c_26 => ?_)
      · skip
        replace c_26 : (mSc u) < 4 := ltN c_26
        exact (by omega : False).elim
      · skip
        replace c_26 : 4 ≤ (mSc u) := nltN c_26
        obtain ⟨sa9, hstr⟩ := hE.1 (53, "there are 4 sticks") (by decide +kernel)
        exact vx_throwS hx hb htr (cls := "java/lang/IllegalStateException") (text := "there are 4 sticks") (sa := sa9) (names := ["java/lang/RuntimeException", "java/lang/Exception"]) hown fit_2 fit_n (hts (.classLink RX0 51 "java/lang/IllegalStateException") (List.mem_of_getElem? (i := 3) rfl)) (hts (.initialized "java/lang/IllegalStateException") (List.mem_of_getElem? (i := 4) rfl)) hstr (vx_hat (fun w h9 => hts w (List.mem_cons_of_mem _ (List.mem_append_right _ h9))) nb_51 (hE.ws (by decide +kernel))) ot_51 hE.2.1 hE.2.2.1 hS (hl.1.trans hml.symm) dX0_addStick_29 dX0_addStick_32 dX0_addStick_33 dX0_addStick_35 dX0_addStick_38 (fun x hx9 => (hto x hx9).elim) (Nat.le_of_ble_eq_true rfl) (Nat.le_of_ble_eq_true rfl) (Nat.le_of_ble_eq_true rfl) (Nat.le_of_ble_eq_true rfl) hlocks (fun t hvm hz hk => ⟨(), trivial, rfl, hz, fun q h1 _ => hk q h1⟩) hS.2.2 (Nat.le_of_ble_eq_true rfl) (Nat.le_of_ble_eq_true rfl)
    · skip
      replace c_8 : 30 < pp := nleN c_8
      exact (by omega : False).elim
set_option maxHeartbeats 4000000 in
set_option maxRecDepth 100000 in
theorem t1_X0_addNap (l : Launch) (htr : l.stackTraces = false) (D : va_G) (cI : ClassId) (h : Nat) (a : Nat → Nat) (u : MS) (on : Nat → Int32) (sz : Nat) (v0 : Int32) (v1 : Int32) (hp : vN v0 v1 = false) : vx_Met l yX0_addNap wsX0_addNap ({ frames := 6, cells := 1, slots := 6, locals := 82 } : Room) (va_Pc [.ref h, .int v0, .int v1] (fun U => U.heap.size = sz ∧ va_P D vwCl (pic0 cI h a u on) U.heap ∧ va_K D vwCl [(cI, .int)] U ∧ tE (fun q => sz ≤ q) U)) ((fun A : Nat → Prop => va_Qi (fun (_ : Int32) (_ : Unit) => False) (fun _ _ => True) A) (fun q => sz ≤ q)) ((fun A : Nat → Prop => vx_X (fun _ : Unit => True) (fun E _ _ => E = "java/lang/IllegalArgumentException") A) (fun q => sz ≤ q)) 1 6 (fun q => sz ≤ q) := by
  refine en_th (cc := cX0_addNap) (maxL := 4) (ret := (some .int)) _ _ (fun A : Nat → Prop => va_Qi (fun (_ : Int32) (_ : Unit) => False) (fun _ _ => True) A) (fun A : Nat → Prop => vx_X (fun _ : Unit => True) (fun E _ _ => E = "java/lang/IllegalArgumentException") A) (by decide) rfl (Nat.le_of_ble_eq_true rfl) ?_
  intro p e s m args below meth c ls A hx hb hml hr hlocks hts hown hto hP hK hE hA hAs hS hl
  have hown : s.vm.findClass RX0 = some m.cls := hown
  have hin : ∀ w ∈ wsX00, w ∈ wsX0_addNap := fun _ h9 => List.mem_cons_of_mem _ (List.mem_append_left _ (List.mem_append_left _ (List.mem_append_right _ h9)))
  have hl : lv_has ls 4 [(0, .ref h), (1, .int v0), (2, .int v1)] := hl
  refine lv_iload_n hx hb dX0_addNap_0 rfl (lv_at hl 1 rfl) ?_
  refine lv_if_lt (tgt := 16) hx hb dX0_addNap_1 (by decide) (fun c_1 => ?_) (fun c_1 => ?_)
  · skip
    obtain ⟨sa9, hstr⟩ := hE.1 (56, "a nap goes from a minute, 0 or later, to a greater one, 360 at most") (by decide +kernel)
    exact vx_throwS hx hb htr (cls := "java/lang/IllegalArgumentException") (text := "a nap goes from a minute, 0 or later, to a greater one, 360 at most") (sa := sa9) (names := ["java/lang/RuntimeException", "java/lang/Exception"]) hown fit_1 fit_n (hts (.classLink RX0 41 "java/lang/IllegalArgumentException") (List.mem_of_getElem? (i := 1) rfl)) (hts (.initialized "java/lang/IllegalArgumentException") (List.mem_of_getElem? (i := 2) rfl)) hstr (vx_hat (fun w h9 => hts w (List.mem_cons_of_mem _ (List.mem_append_left _ (List.mem_append_right _ h9)))) nb_41 (hE.ws (by decide +kernel))) ot_41 hE.2.1 hE.2.2.1 hS (hl.1.trans hml.symm) dX0_addNap_16 dX0_addNap_19 dX0_addNap_20 dX0_addNap_22 dX0_addNap_25 (fun x hx9 => (hto x hx9).elim) (Nat.le_of_ble_eq_true rfl) (Nat.le_of_ble_eq_true rfl) (Nat.le_of_ble_eq_true rfl) (Nat.le_of_ble_eq_true rfl) hlocks (fun t hvm hz hk => ⟨(), trivial, rfl, hz, fun q h1 _ => hk q h1⟩) hS.2.2 (Nat.le_of_ble_eq_true rfl) (Nat.le_of_ble_eq_true rfl)
  · skip
    refine lv_iload_n hx hb dX0_addNap_4 rfl (lv_at hl 2 rfl) ?_
    refine lv_sipush (v := nI 360) hx hb dX0_addNap_5 (by decide +kernel) ?_
    refine lv_icmp_gt (tgt := 16) hx hb dX0_addNap_8 (by decide) (fun c_8 => ?_) (fun c_8 => ?_)
    · skip
      obtain ⟨sa9, hstr⟩ := hE.1 (56, "a nap goes from a minute, 0 or later, to a greater one, 360 at most") (by decide +kernel)
      exact vx_throwS hx hb htr (cls := "java/lang/IllegalArgumentException") (text := "a nap goes from a minute, 0 or later, to a greater one, 360 at most") (sa := sa9) (names := ["java/lang/RuntimeException", "java/lang/Exception"]) hown fit_1 fit_n (hts (.classLink RX0 41 "java/lang/IllegalArgumentException") (List.mem_of_getElem? (i := 1) rfl)) (hts (.initialized "java/lang/IllegalArgumentException") (List.mem_of_getElem? (i := 2) rfl)) hstr (vx_hat (fun w h9 => hts w (List.mem_cons_of_mem _ (List.mem_append_left _ (List.mem_append_right _ h9)))) nb_41 (hE.ws (by decide +kernel))) ot_41 hE.2.1 hE.2.2.1 hS (hl.1.trans hml.symm) dX0_addNap_16 dX0_addNap_19 dX0_addNap_20 dX0_addNap_22 dX0_addNap_25 (fun x hx9 => (hto x hx9).elim) (Nat.le_of_ble_eq_true rfl) (Nat.le_of_ble_eq_true rfl) (Nat.le_of_ble_eq_true rfl) (Nat.le_of_ble_eq_true rfl) hlocks (fun t hvm hz hk => ⟨(), trivial, rfl, hz, fun q h1 _ => hk q h1⟩) hS.2.2 (Nat.le_of_ble_eq_true rfl) (Nat.le_of_ble_eq_true rfl)
    · skip
      refine lv_iload_n hx hb dX0_addNap_11 rfl (lv_at hl 2 rfl) ?_
      refine lv_iload_n hx hb dX0_addNap_12 rfl (lv_at hl 1 rfl) ?_
      refine lv_icmp_gt (tgt := 26) hx hb dX0_addNap_13 (by decide) (fun c_13 => ?_) (fun c_13 => ?_)
      · skip
        exact (of_decide_eq_false hp ⟨leI c_1, leI c_8, c_13⟩).elim
      · skip
        obtain ⟨sa9, hstr⟩ := hE.1 (56, "a nap goes from a minute, 0 or later, to a greater one, 360 at most") (by decide +kernel)
        exact vx_throwS hx hb htr (cls := "java/lang/IllegalArgumentException") (text := "a nap goes from a minute, 0 or later, to a greater one, 360 at most") (sa := sa9) (names := ["java/lang/RuntimeException", "java/lang/Exception"]) hown fit_1 fit_n (hts (.classLink RX0 41 "java/lang/IllegalArgumentException") (List.mem_of_getElem? (i := 1) rfl)) (hts (.initialized "java/lang/IllegalArgumentException") (List.mem_of_getElem? (i := 2) rfl)) hstr (vx_hat (fun w h9 => hts w (List.mem_cons_of_mem _ (List.mem_append_left _ (List.mem_append_right _ h9)))) nb_41 (hE.ws (by decide +kernel))) ot_41 hE.2.1 hE.2.2.1 hS (hl.1.trans hml.symm) dX0_addNap_16 dX0_addNap_19 dX0_addNap_20 dX0_addNap_22 dX0_addNap_25 (fun x hx9 => (hto x hx9).elim) (Nat.le_of_ble_eq_true rfl) (Nat.le_of_ble_eq_true rfl) (Nat.le_of_ble_eq_true rfl) (Nat.le_of_ble_eq_true rfl) hlocks (fun t hvm hz hk => ⟨(), trivial, rfl, hz, fun q h1 _ => hk q h1⟩) hS.2.2 (Nat.le_of_ble_eq_true rfl) (Nat.le_of_ble_eq_true rfl)
set_option maxHeartbeats 4000000 in
set_option maxRecDepth 100000 in
theorem t2_X0_addNap (l : Launch) (htr : l.stackTraces = false) (D : va_G) (cI : ClassId) (h : Nat) (a : Nat → Nat) (u : MS) (on : Nat → Int32) (sz : Nat) (pp : Nat) (qq : Nat) (hp : pp < qq ∧ qq ≤ 360) (hs : mNc u = 8) : vx_Met l yX0_addNap wsX0_addNap ({ frames := 6, cells := 1, slots := 6, locals := 82 } : Room) (va_Pc [.ref h, .int (nI pp), .int (nI qq)] (fun U => U.heap.size = sz ∧ va_P D vwCl (pic0 cI h a u on) U.heap ∧ va_K D vwCl [(cI, .int)] U ∧ tE (fun q => sz ≤ q) U)) ((fun A : Nat → Prop => va_Qi (fun (_ : Int32) (_ : Unit) => False) (fun _ _ => True) A) (fun q => sz ≤ q)) ((fun A : Nat → Prop => vx_X (fun _ : Unit => True) (fun E _ _ => E = "java/lang/IllegalStateException") A) (fun q => sz ≤ q)) 1 6 (fun q => sz ≤ q) := by
  refine en_th (cc := cX0_addNap) (maxL := 4) (ret := (some .int)) _ _ (fun A : Nat → Prop => va_Qi (fun (_ : Int32) (_ : Unit) => False) (fun _ _ => True) A) (fun A : Nat → Prop => vx_X (fun _ : Unit => True) (fun E _ _ => E = "java/lang/IllegalStateException") A) (by decide) rfl (Nat.le_of_ble_eq_true rfl) ?_
  intro p e s m args below meth c ls A hx hb hml hr hlocks hts hown hto hP hK hE hA hAs hS hl
  have hown : s.vm.findClass RX0 = some m.cls := hown
  have hin : ∀ w ∈ wsX00, w ∈ wsX0_addNap := fun _ h9 => List.mem_cons_of_mem _ (List.mem_append_left _ (List.mem_append_left _ (List.mem_append_right _ h9)))
  have hl : lv_has ls 4 [(0, .ref h), (1, .int (nI pp)), (2, .int (nI qq))] := hl
  refine lv_iload_n hx hb dX0_addNap_0 rfl (lv_at hl 1 rfl) ?_
  refine lv_if_lt (tgt := 16) hx hb dX0_addNap_1 (by decide) (fun c_1 => ?_) (fun c_1 => ?_)
  · skip
    replace c_1 : pp < 0 := ltN c_1
    exact (by omega : False).elim
  · skip
    replace c_1 : 0 ≤ pp := nltN c_1
    refine lv_iload_n hx hb dX0_addNap_4 rfl (lv_at hl 2 rfl) ?_
    refine lv_sipush (v := nI 360) hx hb dX0_addNap_5 (by decide +kernel) ?_
    refine lv_icmp_gt (tgt := 16) hx hb dX0_addNap_8 (by decide) (fun c_8 => ?_) (fun c_8 => ?_)
    · skip
      replace c_8 : 360 < qq := ltN c_8
      exact (by omega : False).elim
    · skip
      replace c_8 : qq ≤ 360 := nltN c_8
      refine lv_iload_n hx hb dX0_addNap_11 rfl (lv_at hl 2 rfl) ?_
      refine lv_iload_n hx hb dX0_addNap_12 rfl (lv_at hl 1 rfl) ?_
      refine lv_icmp_gt (tgt := 26) hx hb dX0_addNap_13 (by decide) (fun c_13 => ?_) (fun c_13 => ?_)
      · skip
        replace c_13 : pp < qq := ltN c_13
        refine lv_aload_n hx hb dX0_addNap_26 rfl (lv_at hl 0 rfl) ?_
        refine va_get (D := D) (ci := 0) (v := .int (nI (mNc u))) (C := RX0) (T := TX0) (N := 17) hx hb hts hin hown hK hP 0 rfl rfl 4 (by decide) (hts (.fieldLink RX0 58 "AfternoonMeter" "napCount" "I") (List.mem_of_getElem? (i := 5) rfl)) (fun _ h9 => h9) rfl dX0_addNap_27 ?_
        refine lv_bipush (v := nI 8) hx hb dX0_addNap_30 (by decide +kernel) ?_
        refine lv_icmp_lt (tgt := 45) hx hb dX0_addNap_32 (by decide) (fun c_32 => ?_) (fun c_32 => ?_)
        · skip
          replace c_32 : (mNc u) < 8 := ltN c_32
          exact (by omega : False).elim
        · skip
          replace c_32 : 8 ≤ (mNc u) := nltN c_32
          obtain ⟨sa9, hstr⟩ := hE.1 (61, "there are 8 naps") (by decide +kernel)
          exact vx_throwS hx hb htr (cls := "java/lang/IllegalStateException") (text := "there are 8 naps") (sa := sa9) (names := ["java/lang/RuntimeException", "java/lang/Exception"]) hown fit_2 fit_n (hts (.classLink RX0 51 "java/lang/IllegalStateException") (List.mem_of_getElem? (i := 3) rfl)) (hts (.initialized "java/lang/IllegalStateException") (List.mem_of_getElem? (i := 4) rfl)) hstr (vx_hat (fun w h9 => hts w (List.mem_cons_of_mem _ (List.mem_append_right _ h9))) nb_51 (hE.ws (by decide +kernel))) ot_51 hE.2.1 hE.2.2.1 hS (hl.1.trans hml.symm) dX0_addNap_35 dX0_addNap_38 dX0_addNap_39 dX0_addNap_41 dX0_addNap_44 (fun x hx9 => (hto x hx9).elim) (Nat.le_of_ble_eq_true rfl) (Nat.le_of_ble_eq_true rfl) (Nat.le_of_ble_eq_true rfl) (Nat.le_of_ble_eq_true rfl) hlocks (fun t hvm hz hk => ⟨(), trivial, rfl, hz, fun q h1 _ => hk q h1⟩) hS.2.2 (Nat.le_of_ble_eq_true rfl) (Nat.le_of_ble_eq_true rfl)
      · skip
        replace c_13 : qq ≤ pp := nltN c_13
        exact (by omega : False).elim
set_option maxHeartbeats 4000000 in
set_option maxRecDepth 100000 in
theorem t1_X0_addBee (l : Launch) (htr : l.stackTraces = false) (D : va_G) (cI : ClassId) (h : Nat) (a : Nat → Nat) (u : MS) (on : Nat → Int32) (sz : Nat) (v0 : Int32) (v1 : Int32) (hp : vB v0 v1 = false) : vx_Met l yX0_addBee wsX0_addBee ({ frames := 6, cells := 1, slots := 6, locals := 82 } : Room) (va_Pc [.ref h, .int v0, .int v1] (fun U => U.heap.size = sz ∧ va_P D vwCl (pic0 cI h a u on) U.heap ∧ va_K D vwCl [(cI, .int)] U ∧ tE (fun q => sz ≤ q) U)) ((fun A : Nat → Prop => va_Qi (fun (_ : Int32) (_ : Unit) => False) (fun _ _ => True) A) (fun q => sz ≤ q)) ((fun A : Nat → Prop => vx_X (fun _ : Unit => True) (fun E _ _ => E = "java/lang/IllegalArgumentException") A) (fun q => sz ≤ q)) 1 6 (fun q => sz ≤ q) := by
  refine en_th (cc := cX0_addBee) (maxL := 5) (ret := (some .int)) _ _ (fun A : Nat → Prop => va_Qi (fun (_ : Int32) (_ : Unit) => False) (fun _ _ => True) A) (fun A : Nat → Prop => vx_X (fun _ : Unit => True) (fun E _ _ => E = "java/lang/IllegalArgumentException") A) (by decide) rfl (Nat.le_of_ble_eq_true rfl) ?_
  intro p e s m args below meth c ls A hx hb hml hr hlocks hts hown hto hP hK hE hA hAs hS hl
  have hown : s.vm.findClass RX0 = some m.cls := hown
  have hin : ∀ w ∈ wsX00, w ∈ wsX0_addBee := fun _ h9 => List.mem_cons_of_mem _ (List.mem_append_left _ (List.mem_append_left _ (List.mem_append_right _ h9)))
  have hl : lv_has ls 5 [(0, .ref h), (1, .int v0), (2, .int v1)] := hl
  refine lv_iload_n hx hb dX0_addBee_0 rfl (lv_at hl 1 rfl) ?_
  refine lv_iconst (v := nI 2) hx hb dX0_addBee_1 (by decide +kernel) ?_
  refine lv_icmp_lt (tgt := 20) hx hb dX0_addBee_2 (by decide) (fun c_2 => ?_) (fun c_2 => ?_)
  · skip
    obtain ⟨sa9, hstr⟩ := hE.1 (71, "a period is 2 to 30, and a beat 0 to the period less 1") (by decide +kernel)
    exact vx_throwS hx hb htr (cls := "java/lang/IllegalArgumentException") (text := "a period is 2 to 30, and a beat 0 to the period less 1") (sa := sa9) (names := ["java/lang/RuntimeException", "java/lang/Exception"]) hown fit_1 fit_n (hts (.classLink RX0 41 "java/lang/IllegalArgumentException") (List.mem_of_getElem? (i := 1) rfl)) (hts (.initialized "java/lang/IllegalArgumentException") (List.mem_of_getElem? (i := 2) rfl)) hstr (vx_hat (fun w h9 => hts w (List.mem_cons_of_mem _ (List.mem_append_left _ (List.mem_append_right _ h9)))) nb_41 (hE.ws (by decide +kernel))) ot_41 hE.2.1 hE.2.2.1 hS (hl.1.trans hml.symm) dX0_addBee_20 dX0_addBee_23 dX0_addBee_24 dX0_addBee_26 dX0_addBee_29 (fun x hx9 => (hto x hx9).elim) (Nat.le_of_ble_eq_true rfl) (Nat.le_of_ble_eq_true rfl) (Nat.le_of_ble_eq_true rfl) (Nat.le_of_ble_eq_true rfl) hlocks (fun t hvm hz hk => ⟨(), trivial, rfl, hz, fun q h1 _ => hk q h1⟩) hS.2.2 (Nat.le_of_ble_eq_true rfl) (Nat.le_of_ble_eq_true rfl)
  · skip
    refine lv_iload_n hx hb dX0_addBee_5 rfl (lv_at hl 1 rfl) ?_
    refine lv_bipush (v := nI 30) hx hb dX0_addBee_6 (by decide +kernel) ?_
    refine lv_icmp_gt (tgt := 20) hx hb dX0_addBee_8 (by decide) (fun c_8 => ?_) (fun c_8 => ?_)
    · skip
      obtain ⟨sa9, hstr⟩ := hE.1 (71, "a period is 2 to 30, and a beat 0 to the period less 1") (by decide +kernel)
      exact vx_throwS hx hb htr (cls := "java/lang/IllegalArgumentException") (text := "a period is 2 to 30, and a beat 0 to the period less 1") (sa := sa9) (names := ["java/lang/RuntimeException", "java/lang/Exception"]) hown fit_1 fit_n (hts (.classLink RX0 41 "java/lang/IllegalArgumentException") (List.mem_of_getElem? (i := 1) rfl)) (hts (.initialized "java/lang/IllegalArgumentException") (List.mem_of_getElem? (i := 2) rfl)) hstr (vx_hat (fun w h9 => hts w (List.mem_cons_of_mem _ (List.mem_append_left _ (List.mem_append_right _ h9)))) nb_41 (hE.ws (by decide +kernel))) ot_41 hE.2.1 hE.2.2.1 hS (hl.1.trans hml.symm) dX0_addBee_20 dX0_addBee_23 dX0_addBee_24 dX0_addBee_26 dX0_addBee_29 (fun x hx9 => (hto x hx9).elim) (Nat.le_of_ble_eq_true rfl) (Nat.le_of_ble_eq_true rfl) (Nat.le_of_ble_eq_true rfl) (Nat.le_of_ble_eq_true rfl) hlocks (fun t hvm hz hk => ⟨(), trivial, rfl, hz, fun q h1 _ => hk q h1⟩) hS.2.2 (Nat.le_of_ble_eq_true rfl) (Nat.le_of_ble_eq_true rfl)
    · skip
      refine lv_iload_n hx hb dX0_addBee_11 rfl (lv_at hl 2 rfl) ?_
      refine lv_if_lt (tgt := 20) hx hb dX0_addBee_12 (by decide) (fun c_12 => ?_) (fun c_12 => ?_)
      · skip
        obtain ⟨sa9, hstr⟩ := hE.1 (71, "a period is 2 to 30, and a beat 0 to the period less 1") (by decide +kernel)
        exact vx_throwS hx hb htr (cls := "java/lang/IllegalArgumentException") (text := "a period is 2 to 30, and a beat 0 to the period less 1") (sa := sa9) (names := ["java/lang/RuntimeException", "java/lang/Exception"]) hown fit_1 fit_n (hts (.classLink RX0 41 "java/lang/IllegalArgumentException") (List.mem_of_getElem? (i := 1) rfl)) (hts (.initialized "java/lang/IllegalArgumentException") (List.mem_of_getElem? (i := 2) rfl)) hstr (vx_hat (fun w h9 => hts w (List.mem_cons_of_mem _ (List.mem_append_left _ (List.mem_append_right _ h9)))) nb_41 (hE.ws (by decide +kernel))) ot_41 hE.2.1 hE.2.2.1 hS (hl.1.trans hml.symm) dX0_addBee_20 dX0_addBee_23 dX0_addBee_24 dX0_addBee_26 dX0_addBee_29 (fun x hx9 => (hto x hx9).elim) (Nat.le_of_ble_eq_true rfl) (Nat.le_of_ble_eq_true rfl) (Nat.le_of_ble_eq_true rfl) (Nat.le_of_ble_eq_true rfl) hlocks (fun t hvm hz hk => ⟨(), trivial, rfl, hz, fun q h1 _ => hk q h1⟩) hS.2.2 (Nat.le_of_ble_eq_true rfl) (Nat.le_of_ble_eq_true rfl)
      · skip
        refine lv_iload_n hx hb dX0_addBee_15 rfl (lv_at hl 2 rfl) ?_
        refine lv_iload_n hx hb dX0_addBee_16 rfl (lv_at hl 1 rfl) ?_
        refine lv_icmp_lt (tgt := 30) hx hb dX0_addBee_17 (by decide) (fun c_17 => ?_) (fun c_17 => ?_)
        · skip
          exact (Bool.false_ne_true (hp.symm.trans (vB_mk (leI c_2) (leI c_8) (leI c_12) c_17))).elim
        · skip
          obtain ⟨sa9, hstr⟩ := hE.1 (71, "a period is 2 to 30, and a beat 0 to the period less 1") (by decide +kernel)
          exact vx_throwS hx hb htr (cls := "java/lang/IllegalArgumentException") (text := "a period is 2 to 30, and a beat 0 to the period less 1") (sa := sa9) (names := ["java/lang/RuntimeException", "java/lang/Exception"]) hown fit_1 fit_n (hts (.classLink RX0 41 "java/lang/IllegalArgumentException") (List.mem_of_getElem? (i := 1) rfl)) (hts (.initialized "java/lang/IllegalArgumentException") (List.mem_of_getElem? (i := 2) rfl)) hstr (vx_hat (fun w h9 => hts w (List.mem_cons_of_mem _ (List.mem_append_left _ (List.mem_append_right _ h9)))) nb_41 (hE.ws (by decide +kernel))) ot_41 hE.2.1 hE.2.2.1 hS (hl.1.trans hml.symm) dX0_addBee_20 dX0_addBee_23 dX0_addBee_24 dX0_addBee_26 dX0_addBee_29 (fun x hx9 => (hto x hx9).elim) (Nat.le_of_ble_eq_true rfl) (Nat.le_of_ble_eq_true rfl) (Nat.le_of_ble_eq_true rfl) (Nat.le_of_ble_eq_true rfl) hlocks (fun t hvm hz hk => ⟨(), trivial, rfl, hz, fun q h1 _ => hk q h1⟩) hS.2.2 (Nat.le_of_ble_eq_true rfl) (Nat.le_of_ble_eq_true rfl)
set_option maxHeartbeats 4000000 in
set_option maxRecDepth 100000 in
theorem t2_X0_addBee (l : Launch) (htr : l.stackTraces = false) (D : va_G) (cI : ClassId) (h : Nat) (a : Nat → Nat) (u : MS) (on : Nat → Int32) (sz : Nat) (pp : Nat) (qq : Nat) (hp : 2 ≤ pp ∧ pp ≤ 30 ∧ qq < pp) (hs : mBc u = 6) : vx_Met l yX0_addBee wsX0_addBee ({ frames := 6, cells := 1, slots := 6, locals := 82 } : Room) (va_Pc [.ref h, .int (nI pp), .int (nI qq)] (fun U => U.heap.size = sz ∧ va_P D vwCl (pic0 cI h a u on) U.heap ∧ va_K D vwCl [(cI, .int)] U ∧ tE (fun q => sz ≤ q) U)) ((fun A : Nat → Prop => va_Qi (fun (_ : Int32) (_ : Unit) => False) (fun _ _ => True) A) (fun q => sz ≤ q)) ((fun A : Nat → Prop => vx_X (fun _ : Unit => True) (fun E _ _ => E = "java/lang/IllegalStateException") A) (fun q => sz ≤ q)) 1 6 (fun q => sz ≤ q) := by
  refine en_th (cc := cX0_addBee) (maxL := 5) (ret := (some .int)) _ _ (fun A : Nat → Prop => va_Qi (fun (_ : Int32) (_ : Unit) => False) (fun _ _ => True) A) (fun A : Nat → Prop => vx_X (fun _ : Unit => True) (fun E _ _ => E = "java/lang/IllegalStateException") A) (by decide) rfl (Nat.le_of_ble_eq_true rfl) ?_
  intro p e s m args below meth c ls A hx hb hml hr hlocks hts hown hto hP hK hE hA hAs hS hl
  have hown : s.vm.findClass RX0 = some m.cls := hown
  have hin : ∀ w ∈ wsX00, w ∈ wsX0_addBee := fun _ h9 => List.mem_cons_of_mem _ (List.mem_append_left _ (List.mem_append_left _ (List.mem_append_right _ h9)))
  have hl : lv_has ls 5 [(0, .ref h), (1, .int (nI pp)), (2, .int (nI qq))] := hl
  refine lv_iload_n hx hb dX0_addBee_0 rfl (lv_at hl 1 rfl) ?_
  refine lv_iconst (v := nI 2) hx hb dX0_addBee_1 (by decide +kernel) ?_
  refine lv_icmp_lt (tgt := 20) hx hb dX0_addBee_2 (by decide) (fun c_2 => ?_) (fun c_2 => ?_)
  · skip
    replace c_2 : pp < 2 := ltN c_2
    exact (by omega : False).elim
  · skip
    replace c_2 : 2 ≤ pp := nltN c_2
    refine lv_iload_n hx hb dX0_addBee_5 rfl (lv_at hl 1 rfl) ?_
    refine lv_bipush (v := nI 30) hx hb dX0_addBee_6 (by decide +kernel) ?_
    refine lv_icmp_gt (tgt := 20) hx hb dX0_addBee_8 (by decide) (fun c_8 => ?_) (fun c_8 => ?_)
    · skip
      replace c_8 : 30 < pp := ltN c_8
      exact (by omega : False).elim
    · skip
      replace c_8 : pp ≤ 30 := nltN c_8
      refine lv_iload_n hx hb dX0_addBee_11 rfl (lv_at hl 2 rfl) ?_
      refine lv_if_lt (tgt := 20) hx hb dX0_addBee_12 (by decide) (fun c_12 => ?_) (fun c_12 => ?_)
      · skip
        replace c_12 : qq < 0 := ltN c_12
        exact (by omega : False).elim
      · skip
        replace c_12 : 0 ≤ qq := nltN c_12
        refine lv_iload_n hx hb dX0_addBee_15 rfl (lv_at hl 2 rfl) ?_
        refine lv_iload_n hx hb dX0_addBee_16 rfl (lv_at hl 1 rfl) ?_
        refine lv_icmp_lt (tgt := 30) hx hb dX0_addBee_17 (by decide) (fun c_17 => ?_) (fun c_17 => ?_)
        · skip
          replace c_17 : qq < pp := ltN c_17
          refine lv_aload_n hx hb dX0_addBee_30 rfl (lv_at hl 0 rfl) ?_
          refine va_get (D := D) (ci := 0) (v := .int (nI (mBc u))) (C := RX0) (T := TX0) (N := 17) hx hb hts hin hown hK hP 0 rfl rfl 8 (by decide) (hts (.fieldLink RX0 73 "AfternoonMeter" "beeCount" "I") (List.mem_of_getElem? (i := 5) rfl)) (fun _ h9 => h9) rfl dX0_addBee_31 ?_
          refine lv_bipush (v := nI 6) hx hb dX0_addBee_34 (by decide +kernel) ?_
          refine lv_icmp_lt (tgt := 49) hx hb dX0_addBee_36 (by decide) (fun c_36 => ?_) (fun c_36 => ?_)
          · skip
            replace c_36 : (mBc u) < 6 := ltN c_36
            exact (by omega : False).elim
          · skip
            replace c_36 : 6 ≤ (mBc u) := nltN c_36
            obtain ⟨sa9, hstr⟩ := hE.1 (76, "there are 6 bees") (by decide +kernel)
            exact vx_throwS hx hb htr (cls := "java/lang/IllegalStateException") (text := "there are 6 bees") (sa := sa9) (names := ["java/lang/RuntimeException", "java/lang/Exception"]) hown fit_2 fit_n (hts (.classLink RX0 51 "java/lang/IllegalStateException") (List.mem_of_getElem? (i := 3) rfl)) (hts (.initialized "java/lang/IllegalStateException") (List.mem_of_getElem? (i := 4) rfl)) hstr (vx_hat (fun w h9 => hts w (List.mem_cons_of_mem _ (List.mem_append_right _ h9))) nb_51 (hE.ws (by decide +kernel))) ot_51 hE.2.1 hE.2.2.1 hS (hl.1.trans hml.symm) dX0_addBee_39 dX0_addBee_42 dX0_addBee_43 dX0_addBee_45 dX0_addBee_48 (fun x hx9 => (hto x hx9).elim) (Nat.le_of_ble_eq_true rfl) (Nat.le_of_ble_eq_true rfl) (Nat.le_of_ble_eq_true rfl) (Nat.le_of_ble_eq_true rfl) hlocks (fun t hvm hz hk => ⟨(), trivial, rfl, hz, fun q h1 _ => hk q h1⟩) hS.2.2 (Nat.le_of_ble_eq_true rfl) (Nat.le_of_ble_eq_true rfl)
        · skip
          replace c_17 : pp ≤ qq := nltN c_17
          exact (by omega : False).elim
set_option maxHeartbeats 4000000 in
set_option maxRecDepth 100000 in
theorem t1_X0_setTea (l : Launch) (htr : l.stackTraces = false) (D : va_G) (cI : ClassId) (h : Nat) (a : Nat → Nat) (u : MS) (on : Nat → Int32) (sz : Nat) (v0 : Int32) (v1 : Int32) (v2 : Int32) (hp : vT v0 v1 v2 = false) : vx_Met l yX0_setTea wsX0_setTea ({ frames := 6, cells := 1, slots := 6, locals := 82 } : Room) (va_Pc [.ref h, .int v0, .int v1, .int v2] (fun U => U.heap.size = sz ∧ va_P D vwCl (pic0 cI h a u on) U.heap ∧ va_K D vwCl [(cI, .int)] U ∧ tE (fun q => sz ≤ q) U)) ((fun A : Nat → Prop => va_Qi (fun (_ : Int32) (_ : Unit) => False) (fun _ _ => True) A) (fun q => sz ≤ q)) ((fun A : Nat → Prop => vx_X (fun _ : Unit => True) (fun E _ _ => E = "java/lang/IllegalArgumentException") A) (fun q => sz ≤ q)) 1 6 (fun q => sz ≤ q) := by
  refine en_th (cc := cX0_setTea) (maxL := 4) (ret := (some .int)) _ _ (fun A : Nat → Prop => va_Qi (fun (_ : Int32) (_ : Unit) => False) (fun _ _ => True) A) (fun A : Nat → Prop => vx_X (fun _ : Unit => True) (fun E _ _ => E = "java/lang/IllegalArgumentException") A) (by decide) rfl (Nat.le_of_ble_eq_true rfl) ?_
  intro p e s m args below meth c ls A hx hb hml hr hlocks hts hown hto hP hK hE hA hAs hS hl
  have hown : s.vm.findClass RX0 = some m.cls := hown
  have hin : ∀ w ∈ wsX00, w ∈ wsX0_setTea := fun _ h9 => List.mem_cons_of_mem _ (List.mem_append_left _ (List.mem_append_right _ h9))
  have hl : lv_has ls 4 [(0, .ref h), (1, .int v0), (2, .int v1), (3, .int v2)] := hl
  refine lv_iload_n hx hb dX0_setTea_0 rfl (lv_at hl 1 rfl) ?_
  refine lv_iconst (v := nI 1) hx hb dX0_setTea_1 (by decide +kernel) ?_
  refine lv_icmp_lt (tgt := 11) hx hb dX0_setTea_2 (by decide) (fun c_2 => ?_) (fun c_2 => ?_)
  · skip
    obtain ⟨sa9, hstr⟩ := hE.1 (82, "a room is 1 to 50") (by decide +kernel)
    exact vx_throwS hx hb htr (cls := "java/lang/IllegalArgumentException") (text := "a room is 1 to 50") (sa := sa9) (names := ["java/lang/RuntimeException", "java/lang/Exception"]) hown fit_1 fit_n (hts (.classLink RX0 41 "java/lang/IllegalArgumentException") (List.mem_of_getElem? (i := 1) rfl)) (hts (.initialized "java/lang/IllegalArgumentException") (List.mem_of_getElem? (i := 2) rfl)) hstr (vx_hat (fun w h9 => hts w (List.mem_cons_of_mem _ (List.mem_append_right _ h9))) nb_41 (hE.ws (by decide +kernel))) ot_41 hE.2.1 hE.2.2.1 hS (hl.1.trans hml.symm) dX0_setTea_11 dX0_setTea_14 dX0_setTea_15 dX0_setTea_17 dX0_setTea_20 (fun x hx9 => (hto x hx9).elim) (Nat.le_of_ble_eq_true rfl) (Nat.le_of_ble_eq_true rfl) (Nat.le_of_ble_eq_true rfl) (Nat.le_of_ble_eq_true rfl) hlocks (fun t hvm hz hk => ⟨(), trivial, rfl, hz, fun q h1 _ => hk q h1⟩) hS.2.2 (Nat.le_of_ble_eq_true rfl) (Nat.le_of_ble_eq_true rfl)
  · skip
    refine lv_iload_n hx hb dX0_setTea_5 rfl (lv_at hl 1 rfl) ?_
    refine lv_bipush (v := nI 50) hx hb dX0_setTea_6 (by decide +kernel) ?_
    refine lv_icmp_le (tgt := 21) hx hb dX0_setTea_8 (by decide) (fun c_8 => ?_) (fun c_8 => ?_)
    · skip
      refine lv_iload_n hx hb dX0_setTea_21 rfl (lv_at hl 2 rfl) ?_
      refine lv_if_lt (tgt := 31) hx hb dX0_setTea_22 (by decide) (fun c_22 => ?_) (fun c_22 => ?_)
      · skip
        obtain ⟨sa9, hstr⟩ := hE.1 (84, "a rate is 0 to 9") (by decide +kernel)
        exact vx_throwS hx hb htr (cls := "java/lang/IllegalArgumentException") (text := "a rate is 0 to 9") (sa := sa9) (names := ["java/lang/RuntimeException", "java/lang/Exception"]) hown fit_1 fit_n (hts (.classLink RX0 41 "java/lang/IllegalArgumentException") (List.mem_of_getElem? (i := 1) rfl)) (hts (.initialized "java/lang/IllegalArgumentException") (List.mem_of_getElem? (i := 2) rfl)) hstr (vx_hat (fun w h9 => hts w (List.mem_cons_of_mem _ (List.mem_append_right _ h9))) nb_41 (hE.ws (by decide +kernel))) ot_41 hE.2.1 hE.2.2.1 hS (hl.1.trans hml.symm) dX0_setTea_31 dX0_setTea_34 dX0_setTea_35 dX0_setTea_37 dX0_setTea_40 (fun x hx9 => (hto x hx9).elim) (Nat.le_of_ble_eq_true rfl) (Nat.le_of_ble_eq_true rfl) (Nat.le_of_ble_eq_true rfl) (Nat.le_of_ble_eq_true rfl) hlocks (fun t hvm hz hk => ⟨(), trivial, rfl, hz, fun q h1 _ => hk q h1⟩) hS.2.2 (Nat.le_of_ble_eq_true rfl) (Nat.le_of_ble_eq_true rfl)
      · skip
        refine lv_iload_n hx hb dX0_setTea_25 rfl (lv_at hl 2 rfl) ?_
        refine lv_bipush (v := nI 9) hx hb dX0_setTea_26 (by decide +kernel) ?_
        refine lv_icmp_le (tgt := 41) hx hb dX0_setTea_28 (by decide) (fun c_28 => ?_) (fun c_28 => ?_)
        · skip
          refine lv_iload_n hx hb dX0_setTea_41 rfl (lv_at hl 3 rfl) ?_
          refine lv_if_lt (tgt := 51) hx hb dX0_setTea_42 (by decide) (fun c_42 => ?_) (fun c_42 => ?_)
          · skip
            obtain ⟨sa9, hstr⟩ := hE.1 (86, "a sip is 0 to 9") (by decide +kernel)
            exact vx_throwS hx hb htr (cls := "java/lang/IllegalArgumentException") (text := "a sip is 0 to 9") (sa := sa9) (names := ["java/lang/RuntimeException", "java/lang/Exception"]) hown fit_1 fit_n (hts (.classLink RX0 41 "java/lang/IllegalArgumentException") (List.mem_of_getElem? (i := 1) rfl)) (hts (.initialized "java/lang/IllegalArgumentException") (List.mem_of_getElem? (i := 2) rfl)) hstr (vx_hat (fun w h9 => hts w (List.mem_cons_of_mem _ (List.mem_append_right _ h9))) nb_41 (hE.ws (by decide +kernel))) ot_41 hE.2.1 hE.2.2.1 hS (hl.1.trans hml.symm) dX0_setTea_51 dX0_setTea_54 dX0_setTea_55 dX0_setTea_57 dX0_setTea_60 (fun x hx9 => (hto x hx9).elim) (Nat.le_of_ble_eq_true rfl) (Nat.le_of_ble_eq_true rfl) (Nat.le_of_ble_eq_true rfl) (Nat.le_of_ble_eq_true rfl) hlocks (fun t hvm hz hk => ⟨(), trivial, rfl, hz, fun q h1 _ => hk q h1⟩) hS.2.2 (Nat.le_of_ble_eq_true rfl) (Nat.le_of_ble_eq_true rfl)
          · skip
            refine lv_iload_n hx hb dX0_setTea_45 rfl (lv_at hl 3 rfl) ?_
            refine lv_bipush (v := nI 9) hx hb dX0_setTea_46 (by decide +kernel) ?_
            refine lv_icmp_le (tgt := 61) hx hb dX0_setTea_48 (by decide) (fun c_48 => ?_) (fun c_48 => ?_)
            · skip
              exact (Bool.false_ne_true (hp.symm.trans (vT_mk (leI c_2) c_8 (leI c_22) c_28 (leI c_42) c_48))).elim
            · skip
              obtain ⟨sa9, hstr⟩ := hE.1 (86, "a sip is 0 to 9") (by decide +kernel)
              exact vx_throwS hx hb htr (cls := "java/lang/IllegalArgumentException") (text := "a sip is 0 to 9") (sa := sa9) (names := ["java/lang/RuntimeException", "java/lang/Exception"]) hown fit_1 fit_n (hts (.classLink RX0 41 "java/lang/IllegalArgumentException") (List.mem_of_getElem? (i := 1) rfl)) (hts (.initialized "java/lang/IllegalArgumentException") (List.mem_of_getElem? (i := 2) rfl)) hstr (vx_hat (fun w h9 => hts w (List.mem_cons_of_mem _ (List.mem_append_right _ h9))) nb_41 (hE.ws (by decide +kernel))) ot_41 hE.2.1 hE.2.2.1 hS (hl.1.trans hml.symm) dX0_setTea_51 dX0_setTea_54 dX0_setTea_55 dX0_setTea_57 dX0_setTea_60 (fun x hx9 => (hto x hx9).elim) (Nat.le_of_ble_eq_true rfl) (Nat.le_of_ble_eq_true rfl) (Nat.le_of_ble_eq_true rfl) (Nat.le_of_ble_eq_true rfl) hlocks (fun t hvm hz hk => ⟨(), trivial, rfl, hz, fun q h1 _ => hk q h1⟩) hS.2.2 (Nat.le_of_ble_eq_true rfl) (Nat.le_of_ble_eq_true rfl)
        · skip
          obtain ⟨sa9, hstr⟩ := hE.1 (84, "a rate is 0 to 9") (by decide +kernel)
          exact vx_throwS hx hb htr (cls := "java/lang/IllegalArgumentException") (text := "a rate is 0 to 9") (sa := sa9) (names := ["java/lang/RuntimeException", "java/lang/Exception"]) hown fit_1 fit_n (hts (.classLink RX0 41 "java/lang/IllegalArgumentException") (List.mem_of_getElem? (i := 1) rfl)) (hts (.initialized "java/lang/IllegalArgumentException") (List.mem_of_getElem? (i := 2) rfl)) hstr (vx_hat (fun w h9 => hts w (List.mem_cons_of_mem _ (List.mem_append_right _ h9))) nb_41 (hE.ws (by decide +kernel))) ot_41 hE.2.1 hE.2.2.1 hS (hl.1.trans hml.symm) dX0_setTea_31 dX0_setTea_34 dX0_setTea_35 dX0_setTea_37 dX0_setTea_40 (fun x hx9 => (hto x hx9).elim) (Nat.le_of_ble_eq_true rfl) (Nat.le_of_ble_eq_true rfl) (Nat.le_of_ble_eq_true rfl) (Nat.le_of_ble_eq_true rfl) hlocks (fun t hvm hz hk => ⟨(), trivial, rfl, hz, fun q h1 _ => hk q h1⟩) hS.2.2 (Nat.le_of_ble_eq_true rfl) (Nat.le_of_ble_eq_true rfl)
    · skip
      obtain ⟨sa9, hstr⟩ := hE.1 (82, "a room is 1 to 50") (by decide +kernel)
      exact vx_throwS hx hb htr (cls := "java/lang/IllegalArgumentException") (text := "a room is 1 to 50") (sa := sa9) (names := ["java/lang/RuntimeException", "java/lang/Exception"]) hown fit_1 fit_n (hts (.classLink RX0 41 "java/lang/IllegalArgumentException") (List.mem_of_getElem? (i := 1) rfl)) (hts (.initialized "java/lang/IllegalArgumentException") (List.mem_of_getElem? (i := 2) rfl)) hstr (vx_hat (fun w h9 => hts w (List.mem_cons_of_mem _ (List.mem_append_right _ h9))) nb_41 (hE.ws (by decide +kernel))) ot_41 hE.2.1 hE.2.2.1 hS (hl.1.trans hml.symm) dX0_setTea_11 dX0_setTea_14 dX0_setTea_15 dX0_setTea_17 dX0_setTea_20 (fun x hx9 => (hto x hx9).elim) (Nat.le_of_ble_eq_true rfl) (Nat.le_of_ble_eq_true rfl) (Nat.le_of_ble_eq_true rfl) (Nat.le_of_ble_eq_true rfl) hlocks (fun t hvm hz hk => ⟨(), trivial, rfl, hz, fun q h1 _ => hk q h1⟩) hS.2.2 (Nat.le_of_ble_eq_true rfl) (Nat.le_of_ble_eq_true rfl)
set_option maxHeartbeats 4000000 in
set_option maxRecDepth 100000 in
theorem t1_X0_pass (l : Launch) (htr : l.stackTraces = false) (D : va_G) (cI : ClassId) (h : Nat) (a : Nat → Nat) (u : MS) (on : Nat → Int32) (sz : Nat) (v0 : Int32) (hp : isB v0 (nI 1) (nI 360) = false) : vx_Met l yX0_pass wsX0_pass ({ frames := 6, cells := 1, slots := 6, locals := 82 } : Room) (va_Pc [.ref h, .int v0] (fun U => U.heap.size = sz ∧ va_P D vwCl (pic0 cI h a u on) U.heap ∧ va_K D vwCl [(cI, .int)] U ∧ tE (fun q => sz ≤ q) U)) ((fun A : Nat → Prop => va_Qi (fun (_ : Int32) (_ : Unit) => False) (fun _ _ => True) A) (fun q => sz ≤ q)) ((fun A : Nat → Prop => vx_X (fun _ : Unit => True) (fun E _ _ => E = "java/lang/IllegalArgumentException") A) (fun q => sz ≤ q)) 1 6 (fun q => sz ≤ q) := by
  refine en_th (cc := cX0_pass) (maxL := 4) (ret := (some .int)) _ _ (fun A : Nat → Prop => va_Qi (fun (_ : Int32) (_ : Unit) => False) (fun _ _ => True) A) (fun A : Nat → Prop => vx_X (fun _ : Unit => True) (fun E _ _ => E = "java/lang/IllegalArgumentException") A) (by decide) rfl (Nat.le_of_ble_eq_true rfl) ?_
  intro p e s m args below meth c ls A hx hb hml hr hlocks hts hown hto hP hK hE hA hAs hS hl
  have hown : s.vm.findClass RX0 = some m.cls := hown
  have hin : ∀ w ∈ wsX00, w ∈ wsX0_pass := fun _ h9 => List.mem_cons_of_mem _ (List.mem_append_left _ (List.mem_append_left _ (List.mem_append_right _ h9)))
  have hl : lv_has ls 4 [(0, .ref h), (1, .int v0)] := hl
  refine lv_iload_n hx hb dX0_pass_0 rfl (lv_at hl 1 rfl) ?_
  refine lv_iconst (v := nI 1) hx hb dX0_pass_1 (by decide +kernel) ?_
  refine lv_icmp_lt (tgt := 12) hx hb dX0_pass_2 (by decide) (fun c_2 => ?_) (fun c_2 => ?_)
  · skip
    obtain ⟨sa9, hstr⟩ := hE.1 (95, "minutes that go by are 1 to 360") (by decide +kernel)
    exact vx_throwS hx hb htr (cls := "java/lang/IllegalArgumentException") (text := "minutes that go by are 1 to 360") (sa := sa9) (names := ["java/lang/RuntimeException", "java/lang/Exception"]) hown fit_1 fit_n (hts (.classLink RX0 41 "java/lang/IllegalArgumentException") (List.mem_of_getElem? (i := 1) rfl)) (hts (.initialized "java/lang/IllegalArgumentException") (List.mem_of_getElem? (i := 2) rfl)) hstr (vx_hat (fun w h9 => hts w (List.mem_cons_of_mem _ (List.mem_append_left _ (List.mem_append_right _ h9)))) nb_41 (hE.ws (by decide +kernel))) ot_41 hE.2.1 hE.2.2.1 hS (hl.1.trans hml.symm) dX0_pass_12 dX0_pass_15 dX0_pass_16 dX0_pass_18 dX0_pass_21 (fun x hx9 => (hto x hx9).elim) (Nat.le_of_ble_eq_true rfl) (Nat.le_of_ble_eq_true rfl) (Nat.le_of_ble_eq_true rfl) (Nat.le_of_ble_eq_true rfl) hlocks (fun t hvm hz hk => ⟨(), trivial, rfl, hz, fun q h1 _ => hk q h1⟩) hS.2.2 (Nat.le_of_ble_eq_true rfl) (Nat.le_of_ble_eq_true rfl)
  · skip
    refine lv_iload_n hx hb dX0_pass_5 rfl (lv_at hl 1 rfl) ?_
    refine lv_sipush (v := nI 360) hx hb dX0_pass_6 (by decide +kernel) ?_
    refine lv_icmp_le (tgt := 22) hx hb dX0_pass_9 (by decide) (fun c_9 => ?_) (fun c_9 => ?_)
    · skip
      exact (of_decide_eq_false hp ⟨leI c_2, c_9⟩).elim
    · skip
      obtain ⟨sa9, hstr⟩ := hE.1 (95, "minutes that go by are 1 to 360") (by decide +kernel)
      exact vx_throwS hx hb htr (cls := "java/lang/IllegalArgumentException") (text := "minutes that go by are 1 to 360") (sa := sa9) (names := ["java/lang/RuntimeException", "java/lang/Exception"]) hown fit_1 fit_n (hts (.classLink RX0 41 "java/lang/IllegalArgumentException") (List.mem_of_getElem? (i := 1) rfl)) (hts (.initialized "java/lang/IllegalArgumentException") (List.mem_of_getElem? (i := 2) rfl)) hstr (vx_hat (fun w h9 => hts w (List.mem_cons_of_mem _ (List.mem_append_left _ (List.mem_append_right _ h9)))) nb_41 (hE.ws (by decide +kernel))) ot_41 hE.2.1 hE.2.2.1 hS (hl.1.trans hml.symm) dX0_pass_12 dX0_pass_15 dX0_pass_16 dX0_pass_18 dX0_pass_21 (fun x hx9 => (hto x hx9).elim) (Nat.le_of_ble_eq_true rfl) (Nat.le_of_ble_eq_true rfl) (Nat.le_of_ble_eq_true rfl) (Nat.le_of_ble_eq_true rfl) hlocks (fun t hvm hz hk => ⟨(), trivial, rfl, hz, fun q h1 _ => hk q h1⟩) hS.2.2 (Nat.le_of_ble_eq_true rfl) (Nat.le_of_ble_eq_true rfl)
set_option maxHeartbeats 4000000 in
set_option maxRecDepth 100000 in
theorem t2_X0_pass (l : Launch) (htr : l.stackTraces = false) (D : va_G) (cI : ClassId) (h : Nat) (a : Nat → Nat) (u : MS) (on : Nat → Int32) (sz : Nat) (mm : Nat) (hI : Inv u) (hp : 1 ≤ mm ∧ mm ≤ 360) (hs : 360 < mNow u + mm) : vx_Met l yX0_pass wsX0_pass ({ frames := 6, cells := 1, slots := 6, locals := 82 } : Room) (va_Pc [.ref h, .int (nI mm)] (fun U => U.heap.size = sz ∧ va_P D vwCl (pic0 cI h a u on) U.heap ∧ va_K D vwCl [(cI, .int)] U ∧ tE (fun q => sz ≤ q) U)) ((fun A : Nat → Prop => va_Qi (fun (_ : Int32) (_ : Unit) => False) (fun _ _ => True) A) (fun q => sz ≤ q)) ((fun A : Nat → Prop => vx_X (fun _ : Unit => True) (fun E _ _ => E = "java/lang/IllegalStateException") A) (fun q => sz ≤ q)) 1 6 (fun q => sz ≤ q) := by
  refine en_th (cc := cX0_pass) (maxL := 4) (ret := (some .int)) _ _ (fun A : Nat → Prop => va_Qi (fun (_ : Int32) (_ : Unit) => False) (fun _ _ => True) A) (fun A : Nat → Prop => vx_X (fun _ : Unit => True) (fun E _ _ => E = "java/lang/IllegalStateException") A) (by decide) rfl (Nat.le_of_ble_eq_true rfl) ?_
  intro p e s m args below meth c ls A hx hb hml hr hlocks hts hown hto hP hK hE hA hAs hS hl
  have hown : s.vm.findClass RX0 = some m.cls := hown
  have hin : ∀ w ∈ wsX00, w ∈ wsX0_pass := fun _ h9 => List.mem_cons_of_mem _ (List.mem_append_left _ (List.mem_append_left _ (List.mem_append_right _ h9)))
  have hl : lv_has ls 4 [(0, .ref h), (1, .int (nI mm))] := hl
  obtain ⟨hIa, hIb, hIc, hId, hIe, hIf, hIg, hIh, hIi, hIj⟩ := id hI
  refine lv_iload_n hx hb dX0_pass_0 rfl (lv_at hl 1 rfl) ?_
  refine lv_iconst (v := nI 1) hx hb dX0_pass_1 (by decide +kernel) ?_
  refine lv_icmp_lt (tgt := 12) hx hb dX0_pass_2 (by decide) (fun c_2 => ?_) (fun c_2 => ?_)
  · skip
    replace c_2 : mm < 1 := ltN c_2
    exact (by omega : False).elim
  · skip
    replace c_2 : 1 ≤ mm := nltN c_2
    refine lv_iload_n hx hb dX0_pass_5 rfl (lv_at hl 1 rfl) ?_
    refine lv_sipush (v := nI 360) hx hb dX0_pass_6 (by decide +kernel) ?_
    refine lv_icmp_le (tgt := 22) hx hb dX0_pass_9 (by decide) (fun c_9 => ?_) (fun c_9 => ?_)
    · skip
      replace c_9 : mm ≤ 360 := leN c_9
      refine lv_iload_n hx hb dX0_pass_22 rfl (lv_at hl 1 rfl) ?_
      refine lv_sipush (v := nI 360) hx hb dX0_pass_23 (by decide +kernel) ?_
      refine lv_aload_n hx hb dX0_pass_26 rfl (lv_at hl 0 rfl) ?_
      refine va_get (D := D) (ci := 0) (v := .int (nI (mNow u))) (C := RX0) (T := TX0) (N := 17) hx hb hts hin hown hK hP 0 rfl rfl 15 (by decide) (hts (.fieldLink RX0 97 "AfternoonMeter" "now" "I") (List.mem_of_getElem? (i := 5) rfl)) (fun _ h9 => h9) rfl dX0_pass_27 ?_
      refine q_isubN hx hb (by omega) dX0_pass_30 ?_
      refine lv_icmp_le (tgt := 44) hx hb dX0_pass_31 (by decide) (fun c_31 => ?_) (fun c_31 => ?_)
      · skip
        replace c_31 : mm ≤ (360 - (mNow u)) := leN c_31
        exact (by omega : False).elim
      · skip
        replace c_31 : (360 - (mNow u)) < mm := nleN c_31
        obtain ⟨sa9, hstr⟩ := hE.1 (100, "the afternoon has fewer minutes left") (by decide +kernel)
        exact vx_throwS hx hb htr (cls := "java/lang/IllegalStateException") (text := "the afternoon has fewer minutes left") (sa := sa9) (names := ["java/lang/RuntimeException", "java/lang/Exception"]) hown fit_2 fit_n (hts (.classLink RX0 51 "java/lang/IllegalStateException") (List.mem_of_getElem? (i := 3) rfl)) (hts (.initialized "java/lang/IllegalStateException") (List.mem_of_getElem? (i := 4) rfl)) hstr (vx_hat (fun w h9 => hts w (List.mem_cons_of_mem _ (List.mem_append_right _ h9))) nb_51 (hE.ws (by decide +kernel))) ot_51 hE.2.1 hE.2.2.1 hS (hl.1.trans hml.symm) dX0_pass_34 dX0_pass_37 dX0_pass_38 dX0_pass_40 dX0_pass_43 (fun x hx9 => (hto x hx9).elim) (Nat.le_of_ble_eq_true rfl) (Nat.le_of_ble_eq_true rfl) (Nat.le_of_ble_eq_true rfl) (Nat.le_of_ble_eq_true rfl) hlocks (fun t hvm hz hk => ⟨(), trivial, rfl, hz, fun q h1 _ => hk q h1⟩) hS.2.2 (Nat.le_of_ble_eq_true rfl) (Nat.le_of_ble_eq_true rfl)
    · skip
      replace c_9 : 360 < mm := nleN c_9
      exact (by omega : False).elim
