set_option maxHeartbeats 4000000 in
set_option maxRecDepth 100000 in
theorem c_X0_withSticks (l : Launch) (D : va_G) (cI : ClassId) (h : Nat) (a : Nat → Nat) (u : MS) (on : Nat → Int32) (d0 : Int64) (hI : Inv u) : Met l yX0_withSticks wsX0_withSticks ({ frames := 1, cells := 0, slots := 0, locals := 22 } : Room) (va_Pc [.ref h, .long d0] (fun U => va_P D vwCl (pic0 cI h a u on) U.heap ∧ va_K D vwCl [(cI, .int)] U)) (vp_Sl (fun r => r = fz (wsF u) (mSc u) d0)) 0 0 (fun _ => False) := by
  refine en_pu (cc := cX0_withSticks) (maxL := 6) (ret := (some .long)) _ _ (by decide) rfl (Nat.le_of_ble_eq_true rfl) ?_
  intro p e s m args below meth c ls hx hb hml hr hlocks hts hown hP hK hl
  have hown : s.vm.findClass RX0 = some m.cls := hown
  have hin : ∀ w ∈ wsX00, w ∈ wsX0_withSticks := fun _ h9 => List.mem_cons_of_mem _ (List.mem_append_right _ h9)
  have hl : lv_has ls 6 [(0, .ref h), (1, .long d0)] := hl
  obtain ⟨hIa, hIb, hIc, hId, hIe, hIf, hIg, hIh, hIi, hIj⟩ := id hI
  refine lv_lload_n hx hb dX0_withSticks_0 rfl (lv_at hl 1 rfl) ?_
  refine lv_lstore_n (lv' := [(3, .long d0), (0, .ref h), (1, .long d0)]) hx hb dX0_withSticks_1 rfl hl (by decide) rfl (fun ls hl => ?_)
  refine lv_iconst (v := nI 0) hx hb dX0_withSticks_2 (by decide +kernel) ?_
  refine lv_istore (lv' := [(5, .int (nI 0)), (3, .long d0), (0, .ref h), (1, .long d0)]) hx hb dX0_withSticks_3 hl (by decide) rfl (fun ls hl => ?_)
  have lp5 : ∀ (n k : Nat), k + n = mSc u → ∀ (X : Int64), X = fz (wsF u) k d0 → ∀ (ls : Array Slot), lv_has ls 6 [(0, .ref h), (1, .long d0), (3, .long X), (5, .int (nI k))] → W p l e ({ frames := 1, cells := 0, slots := 0, locals := 22 } : Room) s m args below meth c s.heap [] 0 0 (MQ below (vp_Sl (fun r => r = fz (wsF u) (mSc u) d0)) args s 0 0 (fun _ => False)) (F0 m 5 ls []) := by
    intro n
    induction n with
    | zero =>
      intro k hk X eX ls hl
      have ek : k = mSc u := by omega
      refine lv_iload hx hb dX0_withSticks_5 (lv_at hl 3 rfl) ?_
      refine lv_aload_n hx hb dX0_withSticks_7 rfl (lv_at hl 0 rfl) ?_
      refine va_get (D := D) (ci := 0) (v := .int (nI (mSc u))) (C := RX0) (T := TX0) (N := 17) hx hb hts hin hown hK hP 0 rfl rfl 1 (by decide) (hts (.fieldLink RX0 48 "AfternoonMeter" "stickCount" "I") (List.mem_of_getElem? (i := 1) rfl)) (fun _ h9 => h9) rfl dX0_withSticks_8 ?_
      refine lv_icmp_ge (tgt := 36) hx hb dX0_withSticks_11 (by decide) (fun c_11 => ?_) (fun c_11 => ?_)
      · skip
        replace c_11 : (mSc u) ≤ k := leN c_11
        refine lv_lload_n hx hb dX0_withSticks_36 rfl (lv_at hl 2 rfl) ?_
        have hq : X = fz (wsF u) (mSc u) d0 := by rw [eX, ek]
        exact W.lret hx hb hr (fun t ht _ => ⟨_, rfl, hq, ht⟩) (fun _ h9 => nomatch h9) dX0_withSticks_37
      · skip
        replace c_11 : k < (mSc u) := nleN c_11
        exact (by omega : False).elim
    | succ n ih =>
      intro k hk X eX ls hl
      refine lv_iload hx hb dX0_withSticks_5 (lv_at hl 3 rfl) ?_
      refine lv_aload_n hx hb dX0_withSticks_7 rfl (lv_at hl 0 rfl) ?_
      refine va_get (D := D) (ci := 0) (v := .int (nI (mSc u))) (C := RX0) (T := TX0) (N := 17) hx hb hts hin hown hK hP 0 rfl rfl 1 (by decide) (hts (.fieldLink RX0 48 "AfternoonMeter" "stickCount" "I") (List.mem_of_getElem? (i := 1) rfl)) (fun _ h9 => h9) rfl dX0_withSticks_8 ?_
      refine lv_icmp_ge (tgt := 36) hx hb dX0_withSticks_11 (by decide) (fun c_11 => ?_) (fun c_11 => ?_)
      · skip
        replace c_11 : (mSc u) ≤ k := leN c_11
        exact (by omega : False).elim
      · skip
        replace c_11 : k < (mSc u) := nleN c_11
        refine lv_lload_n hx hb dX0_withSticks_14 rfl (lv_at hl 2 rfl) ?_
        refine lv_ldc2 (v := (31)) hx hb hown (hts (.constantLong RX0 163 (31)) (List.mem_of_getElem? (i := 2) rfl)) dX0_withSticks_15 ?_
        refine lv_lmul hx hb dX0_withSticks_18 ?_
        refine lv_aload_n hx hb dX0_withSticks_19 rfl (lv_at hl 0 rfl) ?_
        refine lv_iload hx hb dX0_withSticks_20 (lv_at hl 3 rfl) ?_
        refine lv_bipush (v := nI 100) hx hb dX0_withSticks_22 (by decide +kernel) ?_
        refine vp_callSi (W.runV (As := [.int (nI k), .int (nI 100)]) (rest := [.long (X * (31))]) ⟨hx, hb, hml, hown, hts⟩ (c_X0_shadowOf l D cI h a u on k 100 (by omega)) (cwV 2 hts gX0_withSticks_X0_shadowOf rfl rfl rfl (by decide +kernel) ⟨Nat.le_of_ble_eq_true rfl, Nat.le_of_ble_eq_true rfl⟩) (pu_pre hK hP rfl rfl) rfl rfl hl.1 rfl (lv_room (Nat.le_of_ble_eq_true rfl)) dX0_withSticks_24 ⟨Nat.le_of_ble_eq_true rfl, Nat.le_of_ble_eq_true rfl⟩) (fun r hr => ?_)
        subst hr
        refine lv_i2l (v := Int32.toInt64 (fShad u k 100)) hx hb dX0_withSticks_27 rfl ?_
        refine lv_ladd hx hb dX0_withSticks_28 ?_
        refine lv_lstore_n (lv' := [(3, .long ((X * (31)) + (Int32.toInt64 (fShad u k 100)))), (0, .ref h), (1, .long d0), (5, .int (nI k))]) hx hb dX0_withSticks_29 rfl hl (by decide) rfl (fun ls hl => ?_)
        refine lv_iinc (v := nI (k + 1)) (lv' := [(5, .int (nI (k + 1))), (3, .long ((X * (31)) + (Int32.toInt64 (fShad u k 100)))), (0, .ref h), (1, .long d0)]) hx hb dX0_withSticks_30 hl (k := 3) rfl (nI_i1 _) (by decide) rfl (fun ls hl => ?_)
        refine lv_goto (tgt := 5) hx hb dX0_withSticks_33 (by decide) ?_
        exact ih (k + 1) (by omega) ((X * (31)) + (Int32.toInt64 (fShad u k 100))) (by subst eX; rfl) _ (lv_sub hl [2, 3, 1, 0] rfl)
  exact lp5 _ 0 (Nat.zero_add _) d0 (by rfl) _ (lv_sub hl [2, 3, 1, 0] rfl)
set_option maxHeartbeats 4000000 in
set_option maxRecDepth 100000 in
theorem c_X0_withNaps (l : Launch) (D : va_G) (cI : ClassId) (h : Nat) (a : Nat → Nat) (u : MS) (on : Nat → Int32) (d0 : Int64) (hI : Inv u) : Met l yX0_withNaps wsX0_withNaps ({ frames := 2, cells := 0, slots := 0, locals := 45 } : Room) (va_Pc [.ref h, .long d0] (fun U => va_P D vwCl (pic0 cI h a u on) U.heap ∧ va_K D vwCl [(cI, .int)] U)) (vp_Sl (fun r => r = fz (wnF u) (mNc u) d0)) 0 0 (fun _ => False) := by
  refine en_pu (cc := cX0_withNaps) (maxL := 6) (ret := (some .long)) _ _ (by decide) rfl (Nat.le_of_ble_eq_true rfl) ?_
  intro p e s m args below meth c ls hx hb hml hr hlocks hts hown hP hK hl
  have hown : s.vm.findClass RX0 = some m.cls := hown
  have hin : ∀ w ∈ wsX00, w ∈ wsX0_withNaps := fun _ h9 => List.mem_cons_of_mem _ (List.mem_append_right _ h9)
  have hl : lv_has ls 6 [(0, .ref h), (1, .long d0)] := hl
  obtain ⟨hIa, hIb, hIc, hId, hIe, hIf, hIg, hIh, hIi, hIj⟩ := id hI
  refine lv_lload_n hx hb dX0_withNaps_0 rfl (lv_at hl 1 rfl) ?_
  refine lv_lstore_n (lv' := [(3, .long d0), (0, .ref h), (1, .long d0)]) hx hb dX0_withNaps_1 rfl hl (by decide) rfl (fun ls hl => ?_)
  refine lv_iconst (v := nI 0) hx hb dX0_withNaps_2 (by decide +kernel) ?_
  refine lv_istore (lv' := [(5, .int (nI 0)), (3, .long d0), (0, .ref h), (1, .long d0)]) hx hb dX0_withNaps_3 hl (by decide) rfl (fun ls hl => ?_)
  have lp5 : ∀ (n k : Nat), k + n = mNc u → ∀ (X : Int64), X = fz (wnF u) k d0 → ∀ (ls : Array Slot), lv_has ls 6 [(0, .ref h), (1, .long d0), (3, .long X), (5, .int (nI k))] → W p l e ({ frames := 2, cells := 0, slots := 0, locals := 45 } : Room) s m args below meth c s.heap [] 0 0 (MQ below (vp_Sl (fun r => r = fz (wnF u) (mNc u) d0)) args s 0 0 (fun _ => False)) (F0 m 5 ls []) := by
    intro n
    induction n with
    | zero =>
      intro k hk X eX ls hl
      have ek : k = mNc u := by omega
      refine lv_iload hx hb dX0_withNaps_5 (lv_at hl 3 rfl) ?_
      refine lv_aload_n hx hb dX0_withNaps_7 rfl (lv_at hl 0 rfl) ?_
      refine va_get (D := D) (ci := 0) (v := .int (nI (mNc u))) (C := RX0) (T := TX0) (N := 17) hx hb hts hin hown hK hP 0 rfl rfl 4 (by decide) (hts (.fieldLink RX0 58 "AfternoonMeter" "napCount" "I") (List.mem_of_getElem? (i := 1) rfl)) (fun _ h9 => h9) rfl dX0_withNaps_8 ?_
      refine lv_icmp_ge (tgt := 72) hx hb dX0_withNaps_11 (by decide) (fun c_11 => ?_) (fun c_11 => ?_)
      · skip
        replace c_11 : (mNc u) ≤ k := leN c_11
        refine lv_lload_n hx hb dX0_withNaps_72 rfl (lv_at hl 2 rfl) ?_
        have hq : X = fz (wnF u) (mNc u) d0 := by rw [eX, ek]
        exact W.lret hx hb hr (fun t ht _ => ⟨_, rfl, hq, ht⟩) (fun _ h9 => nomatch h9) dX0_withNaps_73
      · skip
        replace c_11 : k < (mNc u) := nleN c_11
        exact (by omega : False).elim
    | succ n ih =>
      intro k hk X eX ls hl
      refine lv_iload hx hb dX0_withNaps_5 (lv_at hl 3 rfl) ?_
      refine lv_aload_n hx hb dX0_withNaps_7 rfl (lv_at hl 0 rfl) ?_
      refine va_get (D := D) (ci := 0) (v := .int (nI (mNc u))) (C := RX0) (T := TX0) (N := 17) hx hb hts hin hown hK hP 0 rfl rfl 4 (by decide) (hts (.fieldLink RX0 58 "AfternoonMeter" "napCount" "I") (List.mem_of_getElem? (i := 1) rfl)) (fun _ h9 => h9) rfl dX0_withNaps_8 ?_
      refine lv_icmp_ge (tgt := 72) hx hb dX0_withNaps_11 (by decide) (fun c_11 => ?_) (fun c_11 => ?_)
      · skip
        replace c_11 : (mNc u) ≤ k := leN c_11
        exact (by omega : False).elim
      · skip
        replace c_11 : k < (mNc u) := nleN c_11
        refine lv_lload_n hx hb dX0_withNaps_14 rfl (lv_at hl 2 rfl) ?_
        refine lv_ldc2 (v := (31)) hx hb hown (hts (.constantLong RX0 163 (31)) (List.mem_of_getElem? (i := 2) rfl)) dX0_withNaps_15 ?_
        refine lv_lmul hx hb dX0_withNaps_18 ?_
        refine lv_aload_n hx hb dX0_withNaps_19 rfl (lv_at hl 0 rfl) ?_
        refine va_get (D := D) (ci := 0) (v := .ref (a 1)) (C := RX0) (T := TX0) (N := 17) hx hb hts hin hown hK hP 0 rfl rfl 2 (by decide) (hts (.fieldLink RX0 13 "AfternoonMeter" "napStarts" "[I") (List.mem_of_getElem? (i := 3) rfl)) (fun _ h9 => h9) rfl dX0_withNaps_20 ?_
        refine lv_iload hx hb dX0_withNaps_23 (lv_at hl 3 rfl) ?_
        refine q_iald (v := nI (aN u k)) hx hb hK hP 2 0 rfl rfl (by omega) (by decide) ((hIg k (by omega)).1) dX0_withNaps_25 ?_
        obtain ⟨_, _, _, _⟩ := hIg k (by omega)
        refine lv_i2l (v := Int32.toInt64 (nI (aN u k))) hx hb dX0_withNaps_26 rfl ?_
        refine lv_ladd hx hb dX0_withNaps_27 ?_
        refine lv_lstore_n (lv' := [(3, .long ((X * (31)) + (Int32.toInt64 (nI (aN u k))))), (0, .ref h), (1, .long d0), (5, .int (nI k))]) hx hb dX0_withNaps_28 rfl hl (by decide) rfl (fun ls hl => ?_)
        refine lv_lload_n hx hb dX0_withNaps_29 rfl (lv_at hl 0 rfl) ?_
        refine lv_ldc2 (v := (31)) hx hb hown (hts (.constantLong RX0 163 (31)) (List.mem_of_getElem? (i := 2) rfl)) dX0_withNaps_30 ?_
        refine lv_lmul hx hb dX0_withNaps_33 ?_
        refine lv_aload_n hx hb dX0_withNaps_34 rfl (lv_at hl 1 rfl) ?_
        refine va_get (D := D) (ci := 0) (v := .ref (a 2)) (C := RX0) (T := TX0) (N := 17) hx hb hts hin hown hK hP 0 rfl rfl 3 (by decide) (hts (.fieldLink RX0 16 "AfternoonMeter" "napEnds" "[I") (List.mem_of_getElem? (i := 4) rfl)) (fun _ h9 => h9) rfl dX0_withNaps_35 ?_
        refine lv_iload hx hb dX0_withNaps_38 (lv_at hl 3 rfl) ?_
        refine q_iald (v := nI (bN u k)) hx hb hK hP 3 0 rfl rfl (by omega) (by decide) ((hIg k (by omega)).2.1) dX0_withNaps_40 ?_
        obtain ⟨_, _, _, _⟩ := hIg k (by omega)
        refine lv_aload_n hx hb dX0_withNaps_41 rfl (lv_at hl 1 rfl) ?_
        refine va_get (D := D) (ci := 0) (v := .ref (a 1)) (C := RX0) (T := TX0) (N := 17) hx hb hts hin hown hK hP 0 rfl rfl 2 (by decide) (hts (.fieldLink RX0 13 "AfternoonMeter" "napStarts" "[I") (List.mem_of_getElem? (i := 3) rfl)) (fun _ h9 => h9) rfl dX0_withNaps_42 ?_
        refine lv_iload hx hb dX0_withNaps_45 (lv_at hl 3 rfl) ?_
        refine q_iald (v := nI (aN u k)) hx hb hK hP 2 0 rfl rfl (by omega) (by decide) ((hIg k (by omega)).1) dX0_withNaps_47 ?_
        obtain ⟨_, _, _, _⟩ := hIg k (by omega)
        refine q_isubN hx hb (by omega) dX0_withNaps_48 ?_
        refine lv_i2l (v := Int32.toInt64 (nI ((bN u k) - (aN u k)))) hx hb dX0_withNaps_49 rfl ?_
        refine lv_ladd hx hb dX0_withNaps_50 ?_
        refine lv_lstore_n (lv' := [(3, .long ((((X * (31)) + (Int32.toInt64 (nI (aN u k)))) * (31)) + (Int32.toInt64 (nI ((bN u k) - (aN u k)))))), (0, .ref h), (1, .long d0), (5, .int (nI k))]) hx hb dX0_withNaps_51 rfl hl (by decide) rfl (fun ls hl => ?_)
        refine lv_lload_n hx hb dX0_withNaps_52 rfl (lv_at hl 0 rfl) ?_
        refine lv_ldc2 (v := (31)) hx hb hown (hts (.constantLong RX0 163 (31)) (List.mem_of_getElem? (i := 2) rfl)) dX0_withNaps_53 ?_
        refine lv_lmul hx hb dX0_withNaps_56 ?_
        refine lv_aload_n hx hb dX0_withNaps_57 rfl (lv_at hl 1 rfl) ?_
        refine lv_iload hx hb dX0_withNaps_58 (lv_at hl 3 rfl) ?_
        refine vp_callSi (W.runV (As := [.int (nI k)]) (rest := [.long (((((X * (31)) + (Int32.toInt64 (nI (aN u k)))) * (31)) + (Int32.toInt64 (nI ((bN u k) - (aN u k))))) * (31))]) ⟨hx, hb, hml, hown, hts⟩ (c_X0_countAlone l D cI h a u on k hI (by omega)) (cwV 1 hts gX0_withNaps_X0_countAlone rfl rfl rfl (by decide +kernel) ⟨Nat.le_of_ble_eq_true rfl, Nat.le_of_ble_eq_true rfl⟩) (pu_pre hK hP rfl rfl) rfl rfl hl.1 rfl (lv_room (Nat.le_of_ble_eq_true rfl)) dX0_withNaps_60 ⟨Nat.le_of_ble_eq_true rfl, Nat.le_of_ble_eq_true rfl⟩) (fun r hr => ?_)
        subst hr
        refine lv_i2l (v := Int32.toInt64 (fAl u k)) hx hb dX0_withNaps_63 rfl ?_
        refine lv_ladd hx hb dX0_withNaps_64 ?_
        refine lv_lstore_n (lv' := [(3, .long ((((((X * (31)) + (Int32.toInt64 (nI (aN u k)))) * (31)) + (Int32.toInt64 (nI ((bN u k) - (aN u k))))) * (31)) + (Int32.toInt64 (fAl u k)))), (0, .ref h), (1, .long d0), (5, .int (nI k))]) hx hb dX0_withNaps_65 rfl hl (by decide) rfl (fun ls hl => ?_)
        refine lv_iinc (v := nI (k + 1)) (lv' := [(5, .int (nI (k + 1))), (3, .long ((((((X * (31)) + (Int32.toInt64 (nI (aN u k)))) * (31)) + (Int32.toInt64 (nI ((bN u k) - (aN u k))))) * (31)) + (Int32.toInt64 (fAl u k)))), (0, .ref h), (1, .long d0)]) hx hb dX0_withNaps_66 hl (k := 3) rfl (nI_i1 _) (by decide) rfl (fun ls hl => ?_)
        refine lv_goto (tgt := 5) hx hb dX0_withNaps_69 (by decide) ?_
        exact ih (k + 1) (by omega) ((((((X * (31)) + (Int32.toInt64 (nI (aN u k)))) * (31)) + (Int32.toInt64 (nI ((bN u k) - (aN u k))))) * (31)) + (Int32.toInt64 (fAl u k))) (by subst eX; rfl) _ (lv_sub hl [2, 3, 1, 0] rfl)
  exact lp5 _ 0 (Nat.zero_add _) d0 (by rfl) _ (lv_sub hl [2, 3, 1, 0] rfl)
set_option maxHeartbeats 4000000 in
set_option maxRecDepth 100000 in
theorem c_X0_withBees (l : Launch) (D : va_G) (cI : ClassId) (h : Nat) (a : Nat → Nat) (u : MS) (on : Nat → Int32) (d0 : Int64) (hI : Inv u) : Met l yX0_withBees wsX0_withBees ({ frames := 4, cells := 0, slots := 0, locals := 89 } : Room) (va_Pc [.ref h, .long d0] (fun U => va_P D vwCl (pic0 cI h a u on) U.heap ∧ va_K D vwCl [(cI, .int)] U)) (vp_Sl (fun r => r = fz (wbF u) (mBc u) d0)) 0 0 (fun _ => False) := by
  refine en_pu (cc := cX0_withBees) (maxL := 6) (ret := (some .long)) _ _ (by decide) rfl (Nat.le_of_ble_eq_true rfl) ?_
  intro p e s m args below meth c ls hx hb hml hr hlocks hts hown hP hK hl
  have hown : s.vm.findClass RX0 = some m.cls := hown
  have hin : ∀ w ∈ wsX00, w ∈ wsX0_withBees := fun _ h9 => List.mem_cons_of_mem _ (List.mem_append_left _ (List.mem_append_right _ h9))
  have hl : lv_has ls 6 [(0, .ref h), (1, .long d0)] := hl
  obtain ⟨hIa, hIb, hIc, hId, hIe, hIf, hIg, hIh, hIi, hIj⟩ := id hI
  refine lv_lload_n hx hb dX0_withBees_0 rfl (lv_at hl 1 rfl) ?_
  refine lv_lstore_n (lv' := [(3, .long d0), (0, .ref h), (1, .long d0)]) hx hb dX0_withBees_1 rfl hl (by decide) rfl (fun ls hl => ?_)
  refine lv_iconst (v := nI 0) hx hb dX0_withBees_2 (by decide +kernel) ?_
  refine lv_istore (lv' := [(5, .int (nI 0)), (3, .long d0), (0, .ref h), (1, .long d0)]) hx hb dX0_withBees_3 hl (by decide) rfl (fun ls hl => ?_)
  have lp5 : ∀ (n k : Nat), k + n = mBc u → ∀ (X : Int64), X = fz (wbF u) k d0 → ∀ (ls : Array Slot), lv_has ls 6 [(0, .ref h), (1, .long d0), (3, .long X), (5, .int (nI k))] → W p l e ({ frames := 4, cells := 0, slots := 0, locals := 89 } : Room) s m args below meth c s.heap [] 0 0 (MQ below (vp_Sl (fun r => r = fz (wbF u) (mBc u) d0)) args s 0 0 (fun _ => False)) (F0 m 5 ls []) := by
    intro n
    induction n with
    | zero =>
      intro k hk X eX ls hl
      have ek : k = mBc u := by omega
      refine lv_iload hx hb dX0_withBees_5 (lv_at hl 3 rfl) ?_
      refine lv_aload_n hx hb dX0_withBees_7 rfl (lv_at hl 0 rfl) ?_
      refine va_get (D := D) (ci := 0) (v := .int (nI (mBc u))) (C := RX0) (T := TX0) (N := 17) hx hb hts hin hown hK hP 0 rfl rfl 8 (by decide) (hts (.fieldLink RX0 73 "AfternoonMeter" "beeCount" "I") (List.mem_of_getElem? (i := 1) rfl)) (fun _ h9 => h9) rfl dX0_withBees_8 ?_
      refine lv_icmp_ge (tgt := 62) hx hb dX0_withBees_11 (by decide) (fun c_11 => ?_) (fun c_11 => ?_)
      · skip
        replace c_11 : (mBc u) ≤ k := leN c_11
        refine lv_lload_n hx hb dX0_withBees_62 rfl (lv_at hl 2 rfl) ?_
        have hq : X = fz (wbF u) (mBc u) d0 := by rw [eX, ek]
        exact W.lret hx hb hr (fun t ht _ => ⟨_, rfl, hq, ht⟩) (fun _ h9 => nomatch h9) dX0_withBees_63
      · skip
        replace c_11 : k < (mBc u) := nleN c_11
        exact (by omega : False).elim
    | succ n ih =>
      intro k hk X eX ls hl
      refine lv_iload hx hb dX0_withBees_5 (lv_at hl 3 rfl) ?_
      refine lv_aload_n hx hb dX0_withBees_7 rfl (lv_at hl 0 rfl) ?_
      refine va_get (D := D) (ci := 0) (v := .int (nI (mBc u))) (C := RX0) (T := TX0) (N := 17) hx hb hts hin hown hK hP 0 rfl rfl 8 (by decide) (hts (.fieldLink RX0 73 "AfternoonMeter" "beeCount" "I") (List.mem_of_getElem? (i := 1) rfl)) (fun _ h9 => h9) rfl dX0_withBees_8 ?_
      refine lv_icmp_ge (tgt := 62) hx hb dX0_withBees_11 (by decide) (fun c_11 => ?_) (fun c_11 => ?_)
      · skip
        replace c_11 : (mBc u) ≤ k := leN c_11
        exact (by omega : False).elim
      · skip
        replace c_11 : k < (mBc u) := nleN c_11
        refine lv_lload_n hx hb dX0_withBees_14 rfl (lv_at hl 2 rfl) ?_
        refine lv_ldc2 (v := (31)) hx hb hown (hts (.constantLong RX0 163 (31)) (List.mem_of_getElem? (i := 2) rfl)) dX0_withBees_15 ?_
        refine lv_lmul hx hb dX0_withBees_18 ?_
        refine lv_aload_n hx hb dX0_withBees_19 rfl (lv_at hl 0 rfl) ?_
        refine lv_iload hx hb dX0_withBees_20 (lv_at hl 3 rfl) ?_
        refine vp_callSi (W.runV (As := [.int (nI k)]) (rest := [.long (X * (31))]) ⟨hx, hb, hml, hown, hts⟩ (c_X0_countTicks l D cI h a u on k hI (by omega)) (cwV 1 hts gX0_withBees_X0_countTicks rfl rfl rfl (by decide +kernel) ⟨Nat.le_of_ble_eq_true rfl, Nat.le_of_ble_eq_true rfl⟩) (pu_pre hK hP rfl rfl) rfl rfl hl.1 rfl (lv_room (Nat.le_of_ble_eq_true rfl)) dX0_withBees_22 ⟨Nat.le_of_ble_eq_true rfl, Nat.le_of_ble_eq_true rfl⟩) (fun r hr => ?_)
        subst hr
        refine lv_i2l (v := Int32.toInt64 (fTk u k)) hx hb dX0_withBees_25 rfl ?_
        refine lv_ladd hx hb dX0_withBees_26 ?_
        refine lv_lstore_n (lv' := [(3, .long ((X * (31)) + (Int32.toInt64 (fTk u k)))), (0, .ref h), (1, .long d0), (5, .int (nI k))]) hx hb dX0_withBees_27 rfl hl (by decide) rfl (fun ls hl => ?_)
        refine lv_lload_n hx hb dX0_withBees_28 rfl (lv_at hl 0 rfl) ?_
        refine lv_ldc2 (v := (31)) hx hb hown (hts (.constantLong RX0 163 (31)) (List.mem_of_getElem? (i := 2) rfl)) dX0_withBees_29 ?_
        refine lv_lmul hx hb dX0_withBees_32 ?_
        refine lv_aload_n hx hb dX0_withBees_33 rfl (lv_at hl 1 rfl) ?_
        refine lv_iload hx hb dX0_withBees_34 (lv_at hl 3 rfl) ?_
        refine vp_callSi (W.runV (As := [.int (nI k)]) (rest := [.long (((X * (31)) + (Int32.toInt64 (fTk u k))) * (31))]) ⟨hx, hb, hml, hown, hts⟩ (c_X0_measuredBy l D cI h a u on k hI (by omega)) (cwV 1 hts gX0_withBees_X0_measuredBy rfl rfl rfl (by decide +kernel) ⟨Nat.le_of_ble_eq_true rfl, Nat.le_of_ble_eq_true rfl⟩) (pu_pre hK hP rfl rfl) rfl rfl hl.1 rfl (lv_room (Nat.le_of_ble_eq_true rfl)) dX0_withBees_36 ⟨Nat.le_of_ble_eq_true rfl, Nat.le_of_ble_eq_true rfl⟩) (fun r hr => ?_)
        subst hr
        refine lv_i2l (v := Int32.toInt64 (fMe u k)) hx hb dX0_withBees_39 rfl ?_
        refine lv_ladd hx hb dX0_withBees_40 ?_
        refine lv_lstore_n (lv' := [(3, .long ((((X * (31)) + (Int32.toInt64 (fTk u k))) * (31)) + (Int32.toInt64 (fMe u k)))), (0, .ref h), (1, .long d0), (5, .int (nI k))]) hx hb dX0_withBees_41 rfl hl (by decide) rfl (fun ls hl => ?_)
        refine lv_lload_n hx hb dX0_withBees_42 rfl (lv_at hl 0 rfl) ?_
        refine lv_ldc2 (v := (31)) hx hb hown (hts (.constantLong RX0 163 (31)) (List.mem_of_getElem? (i := 2) rfl)) dX0_withBees_43 ?_
        refine lv_lmul hx hb dX0_withBees_46 ?_
        refine lv_aload_n hx hb dX0_withBees_47 rfl (lv_at hl 1 rfl) ?_
        refine lv_iload hx hb dX0_withBees_48 (lv_at hl 3 rfl) ?_
        refine vp_callSi (W.runV (As := [.int (nI k)]) (rest := [.long (((((X * (31)) + (Int32.toInt64 (fTk u k))) * (31)) + (Int32.toInt64 (fMe u k))) * (31))]) ⟨hx, hb, hml, hown, hts⟩ (c_X0_nextTick l D cI h a u on k hI (by omega)) (cwV 1 hts gX0_withBees_X0_nextTick rfl rfl rfl (by decide +kernel) ⟨Nat.le_of_ble_eq_true rfl, Nat.le_of_ble_eq_true rfl⟩) (pu_pre hK hP rfl rfl) rfl rfl hl.1 rfl (lv_room (Nat.le_of_ble_eq_true rfl)) dX0_withBees_50 ⟨Nat.le_of_ble_eq_true rfl, Nat.le_of_ble_eq_true rfl⟩) (fun r hr => ?_)
        subst hr
        refine lv_i2l (v := Int32.toInt64 (fNx u k)) hx hb dX0_withBees_53 rfl ?_
        refine lv_ladd hx hb dX0_withBees_54 ?_
        refine lv_lstore_n (lv' := [(3, .long ((((((X * (31)) + (Int32.toInt64 (fTk u k))) * (31)) + (Int32.toInt64 (fMe u k))) * (31)) + (Int32.toInt64 (fNx u k)))), (0, .ref h), (1, .long d0), (5, .int (nI k))]) hx hb dX0_withBees_55 rfl hl (by decide) rfl (fun ls hl => ?_)
        refine lv_iinc (v := nI (k + 1)) (lv' := [(5, .int (nI (k + 1))), (3, .long ((((((X * (31)) + (Int32.toInt64 (fTk u k))) * (31)) + (Int32.toInt64 (fMe u k))) * (31)) + (Int32.toInt64 (fNx u k)))), (0, .ref h), (1, .long d0)]) hx hb dX0_withBees_56 hl (k := 3) rfl (nI_i1 _) (by decide) rfl (fun ls hl => ?_)
        refine lv_goto (tgt := 5) hx hb dX0_withBees_59 (by decide) ?_
        exact ih (k + 1) (by omega) ((((((X * (31)) + (Int32.toInt64 (fTk u k))) * (31)) + (Int32.toInt64 (fMe u k))) * (31)) + (Int32.toInt64 (fNx u k))) (by subst eX; rfl) _ (lv_sub hl [2, 3, 1, 0] rfl)
  exact lp5 _ 0 (Nat.zero_add _) d0 (by rfl) _ (lv_sub hl [2, 3, 1, 0] rfl)
set_option maxHeartbeats 4000000 in
set_option maxRecDepth 100000 in
theorem c_X0_digest (l : Launch) (D : va_G) (cI : ClassId) (h : Nat) (a : Nat → Nat) (u : MS) (on : Nat → Int32) (hI : Inv u) (hO : InvO u on) : Met l yX0_digest wsX0_digest ({ frames := 6, cells := 0, slots := 0, locals := 134 } : Room) (va_Pc [.ref h] (fun U => va_P D vwCl (pic0 cI h a u on) U.heap ∧ va_K D vwCl [(cI, .int)] U)) (vp_Sl (fun r => r = fDig u)) 0 0 (fun _ => False) := by
  refine en_pu (cc := cX0_digest) (maxL := 3) (ret := (some .long)) _ _ (by decide) rfl (Nat.le_of_ble_eq_true rfl) ?_
  intro p e s m args below meth c ls hx hb hml hr hlocks hts hown hP hK hl
  have hown : s.vm.findClass RX0 = some m.cls := hown
  have hin : ∀ w ∈ wsX00, w ∈ wsX0_digest := fun _ h9 => List.mem_cons_of_mem _ (List.mem_append_left _ (List.mem_append_right _ h9))
  have hl : lv_has ls 3 [(0, .ref h)] := hl
  obtain ⟨hIa, hIb, hIc, hId, hIe, hIf, hIg, hIh, hIi, hIj⟩ := id hI
  refine lv_ldc2 (v := (2083)) hx hb hown (hts (.constantLong RX0 161 (2083)) (List.mem_of_getElem? (i := 1) rfl)) dX0_digest_0 ?_
  refine lv_lstore_n (lv' := [(1, .long (2083)), (0, .ref h)]) hx hb dX0_digest_3 rfl hl (by decide) rfl (fun ls hl => ?_)
  refine lv_lload_n hx hb dX0_digest_4 rfl (lv_at hl 0 rfl) ?_
  refine lv_ldc2 (v := (31)) hx hb hown (hts (.constantLong RX0 163 (31)) (List.mem_of_getElem? (i := 2) rfl)) dX0_digest_5 ?_
  refine lv_lmul hx hb dX0_digest_8 ?_
  refine lv_aload_n hx hb dX0_digest_9 rfl (lv_at hl 1 rfl) ?_
  refine va_get (D := D) (ci := 0) (v := .int (mAft u)) (C := RX0) (T := TX0) (N := 17) hx hb hts hin hown hK hP 0 rfl rfl 16 (by decide) (hts (.fieldLink RX0 109 "AfternoonMeter" "afternoonNumber" "I") (List.mem_of_getElem? (i := 3) rfl)) (fun _ h9 => h9) rfl dX0_digest_10 ?_
  refine lv_i2l (v := Int32.toInt64 (mAft u)) hx hb dX0_digest_13 rfl ?_
  refine lv_ladd hx hb dX0_digest_14 ?_
  refine lv_topl (fun d_14 ed_14 => ?_)
  refine lv_lstore_n (lv' := [(1, .long d_14), (0, .ref h)]) hx hb dX0_digest_15 rfl hl (by decide) rfl (fun ls hl => ?_)
  refine lv_lload_n hx hb dX0_digest_16 rfl (lv_at hl 0 rfl) ?_
  refine lv_ldc2 (v := (31)) hx hb hown (hts (.constantLong RX0 163 (31)) (List.mem_of_getElem? (i := 2) rfl)) dX0_digest_17 ?_
  refine lv_lmul hx hb dX0_digest_20 ?_
  refine lv_aload_n hx hb dX0_digest_21 rfl (lv_at hl 1 rfl) ?_
  refine va_get (D := D) (ci := 0) (v := .int (nI (mNow u))) (C := RX0) (T := TX0) (N := 17) hx hb hts hin hown hK hP 0 rfl rfl 15 (by decide) (hts (.fieldLink RX0 97 "AfternoonMeter" "now" "I") (List.mem_of_getElem? (i := 4) rfl)) (fun _ h9 => h9) rfl dX0_digest_22 ?_
  refine lv_i2l (v := Int32.toInt64 (nI (mNow u))) hx hb dX0_digest_25 rfl ?_
  refine lv_ladd hx hb dX0_digest_26 ?_
  refine lv_topl (fun d_26 ed_26 => ?_)
  refine lv_lstore_n (lv' := [(1, .long d_26), (0, .ref h)]) hx hb dX0_digest_27 rfl hl (by decide) rfl (fun ls hl => ?_)
  refine lv_lload_n hx hb dX0_digest_28 rfl (lv_at hl 0 rfl) ?_
  refine lv_ldc2 (v := (31)) hx hb hown (hts (.constantLong RX0 163 (31)) (List.mem_of_getElem? (i := 2) rfl)) dX0_digest_29 ?_
  refine lv_lmul hx hb dX0_digest_32 ?_
  refine lv_aload_n hx hb dX0_digest_33 rfl (lv_at hl 1 rfl) ?_
  refine vp_callSi (W.runV (As := []) (rest := [.long (d_26 * (31))]) ⟨hx, hb, hml, hown, hts⟩ (c_X0_awakeMinutes l D cI h a u on hI) (cwV 0 hts gX0_digest_X0_awakeMinutes rfl rfl rfl (by decide +kernel) ⟨Nat.le_of_ble_eq_true rfl, Nat.le_of_ble_eq_true rfl⟩) (pu_pre hK hP rfl rfl) rfl rfl hl.1 rfl (lv_room (Nat.le_of_ble_eq_true rfl)) dX0_digest_34 ⟨Nat.le_of_ble_eq_true rfl, Nat.le_of_ble_eq_true rfl⟩) (fun r hr => ?_)
  subst hr
  refine lv_i2l (v := Int32.toInt64 (fAw u)) hx hb dX0_digest_37 rfl ?_
  refine lv_ladd hx hb dX0_digest_38 ?_
  refine lv_topl (fun d_38 ed_38 => ?_)
  refine lv_lstore_n (lv' := [(1, .long d_38), (0, .ref h)]) hx hb dX0_digest_39 rfl hl (by decide) rfl (fun ls hl => ?_)
  refine lv_lload_n hx hb dX0_digest_40 rfl (lv_at hl 0 rfl) ?_
  refine lv_ldc2 (v := (31)) hx hb hown (hts (.constantLong RX0 163 (31)) (List.mem_of_getElem? (i := 2) rfl)) dX0_digest_41 ?_
  refine lv_lmul hx hb dX0_digest_44 ?_
  refine lv_aload_n hx hb dX0_digest_45 rfl (lv_at hl 1 rfl) ?_
  refine vp_callSi (W.runV (As := []) (rest := [.long (d_38 * (31))]) ⟨hx, hb, hml, hown, hts⟩ (c_X0_longestAwake l D cI h a u on hI) (cwV 0 hts gX0_digest_X0_longestAwake rfl rfl rfl (by decide +kernel) ⟨Nat.le_of_ble_eq_true rfl, Nat.le_of_ble_eq_true rfl⟩) (pu_pre hK hP rfl rfl) rfl rfl hl.1 rfl (lv_room (Nat.le_of_ble_eq_true rfl)) dX0_digest_46 ⟨Nat.le_of_ble_eq_true rfl, Nat.le_of_ble_eq_true rfl⟩) (fun r hr => ?_)
  subst hr
  refine lv_i2l (v := Int32.toInt64 (fLong u)) hx hb dX0_digest_49 rfl ?_
  refine lv_ladd hx hb dX0_digest_50 ?_
  refine lv_topl (fun d_50 ed_50 => ?_)
  refine lv_lstore_n (lv' := [(1, .long d_50), (0, .ref h)]) hx hb dX0_digest_51 rfl hl (by decide) rfl (fun ls hl => ?_)
  refine lv_lload_n hx hb dX0_digest_52 rfl (lv_at hl 0 rfl) ?_
  refine lv_ldc2 (v := (31)) hx hb hown (hts (.constantLong RX0 163 (31)) (List.mem_of_getElem? (i := 2) rfl)) dX0_digest_53 ?_
  refine lv_lmul hx hb dX0_digest_56 ?_
  refine lv_aload_n hx hb dX0_digest_57 rfl (lv_at hl 1 rfl) ?_
  refine va_get (D := D) (ci := 0) (v := .int (nI (mSc u))) (C := RX0) (T := TX0) (N := 17) hx hb hts hin hown hK hP 0 rfl rfl 1 (by decide) (hts (.fieldLink RX0 48 "AfternoonMeter" "stickCount" "I") (List.mem_of_getElem? (i := 5) rfl)) (fun _ h9 => h9) rfl dX0_digest_58 ?_
  refine lv_i2l (v := Int32.toInt64 (nI (mSc u))) hx hb dX0_digest_61 rfl ?_
  refine lv_ladd hx hb dX0_digest_62 ?_
  refine lv_topl (fun d_62 ed_62 => ?_)
  refine lv_lstore_n (lv' := [(1, .long d_62), (0, .ref h)]) hx hb dX0_digest_63 rfl hl (by decide) rfl (fun ls hl => ?_)
  refine lv_lload_n hx hb dX0_digest_64 rfl (lv_at hl 0 rfl) ?_
  refine lv_ldc2 (v := (31)) hx hb hown (hts (.constantLong RX0 163 (31)) (List.mem_of_getElem? (i := 2) rfl)) dX0_digest_65 ?_
  refine lv_lmul hx hb dX0_digest_68 ?_
  refine lv_aload_n hx hb dX0_digest_69 rfl (lv_at hl 1 rfl) ?_
  refine va_get (D := D) (ci := 0) (v := .int (nI (mNc u))) (C := RX0) (T := TX0) (N := 17) hx hb hts hin hown hK hP 0 rfl rfl 4 (by decide) (hts (.fieldLink RX0 58 "AfternoonMeter" "napCount" "I") (List.mem_of_getElem? (i := 6) rfl)) (fun _ h9 => h9) rfl dX0_digest_70 ?_
  refine lv_i2l (v := Int32.toInt64 (nI (mNc u))) hx hb dX0_digest_73 rfl ?_
  refine lv_ladd hx hb dX0_digest_74 ?_
  refine lv_topl (fun d_74 ed_74 => ?_)
  refine lv_lstore_n (lv' := [(1, .long d_74), (0, .ref h)]) hx hb dX0_digest_75 rfl hl (by decide) rfl (fun ls hl => ?_)
  refine lv_lload_n hx hb dX0_digest_76 rfl (lv_at hl 0 rfl) ?_
  refine lv_ldc2 (v := (31)) hx hb hown (hts (.constantLong RX0 163 (31)) (List.mem_of_getElem? (i := 2) rfl)) dX0_digest_77 ?_
  refine lv_lmul hx hb dX0_digest_80 ?_
  refine lv_aload_n hx hb dX0_digest_81 rfl (lv_at hl 1 rfl) ?_
  refine va_get (D := D) (ci := 0) (v := .int (nI (mBc u))) (C := RX0) (T := TX0) (N := 17) hx hb hts hin hown hK hP 0 rfl rfl 8 (by decide) (hts (.fieldLink RX0 73 "AfternoonMeter" "beeCount" "I") (List.mem_of_getElem? (i := 7) rfl)) (fun _ h9 => h9) rfl dX0_digest_82 ?_
  refine lv_i2l (v := Int32.toInt64 (nI (mBc u))) hx hb dX0_digest_85 rfl ?_
  refine lv_ladd hx hb dX0_digest_86 ?_
  refine lv_topl (fun d_86 ed_86 => ?_)
  refine lv_lstore_n (lv' := [(1, .long d_86), (0, .ref h)]) hx hb dX0_digest_87 rfl hl (by decide) rfl (fun ls hl => ?_)
  refine lv_lload_n hx hb dX0_digest_88 rfl (lv_at hl 0 rfl) ?_
  refine lv_ldc2 (v := (31)) hx hb hown (hts (.constantLong RX0 163 (31)) (List.mem_of_getElem? (i := 2) rfl)) dX0_digest_89 ?_
  refine lv_lmul hx hb dX0_digest_92 ?_
  refine lv_aload_n hx hb dX0_digest_93 rfl (lv_at hl 1 rfl) ?_
  refine va_get (D := D) (ci := 0) (v := .int (nI (mTea u))) (C := RX0) (T := TX0) (N := 17) hx hb hts hin hown hK hP 0 rfl rfl 13 (by decide) (hts (.fieldLink RX0 88 "AfternoonMeter" "inCup" "I") (List.mem_of_getElem? (i := 8) rfl)) (fun _ h9 => h9) rfl dX0_digest_94 ?_
  refine lv_i2l (v := Int32.toInt64 (nI (mTea u))) hx hb dX0_digest_97 rfl ?_
  refine lv_ladd hx hb dX0_digest_98 ?_
  refine lv_topl (fun d_98 ed_98 => ?_)
  refine lv_lstore_n (lv' := [(1, .long d_98), (0, .ref h)]) hx hb dX0_digest_99 rfl hl (by decide) rfl (fun ls hl => ?_)
  refine lv_lload_n hx hb dX0_digest_100 rfl (lv_at hl 0 rfl) ?_
  refine lv_ldc2 (v := (31)) hx hb hown (hts (.constantLong RX0 163 (31)) (List.mem_of_getElem? (i := 2) rfl)) dX0_digest_101 ?_
  refine lv_lmul hx hb dX0_digest_104 ?_
  refine lv_aload_n hx hb dX0_digest_105 rfl (lv_at hl 1 rfl) ?_
  refine va_get (D := D) (ci := 0) (v := .int (mSpl u)) (C := RX0) (T := TX0) (N := 17) hx hb hts hin hown hK hP 0 rfl rfl 14 (by decide) (hts (.fieldLink RX0 106 "AfternoonMeter" "ranOver" "I") (List.mem_of_getElem? (i := 9) rfl)) (fun _ h9 => h9) rfl dX0_digest_106 ?_
  refine lv_i2l (v := Int32.toInt64 (mSpl u)) hx hb dX0_digest_109 rfl ?_
  refine lv_ladd hx hb dX0_digest_110 ?_
  refine lv_topl (fun d_110 ed_110 => ?_)
  refine lv_lstore_n (lv' := [(1, .long d_110), (0, .ref h)]) hx hb dX0_digest_111 rfl hl (by decide) rfl (fun ls hl => ?_)
  refine lv_lload_n hx hb dX0_digest_112 rfl (lv_at hl 0 rfl) ?_
  refine lv_ldc2 (v := (31)) hx hb hown (hts (.constantLong RX0 163 (31)) (List.mem_of_getElem? (i := 2) rfl)) dX0_digest_113 ?_
  refine lv_lmul hx hb dX0_digest_116 ?_
  refine lv_aload_n hx hb dX0_digest_117 rfl (lv_at hl 1 rfl) ?_
  refine vp_callSi (W.runV (As := []) (rest := [.long (d_110 * (31))]) ⟨hx, hb, hml, hown, hts⟩ (c_X0_spiltAtEnd l D cI h a u on hI (by omega)) (cwV 0 hts gX0_digest_X0_spiltAtEnd rfl rfl rfl (by decide +kernel) ⟨Nat.le_of_ble_eq_true rfl, Nat.le_of_ble_eq_true rfl⟩) (pu_pre hK hP rfl rfl) rfl rfl hl.1 rfl (lv_room (Nat.le_of_ble_eq_true rfl)) dX0_digest_118 ⟨Nat.le_of_ble_eq_true rfl, Nat.le_of_ble_eq_true rfl⟩) (fun r hr => ?_)
  subst hr
  refine lv_i2l (v := Int32.toInt64 (fEnd u)) hx hb dX0_digest_121 rfl ?_
  refine lv_ladd hx hb dX0_digest_122 ?_
  refine lv_topl (fun d_122 ed_122 => ?_)
  refine lv_lstore_n (lv' := [(1, .long d_122), (0, .ref h)]) hx hb dX0_digest_123 rfl hl (by decide) rfl (fun ls hl => ?_)
  refine lv_lload_n hx hb dX0_digest_124 rfl (lv_at hl 0 rfl) ?_
  refine lv_ldc2 (v := (31)) hx hb hown (hts (.constantLong RX0 163 (31)) (List.mem_of_getElem? (i := 2) rfl)) dX0_digest_125 ?_
  refine lv_lmul hx hb dX0_digest_128 ?_
  refine lv_aload_n hx hb dX0_digest_129 rfl (lv_at hl 1 rfl) ?_
  refine vp_callSi (W.runV (As := []) (rest := [.long (d_122 * (31))]) ⟨hx, hb, hml, hown, hts⟩ (c_X0_safeRate l D cI h a u on hI (by omega)) (cwV 0 hts gX0_digest_X0_safeRate rfl rfl rfl (by decide +kernel) ⟨Nat.le_of_ble_eq_true rfl, Nat.le_of_ble_eq_true rfl⟩) (pu_pre hK hP rfl rfl) rfl rfl hl.1 rfl (lv_room (Nat.le_of_ble_eq_true rfl)) dX0_digest_130 ⟨Nat.le_of_ble_eq_true rfl, Nat.le_of_ble_eq_true rfl⟩) (fun r hr => ?_)
  subst hr
  refine lv_i2l (v := Int32.toInt64 (nI (sfF u 9))) hx hb dX0_digest_133 rfl ?_
  refine lv_ladd hx hb dX0_digest_134 ?_
  refine lv_topl (fun d_134 ed_134 => ?_)
  refine lv_lstore_n (lv' := [(1, .long d_134), (0, .ref h)]) hx hb dX0_digest_135 rfl hl (by decide) rfl (fun ls hl => ?_)
  refine lv_lload_n hx hb dX0_digest_136 rfl (lv_at hl 0 rfl) ?_
  refine lv_ldc2 (v := (31)) hx hb hown (hts (.constantLong RX0 163 (31)) (List.mem_of_getElem? (i := 2) rfl)) dX0_digest_137 ?_
  refine lv_lmul hx hb dX0_digest_140 ?_
  refine lv_aload_n hx hb dX0_digest_141 rfl (lv_at hl 1 rfl) ?_
  refine vp_callSi (W.runV (As := []) (rest := [.long (d_134 * (31))]) ⟨hx, hb, hml, hown, hts⟩ (c_X0_bestToGiveUp l D cI h a u on hI) (cwV 0 hts gX0_digest_X0_bestToGiveUp rfl rfl rfl (by decide +kernel) ⟨Nat.le_of_ble_eq_true rfl, Nat.le_of_ble_eq_true rfl⟩) (pu_pre hK hP rfl rfl) rfl rfl hl.1 rfl (lv_room (Nat.le_of_ble_eq_true rfl)) dX0_digest_142 ⟨Nat.le_of_ble_eq_true rfl, Nat.le_of_ble_eq_true rfl⟩) (fun r hr => ?_)
  subst hr
  refine lv_i2l (v := Int32.toInt64 (fBG u)) hx hb dX0_digest_145 rfl ?_
  refine lv_ladd hx hb dX0_digest_146 ?_
  refine lv_topl (fun d_146 ed_146 => ?_)
  refine lv_lstore_n (lv' := [(1, .long d_146), (0, .ref h)]) hx hb dX0_digest_147 rfl hl (by decide) rfl (fun ls hl => ?_)
  refine lv_lload_n hx hb dX0_digest_148 rfl (lv_at hl 0 rfl) ?_
  refine lv_ldc2 (v := (31)) hx hb hown (hts (.constantLong RX0 163 (31)) (List.mem_of_getElem? (i := 2) rfl)) dX0_digest_149 ?_
  refine lv_lmul hx hb dX0_digest_152 ?_
  refine lv_aload_n hx hb dX0_digest_153 rfl (lv_at hl 1 rfl) ?_
  refine vp_callSi (W.runV (As := []) (rest := [.long (d_146 * (31))]) ⟨hx, hb, hml, hown, hts⟩ (c_X0_bestBee l D cI h a u on hI) (cwV 0 hts gX0_digest_X0_bestBee rfl rfl rfl (by decide +kernel) ⟨Nat.le_of_ble_eq_true rfl, Nat.le_of_ble_eq_true rfl⟩) (pu_pre hK hP rfl rfl) rfl rfl hl.1 rfl (lv_room (Nat.le_of_ble_eq_true rfl)) dX0_digest_154 ⟨Nat.le_of_ble_eq_true rfl, Nat.le_of_ble_eq_true rfl⟩) (fun r hr => ?_)
  subst hr
  refine lv_i2l (v := Int32.toInt64 (fBB u)) hx hb dX0_digest_157 rfl ?_
  refine lv_ladd hx hb dX0_digest_158 ?_
  refine lv_topl (fun d_158 ed_158 => ?_)
  refine lv_lstore_n (lv' := [(1, .long d_158), (0, .ref h)]) hx hb dX0_digest_159 rfl hl (by decide) rfl (fun ls hl => ?_)
  refine lv_aload_n hx hb dX0_digest_160 rfl (lv_at hl 1 rfl) ?_
  refine lv_aload_n hx hb dX0_digest_161 rfl (lv_at hl 1 rfl) ?_
  refine lv_aload_n hx hb dX0_digest_162 rfl (lv_at hl 1 rfl) ?_
  refine lv_lload_n hx hb dX0_digest_163 rfl (lv_at hl 0 rfl) ?_
  refine vp_callSl (W.runV (As := [.long d_158]) (rest := [.ref h, .ref h]) ⟨hx, hb, hml, hown, hts⟩ (c_X0_withSticks l D cI h a u on d_158 hI) (cwV 1 hts gX0_digest_X0_withSticks rfl rfl rfl (by decide +kernel) ⟨Nat.le_of_ble_eq_true rfl, Nat.le_of_ble_eq_true rfl⟩) (pu_pre hK hP rfl rfl) rfl rfl hl.1 rfl (lv_room (Nat.le_of_ble_eq_true rfl)) dX0_digest_164 ⟨Nat.le_of_ble_eq_true rfl, Nat.le_of_ble_eq_true rfl⟩) (fun r hr => ?_)
  subst hr
  refine vp_callSl (W.runV (As := [.long (fz (wsF u) (mSc u) d_158)]) (rest := [.ref h]) ⟨hx, hb, hml, hown, hts⟩ (c_X0_withNaps l D cI h a u on (fz (wsF u) (mSc u) d_158) hI) (cwV 1 hts gX0_digest_X0_withNaps rfl rfl rfl (by decide +kernel) ⟨Nat.le_of_ble_eq_true rfl, Nat.le_of_ble_eq_true rfl⟩) (pu_pre hK hP rfl rfl) rfl rfl hl.1 rfl (lv_room (Nat.le_of_ble_eq_true rfl)) dX0_digest_167 ⟨Nat.le_of_ble_eq_true rfl, Nat.le_of_ble_eq_true rfl⟩) (fun r hr => ?_)
  subst hr
  refine vp_callSl (W.runV (As := [.long (fz (wnF u) (mNc u) (fz (wsF u) (mSc u) d_158))]) (rest := []) ⟨hx, hb, hml, hown, hts⟩ (c_X0_withBees l D cI h a u on (fz (wnF u) (mNc u) (fz (wsF u) (mSc u) d_158)) hI) (cwV 1 hts gX0_digest_X0_withBees rfl rfl rfl (by decide +kernel) ⟨Nat.le_of_ble_eq_true rfl, Nat.le_of_ble_eq_true rfl⟩) (pu_pre hK hP rfl rfl) rfl rfl hl.1 rfl (lv_room (Nat.le_of_ble_eq_true rfl)) dX0_digest_170 ⟨Nat.le_of_ble_eq_true rfl, Nat.le_of_ble_eq_true rfl⟩) (fun r hr => ?_)
  subst hr
  have hq : fz (wbF u) (mBc u) (fz (wnF u) (mNc u) (fz (wsF u) (mSc u) d_158)) = fDig u := by subst ed_14 ed_26 ed_38 ed_50 ed_62 ed_74 ed_86 ed_98 ed_110 ed_122 ed_134 ed_146 ed_158; rfl
  exact W.lret hx hb hr (fun t ht _ => ⟨_, rfl, hq, ht⟩) (fun _ h9 => nomatch h9) dX0_digest_173
