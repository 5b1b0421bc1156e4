set_option maxHeartbeats 4000000 in
set_option maxRecDepth 100000 in
theorem c_X1_napsAt (l : Launch) (D : va_G) (cI cR : ClassId) (h : Nat) (a nr br : Nat → Nat) (u : MS) (tt : Nat) (but : Int32) (hI : InvN u) (ht : tt < 1000000) : Met l yX1_napsAt wsX1_napsAt ({ frames := 0, cells := 0, slots := 0, locals := 0 } : Room) (va_Pc [.ref h, .int (nI tt), .int but] (fun U => va_P D vwCl (picS h a u) U.heap ∧ RO cI cR a nr br u U.heap ∧ va_K D vwCl (tyR cI cR) U)) (vp_Si (fun r => r = nI (cB u but tt))) 0 0 (fun _ => False) := by
  refine en_pr (cc := cX1_napsAt) (maxL := 5) (ret := (some .int)) _ _ _ (by decide) rfl (Nat.le_of_ble_eq_true rfl) ?_
  intro p e s m args below meth c ls hx hb hml hr hlocks hts hown hP hR hK hl
  have hown : s.vm.findClass RX1 = some m.cls := hown
  have hin : ∀ w ∈ wsX10, w ∈ wsX1_napsAt := fun _ h9 => List.mem_cons_of_mem _ (List.mem_append_right _ h9)
  have hl : lv_has ls 5 [(0, .ref h), (1, .int (nI tt)), (2, .int but)] := hl
  obtain ⟨hIa, hIb, hIc, hId, hIf, hIg, hIi⟩ := id hI
  refine lv_iconst (v := nI 0) hx hb dX1_napsAt_0 (by decide +kernel) ?_
  refine lv_istore_n (lv' := [(3, .int (nI 0)), (0, .ref h), (1, .int (nI tt)), (2, .int but)]) hx hb dX1_napsAt_1 rfl hl (by decide) rfl (fun ls hl => ?_)
  refine lv_iconst (v := nI 0) hx hb dX1_napsAt_2 (by decide +kernel) ?_
  refine lv_istore (lv' := [(4, .int (nI 0)), (3, .int (nI 0)), (0, .ref h), (1, .int (nI tt)), (2, .int but)]) hx hb dX1_napsAt_3 hl (by decide) rfl (fun ls hl => ?_)
  have lp5 : ∀ (n k : Nat), k + n = mNc u → ∀ (X : Nat), X = ct (nbB u but tt) k → ∀ (ls : Array Slot), lv_has ls 5 [(0, .ref h), (1, .int (nI tt)), (2, .int but), (3, .int (nI X)), (4, .int (nI k))] → W p l e ({ frames := 0, cells := 0, slots := 0, locals := 0 } : Room) s m args below meth c s.heap [] 0 0 (MQ below (vp_Si (fun r => r = nI (cB u but tt))) args s 0 0 (fun _ => False)) (F0 m 5 ls []) := by
    intro n
    induction n with
    | zero =>
      intro k hk X eX ls hl
      have ek : k = mNc u := by omega
      refine lv_iload hx hb dX1_napsAt_5 (lv_at hl 4 rfl) ?_
      refine lv_aload_n hx hb dX1_napsAt_7 rfl (lv_at hl 0 rfl) ?_
      refine va_get (D := D) (ci := 1) (v := .ref (a 1)) (C := RX1) (T := TX1) (N := 10) hx hb hts hin hown hK hP 0 rfl rfl 1 (by decide) (hts (.fieldLink RX1 14 "AfternoonMeterLaw$Sim" "naps" "[[I") (List.mem_of_getElem? (i := 1) rfl)) (fun _ h9 => h9) rfl dX1_napsAt_8 ?_
      refine va_alen (ws := [(a 1, .inl (cR, mNc u, .inr (.inr (.inr (.inr (rfs nr))))))]) (v := nI (mNc u)) hx hb hK (P_one hR.2.1) 0 1 rfl rfl rfl dX1_napsAt_11 ?_
      refine lv_icmp_ge (tgt := 61) hx hb dX1_napsAt_12 (by decide) (fun c_12 => ?_) (fun c_12 => ?_)
      · skip
        replace c_12 : (mNc u) ≤ k := leN c_12
        refine lv_iload_n hx hb dX1_napsAt_61 rfl (lv_at hl 3 rfl) ?_
        have hq : nI X = nI (cB u but tt) := by rw [eX, ek]; rfl
        exact W.iret hx hb hr (fun t ht _ => ⟨_, rfl, hq, ht⟩) (fun _ h9 => nomatch h9) dX1_napsAt_62
      · skip
        replace c_12 : k < (mNc u) := nleN c_12
        exact (by omega : False).elim
    | succ n ih =>
      intro k hk X eX ls hl
      refine lv_iload hx hb dX1_napsAt_5 (lv_at hl 4 rfl) ?_
      refine lv_aload_n hx hb dX1_napsAt_7 rfl (lv_at hl 0 rfl) ?_
      refine va_get (D := D) (ci := 1) (v := .ref (a 1)) (C := RX1) (T := TX1) (N := 10) hx hb hts hin hown hK hP 0 rfl rfl 1 (by decide) (hts (.fieldLink RX1 14 "AfternoonMeterLaw$Sim" "naps" "[[I") (List.mem_of_getElem? (i := 1) rfl)) (fun _ h9 => h9) rfl dX1_napsAt_8 ?_
      refine va_alen (ws := [(a 1, .inl (cR, mNc u, .inr (.inr (.inr (.inr (rfs nr))))))]) (v := nI (mNc u)) hx hb hK (P_one hR.2.1) 0 1 rfl rfl rfl dX1_napsAt_11 ?_
      refine lv_icmp_ge (tgt := 61) hx hb dX1_napsAt_12 (by decide) (fun c_12 => ?_) (fun c_12 => ?_)
      · skip
        replace c_12 : (mNc u) ≤ k := leN c_12
        exact (by omega : False).elim
      · skip
        replace c_12 : k < (mNc u) := nleN c_12
        refine lv_iload_n hx hb dX1_napsAt_15 rfl (lv_at hl 3 rfl) ?_
        refine lv_iload hx hb dX1_napsAt_16 (lv_at hl 4 rfl) ?_
        refine lv_iload_n hx hb dX1_napsAt_18 rfl (lv_at hl 2 rfl) ?_
        refine lv_icmp_eq (tgt := 52) hx hb dX1_napsAt_19 (by decide) (fun c_19 => ?_) (fun c_19 => ?_)
        · skip
          refine lv_iconst (v := nI 0) hx hb dX1_napsAt_52 (by decide +kernel) ?_
          refine q_iaddN hx hb dX1_napsAt_53 ?_
          refine lv_istore_n (lv' := [(3, .int (nI (X + 0))), (0, .ref h), (1, .int (nI tt)), (2, .int but), (4, .int (nI k))]) hx hb dX1_napsAt_54 rfl hl (by decide) rfl (fun ls hl => ?_)
          refine lv_iinc (v := nI (k + 1)) (lv' := [(4, .int (nI (k + 1))), (3, .int (nI (X + 0))), (0, .ref h), (1, .int (nI tt)), (2, .int but)]) hx hb dX1_napsAt_55 hl (k := 4) rfl (nI_i1 _) (by decide) rfl (fun ls hl => ?_)
          refine lv_goto (tgt := 5) hx hb dX1_napsAt_58 (by decide) ?_
          exact ih (k + 1) (by omega) (X + 0) (by subst eX; exact (ct_n (nb_e c_19)).symm) _ (lv_sub hl [2, 3, 4, 1, 0] rfl)
        · skip
          refine lv_iload_n hx hb dX1_napsAt_22 rfl (lv_at hl 1 rfl) ?_
          refine lv_aload_n hx hb dX1_napsAt_23 rfl (lv_at hl 0 rfl) ?_
          refine va_get (D := D) (ci := 1) (v := .ref (a 1)) (C := RX1) (T := TX1) (N := 10) hx hb hts hin hown hK hP 0 rfl rfl 1 (by decide) (hts (.fieldLink RX1 14 "AfternoonMeterLaw$Sim" "naps" "[[I") (List.mem_of_getElem? (i := 1) rfl)) (fun _ h9 => h9) rfl dX1_napsAt_24 ?_
          refine lv_iload hx hb dX1_napsAt_27 (lv_at hl 4 rfl) ?_
          refine q_aald (cA := cR) (n := mNc u) (f := nr) (ty := .int) hx hb hK 1 hR.2.1 rfl (k := k) (by omega) (by omega) dX1_napsAt_29 ?_
          refine lv_iconst (v := nI 0) hx hb dX1_napsAt_30 (by decide +kernel) ?_
          refine q_ialdH (cA := cI) (n := 2) (f := pr (mFr u k) (mTo u k)) (v := nI (aN u k)) hx hb hK 0 (hR.2.2.2.1 k (by omega)) rfl (k := 0) (by decide) (by decide) ((hIg k (by omega)).1) dX1_napsAt_31 ?_
          obtain ⟨_, _, _, _⟩ := hIg k (by omega)
          refine lv_icmp_lt (tgt := 52) hx hb dX1_napsAt_32 (by decide) (fun c_32 => ?_) (fun c_32 => ?_)
          · skip
            replace c_32 : tt < (aN u k) := ltN c_32
            refine lv_iconst (v := nI 0) hx hb dX1_napsAt_52 (by decide +kernel) ?_
            refine q_iaddN hx hb dX1_napsAt_53 ?_
            refine lv_istore_n (lv' := [(3, .int (nI (X + 0))), (0, .ref h), (1, .int (nI tt)), (2, .int but), (4, .int (nI k))]) hx hb dX1_napsAt_54 rfl hl (by decide) rfl (fun ls hl => ?_)
            refine lv_iinc (v := nI (k + 1)) (lv' := [(4, .int (nI (k + 1))), (3, .int (nI (X + 0))), (0, .ref h), (1, .int (nI tt)), (2, .int but)]) hx hb dX1_napsAt_55 hl (k := 4) rfl (nI_i1 _) (by decide) rfl (fun ls hl => ?_)
            refine lv_goto (tgt := 5) hx hb dX1_napsAt_58 (by decide) ?_
            exact ih (k + 1) (by omega) (X + 0) (by subst eX; exact (ct_n (nb_f (by omega))).symm) _ (lv_sub hl [2, 3, 4, 1, 0] rfl)
          · skip
            replace c_32 : (aN u k) ≤ tt := nltN c_32
            refine lv_iload_n hx hb dX1_napsAt_35 rfl (lv_at hl 1 rfl) ?_
            refine lv_aload_n hx hb dX1_napsAt_36 rfl (lv_at hl 0 rfl) ?_
            refine va_get (D := D) (ci := 1) (v := .ref (a 1)) (C := RX1) (T := TX1) (N := 10) hx hb hts hin hown hK hP 0 rfl rfl 1 (by decide) (hts (.fieldLink RX1 14 "AfternoonMeterLaw$Sim" "naps" "[[I") (List.mem_of_getElem? (i := 1) rfl)) (fun _ h9 => h9) rfl dX1_napsAt_37 ?_
            refine lv_iload hx hb dX1_napsAt_40 (lv_at hl 4 rfl) ?_
            refine q_aald (cA := cR) (n := mNc u) (f := nr) (ty := .int) hx hb hK 1 hR.2.1 rfl (k := k) (by omega) (by omega) dX1_napsAt_42 ?_
            refine lv_iconst (v := nI 1) hx hb dX1_napsAt_43 (by decide +kernel) ?_
            refine q_ialdH (cA := cI) (n := 2) (f := pr (mFr u k) (mTo u k)) (v := nI (bN u k)) hx hb hK 0 (hR.2.2.2.1 k (by omega)) rfl (k := 1) (by decide) (by decide) ((hIg k (by omega)).2.1) dX1_napsAt_44 ?_
            obtain ⟨_, _, _, _⟩ := hIg k (by omega)
            refine lv_icmp_ge (tgt := 52) hx hb dX1_napsAt_45 (by decide) (fun c_45 => ?_) (fun c_45 => ?_)
            · skip
              replace c_45 : (bN u k) ≤ tt := leN c_45
              refine lv_iconst (v := nI 0) hx hb dX1_napsAt_52 (by decide +kernel) ?_
              refine q_iaddN hx hb dX1_napsAt_53 ?_
              refine lv_istore_n (lv' := [(3, .int (nI (X + 0))), (0, .ref h), (1, .int (nI tt)), (2, .int but), (4, .int (nI k))]) hx hb dX1_napsAt_54 rfl hl (by decide) rfl (fun ls hl => ?_)
              refine lv_iinc (v := nI (k + 1)) (lv' := [(4, .int (nI (k + 1))), (3, .int (nI (X + 0))), (0, .ref h), (1, .int (nI tt)), (2, .int but)]) hx hb dX1_napsAt_55 hl (k := 4) rfl (nI_i1 _) (by decide) rfl (fun ls hl => ?_)
              refine lv_goto (tgt := 5) hx hb dX1_napsAt_58 (by decide) ?_
              exact ih (k + 1) (by omega) (X + 0) (by subst eX; exact (ct_n (nb_f (by omega))).symm) _ (lv_sub hl [2, 3, 4, 1, 0] rfl)
            · skip
              replace c_45 : tt < (bN u k) := nleN c_45
              refine lv_iconst (v := nI 1) hx hb dX1_napsAt_48 (by decide +kernel) ?_
              refine lv_goto (tgt := 53) hx hb dX1_napsAt_49 (by decide) ?_
              refine q_iaddN hx hb dX1_napsAt_53 ?_
              refine lv_istore_n (lv' := [(3, .int (nI (X + 1))), (0, .ref h), (1, .int (nI tt)), (2, .int but), (4, .int (nI k))]) hx hb dX1_napsAt_54 rfl hl (by decide) rfl (fun ls hl => ?_)
              refine lv_iinc (v := nI (k + 1)) (lv' := [(4, .int (nI (k + 1))), (3, .int (nI (X + 1))), (0, .ref h), (1, .int (nI tt)), (2, .int but)]) hx hb dX1_napsAt_55 hl (k := 4) rfl (nI_i1 _) (by decide) rfl (fun ls hl => ?_)
              refine lv_goto (tgt := 5) hx hb dX1_napsAt_58 (by decide) ?_
              exact ih (k + 1) (by omega) (X + 1) (by subst eX; exact (ct_y (nb_t c_19 (by omega))).symm) _ (lv_sub hl [2, 3, 4, 1, 0] rfl)
  exact lp5 _ 0 (Nat.zero_add _) 0 (by rfl) _ (lv_sub hl [2, 3, 4, 1, 0] rfl)
set_option maxHeartbeats 4000000 in
set_option maxRecDepth 100000 in
theorem c_X1_awake (l : Launch) (D : va_G) (cI cR : ClassId) (h : Nat) (a nr br : Nat → Nat) (u : MS) (nn : Nat) (but : Int32) (hI : InvN u) (hn9 : nn ≤ 360) : Met l yX1_awake wsX1_awake ({ frames := 1, cells := 0, slots := 0, locals := 24 } : Room) (va_Pc [.ref h, .int (nI nn), .int but] (fun U => va_P D vwCl (picS h a u) U.heap ∧ RO cI cR a nr br u U.heap ∧ va_K D vwCl (tyR cI cR) U)) (vp_Si (fun r => r = nI (ct (awX u but) nn))) 0 0 (fun _ => False) := by
  refine en_pr (cc := cX1_awake) (maxL := 5) (ret := (some .int)) _ _ _ (by decide) rfl (Nat.le_of_ble_eq_true rfl) ?_
  intro p e s m args below meth c ls hx hb hml hr hlocks hts hown hP hR hK hl
  have hown : s.vm.findClass RX1 = some m.cls := hown
  have hin : ∀ w ∈ wsX10, w ∈ wsX1_awake := fun _ h9 => List.mem_cons_of_mem _ (List.mem_append_right _ h9)
  have hl : lv_has ls 5 [(0, .ref h), (1, .int (nI nn)), (2, .int but)] := hl
  obtain ⟨hIa, hIb, hIc, hId, hIf, hIg, hIi⟩ := id hI
  refine lv_iconst (v := nI 0) hx hb dX1_awake_0 (by decide +kernel) ?_
  refine lv_istore_n (lv' := [(3, .int (nI 0)), (0, .ref h), (1, .int (nI nn)), (2, .int but)]) hx hb dX1_awake_1 rfl hl (by decide) rfl (fun ls hl => ?_)
  refine lv_iconst (v := nI 0) hx hb dX1_awake_2 (by decide +kernel) ?_
  refine lv_istore (lv' := [(4, .int (nI 0)), (3, .int (nI 0)), (0, .ref h), (1, .int (nI nn)), (2, .int but)]) hx hb dX1_awake_3 hl (by decide) rfl (fun ls hl => ?_)
  have lp5 : ∀ (n k : Nat), k + n = nn → ∀ (X : Nat), X = ct (awX u but) k → ∀ (ls : Array Slot), lv_has ls 5 [(0, .ref h), (1, .int (nI nn)), (2, .int but), (3, .int (nI X)), (4, .int (nI k))] → W p l e ({ frames := 1, cells := 0, slots := 0, locals := 24 } : Room) s m args below meth c s.heap [] 0 0 (MQ below (vp_Si (fun r => r = nI (ct (awX u but) nn))) args s 0 0 (fun _ => False)) (F0 m 5 ls []) := by
    intro n
    induction n with
    | zero =>
      intro k hk X eX ls hl
      have ek : k = nn := by omega
      refine lv_iload hx hb dX1_awake_5 (lv_at hl 4 rfl) ?_
      refine lv_iload_n hx hb dX1_awake_7 rfl (lv_at hl 1 rfl) ?_
      refine lv_icmp_ge (tgt := 35) hx hb dX1_awake_8 (by decide) (fun c_8 => ?_) (fun c_8 => ?_)
      · skip
        replace c_8 : nn ≤ k := leN c_8
        refine lv_iload_n hx hb dX1_awake_35 rfl (lv_at hl 3 rfl) ?_
        have hq : nI X = nI (ct (awX u but) nn) := by rw [eX, ek]
        exact W.iret hx hb hr (fun t ht _ => ⟨_, rfl, hq, ht⟩) (fun _ h9 => nomatch h9) dX1_awake_36
      · skip
        replace c_8 : k < nn := nleN c_8
        exact (by omega : False).elim
    | succ n ih =>
      intro k hk X eX ls hl
      refine lv_iload hx hb dX1_awake_5 (lv_at hl 4 rfl) ?_
      refine lv_iload_n hx hb dX1_awake_7 rfl (lv_at hl 1 rfl) ?_
      refine lv_icmp_ge (tgt := 35) hx hb dX1_awake_8 (by decide) (fun c_8 => ?_) (fun c_8 => ?_)
      · skip
        replace c_8 : nn ≤ k := leN c_8
        exact (by omega : False).elim
      · skip
        replace c_8 : k < nn := nleN c_8
        refine lv_iload_n hx hb dX1_awake_11 rfl (lv_at hl 3 rfl) ?_
        refine lv_aload_n hx hb dX1_awake_12 rfl (lv_at hl 0 rfl) ?_
        refine lv_iload hx hb dX1_awake_13 (lv_at hl 4 rfl) ?_
        refine lv_iload_n hx hb dX1_awake_15 rfl (lv_at hl 2 rfl) ?_
        refine vp_callSi (W.runV (As := [.int (nI k), .int but]) (rest := [.int (nI X)]) ⟨hx, hb, hml, hown, hts⟩ (c_X1_napsAt l D cI cR h a nr br u k but hI (by omega)) (cwV 2 hts gX1_awake_X1_napsAt rfl rfl rfl (by decide +kernel) ⟨Nat.le_of_ble_eq_true rfl, Nat.le_of_ble_eq_true rfl⟩) (pr_pre hK hP hR rfl rfl) rfl rfl hl.1 rfl (lv_room (Nat.le_of_ble_eq_true rfl)) dX1_awake_16 ⟨Nat.le_of_ble_eq_true rfl, Nat.le_of_ble_eq_true rfl⟩) (fun r hr => ?_)
        subst hr
        have hcb := cB_le u but k
        refine lv_if_ne (tgt := 26) hx hb dX1_awake_19 (by decide) (fun c_19 => ?_) (fun c_19 => ?_)
        · skip
          replace c_19 : (cB u but k) ≠ 0 := neN c_19
          refine lv_iconst (v := nI 0) hx hb dX1_awake_26 (by decide +kernel) ?_
          refine q_iaddN hx hb dX1_awake_27 ?_
          refine lv_istore_n (lv' := [(3, .int (nI (X + 0))), (0, .ref h), (1, .int (nI nn)), (2, .int but), (4, .int (nI k))]) hx hb dX1_awake_28 rfl hl (by decide) rfl (fun ls hl => ?_)
          refine lv_iinc (v := nI (k + 1)) (lv' := [(4, .int (nI (k + 1))), (3, .int (nI (X + 0))), (0, .ref h), (1, .int (nI nn)), (2, .int but)]) hx hb dX1_awake_29 hl (k := 4) rfl (nI_i1 _) (by decide) rfl (fun ls hl => ?_)
          refine lv_goto (tgt := 5) hx hb dX1_awake_32 (by decide) ?_
          exact ih (k + 1) (by omega) (X + 0) (by subst eX; exact (ct_n (decide_eq_false c_19)).symm) _ (lv_sub hl [2, 3, 4, 1, 0] rfl)
        · skip
          replace c_19 : (cB u but k) = 0 := eN c_19
          refine lv_iconst (v := nI 1) hx hb dX1_awake_22 (by decide +kernel) ?_
          refine lv_goto (tgt := 27) hx hb dX1_awake_23 (by decide) ?_
          refine q_iaddN hx hb dX1_awake_27 ?_
          refine lv_istore_n (lv' := [(3, .int (nI (X + 1))), (0, .ref h), (1, .int (nI nn)), (2, .int but), (4, .int (nI k))]) hx hb dX1_awake_28 rfl hl (by decide) rfl (fun ls hl => ?_)
          refine lv_iinc (v := nI (k + 1)) (lv' := [(4, .int (nI (k + 1))), (3, .int (nI (X + 1))), (0, .ref h), (1, .int (nI nn)), (2, .int but)]) hx hb dX1_awake_29 hl (k := 4) rfl (nI_i1 _) (by decide) rfl (fun ls hl => ?_)
          refine lv_goto (tgt := 5) hx hb dX1_awake_32 (by decide) ?_
          exact ih (k + 1) (by omega) (X + 1) (by subst eX; exact (ct_y (decide_eq_true c_19)).symm) _ (lv_sub hl [2, 3, 4, 1, 0] rfl)
  exact lp5 _ 0 (Nat.zero_add _) 0 (by rfl) _ (lv_sub hl [2, 3, 4, 1, 0] rfl)
set_option maxHeartbeats 4000000 in
set_option maxRecDepth 100000 in
theorem c_X1_ticks (l : Launch) (D : va_G) (cI cR : ClassId) (h : Nat) (a nr br : Nat → Nat) (u : MS) (bb : Nat) (tt : Nat) (hI : InvN u) (hbb : bb < mBc u) (ht : tt < 1000000) : Met l yX1_ticks wsX1_ticks ({ frames := 1, cells := 0, slots := 0, locals := 24 } : Room) (va_Pc [.ref h, .int (nI bb), .int (nI tt)] (fun U => va_P D vwCl (picS h a u) U.heap ∧ RO cI cR a nr br u U.heap ∧ va_K D vwCl (tyR cI cR) U)) (vp_Si (fun r => r = bI (tkB u bb tt))) 0 0 (fun _ => False) := by
  refine en_pr (cc := cX1_ticks) (maxL := 3) (ret := (some .boolean)) _ _ _ (by decide) rfl (Nat.le_of_ble_eq_true rfl) ?_
  intro p e s m args below meth c ls hx hb hml hr hlocks hts hown hP hR hK hl
  have hown : s.vm.findClass RX1 = some m.cls := hown
  have hin : ∀ w ∈ wsX10, w ∈ wsX1_ticks := fun _ h9 => List.mem_cons_of_mem _ (List.mem_append_right _ h9)
  have hl : lv_has ls 3 [(0, .ref h), (1, .int (nI bb)), (2, .int (nI tt))] := hl
  obtain ⟨hIa, hIb, hIc, hId, hIf, hIg, hIi⟩ := id hI
  refine lv_aload_n hx hb dX1_ticks_0 rfl (lv_at hl 0 rfl) ?_
  refine lv_iload_n hx hb dX1_ticks_1 rfl (lv_at hl 2 rfl) ?_
  refine lv_iconst (v := (-1)) hx hb dX1_ticks_2 (by decide +kernel) ?_
  refine vp_callSi (W.runV (As := [.int (nI tt), .int (-1)]) (rest := []) ⟨hx, hb, hml, hown, hts⟩ (c_X1_napsAt l D cI cR h a nr br u tt (-1) hI (by omega)) (cwV 2 hts gX1_ticks_X1_napsAt rfl rfl rfl (by decide +kernel) ⟨Nat.le_of_ble_eq_true rfl, Nat.le_of_ble_eq_true rfl⟩) (pr_pre hK hP hR rfl rfl) rfl rfl hl.1 rfl (lv_room (Nat.le_of_ble_eq_true rfl)) dX1_ticks_3 ⟨Nat.le_of_ble_eq_true rfl, Nat.le_of_ble_eq_true rfl⟩) (fun r hr => ?_)
  subst hr
  rw [cB_m1 hIb]
  have hcn := cN_le u tt
  refine lv_if_ne (tgt := 47) hx hb dX1_ticks_6 (by decide) (fun c_6 => ?_) (fun c_6 => ?_)
  · skip
    replace c_6 : (cN u tt) ≠ 0 := neN c_6
    refine lv_iconst (v := nI 0) hx hb dX1_ticks_47 (by decide +kernel) ?_
    have hq : nI 0 = bI (tkB u bb tt) := by rw [show tkB u bb tt = false from decide_eq_false (fun z => c_6 z.1)]; rfl
    exact W.zret (ty := .boolean) hx hb hr (by decide +kernel) (fun t ht _ => ⟨_, rfl, hq, ht⟩) (fun _ h9 => nomatch h9) dX1_ticks_48
  · skip
    replace c_6 : (cN u tt) = 0 := eN c_6
    refine lv_iload_n hx hb dX1_ticks_9 rfl (lv_at hl 2 rfl) ?_
    refine lv_aload_n hx hb dX1_ticks_10 rfl (lv_at hl 0 rfl) ?_
    refine va_get (D := D) (ci := 1) (v := .ref (a 2)) (C := RX1) (T := TX1) (N := 10) hx hb hts hin hown hK hP 0 rfl rfl 2 (by decide) (hts (.fieldLink RX1 18 "AfternoonMeterLaw$Sim" "bees" "[[I") (List.mem_of_getElem? (i := 1) rfl)) (fun _ h9 => h9) rfl dX1_ticks_11 ?_
    refine lv_iload_n hx hb dX1_ticks_14 rfl (lv_at hl 1 rfl) ?_
    refine q_aald (cA := cR) (n := mBc u) (f := br) (ty := .int) hx hb hK 1 hR.2.2.1 rfl (k := bb) (by omega) (by omega) dX1_ticks_15 ?_
    refine lv_iconst (v := nI 1) hx hb dX1_ticks_16 (by decide +kernel) ?_
    refine q_ialdH (cA := cI) (n := 2) (f := pr (mPe u bb) (mBe u bb)) (v := nI (qN u bb)) hx hb hK 0 (hR.2.2.2.2 bb (by omega)) rfl (k := 1) (by decide) (by decide) ((hIf bb (by omega)).2.1) dX1_ticks_17 ?_
    obtain ⟨_, _, _, _, _⟩ := hIf bb (by omega)
    by_cases h9 : qN u bb ≤ tt
    · skip
      have hmm := Nat.mod_lt (tt - qN u bb) (show 0 < pN u bb by omega)
      refine q_isubN hx hb (by omega) dX1_ticks_18 ?_
      refine lv_aload_n hx hb dX1_ticks_19 rfl (lv_at hl 0 rfl) ?_
      refine va_get (D := D) (ci := 1) (v := .ref (a 2)) (C := RX1) (T := TX1) (N := 10) hx hb hts hin hown hK hP 0 rfl rfl 2 (by decide) (hts (.fieldLink RX1 18 "AfternoonMeterLaw$Sim" "bees" "[[I") (List.mem_of_getElem? (i := 1) rfl)) (fun _ h9 => h9) rfl dX1_ticks_20 ?_
      refine lv_iload_n hx hb dX1_ticks_23 rfl (lv_at hl 1 rfl) ?_
      refine q_aald (cA := cR) (n := mBc u) (f := br) (ty := .int) hx hb hK 1 hR.2.2.1 rfl (k := bb) (by omega) (by omega) dX1_ticks_24 ?_
      refine lv_iconst (v := nI 0) hx hb dX1_ticks_25 (by decide +kernel) ?_
      refine q_ialdH (cA := cI) (n := 2) (f := pr (mPe u bb) (mBe u bb)) (v := nI (pN u bb)) hx hb hK 0 (hR.2.2.2.2 bb (by omega)) rfl (k := 0) (by decide) (by decide) ((hIf bb (by omega)).1) dX1_ticks_26 ?_
      obtain ⟨_, _, _, _, _⟩ := hIf bb (by omega)
      refine q_iremN hx hb (by omega) (by omega) (by omega) dX1_ticks_27 ?_
      refine lv_if_ne (tgt := 47) hx hb dX1_ticks_28 (by decide) (fun c_28 => ?_) (fun c_28 => ?_)
      · skip
        replace c_28 : ((tt - (qN u bb)) % (pN u bb)) ≠ 0 := neN c_28
        refine lv_iconst (v := nI 0) hx hb dX1_ticks_47 (by decide +kernel) ?_
        have hq : nI 0 = bI (tkB u bb tt) := by rw [show tkB u bb tt = false from decide_eq_false (fun z => c_28 ((tk_mod (by omega) h9).mpr z.2))]; rfl
        exact W.zret (ty := .boolean) hx hb hr (by decide +kernel) (fun t ht _ => ⟨_, rfl, hq, ht⟩) (fun _ h9 => nomatch h9) dX1_ticks_48
      · skip
        replace c_28 : ((tt - (qN u bb)) % (pN u bb)) = 0 := eN c_28
        refine lv_iload_n hx hb dX1_ticks_31 rfl (lv_at hl 2 rfl) ?_
        refine lv_aload_n hx hb dX1_ticks_32 rfl (lv_at hl 0 rfl) ?_
        refine va_get (D := D) (ci := 1) (v := .ref (a 2)) (C := RX1) (T := TX1) (N := 10) hx hb hts hin hown hK hP 0 rfl rfl 2 (by decide) (hts (.fieldLink RX1 18 "AfternoonMeterLaw$Sim" "bees" "[[I") (List.mem_of_getElem? (i := 1) rfl)) (fun _ h9 => h9) rfl dX1_ticks_33 ?_
        refine lv_iload_n hx hb dX1_ticks_36 rfl (lv_at hl 1 rfl) ?_
        refine q_aald (cA := cR) (n := mBc u) (f := br) (ty := .int) hx hb hK 1 hR.2.2.1 rfl (k := bb) (by omega) (by omega) dX1_ticks_37 ?_
        refine lv_iconst (v := nI 1) hx hb dX1_ticks_38 (by decide +kernel) ?_
        refine q_ialdH (cA := cI) (n := 2) (f := pr (mPe u bb) (mBe u bb)) (v := nI (qN u bb)) hx hb hK 0 (hR.2.2.2.2 bb (by omega)) rfl (k := 1) (by decide) (by decide) ((hIf bb (by omega)).2.1) dX1_ticks_39 ?_
        obtain ⟨_, _, _, _, _⟩ := hIf bb (by omega)
        refine lv_icmp_lt (tgt := 47) hx hb dX1_ticks_40 (by decide) (fun c_40 => ?_) (fun c_40 => ?_)
        · skip
          replace c_40 : tt < (qN u bb) := ltN c_40
          exact (by omega : False).elim
        · skip
          replace c_40 : (qN u bb) ≤ tt := nltN c_40
          refine lv_iconst (v := nI 1) hx hb dX1_ticks_43 (by decide +kernel) ?_
          refine lv_goto (tgt := 48) hx hb dX1_ticks_44 (by decide) ?_
          have hq : nI 1 = bI (tkB u bb tt) := by rw [show tkB u bb tt = true from decide_eq_true ⟨c_6, (tk_mod (by omega) h9).mp c_28⟩]; rfl
          exact W.zret (ty := .boolean) hx hb hr (by decide +kernel) (fun t ht _ => ⟨_, rfl, hq, ht⟩) (fun _ h9 => nomatch h9) dX1_ticks_48
    · skip
      have h8 : ¬ tt % pN u bb = qN u bb := by rw [Nat.mod_eq_of_lt (by omega)]; omega
      refine lv_isub hx hb dX1_ticks_18 ?_
      refine lv_aload_n hx hb dX1_ticks_19 rfl (lv_at hl 0 rfl) ?_
      refine va_get (D := D) (ci := 1) (v := .ref (a 2)) (C := RX1) (T := TX1) (N := 10) hx hb hts hin hown hK hP 0 rfl rfl 2 (by decide) (hts (.fieldLink RX1 18 "AfternoonMeterLaw$Sim" "bees" "[[I") (List.mem_of_getElem? (i := 1) rfl)) (fun _ h9 => h9) rfl dX1_ticks_20 ?_
      refine lv_iload_n hx hb dX1_ticks_23 rfl (lv_at hl 1 rfl) ?_
      refine q_aald (cA := cR) (n := mBc u) (f := br) (ty := .int) hx hb hK 1 hR.2.2.1 rfl (k := bb) (by omega) (by omega) dX1_ticks_24 ?_
      refine lv_iconst (v := nI 0) hx hb dX1_ticks_25 (by decide +kernel) ?_
      refine q_ialdH (cA := cI) (n := 2) (f := pr (mPe u bb) (mBe u bb)) (v := nI (pN u bb)) hx hb hK 0 (hR.2.2.2.2 bb (by omega)) rfl (k := 0) (by decide) (by decide) ((hIf bb (by omega)).1) dX1_ticks_26 ?_
      obtain ⟨_, _, _, _, _⟩ := hIf bb (by omega)
      refine lv_irem hx hb dX1_ticks_27 (nI_ne0 (by omega) (by omega)) ?_
      refine lv_if_ne (tgt := 47) hx hb dX1_ticks_28 (by decide) (fun c_28 => ?_) (fun c_28 => ?_)
      · skip
        refine lv_iconst (v := nI 0) hx hb dX1_ticks_47 (by decide +kernel) ?_
        have hq : nI 0 = bI (tkB u bb tt) := by rw [show tkB u bb tt = false from decide_eq_false (fun z => h8 z.2)]; rfl
        exact W.zret (ty := .boolean) hx hb hr (by decide +kernel) (fun t ht _ => ⟨_, rfl, hq, ht⟩) (fun _ h9 => nomatch h9) dX1_ticks_48
      · skip
        refine lv_iload_n hx hb dX1_ticks_31 rfl (lv_at hl 2 rfl) ?_
        refine lv_aload_n hx hb dX1_ticks_32 rfl (lv_at hl 0 rfl) ?_
        refine va_get (D := D) (ci := 1) (v := .ref (a 2)) (C := RX1) (T := TX1) (N := 10) hx hb hts hin hown hK hP 0 rfl rfl 2 (by decide) (hts (.fieldLink RX1 18 "AfternoonMeterLaw$Sim" "bees" "[[I") (List.mem_of_getElem? (i := 1) rfl)) (fun _ h9 => h9) rfl dX1_ticks_33 ?_
        refine lv_iload_n hx hb dX1_ticks_36 rfl (lv_at hl 1 rfl) ?_
        refine q_aald (cA := cR) (n := mBc u) (f := br) (ty := .int) hx hb hK 1 hR.2.2.1 rfl (k := bb) (by omega) (by omega) dX1_ticks_37 ?_
        refine lv_iconst (v := nI 1) hx hb dX1_ticks_38 (by decide +kernel) ?_
        refine q_ialdH (cA := cI) (n := 2) (f := pr (mPe u bb) (mBe u bb)) (v := nI (qN u bb)) hx hb hK 0 (hR.2.2.2.2 bb (by omega)) rfl (k := 1) (by decide) (by decide) ((hIf bb (by omega)).2.1) dX1_ticks_39 ?_
        obtain ⟨_, _, _, _, _⟩ := hIf bb (by omega)
        refine lv_icmp_lt (tgt := 47) hx hb dX1_ticks_40 (by decide) (fun c_40 => ?_) (fun c_40 => ?_)
        · skip
          replace c_40 : tt < (qN u bb) := ltN c_40
          refine lv_iconst (v := nI 0) hx hb dX1_ticks_47 (by decide +kernel) ?_
          have hq : nI 0 = bI (tkB u bb tt) := by rw [show tkB u bb tt = false from decide_eq_false (fun z => h8 z.2)]; rfl
          exact W.zret (ty := .boolean) hx hb hr (by decide +kernel) (fun t ht _ => ⟨_, rfl, hq, ht⟩) (fun _ h9 => nomatch h9) dX1_ticks_48
        · skip
          replace c_40 : (qN u bb) ≤ tt := nltN c_40
          exact (by omega : False).elim
set_option maxHeartbeats 4000000 in
set_option maxRecDepth 100000 in
theorem c_X1_ticked (l : Launch) (D : va_G) (cI cR : ClassId) (h : Nat) (a nr br : Nat → Nat) (u : MS) (bb : Nat) (hI : InvN u) (hbb : bb < mBc u) : Met l yX1_ticked wsX1_ticked ({ frames := 1, cells := 0, slots := 0, locals := 24 } : Room) (va_Pc [.ref h, .int (nI bb)] (fun U => va_P D vwCl (picS h a u) U.heap ∧ RO cI cR a nr br u U.heap ∧ va_K D vwCl (tyR cI cR) U)) (vp_Si (fun r => r = nI (ct (tkB u bb) (mNow u)))) 0 0 (fun _ => False) := by
  refine en_pr (cc := cX1_ticked) (maxL := 4) (ret := (some .int)) _ _ _ (by decide) rfl (Nat.le_of_ble_eq_true rfl) ?_
  intro p e s m args below meth c ls hx hb hml hr hlocks hts hown hP hR hK hl
  have hown : s.vm.findClass RX1 = some m.cls := hown
  have hin : ∀ w ∈ wsX10, w ∈ wsX1_ticked := fun _ h9 => List.mem_cons_of_mem _ (List.mem_append_right _ h9)
  have hl : lv_has ls 4 [(0, .ref h), (1, .int (nI bb))] := hl
  obtain ⟨hIa, hIb, hIc, hId, hIf, hIg, hIi⟩ := id hI
  obtain ⟨_, _, hp2, hp30, hqp⟩ := hIf bb hbb
  refine lv_iconst (v := nI 0) hx hb dX1_ticked_0 (by decide +kernel) ?_
  refine lv_istore_n (lv' := [(2, .int (nI 0)), (0, .ref h), (1, .int (nI bb))]) hx hb dX1_ticked_1 rfl hl (by decide) rfl (fun ls hl => ?_)
  refine lv_aload_n hx hb dX1_ticked_2 rfl (lv_at hl 1 rfl) ?_
  refine va_get (D := D) (ci := 1) (v := .ref (a 2)) (C := RX1) (T := TX1) (N := 10) hx hb hts hin hown hK hP 0 rfl rfl 2 (by decide) (hts (.fieldLink RX1 18 "AfternoonMeterLaw$Sim" "bees" "[[I") (List.mem_of_getElem? (i := 1) rfl)) (fun _ h9 => h9) rfl dX1_ticked_3 ?_
  refine lv_iload_n hx hb dX1_ticked_6 rfl (lv_at hl 2 rfl) ?_
  refine q_aald (cA := cR) (n := mBc u) (f := br) (ty := .int) hx hb hK 1 hR.2.2.1 rfl (k := bb) (by omega) (by omega) dX1_ticked_7 ?_
  refine lv_iconst (v := nI 1) hx hb dX1_ticked_8 (by decide +kernel) ?_
  refine q_ialdH (cA := cI) (n := 2) (f := pr (mPe u bb) (mBe u bb)) (v := nI (qN u bb)) hx hb hK 0 (hR.2.2.2.2 bb (by omega)) rfl (k := 1) (by decide) (by decide) ((hIf bb (by omega)).2.1) dX1_ticked_9 ?_
  obtain ⟨_, _, _, _, _⟩ := hIf bb (by omega)
  refine lv_istore_n (lv' := [(3, .int (nI (qN u bb))), (2, .int (nI 0)), (0, .ref h), (1, .int (nI bb))]) hx hb dX1_ticked_10 rfl hl (by decide) rfl (fun ls hl => ?_)
  have lp11 : ∀ (n k : Nat), k + n = 360 → ∀ (X : Nat), ∀ (T : Nat), X = ct (tkB u bb) (min T (mNow u)) → T % pN u bb = qN u bb → k ≤ T → T < 1000 → ∀ (ls : Array Slot), lv_has ls 4 [(0, .ref h), (1, .int (nI bb)), (2, .int (nI X)), (3, .int (nI T))] → W p l e ({ frames := 1, cells := 0, slots := 0, locals := 24 } : Room) s m args below meth c s.heap [] 0 0 (MQ below (vp_Si (fun r => r = nI (ct (tkB u bb) (mNow u)))) args s 0 0 (fun _ => False)) (F0 m 11 ls []) := by
    intro n
    induction n with
    | zero =>
      intro k hk X T hX hT hkT hT9 ls hl
      refine lv_iload_n hx hb dX1_ticked_11 rfl (lv_at hl 3 rfl) ?_
      refine lv_aload_n hx hb dX1_ticked_12 rfl (lv_at hl 0 rfl) ?_
      refine va_get (D := D) (ci := 1) (v := .int (nI (mNow u))) (C := RX1) (T := TX1) (N := 10) hx hb hts hin hown hK hP 0 rfl rfl 7 (by decide) (hts (.fieldLink RX1 39 "AfternoonMeterLaw$Sim" "minute" "I") (List.mem_of_getElem? (i := 2) rfl)) (fun _ h9 => h9) rfl dX1_ticked_13 ?_
      refine lv_icmp_ge (tgt := 50) hx hb dX1_ticked_16 (by decide) (fun c_16 => ?_) (fun c_16 => ?_)
      · skip
        replace c_16 : (mNow u) ≤ T := leN c_16
        refine lv_iload_n hx hb dX1_ticked_50 rfl (lv_at hl 2 rfl) ?_
        have hq : nI X = nI (ct (tkB u bb) (mNow u)) := by rw [hX, Nat.min_eq_right c_16]
        exact W.iret hx hb hr (fun t ht _ => ⟨_, rfl, hq, ht⟩) (fun _ h9 => nomatch h9) dX1_ticked_51
      · skip
        replace c_16 : T < (mNow u) := nleN c_16
        exact (by omega : False).elim
    | succ n ih =>
      intro k hk X T hX hT hkT hT9 ls hl
      refine lv_iload_n hx hb dX1_ticked_11 rfl (lv_at hl 3 rfl) ?_
      refine lv_aload_n hx hb dX1_ticked_12 rfl (lv_at hl 0 rfl) ?_
      refine va_get (D := D) (ci := 1) (v := .int (nI (mNow u))) (C := RX1) (T := TX1) (N := 10) hx hb hts hin hown hK hP 0 rfl rfl 7 (by decide) (hts (.fieldLink RX1 39 "AfternoonMeterLaw$Sim" "minute" "I") (List.mem_of_getElem? (i := 2) rfl)) (fun _ h9 => h9) rfl dX1_ticked_13 ?_
      refine lv_icmp_ge (tgt := 50) hx hb dX1_ticked_16 (by decide) (fun c_16 => ?_) (fun c_16 => ?_)
      · skip
        replace c_16 : (mNow u) ≤ T := leN c_16
        refine lv_iload_n hx hb dX1_ticked_50 rfl (lv_at hl 2 rfl) ?_
        have hq : nI X = nI (ct (tkB u bb) (mNow u)) := by rw [hX, Nat.min_eq_right c_16]
        exact W.iret hx hb hr (fun t ht _ => ⟨_, rfl, hq, ht⟩) (fun _ h9 => nomatch h9) dX1_ticked_51
      · skip
        replace c_16 : T < (mNow u) := nleN c_16
        refine lv_iload_n hx hb dX1_ticked_19 rfl (lv_at hl 2 rfl) ?_
        refine lv_aload_n hx hb dX1_ticked_20 rfl (lv_at hl 0 rfl) ?_
        refine lv_iload_n hx hb dX1_ticked_21 rfl (lv_at hl 3 rfl) ?_
        refine lv_iconst (v := (-1)) hx hb dX1_ticked_22 (by decide +kernel) ?_
        refine vp_callSi (W.runV (As := [.int (nI T), .int (-1)]) (rest := [.int (nI X)]) ⟨hx, hb, hml, hown, hts⟩ (c_X1_napsAt l D cI cR h a nr br u T (-1) hI (by omega)) (cwV 2 hts gX1_ticked_X1_napsAt rfl rfl rfl (by decide +kernel) ⟨Nat.le_of_ble_eq_true rfl, Nat.le_of_ble_eq_true rfl⟩) (pr_pre hK hP hR rfl rfl) rfl rfl hl.1 rfl (lv_room (Nat.le_of_ble_eq_true rfl)) dX1_ticked_23 ⟨Nat.le_of_ble_eq_true rfl, Nat.le_of_ble_eq_true rfl⟩) (fun r hr => ?_)
        subst hr
        rw [cB_m1 hIb]
        have hcn := cN_le u T
        refine lv_if_ne (tgt := 33) hx hb dX1_ticked_26 (by decide) (fun c_26 => ?_) (fun c_26 => ?_)
        · skip
          replace c_26 : (cN u T) ≠ 0 := neN c_26
          refine lv_iconst (v := nI 0) hx hb dX1_ticked_33 (by decide +kernel) ?_
          refine q_iaddN hx hb dX1_ticked_34 ?_
          refine lv_istore_n (lv' := [(2, .int (nI (X + 0))), (0, .ref h), (1, .int (nI bb)), (3, .int (nI T))]) hx hb dX1_ticked_35 rfl hl (by decide) rfl (fun ls hl => ?_)
          refine lv_iload_n hx hb dX1_ticked_36 rfl (lv_at hl 3 rfl) ?_
          refine lv_aload_n hx hb dX1_ticked_37 rfl (lv_at hl 1 rfl) ?_
          refine va_get (D := D) (ci := 1) (v := .ref (a 2)) (C := RX1) (T := TX1) (N := 10) hx hb hts hin hown hK hP 0 rfl rfl 2 (by decide) (hts (.fieldLink RX1 18 "AfternoonMeterLaw$Sim" "bees" "[[I") (List.mem_of_getElem? (i := 1) rfl)) (fun _ h9 => h9) rfl dX1_ticked_38 ?_
          refine lv_iload_n hx hb dX1_ticked_41 rfl (lv_at hl 2 rfl) ?_
          refine q_aald (cA := cR) (n := mBc u) (f := br) (ty := .int) hx hb hK 1 hR.2.2.1 rfl (k := bb) (by omega) (by omega) dX1_ticked_42 ?_
          refine lv_iconst (v := nI 0) hx hb dX1_ticked_43 (by decide +kernel) ?_
          refine q_ialdH (cA := cI) (n := 2) (f := pr (mPe u bb) (mBe u bb)) (v := nI (pN u bb)) hx hb hK 0 (hR.2.2.2.2 bb (by omega)) rfl (k := 0) (by decide) (by decide) ((hIf bb (by omega)).1) dX1_ticked_44 ?_
          obtain ⟨_, _, _, _, _⟩ := hIf bb (by omega)
          refine q_iaddN hx hb dX1_ticked_45 ?_
          refine lv_istore_n (lv' := [(3, .int (nI (T + (pN u bb)))), (2, .int (nI (X + 0))), (0, .ref h), (1, .int (nI bb))]) hx hb dX1_ticked_46 rfl hl (by decide) rfl (fun ls hl => ?_)
          refine lv_goto (tgt := 11) hx hb dX1_ticked_47 (by decide) ?_
          exact ih (k + 1) (by omega) (X + 0) (T + (pN u bb)) (by exact tk_n hp2 hT c_16 c_26 hX) (by rw [Nat.add_mod_right]; exact hT) (by omega) (by omega) _ (lv_sub hl [2, 3, 1, 0] rfl)
        · skip
          replace c_26 : (cN u T) = 0 := eN c_26
          refine lv_iconst (v := nI 1) hx hb dX1_ticked_29 (by decide +kernel) ?_
          refine lv_goto (tgt := 34) hx hb dX1_ticked_30 (by decide) ?_
          refine q_iaddN hx hb dX1_ticked_34 ?_
          refine lv_istore_n (lv' := [(2, .int (nI (X + 1))), (0, .ref h), (1, .int (nI bb)), (3, .int (nI T))]) hx hb dX1_ticked_35 rfl hl (by decide) rfl (fun ls hl => ?_)
          refine lv_iload_n hx hb dX1_ticked_36 rfl (lv_at hl 3 rfl) ?_
          refine lv_aload_n hx hb dX1_ticked_37 rfl (lv_at hl 1 rfl) ?_
          refine va_get (D := D) (ci := 1) (v := .ref (a 2)) (C := RX1) (T := TX1) (N := 10) hx hb hts hin hown hK hP 0 rfl rfl 2 (by decide) (hts (.fieldLink RX1 18 "AfternoonMeterLaw$Sim" "bees" "[[I") (List.mem_of_getElem? (i := 1) rfl)) (fun _ h9 => h9) rfl dX1_ticked_38 ?_
          refine lv_iload_n hx hb dX1_ticked_41 rfl (lv_at hl 2 rfl) ?_
          refine q_aald (cA := cR) (n := mBc u) (f := br) (ty := .int) hx hb hK 1 hR.2.2.1 rfl (k := bb) (by omega) (by omega) dX1_ticked_42 ?_
          refine lv_iconst (v := nI 0) hx hb dX1_ticked_43 (by decide +kernel) ?_
          refine q_ialdH (cA := cI) (n := 2) (f := pr (mPe u bb) (mBe u bb)) (v := nI (pN u bb)) hx hb hK 0 (hR.2.2.2.2 bb (by omega)) rfl (k := 0) (by decide) (by decide) ((hIf bb (by omega)).1) dX1_ticked_44 ?_
          obtain ⟨_, _, _, _, _⟩ := hIf bb (by omega)
          refine q_iaddN hx hb dX1_ticked_45 ?_
          refine lv_istore_n (lv' := [(3, .int (nI (T + (pN u bb)))), (2, .int (nI (X + 1))), (0, .ref h), (1, .int (nI bb))]) hx hb dX1_ticked_46 rfl hl (by decide) rfl (fun ls hl => ?_)
          refine lv_goto (tgt := 11) hx hb dX1_ticked_47 (by decide) ?_
          exact ih (k + 1) (by omega) (X + 1) (T + (pN u bb)) (by exact tk_y hp2 hT c_16 c_26 hX) (by rw [Nat.add_mod_right]; exact hT) (by omega) (by omega) _ (lv_sub hl [2, 3, 1, 0] rfl)
  exact lp11 _ 0 (Nat.zero_add _) 0 (qN u bb) (by exact tk_0 hqp) (by exact Nat.mod_eq_of_lt hqp) (by exact Nat.zero_le _) (by omega) _ (lv_sub hl [2, 3, 1, 0] rfl)
