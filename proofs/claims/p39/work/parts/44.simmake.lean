set_option maxHeartbeats 4000000 in
set_option maxRecDepth 100000 in
theorem c_X1_addStick (l : Launch) (D : va_G) (cI cR : ClassId) (h : Nat) (a nr br : Nat → Nat) (u : MS) (sz pp : Nat) (hI : InvN u) (hNm : NM (fun q => q = h) a nr br u) (hs4 : mSc u < 4) : Met l yX1_addStick wsX1_addStick ({ frames := 0, cells := 1, slots := 4, locals := 0 } : Room) (va_Pc [.ref h, .int (nI pp)] (fun U => U.heap.size = sz ∧ va_P D vwCl (picS h a u) U.heap ∧ RO cI cR a nr br u U.heap ∧ va_K D vwCl (tyR cI cR) U)) ((fun A : Nat → Prop => va_Qv (fun _ : Unit => True) (fun (_ : Unit) (t : State) => ∃ q : Nat, sz ≤ q ∧ va_P D vwCl (picS h (upN a 0 q) u) t.heap ∧ t.heap[q]? = some (vp_cell cI (mSc u + 1, .inl (upd (mHt u) (mSc u) (nI pp))))) A) (va_A (picS h a u) sz)) 1 4 (va_A (picS h a u) sz) := by
  refine en_ws (cc := cX1_addStick) (maxL := 4) (ret := none) hNm _ (fun A : Nat → Prop => va_Qv (fun _ : Unit => True) (fun (_ : Unit) (t : State) => ∃ q : Nat, sz ≤ q ∧ va_P D vwCl (picS h (upN a 0 q) u) t.heap ∧ t.heap[q]? = some (vp_cell cI (mSc u + 1, .inl (upd (mHt u) (mSc u) (nI pp))))) A) (by decide) rfl (Nat.le_of_ble_eq_true rfl) ?_
  intro p e s m args below meth c ls A H locs hx hb hml hr hlocks hts hown hsz hRk hP hK hD hA hS hl
  have hown : s.vm.findClass RX1 = some m.cls := hown
  have hin : ∀ w ∈ wsX10, w ∈ wsX1_addStick := fun _ h9 => List.mem_cons_of_mem _ (List.mem_append_right _ h9)
  have hl : lv_has ls 4 [(0, .ref h), (1, .int (nI pp))] := hl
  have hR := hRk _ _ hS
  have hS0 := hS
  obtain ⟨hIa, hIb, hIc, hId, hIf, hIg, hIi⟩ := id hI
  refine lv_aload_n hx hb dX1_addStick_0 rfl (lv_at hl 0 rfl) ?_
  refine va_get (D := D) (ci := 1) (v := .ref (a 0)) (C := RX1) (T := TX1) (N := 10) hx hb hts hin hown hK hP 0 rfl rfl 0 (by decide) (hts (.fieldLink RX1 7 "AfternoonMeterLaw$Sim" "sticks" "[I") (List.mem_of_getElem? (i := 1) rfl)) (fun _ h9 => h9) rfl dX1_addStick_1 ?_
  refine va_alen (ws := [(a 0, .inl (cI, mSc u, .inl (mHt u)))]) (v := nI (mSc u)) hx hb hK (P_one hR.1) 0 0 rfl rfl rfl dX1_addStick_4 ?_
  refine lv_iconst (v := nI 1) hx hb dX1_addStick_5 (by decide +kernel) ?_
  refine q_iaddN hx hb dX1_addStick_6 ?_
  refine q_newI (N' := mSc u + 1) hx hb (hts (.arrayClass .int) (List.mem_of_getElem? (i := 2) rfl)) hK hP hD hS hA (by omega) (Nat.le_of_ble_eq_true rfl) (by show 0 + (mSc u + 1) ≤ 4; omega) dX1_addStick_7 (fun q7 cX H hq7 hK hP hD hS => ?_)
  have hq8 : sz ≤ q7 := by rw [← hsz, hq7]; exact hS0.1
  have hcX := K_uniI hK
  subst hcX
  have hK : va_K D vwCl (tyR cI cR) s := hK.sub [0, 1] rfl
  have hP : va_P D vwCl [(h, .inr (1, [.ref (a 0), .ref (a 1), .ref (a 2), .int (nI (mRoom u)), .int (nI (mRate u)), .int (nI (mSip u)), .int (mAft u), .int (nI (mNow u)), .int (nI (mTea u)), .int (mSpl u)])), (q7, .inl (cI, (mSc u + 1), .inl (fun _ => 0)))] H := hP
  have hD : va_D A [(h, .inr (1, [.ref (a 0), .ref (a 1), .ref (a 2), .int (nI (mRoom u)), .int (nI (mRate u)), .int (nI (mSip u)), .int (mAft u), .int (nI (mNow u)), .int (nI (mTea u)), .int (mSpl u)])), (q7, .inl (cI, (mSc u + 1), .inl (fun _ => 0)))] := hD
  have hR := hRk _ _ hS
  refine W.widen (k := 1) (n := 4) (by omega) (by omega) ?_
  refine lv_astore_n (lv' := [(2, .ref q7), (0, .ref h), (1, .int (nI pp))]) hx hb dX1_addStick_9 rfl hl (by decide) rfl (fun ls hl => ?_)
  refine lv_iconst (v := nI 0) hx hb dX1_addStick_10 (by decide +kernel) ?_
  refine lv_istore_n (lv' := [(3, .int (nI 0)), (2, .ref q7), (0, .ref h), (1, .int (nI pp))]) hx hb dX1_addStick_11 rfl hl (by decide) rfl (fun ls hl => ?_)
  have lp12 : ∀ (n k : Nat), k + n = mSc u → ∀ (F : Nat → Int32), F = cpI u k → ∀ (H : Heap) (locs : List Loc), va_P D vwCl [(h, .inr (1, [.ref (a 0), .ref (a 1), .ref (a 2), .int (nI (mRoom u)), .int (nI (mRate u)), .int (nI (mSip u)), .int (mAft u), .int (nI (mNow u)), .int (nI (mTea u)), .int (mSpl u)])), (q7, .inl (cI, (mSc u + 1), .inl F))] H → va_D A [(h, .inr (1, [.ref (a 0), .ref (a 1), .ref (a 2), .int (nI (mRoom u)), .int (nI (mRate u)), .int (nI (mSip u)), .int (mAft u), .int (nI (mNow u)), .int (nI (mTea u)), .int (mSpl u)])), (q7, .inl (cI, (mSc u + 1), .inl F))] → va_S A s.heap H locs → ∀ (ls : Array Slot), lv_has ls 4 [(0, .ref h), (1, .int (nI pp)), (2, .ref q7), (3, .int (nI k))] → W p l e ({ frames := 0, cells := 1, slots := 4, locals := 0 } : Room) s m args below meth c H locs 1 4 (MQ below ((fun A : Nat → Prop => va_Qv (fun _ : Unit => True) (fun (_ : Unit) (t : State) => ∃ q : Nat, sz ≤ q ∧ va_P D vwCl (picS h (upN a 0 q) u) t.heap ∧ t.heap[q]? = some (vp_cell cI (mSc u + 1, .inl (upd (mHt u) (mSc u) (nI pp))))) A) A) args s 1 4 A) (F0 m 12 ls []) := by
    intro n
    induction n with
    | zero =>
      intro k hk F eF H locs hP hD hS ls hl
      have hR := hRk _ _ hS
      have ek : k = mSc u := by omega
      refine lv_iload_n hx hb dX1_addStick_12 rfl (lv_at hl 3 rfl) ?_
      refine lv_aload_n hx hb dX1_addStick_13 rfl (lv_at hl 0 rfl) ?_
      refine va_get (D := D) (ci := 1) (v := .ref (a 0)) (C := RX1) (T := TX1) (N := 10) hx hb hts hin hown hK hP 0 rfl rfl 0 (by decide) (hts (.fieldLink RX1 7 "AfternoonMeterLaw$Sim" "sticks" "[I") (List.mem_of_getElem? (i := 1) rfl)) (fun _ h9 => h9) rfl dX1_addStick_14 ?_
      refine va_alen (ws := [(a 0, .inl (cI, mSc u, .inl (mHt u)))]) (v := nI (mSc u)) hx hb hK (P_one hR.1) 0 0 rfl rfl rfl dX1_addStick_17 ?_
      refine lv_icmp_ge (tgt := 36) hx hb dX1_addStick_18 (by decide) (fun c_18 => ?_) (fun c_18 => ?_)
      · skip
        replace c_18 : (mSc u) ≤ k := leN c_18
        refine lv_aload_n hx hb dX1_addStick_36 rfl (lv_at hl 2 rfl) ?_
        refine lv_aload_n hx hb dX1_addStick_37 rfl (lv_at hl 0 rfl) ?_
        refine va_get (D := D) (ci := 1) (v := .ref (a 0)) (C := RX1) (T := TX1) (N := 10) hx hb hts hin hown hK hP 0 rfl rfl 0 (by decide) (hts (.fieldLink RX1 7 "AfternoonMeterLaw$Sim" "sticks" "[I") (List.mem_of_getElem? (i := 1) rfl)) (fun _ h9 => h9) rfl dX1_addStick_38 ?_
        refine va_alen (ws := [(a 0, .inl (cI, mSc u, .inl (mHt u)))]) (v := nI (mSc u)) hx hb hK (P_one hR.1) 0 0 rfl rfl rfl dX1_addStick_41 ?_
        refine lv_iload_n hx hb dX1_addStick_42 rfl (lv_at hl 1 rfl) ?_
        refine q_iast hx hb hK hP hD hS 1 0 rfl rfl (by omega) (by omega) dX1_addStick_43 (fun H locs hP hD hS => ?_)
        have hP : va_P D vwCl [(h, .inr (1, [.ref (a 0), .ref (a 1), .ref (a 2), .int (nI (mRoom u)), .int (nI (mRate u)), .int (nI (mSip u)), .int (mAft u), .int (nI (mNow u)), .int (nI (mTea u)), .int (mSpl u)])), (q7, .inl (cI, (mSc u + 1), .inl (upd F (mSc u) (nI pp))))] H := hP
        have hD : va_D A [(h, .inr (1, [.ref (a 0), .ref (a 1), .ref (a 2), .int (nI (mRoom u)), .int (nI (mRate u)), .int (nI (mSip u)), .int (mAft u), .int (nI (mNow u)), .int (nI (mTea u)), .int (mSpl u)])), (q7, .inl (cI, (mSc u + 1), .inl (upd F (mSc u) (nI pp))))] := hD
        have hR := hRk _ _ hS
        refine lv_aload_n hx hb dX1_addStick_44 rfl (lv_at hl 0 rfl) ?_
        refine lv_aload_n hx hb dX1_addStick_45 rfl (lv_at hl 2 rfl) ?_
        refine va_put (D := D) (ci := 1) (v := .ref q7) (ty := (.array .int)) (C := RX1) (T := TX1) (N := 10) hx hb hts hin tyX1 tyX1_ok nmX1 hown hK hP hD hS 0 rfl rfl 0 (by decide) (hts (.fieldLink RX1 7 "AfternoonMeterLaw$Sim" "sticks" "[I") (List.mem_of_getElem? (i := 1) rfl)) (fun _ h9 => h9) rfl (by decide +kernel) rfl rfl (Nat.le_of_ble_eq_true rfl) dX1_addStick_46 (fun H locs hP hD hS => ?_)
        have hP : va_P D vwCl [(h, .inr (1, [.ref q7, .ref (a 1), .ref (a 2), .int (nI (mRoom u)), .int (nI (mRate u)), .int (nI (mSip u)), .int (mAft u), .int (nI (mNow u)), .int (nI (mTea u)), .int (mSpl u)])), (q7, .inl (cI, (mSc u + 1), .inl (upd F (mSc u) (nI pp))))] H := hP
        have hD : va_D A [(h, .inr (1, [.ref q7, .ref (a 1), .ref (a 2), .int (nI (mRoom u)), .int (nI (mRate u)), .int (nI (mSip u)), .int (mAft u), .int (nI (mNow u)), .int (nI (mTea u)), .int (mSpl u)])), (q7, .inl (cI, (mSc u + 1), .inl (upd F (mSc u) (nI pp))))] := hD
        have hR := hRk _ _ hS
        have h2 : H[q7]? = some (vp_cell cI (mSc u + 1, .inl (upd (mHt u) (mSc u) (nI pp)))) := Eq.trans (hP 1 _ rfl) (congrArg some (cell_i (fun j hj => by rw [eF, ek]; exact cpI_e hIi hj)))
        have hP9 : va_P D vwCl (picS h (upN a 0 q7) u) H := hP.sub (ws' := picS h (upN a 0 q7) u) [0] rfl
        exact W.vret hx hb hr (fun t ht hW => ⟨⟨(), rfl, trivial, q7, hq8, by rw [ht]; exact hP9, by rw [ht]; exact h2⟩, hS.F ht⟩) hS.2.2 dX1_addStick_49
      · skip
        replace c_18 : k < (mSc u) := nleN c_18
        exact (by omega : False).elim
    | succ n ih =>
      intro k hk F eF H locs hP hD hS ls hl
      have hR := hRk _ _ hS
      refine lv_iload_n hx hb dX1_addStick_12 rfl (lv_at hl 3 rfl) ?_
      refine lv_aload_n hx hb dX1_addStick_13 rfl (lv_at hl 0 rfl) ?_
      refine va_get (D := D) (ci := 1) (v := .ref (a 0)) (C := RX1) (T := TX1) (N := 10) hx hb hts hin hown hK hP 0 rfl rfl 0 (by decide) (hts (.fieldLink RX1 7 "AfternoonMeterLaw$Sim" "sticks" "[I") (List.mem_of_getElem? (i := 1) rfl)) (fun _ h9 => h9) rfl dX1_addStick_14 ?_
      refine va_alen (ws := [(a 0, .inl (cI, mSc u, .inl (mHt u)))]) (v := nI (mSc u)) hx hb hK (P_one hR.1) 0 0 rfl rfl rfl dX1_addStick_17 ?_
      refine lv_icmp_ge (tgt := 36) hx hb dX1_addStick_18 (by decide) (fun c_18 => ?_) (fun c_18 => ?_)
      · skip
        replace c_18 : (mSc u) ≤ k := leN c_18
        exact (by omega : False).elim
      · skip
        replace c_18 : k < (mSc u) := nleN c_18
        refine lv_aload_n hx hb dX1_addStick_21 rfl (lv_at hl 2 rfl) ?_
        refine lv_iload_n hx hb dX1_addStick_22 rfl (lv_at hl 3 rfl) ?_
        refine lv_aload_n hx hb dX1_addStick_23 rfl (lv_at hl 0 rfl) ?_
        refine va_get (D := D) (ci := 1) (v := .ref (a 0)) (C := RX1) (T := TX1) (N := 10) hx hb hts hin hown hK hP 0 rfl rfl 0 (by decide) (hts (.fieldLink RX1 7 "AfternoonMeterLaw$Sim" "sticks" "[I") (List.mem_of_getElem? (i := 1) rfl)) (fun _ h9 => h9) rfl dX1_addStick_24 ?_
        refine lv_iload_n hx hb dX1_addStick_27 rfl (lv_at hl 3 rfl) ?_
        refine q_ialdH (cA := cI) (n := mSc u) (f := mHt u) (v := nI (hN u k)) hx hb hK 0 hR.1 rfl (k := k) (by omega) (by omega) ((hIi k (by omega)).1) dX1_addStick_28 ?_
        obtain ⟨_, _, _⟩ := hIi k (by omega)
        refine q_iast hx hb hK hP hD hS 1 0 rfl rfl (by omega) (by omega) dX1_addStick_29 (fun H locs hP hD hS => ?_)
        have hP : va_P D vwCl [(h, .inr (1, [.ref (a 0), .ref (a 1), .ref (a 2), .int (nI (mRoom u)), .int (nI (mRate u)), .int (nI (mSip u)), .int (mAft u), .int (nI (mNow u)), .int (nI (mTea u)), .int (mSpl u)])), (q7, .inl (cI, (mSc u + 1), .inl (upd F k (nI (hN u k)))))] H := hP
        have hD : va_D A [(h, .inr (1, [.ref (a 0), .ref (a 1), .ref (a 2), .int (nI (mRoom u)), .int (nI (mRate u)), .int (nI (mSip u)), .int (mAft u), .int (nI (mNow u)), .int (nI (mTea u)), .int (mSpl u)])), (q7, .inl (cI, (mSc u + 1), .inl (upd F k (nI (hN u k)))))] := hD
        have hR := hRk _ _ hS
        refine lv_iinc (v := nI (k + 1)) (lv' := [(3, .int (nI (k + 1))), (0, .ref h), (1, .int (nI pp)), (2, .ref q7)]) hx hb dX1_addStick_30 hl (k := 3) rfl (nI_i1 _) (by decide) rfl (fun ls hl => ?_)
        refine lv_goto (tgt := 12) hx hb dX1_addStick_33 (by decide) ?_
        exact ih (k + 1) (by omega) (upd F k (nI (hN u k))) (by subst eF; exact cpI_s) H locs hP hD hS _ (lv_sub hl [1, 2, 3, 0] rfl)
  exact lp12 _ 0 (Nat.zero_add _) (fun _ => 0) (by exact cpI_0) _ _ hP hD hS _ (lv_sub hl [2, 3, 1, 0] rfl)
set_option maxHeartbeats 4000000 in
set_option maxRecDepth 100000 in
theorem c_X1_init (l : Launch) (D : va_G) (h sz : Nat) : Met l yX1_init wsX1_init ({ frames := 1, cells := 3, slots := 0, locals := 12 } : Room) (va_Pc [.ref h] (fun U => U.heap.size = sz ∧ va_P D vwCl [(h, .inr (1, [.null, .null, .null, .int (nI 0), .int (nI 0), .int (nI 0), .int (nI 0), .int (nI 0), .int (nI 0), .int (nI 0)]))] U.heap ∧ va_K D vwCl [] U ∧ AOI U)) ((fun A : Nat → Prop => va_Qv (fun _ : Unit => True) (fun (_ : Unit) (t : State) => ∃ (cI cR : ClassId) (a : Nat → Nat), (∀ i, i < 3 → sz ≤ a i) ∧ va_P D vwCl (picS h a mZ) t.heap ∧ RO cI cR a (fun _ => 0) (fun _ => 0) mZ t.heap ∧ va_K D vwCl (tyR cI cR) t) A) (va_A [(h, .inr (1, [.null, .null, .null, .int (nI 0), .int (nI 0), .int (nI 0), .int (nI 0), .int (nI 0), .int (nI 0), .int (nI 0)]))] sz)) 3 0 (va_A [(h, .inr (1, [.null, .null, .null, .int (nI 0), .int (nI 0), .int (nI 0), .int (nI 0), .int (nI 0), .int (nI 0), .int (nI 0)]))] sz) := by
  refine en_wj (cc := cX1_init) (maxL := 1) (ret := none) _ (fun A : Nat → Prop => va_Qv (fun _ : Unit => True) (fun (_ : Unit) (t : State) => ∃ (cI cR : ClassId) (a : Nat → Nat), (∀ i, i < 3 → sz ≤ a i) ∧ va_P D vwCl (picS h a mZ) t.heap ∧ RO cI cR a (fun _ => 0) (fun _ => 0) mZ t.heap ∧ va_K D vwCl (tyR cI cR) t) A) (by decide) rfl (Nat.le_of_ble_eq_true rfl) ?_
  intro p e s m args below meth c ls A H locs hx hb hml hr hlocks hts hown hnm hsz hP hK hO hD hA hS hl
  have hown : s.vm.findClass RX1 = some m.cls := hown
  have hin : ∀ w ∈ wsX10, w ∈ wsX1_init := fun _ h9 => List.mem_cons_of_mem _ (List.mem_append_right _ h9)
  have hl : lv_has ls 1 [(0, .ref h)] := hl
  refine lv_aload_n hx hb dX1_init_0 rfl (lv_at hl 0 rfl) ?_
  refine W.objInit hx hb hown (hts (.methodLink RX1 1 objectInit) (List.mem_of_getElem? (i := 1) rfl)) (hts (.instanceMethod objectInit) (List.mem_of_getElem? (i := 2) rfl)) (hts _ (List.mem_of_getElem? (i := 3) rfl)) rfl (by rw [hml]; exact hl.1) rfl dX1_init_1 (Nat.le_of_ble_eq_true rfl) (Nat.le_of_ble_eq_true rfl) ?_
  refine W.eq (g2 := F0 m 4 ls []) rfl ?_
  refine lv_aload_n hx hb dX1_init_4 rfl (lv_at hl 0 rfl) ?_
  refine lv_iconst (v := nI 0) hx hb dX1_init_5 (by decide +kernel) ?_
  have hSz := hS.1
  refine q_newI (N' := 0) hx hb (hts (.arrayClass .int) (List.mem_of_getElem? (i := 4) rfl)) hK hP hD hS hA (by omega) (Nat.le_of_ble_eq_true rfl) (Nat.le_of_ble_eq_true rfl) dX1_init_6 (fun q6 cI H hq6 hK hP hD hS => ?_)
  have hK : va_K D vwCl [(cI, .int)] s := hK
  have hq69 : sz ≤ q6 := by rw [← hsz, hq6]; exact hSz
  have hP : va_P D vwCl [(h, .inr (1, [.null, .null, .null, .int (nI 0), .int (nI 0), .int (nI 0), .int (nI 0), .int (nI 0), .int (nI 0), .int (nI 0)])), (q6, .inl (cI, 0, .inl (fun _ => 0)))] H := hP
  have hD : va_D A [(h, .inr (1, [.null, .null, .null, .int (nI 0), .int (nI 0), .int (nI 0), .int (nI 0), .int (nI 0), .int (nI 0), .int (nI 0)])), (q6, .inl (cI, 0, .inl (fun _ => 0)))] := hD
  refine va_put (D := D) (ci := 1) (v := .ref q6) (ty := (.array .int)) (C := RX1) (T := TX1) (N := 10) hx hb hts hin tyX1 tyX1_ok nmX1 hown hK hP hD hS 0 rfl rfl 0 (by decide) (hts (.fieldLink RX1 7 "AfternoonMeterLaw$Sim" "sticks" "[I") (List.mem_of_getElem? (i := 5) rfl)) (fun _ h9 => h9) rfl (by decide +kernel) rfl rfl (Nat.le_of_ble_eq_true rfl) dX1_init_8 (fun H locs hP hD hS => ?_)
  have hP : va_P D vwCl [(h, .inr (1, [.ref q6, .null, .null, .int (nI 0), .int (nI 0), .int (nI 0), .int (nI 0), .int (nI 0), .int (nI 0), .int (nI 0)])), (q6, .inl (cI, 0, .inl (fun _ => 0)))] H := hP
  have hD : va_D A [(h, .inr (1, [.ref q6, .null, .null, .int (nI 0), .int (nI 0), .int (nI 0), .int (nI 0), .int (nI 0), .int (nI 0), .int (nI 0)])), (q6, .inl (cI, 0, .inl (fun _ => 0)))] := hD
  refine lv_aload_n hx hb dX1_init_11 rfl (lv_at hl 0 rfl) ?_
  refine lv_iconst (v := nI 0) hx hb dX1_init_12 (by decide +kernel) ?_
  have hSz := hS.1
  refine q_newA (N' := 0) hx hb hown (hts (.classLink RX1 13 "[I") (List.mem_of_getElem? (i := 6) rfl)) hO hK hP hD hS hA (by omega) (Nat.le_of_ble_eq_true rfl) (Nat.le_of_ble_eq_true rfl) dX1_init_13 (fun q13 cR H hq13 hK hP hD hS => ?_)
  have hK : va_K D vwCl (tyR cI cR) s := hK
  have hq139 : sz ≤ q13 := by rw [← hsz, hq13]; exact hSz
  have hP : va_P D vwCl [(h, .inr (1, [.ref q6, .null, .null, .int (nI 0), .int (nI 0), .int (nI 0), .int (nI 0), .int (nI 0), .int (nI 0), .int (nI 0)])), (q6, .inl (cI, 0, .inl (fun _ => 0))), (q13, .inl (cR, 0, .inr (.inr (.inr (.inr (fun _ => none))))))] H := hP
  have hD : va_D A [(h, .inr (1, [.ref q6, .null, .null, .int (nI 0), .int (nI 0), .int (nI 0), .int (nI 0), .int (nI 0), .int (nI 0), .int (nI 0)])), (q6, .inl (cI, 0, .inl (fun _ => 0))), (q13, .inl (cR, 0, .inr (.inr (.inr (.inr (fun _ => none))))))] := hD
  refine va_put (D := D) (ci := 1) (v := .ref q13) (ty := (.array (.array .int))) (C := RX1) (T := TX1) (N := 10) hx hb hts hin tyX1 tyX1_ok nmX1 hown hK hP hD hS 0 rfl rfl 1 (by decide) (hts (.fieldLink RX1 14 "AfternoonMeterLaw$Sim" "naps" "[[I") (List.mem_of_getElem? (i := 7) rfl)) (fun _ h9 => h9) rfl (by decide +kernel) rfl rfl (Nat.le_of_ble_eq_true rfl) dX1_init_16 (fun H locs hP hD hS => ?_)
  have hP : va_P D vwCl [(h, .inr (1, [.ref q6, .ref q13, .null, .int (nI 0), .int (nI 0), .int (nI 0), .int (nI 0), .int (nI 0), .int (nI 0), .int (nI 0)])), (q6, .inl (cI, 0, .inl (fun _ => 0))), (q13, .inl (cR, 0, .inr (.inr (.inr (.inr (fun _ => none))))))] H := hP
  have hD : va_D A [(h, .inr (1, [.ref q6, .ref q13, .null, .int (nI 0), .int (nI 0), .int (nI 0), .int (nI 0), .int (nI 0), .int (nI 0), .int (nI 0)])), (q6, .inl (cI, 0, .inl (fun _ => 0))), (q13, .inl (cR, 0, .inr (.inr (.inr (.inr (fun _ => none))))))] := hD
  refine lv_aload_n hx hb dX1_init_19 rfl (lv_at hl 0 rfl) ?_
  refine lv_iconst (v := nI 0) hx hb dX1_init_20 (by decide +kernel) ?_
  have hSz := hS.1
  refine q_newA (N' := 0) hx hb hown (hts (.classLink RX1 13 "[I") (List.mem_of_getElem? (i := 6) rfl)) hO hK hP hD hS hA (by omega) (Nat.le_of_ble_eq_true rfl) (Nat.le_of_ble_eq_true rfl) dX1_init_21 (fun q21 cX H hq21 hK hP hD hS => ?_)
  have hcX := K_uniR hK
  subst hcX
  have hK : va_K D vwCl (tyR cI cR) s := hK.sub [0, 1] rfl
  have hq219 : sz ≤ q21 := by rw [← hsz, hq21]; exact hSz
  have hP : va_P D vwCl [(h, .inr (1, [.ref q6, .ref q13, .null, .int (nI 0), .int (nI 0), .int (nI 0), .int (nI 0), .int (nI 0), .int (nI 0), .int (nI 0)])), (q6, .inl (cI, 0, .inl (fun _ => 0))), (q13, .inl (cR, 0, .inr (.inr (.inr (.inr (fun _ => none)))))), (q21, .inl (cR, 0, .inr (.inr (.inr (.inr (fun _ => none))))))] H := hP
  have hD : va_D A [(h, .inr (1, [.ref q6, .ref q13, .null, .int (nI 0), .int (nI 0), .int (nI 0), .int (nI 0), .int (nI 0), .int (nI 0), .int (nI 0)])), (q6, .inl (cI, 0, .inl (fun _ => 0))), (q13, .inl (cR, 0, .inr (.inr (.inr (.inr (fun _ => none)))))), (q21, .inl (cR, 0, .inr (.inr (.inr (.inr (fun _ => none))))))] := hD
  refine va_put (D := D) (ci := 1) (v := .ref q21) (ty := (.array (.array .int))) (C := RX1) (T := TX1) (N := 10) hx hb hts hin tyX1 tyX1_ok nmX1 hown hK hP hD hS 0 rfl rfl 2 (by decide) (hts (.fieldLink RX1 18 "AfternoonMeterLaw$Sim" "bees" "[[I") (List.mem_of_getElem? (i := 8) rfl)) (fun _ h9 => h9) rfl (by decide +kernel) rfl rfl (Nat.le_of_ble_eq_true rfl) dX1_init_24 (fun H locs hP hD hS => ?_)
  have hP : va_P D vwCl [(h, .inr (1, [.ref q6, .ref q13, .ref q21, .int (nI 0), .int (nI 0), .int (nI 0), .int (nI 0), .int (nI 0), .int (nI 0), .int (nI 0)])), (q6, .inl (cI, 0, .inl (fun _ => 0))), (q13, .inl (cR, 0, .inr (.inr (.inr (.inr (fun _ => none)))))), (q21, .inl (cR, 0, .inr (.inr (.inr (.inr (fun _ => none))))))] H := hP
  have hD : va_D A [(h, .inr (1, [.ref q6, .ref q13, .ref q21, .int (nI 0), .int (nI 0), .int (nI 0), .int (nI 0), .int (nI 0), .int (nI 0), .int (nI 0)])), (q6, .inl (cI, 0, .inl (fun _ => 0))), (q13, .inl (cR, 0, .inr (.inr (.inr (.inr (fun _ => none)))))), (q21, .inl (cR, 0, .inr (.inr (.inr (.inr (fun _ => none))))))] := hD
  refine lv_aload_n hx hb dX1_init_27 rfl (lv_at hl 0 rfl) ?_
  refine lv_bipush (v := nI 20) hx hb dX1_init_28 (by decide +kernel) ?_
  refine va_put (D := D) (ci := 1) (v := .int (nI 20)) (ty := .int) (C := RX1) (T := TX1) (N := 10) hx hb hts hin tyX1 tyX1_ok nmX1 hown hK hP hD hS 0 rfl rfl 3 (by decide) (hts (.fieldLink RX1 21 "AfternoonMeterLaw$Sim" "room" "I") (List.mem_of_getElem? (i := 9) rfl)) (fun _ h9 => h9) rfl (by decide +kernel) rfl rfl (Nat.le_of_ble_eq_true rfl) dX1_init_30 (fun H locs hP hD hS => ?_)
  have hP : va_P D vwCl [(h, .inr (1, [.ref q6, .ref q13, .ref q21, .int (nI 20), .int (nI 0), .int (nI 0), .int (nI 0), .int (nI 0), .int (nI 0), .int (nI 0)])), (q6, .inl (cI, 0, .inl (fun _ => 0))), (q13, .inl (cR, 0, .inr (.inr (.inr (.inr (fun _ => none)))))), (q21, .inl (cR, 0, .inr (.inr (.inr (.inr (fun _ => none))))))] H := hP
  have hD : va_D A [(h, .inr (1, [.ref q6, .ref q13, .ref q21, .int (nI 20), .int (nI 0), .int (nI 0), .int (nI 0), .int (nI 0), .int (nI 0), .int (nI 0)])), (q6, .inl (cI, 0, .inl (fun _ => 0))), (q13, .inl (cR, 0, .inr (.inr (.inr (.inr (fun _ => none)))))), (q21, .inl (cR, 0, .inr (.inr (.inr (.inr (fun _ => none))))))] := hD
  refine lv_aload_n hx hb dX1_init_33 rfl (lv_at hl 0 rfl) ?_
  refine lv_iconst (v := nI 1) hx hb dX1_init_34 (by decide +kernel) ?_
  refine va_put (D := D) (ci := 1) (v := .int (nI 1)) (ty := .int) (C := RX1) (T := TX1) (N := 10) hx hb hts hin tyX1 tyX1_ok nmX1 hown hK hP hD hS 0 rfl rfl 4 (by decide) (hts (.fieldLink RX1 25 "AfternoonMeterLaw$Sim" "rate" "I") (List.mem_of_getElem? (i := 10) rfl)) (fun _ h9 => h9) rfl (by decide +kernel) rfl rfl (Nat.le_of_ble_eq_true rfl) dX1_init_35 (fun H locs hP hD hS => ?_)
  have hP : va_P D vwCl [(h, .inr (1, [.ref q6, .ref q13, .ref q21, .int (nI 20), .int (nI 1), .int (nI 0), .int (nI 0), .int (nI 0), .int (nI 0), .int (nI 0)])), (q6, .inl (cI, 0, .inl (fun _ => 0))), (q13, .inl (cR, 0, .inr (.inr (.inr (.inr (fun _ => none)))))), (q21, .inl (cR, 0, .inr (.inr (.inr (.inr (fun _ => none))))))] H := hP
  have hD : va_D A [(h, .inr (1, [.ref q6, .ref q13, .ref q21, .int (nI 20), .int (nI 1), .int (nI 0), .int (nI 0), .int (nI 0), .int (nI 0), .int (nI 0)])), (q6, .inl (cI, 0, .inl (fun _ => 0))), (q13, .inl (cR, 0, .inr (.inr (.inr (.inr (fun _ => none)))))), (q21, .inl (cR, 0, .inr (.inr (.inr (.inr (fun _ => none))))))] := hD
  refine lv_aload_n hx hb dX1_init_38 rfl (lv_at hl 0 rfl) ?_
  refine lv_iconst (v := nI 3) hx hb dX1_init_39 (by decide +kernel) ?_
  refine va_put (D := D) (ci := 1) (v := .int (nI 3)) (ty := .int) (C := RX1) (T := TX1) (N := 10) hx hb hts hin tyX1 tyX1_ok nmX1 hown hK hP hD hS 0 rfl rfl 5 (by decide) (hts (.fieldLink RX1 28 "AfternoonMeterLaw$Sim" "sip" "I") (List.mem_of_getElem? (i := 11) rfl)) (fun _ h9 => h9) rfl (by decide +kernel) rfl rfl (Nat.le_of_ble_eq_true rfl) dX1_init_40 (fun H locs hP hD hS => ?_)
  have hP : va_P D vwCl [(h, .inr (1, [.ref q6, .ref q13, .ref q21, .int (nI 20), .int (nI 1), .int (nI 3), .int (nI 0), .int (nI 0), .int (nI 0), .int (nI 0)])), (q6, .inl (cI, 0, .inl (fun _ => 0))), (q13, .inl (cR, 0, .inr (.inr (.inr (.inr (fun _ => none)))))), (q21, .inl (cR, 0, .inr (.inr (.inr (.inr (fun _ => none))))))] H := hP
  have hD : va_D A [(h, .inr (1, [.ref q6, .ref q13, .ref q21, .int (nI 20), .int (nI 1), .int (nI 3), .int (nI 0), .int (nI 0), .int (nI 0), .int (nI 0)])), (q6, .inl (cI, 0, .inl (fun _ => 0))), (q13, .inl (cR, 0, .inr (.inr (.inr (.inr (fun _ => none)))))), (q21, .inl (cR, 0, .inr (.inr (.inr (.inr (fun _ => none))))))] := hD
  obtain ⟨a, ea0, ea1, ea2⟩ : ∃ a : Nat → Nat, a 0 = q6 ∧ a 1 = q13 ∧ a 2 = q21 := ⟨fun i => [q6, q13, q21].getD i 0, rfl, rfl, rfl⟩
  have hP9 : va_P D vwCl (picS h a mZ) H := by rw [← ea0, ← ea1, ← ea2] at hP; exact hP.sub (ws' := picS h a mZ) [0] rfl
  have hR9 : RO cI cR a (fun _ => 0) (fun _ => 0) mZ H := by rw [← ea0, ← ea1, ← ea2] at hP; exact ⟨hP 1 _ rfl, Eq.trans (hP 2 _ rfl) (congrArg some (cell_q (fun j hj => absurd hj (Nat.not_lt_zero j)))), Eq.trans (hP 3 _ rfl) (congrArg some (cell_q (fun j hj => absurd hj (Nat.not_lt_zero j)))), fun k hk => absurd hk (Nat.not_lt_zero k), fun k hk => absurd hk (Nat.not_lt_zero k)⟩
  have hz9 : ∀ i, i < 3 → sz ≤ a i := fun i hi => by rcases (show i = 0 ∨ i = 1 ∨ i = 2 by omega) with rfl | rfl | rfl; exact ea0 ▸ hq69; exact ea1 ▸ hq139; exact ea2 ▸ hq219
  refine W.widen (k := 3) (n := 0) (Nat.le_of_ble_eq_true rfl) (Nat.le_of_ble_eq_true rfl) ?_
  exact W.vret hx hb hr (fun t ht hW => ⟨⟨(), rfl, trivial, cI, cR, a, hz9, by rw [ht]; exact hP9, by rw [ht]; exact hR9, va_K.moved hW.alike hK⟩, hS.F ht⟩) hS.2.2 dX1_init_43
