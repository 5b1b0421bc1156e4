def TW (D : va_G) (cI cR : ClassId) (h0 : Nat) (a0 : Nat → Nat) (h1 : Nat) (u : MS) (on : Nat → Int32) (a1 nr br : Nat → Nat) (H : Heap) : Prop := Inv u ∧ InvO u on ∧ InvS u ∧ NM (fun q => q ∈ adr h0 a0 h1) a1 nr br u ∧ va_P D vwCl (picT cI h0 a0 h1 a1 u u on) H ∧ RO cI cR a1 nr br u H
theorem F_T {A : Nat → Prop} {ws : va_W} {z0 sz : Nat} (hD : va_D A ws) (hA : ∀ q : Nat, z0 ≤ q → A q) (hz : z0 ≤ sz) : ∀ q, va_A ws sz q → A q := by
  intro q h
  rcases h with ⟨k, e, h⟩ | h
  · exact hD.2 k _ h
  · exact hA q (Nat.le_trans hz h)
theorem act_blind {av : List Value} {sz : Nat} {D : va_G} {cl : List vw_C} {W : va_W} {B : Nat → Prop} {RR : Heap → Prop} {cI cR : ClassId} : FrameBlind (va_Pc av (fun U => U.heap.size = sz ∧ va_P D cl W U.heap ∧ va_D B W ∧ RR U.heap ∧ va_K D cl (tyR cI cR) U ∧ AOI U)) :=
  fun a U g mk q => by
    obtain ⟨q0, q1, qP, qD, qR, qK, qO⟩ := q
    exact ⟨q0, q1, qP, qD, qR, va_K.moved (u := U) (U := U.calling g mk a) (Vm.Alike.refl U.vm) qK, qO.blind⟩
theorem bu_blind {av : List Value} {sz : Nat} {D : va_G} {cl : List vw_C} {W : va_W} {B : Nat → Prop} {b L : Nat} {xs : Nat → Int32} {tys : List (ClassId × FieldType)} : FrameBlind (va_Pc av (fun U => U.heap.size = sz ∧ va_P D cl W U.heap ∧ va_D B W ∧ va_X b L xs U U.heap ∧ va_K D cl tys U ∧ AOI U ∧ va_Nw (.methodLinkNest RL 93 yX1_init RL) U)) :=
  fun a U g mk q => by
    obtain ⟨q0, q1, qP, qD, qX, qK, qO, qN⟩ := q
    exact ⟨q0, q1, qP, qD, va_X.moved (u := U) (U := U.calling g mk a) (Vm.Alike.refl U.vm) qX, va_K.moved (u := U) (U := U.calling g mk a) (Vm.Alike.refl U.vm) qK, qO.blind, va_Nw.same (u := U) (U := U.calling g mk a) rfl rfl qN⟩
set_option maxHeartbeats 8000000 in
set_option maxRecDepth 100000 in
theorem bl_loop {p : Program} {l : Launch} {e : Env} {s : State} {m : MethodId} {args : Array Value} {below : List Frame} {meth : Method} {c : Code} {D : va_G} {cI cR : ClassId} {h0 h1 b L : Nat} {a0 : Nat → Nat} {xs : Nat → Int32} {A : Nat → Prop} (hx : p.tables.exec = Jvm.exec) (hb : c.code = cL_build) (hml : c.maxLocals = 5) (hr : meth.sig.returnType = some (.object "AfternoonMeterLaw$Sim")) (hlocks : meth.locks = false) (hts : ∀ w ∈ wsL_build, w.before args s = true) (hown : s.vm.findClass RL = some m.cls) (hAO : AOI s) (hL : L ≤ 260) (hX : va_X b L xs s s.heap) (hbl : b < s.heap.size) (hbA : ¬ A b) (hK : va_K D vwCl (tyR cI cR) s) (hA : ∀ q : Nat, s.heap.size ≤ q → A q) {N : Nat} (hN9 : N ≤ 17) : ∀ (n k : Nat), k + n = N → ∀ (C Sl : Nat), C ≤ 4 + 8 * k → Sl ≤ 10 + 63 * k → ∀ (u : MS) (on : Nat → Int32) (a1 nr br : Nat → Nat) (H : Heap) (locs : List Loc) (ls : Array Slot), TW D cI cR h0 a0 h1 u on a1 nr br H → va_D A (picT cI h0 a0 h1 a1 u u on) → va_S A s.heap H locs → lv_has ls 5 [(0, .ref h0), (1, .ref b), (2, .ref h1), (3, .int (nI N)), (4, .int (nI k))] → W p l e ({ frames := 5, cells := 140, slots := 1200, locals := 115 } : Room) s m args below meth c H locs C Sl (MQ below (va_Qr (fun _ : Unit => True) (fun _ h1 t => ∃ (cR : ClassId) (u : MS) (on : Nat → Int32) (a1 nr br : Nat → Nat), TW D cI cR h0 a0 h1 u on a1 nr br t.heap ∧ va_K D vwCl (tyR cI cR) t ∧ va_D A (picT cI h0 a0 h1 a1 u u on)) A) args s 140 1200 A) (F0 m 24 ls []) := by
  intro n
  induction n with
  | zero =>
      intro k hk C Sl hC hSl u on a1 nr br H locs ls hT hD hS hl
      obtain ⟨hI, hO, hIS, hNM, hP, hR⟩ := id hT
      have hXH : va_X b L xs s H := hX.kept (hS.2.1 b hbl hbA)
      refine lv_iload hx hb dL_build_24 (lv_at hl 4 rfl) ?_
      refine lv_iload_n hx hb dL_build_26 rfl (lv_at hl 3 rfl) ?_
      refine lv_icmp_ge (tgt := 71) hx hb dL_build_27 (by decide) (fun c_27 => ?_) (fun c_27 => ?_)
      · skip
        replace c_27 : N ≤ k := leN c_27
        refine lv_aload_n hx hb dL_build_71 rfl (lv_at hl 2 rfl) ?_
        refine W.widen (k := 140) (n := 1200) (by omega) (by omega) ?_
        exact W.aret hx hb hr (Or.inl ⟨_, rfl⟩) (Or.inr ⟨_, rfl⟩) (fun t ht hW => ⟨⟨(), h1, rfl, trivial, cR, u, on, a1, nr, br, by rw [ht]; exact hT, va_K.moved hW.alike hK, hD⟩, hS.F ht⟩) hS.2.2 dL_build_72
      · skip
        replace c_27 : k < N := nleN c_27
        exact (by omega : False).elim
  | succ n ih =>
      intro k hk C Sl hC hSl u on a1 nr br H locs ls hT hD hS hl
      obtain ⟨hI, hO, hIS, hNM, hP, hR⟩ := id hT
      have hXH : va_X b L xs s H := hX.kept (hS.2.1 b hbl hbA)
      refine lv_iload hx hb dL_build_24 (lv_at hl 4 rfl) ?_
      refine lv_iload_n hx hb dL_build_26 rfl (lv_at hl 3 rfl) ?_
      refine lv_icmp_ge (tgt := 71) hx hb dL_build_27 (by decide) (fun c_27 => ?_) (fun c_27 => ?_)
      · skip
        replace c_27 : N ≤ k := leN c_27
        exact (by omega : False).elim
      · skip
        replace c_27 : k < N := nleN c_27
        refine lv_aload_n hx hb dL_build_30 rfl (lv_at hl 0 rfl) ?_
        refine lv_aload_n hx hb dL_build_31 rfl (lv_at hl 2 rfl) ?_
        refine lv_aload_n hx hb dL_build_32 rfl (lv_at hl 1 rfl) ?_
        refine lv_iconst (v := nI 1) hx hb dL_build_33 (by decide +kernel) ?_
        refine lv_iload hx hb dL_build_34 (lv_at hl 4 rfl) ?_
        refine lv_bipush (v := nI 15) hx hb dL_build_36 (by decide +kernel) ?_
        refine q_iremN hx hb (by omega) (by omega) (by omega) dL_build_38 ?_
        refine q_iaddN hx hb dL_build_39 ?_
        refine vp_callSi (W.runS (As := [.ref b, .int (nI (1 + (k % 15)))]) (rest := [.ref h1, .ref h0]) ⟨hx, hb, hml, hown, hts⟩ (c_L_cell l b L xs (1 + (k % 15)) hL (by omega)) (va_cwS 2 hts gL_build_L_cell rfl rfl rfl (by decide +kernel) ⟨Nat.le_of_ble_eq_true rfl, Nat.le_of_ble_eq_true rfl⟩) ⟨sx_blind, fun U hU hW => ⟨rfl, X_at hU (va_X.moved hW.alike hXH)⟩⟩ rfl rfl hl.1 rfl (lv_room (Nat.le_of_ble_eq_true rfl)) dL_build_40 ⟨by show C + 0 ≤ 140; omega, by show Sl + 0 ≤ 1200; omega⟩) (fun z_40 _ => ?_)
        refine lv_iload hx hb dL_build_43 (lv_at hl 4 rfl) ?_
        refine lv_bipush (v := nI 15) hx hb dL_build_45 (by decide +kernel) ?_
        refine q_idivN hx hb (by omega) (by omega) (by omega) dL_build_47 ?_
        refine lv_iconst (v := nI 3) hx hb dL_build_48 (by decide +kernel) ?_
        refine q_imulN hx hb dL_build_49 ?_
        refine lv_ishr hx hb dL_build_50 ?_
        refine lv_topi (fun z_50 _ => ?_)
        refine lv_bipush (v := nI 41) hx hb dL_build_51 (by decide +kernel) ?_
        refine lv_iload hx hb dL_build_53 (lv_at hl 4 rfl) ?_
        refine q_imulN hx hb dL_build_55 ?_
        refine lv_iadd hx hb dL_build_56 ?_
        have hFT := F_T hD hA hS.1
        refine va_calli (va_runS (As := [.ref h0, .ref h1, .int (z_50 + (nI (41 * k)))]) (rest := []) ⟨hx, hb, hml, hown, hts⟩ (c_L_act l D cI cR h0 h1 a0 a1 nr br u on H.size (z_50 + (nI (41 * k))) hI hO hIS hNM) (va_cwS 3 hts gL_build_L_act rfl rfl rfl (by decide +kernel) ⟨Nat.le_of_ble_eq_true rfl, Nat.le_of_ble_eq_true rfl⟩) ⟨act_blind (RR := RO cI cR a1 nr br u), fun U hU hW => ⟨rfl, by rw [hU], by rw [hU]; exact hP, hD.weaken (fun _ _ _ _ => trivial), by rw [hU]; exact hR, va_K.moved hW.alike hK, hAO.warm hW⟩⟩ rfl rfl hl.1 rfl (lv_room (Nat.le_of_ble_eq_true rfl)) dL_build_57 ⟨by show C + 8 ≤ 140; omega, by show Sl + 63 ≤ 1200; omega⟩) hS (fun q _ h => hFT q h) hFT (fun r w t H1 locs ht hvm hw hB hz1 hk1 hS1 => ?_)
        try dsimp only at hw hB
        subst hw
        rw [ht] at hB
        obtain ⟨u2, on2, a2, nr2, br2, hI2, hO2, hS2, hN2, hP2, hR2⟩ := hB
        refine lv_if_ne (tgt := 65) hx hb dL_build_60 (by decide) (fun c_60 => ?_) (fun c_60 => ?_)
        · skip
          replace c_60 : 1 ≠ 0 := neN c_60
          refine lv_iinc (v := nI (k + 1)) (lv' := [(4, .int (nI (k + 1))), (0, .ref h0), (1, .ref b), (2, .ref h1), (3, .int (nI N))]) hx hb dL_build_65 hl (k := 4) rfl (nI_i1 _) (by decide) rfl (fun ls hl => ?_)
          refine lv_goto (tgt := 24) hx hb dL_build_68 (by decide) ?_
          exact ih (k + 1) (by omega) (C + 8) (Sl + 63) (by omega) (by omega) u2 on2 a2 nr2 br2 H1 _ _ ⟨hI2, hO2, hS2, hN2, hP2, hR2⟩ (D_T hD) hS1 (lv_sub hl [1, 2, 3, 4, 0] rfl)
        · skip
          replace c_60 : 1 = 0 := eN c_60
          exact (by omega : False).elim
set_option maxHeartbeats 8000000 in
set_option maxRecDepth 100000 in
theorem c_L_build (l : Launch) (D : va_G) (cI : ClassId) (h0 : Nat) (a0 : Nat → Nat) (u : MS) (on : Nat → Int32) (b L : Nat) (xs : Nat → Int32) (sz : Nat) (hL : L ≤ 260) (hI : Inv mZ) (hb9 : ¬ va_A (pic0 cI h0 a0 mZ (fun _ => 0)) sz b) : Met l yL_build wsL_build ({ frames := 5, cells := 140, slots := 1200, locals := 115 } : Room) (va_Pc [.ref h0, .ref b] (fun U => U.heap.size = sz ∧ va_P D vwCl (pic0 cI h0 a0 mZ (fun _ => 0)) U.heap ∧ va_D (fun _ => True) (pic0 cI h0 a0 mZ (fun _ => 0)) ∧ va_X b L xs U U.heap ∧ va_K D vwCl [(cI, .int)] U ∧ AOI U ∧ va_Nw (.methodLinkNest RL 93 yX1_init RL) U)) ((fun A : Nat → Prop => va_Qr (fun _ : Unit => True) (fun _ h1 t => ∃ (cR : ClassId) (u : MS) (on : Nat → Int32) (a1 nr br : Nat → Nat), TW D cI cR h0 a0 h1 u on a1 nr br t.heap ∧ va_K D vwCl (tyR cI cR) t ∧ va_D A (picT cI h0 a0 h1 a1 u u on)) A) (va_A (pic0 cI h0 a0 mZ (fun _ => 0)) sz)) 140 1200 (va_A (pic0 cI h0 a0 mZ (fun _ => 0)) sz) := by
  refine Met.ofW (cc := cL_build) (maxL := 5) (ret := some (.object "AfternoonMeterLaw$Sim")) (by decide) rfl ?_
  intro p e s m args below meth c s₁ B hml hv
  obtain ⟨rfl, hsz, hP, hD, hX, hK, hAO, hNs⟩ := hv
  have hx := B.exec
  have hb := B.bytes
  have hr := B.returns
  have hlocks := B.notSynchronized
  have hts := atoms_spec (ws := wsL_build) B.pre
  have hown : s.vm.findClass RL = some m.cls := findClass_of_methodNamed B.named
  have hl := lv_entry ([.ref h0, .ref b]) (n := 5) (Nat.le_of_ble_eq_true rfl)
  rw [lg_entry_eq]
  generalize (lg_sl ([.ref h0, .ref b]) ++ List.replicate (5 - (lg_sl ([.ref h0, .ref b])).length) Slot.unset).toArray = ls at hl ⊢
  have hl : lv_has ls 5 [(0, .ref h0), (1, .ref b)] := hl
  subst hsz
  have hbl : b < s.heap.size := by
    obtain ⟨scr, h1, -⟩ := hX
    exact sm_lt h1
  have hD := hD.self (sz := s.heap.size)
  generalize hAe : va_A (pic0 cI h0 a0 mZ (fun _ => 0)) s.heap.size = A at hD hb9 ⊢
  have hA : ∀ q : Nat, s.heap.size ≤ q → A q := fun q h => by rw [← hAe]; exact Or.inr h
  have hin : ∀ w ∈ wsX10, w ∈ wsL_build := fun _ h9 => List.mem_cons_of_mem _ (List.mem_append_left _ (List.mem_append_left _ (List.mem_append_left _ (List.mem_append_left _ (List.mem_append_right _ h9)))))
  have hS : va_S A s.heap s.heap [] := va_S.rf
  refine va_new (ci := 1) (fs := [.null, .null, .null, .int (nI 0), .int (nI 0), .int (nI 0), .int (nI 0), .int (nI 0), .int (nI 0), .int (nI 0)]) (C := RX1) (T := TX1) (N := 10) hx hb hts hin tyX1 tyX1_ok hown (hts (.classLink RL 16 RX1) (List.mem_of_getElem? (i := 1) rfl)) (hts (.instantiable RX1 10) (List.mem_of_getElem? (i := 2) rfl)) (hts (.initialized RX1) (List.mem_of_getElem? (i := 3) rfl)) hK hP hD hS hA rfl (fun j hj => by rcases (show j = 0 ∨ j = 1 ∨ j = 2 ∨ j = 3 ∨ j = 4 ∨ j = 5 ∨ j = 6 ∨ j = 7 ∨ j = 8 ∨ j = 9 by omega) with rfl | rfl | rfl | rfl | rfl | rfl | rfl | rfl | rfl | rfl <;> rfl) (Nat.le_of_ble_eq_true rfl) (Nat.le_of_ble_eq_true rfl) dL_build_0 (fun h1 H hP hD hS => ?_)
  refine lv_dup hx hb dL_build_3 rfl ?_
  have hPc := hP.sub (ws' := [(h1, .inr (1, [.null, .null, .null, .int (nI 0), .int (nI 0), .int (nI 0), .int (nI 0), .int (nI 0), .int (nI 0), .int (nI 0)]))]) [8] rfl
  have hDc := hD.sub (ws' := [(h1, .inr (1, [.null, .null, .null, .int (nI 0), .int (nI 0), .int (nI 0), .int (nI 0), .int (nI 0), .int (nI 0), .int (nI 0)]))]) [8] (by decide) rfl
  have hKx := hK.sub (tys' := []) [] rfl
  have hFc := va_free (wc := [(h1, .inr (1, [.null, .null, .null, .int (nI 0), .int (nI 0), .int (nI 0), .int (nI 0), .int (nI 0), .int (nI 0), .int (nI 0)]))]) hD hS hA [8] rfl
  refine va_callv (va_runIN (As := []) (rest := [.ref h1]) (host := RL) ⟨hx, hb, hml, hown, hts⟩ (c_X1_init l D h1 H.size) ⟨va_cnB 0 hts gL_build_X1_init_n93 rfl rfl rfl hNs (hts (.initialized RX1) (List.mem_of_getElem? (i := 3) rfl)) (by decide +kernel) ⟨Nat.le_of_ble_eq_true rfl, Nat.le_of_ble_eq_true rfl⟩, rfl, (hts (.instanceMethod yX1_init) (List.mem_of_getElem? (i := 4) rfl))⟩ ⟨wj_blind, fun U hU hW => ⟨rfl, by rw [hU], by rw [hU]; exact hPc, va_K.moved hW.alike hKx, hAO.warm hW⟩⟩ rfl rfl hl.1 rfl (lv_room (Nat.le_of_ble_eq_true rfl)) dL_build_4 ⟨Nat.le_of_ble_eq_true rfl, Nat.le_of_ble_eq_true rfl⟩) hS (fun q _ h => hFc q h) hFc (fun w t H1 locs ht hvm hw hB hz1 hk1 hS => ?_)
  try dsimp only at hB
  obtain ⟨cX, cR, a1, hz9, hP1, hR1, hK1⟩ := hB
  rw [ht] at hP1 hR1
  have hK1 := va_K.moved hvm.symm hK1
  have hcX := K_uniB (hK.app hK1)
  subst hcX
  have hK : va_K D vwCl (tyR cI cR) s := hK1
  have hlt9 : ∀ q : Nat, q ∈ adr h0 a0 h1 → q < H.size := fun q z => by
    obtain ⟨k, e, hk⟩ := adr_of (cI := cI) (a1 := a1) (u := mZ) (v := mZ) (on := fun _ => 0) z
    have e2 : ((pic0 cI h0 a0 mZ (fun _ => 0) ++ [(h1, .inr (1, [.null, .null, .null, .int (nI 0), .int (nI 0), .int (nI 0), .int (nI 0), .int (nI 0), .int (nI 0), .int (nI 0)]))] : va_W).map (fun q => q.1))[k]? = some q := by
      have e3 : ((picT cI h0 a0 h1 a1 mZ mZ (fun _ => 0)).map (fun q => q.1))[k]? = some q := by rw [List.getElem?_map, hk]; rfl
      exact e3
    rw [List.getElem?_map] at e2
    cases hq : (pic0 cI h0 a0 mZ (fun _ => 0) ++ [(h1, .inr (1, [.null, .null, .null, .int (nI 0), .int (nI 0), .int (nI 0), .int (nI 0), .int (nI 0), .int (nI 0), .int (nI 0)]))] : va_W)[k]? with
    | none => rw [hq] at e2; cases e2
    | some w =>
      rw [hq] at e2
      obtain ⟨w1, w2⟩ := w
      cases e2
      exact (hP k _ hq).lt
  have hNM : NM (fun q => q ∈ adr h0 a0 h1) a1 (fun _ => 0) (fun _ => 0) mZ := ⟨fun z => absurd (hlt9 _ z) (Nat.not_lt.mpr (hz9 0 (by decide))), fun z => absurd (hlt9 _ z) (Nat.not_lt.mpr (hz9 1 (by decide))), fun z => absurd (hlt9 _ z) (Nat.not_lt.mpr (hz9 2 (by decide))), fun k hk => absurd hk (Nat.not_lt_zero k), fun k hk => absurd hk (Nat.not_lt_zero k)⟩
  obtain ⟨hP, hD⟩ := va_join (wr := pic0 cI h0 a0 mZ (fun _ => 0)) (w1 := picS h1 a1 mZ) hP hD [8] [0, 1, 2, 3, 4, 5, 6, 7] rfl rfl (by decide) (by decide) hk1 hFc hP1 (D_one (Or.inl ⟨0, _, rfl⟩))
  generalize H1 = H at hP hS hR1 ⊢
  have hP : va_P D vwCl (picT cI h0 a0 h1 a1 mZ mZ (fun _ => 0)) H := hP
  have hD : va_D A (picT cI h0 a0 h1 a1 mZ mZ (fun _ => 0)) := hD
  have hXH : va_X b L xs s H := hX.kept (hS.2.1 b hbl hb9)
  refine lv_astore_n (lv' := [(2, .ref h1), (0, .ref h0), (1, .ref b)]) hx hb dL_build_7 rfl hl (by decide) rfl (fun ls hl => ?_)
  refine lv_iconst (v := nI 4) hx hb dL_build_8 (by decide +kernel) ?_
  refine lv_aload_n hx hb dL_build_9 rfl (lv_at hl 2 rfl) ?_
  refine lv_iconst (v := nI 0) hx hb dL_build_10 (by decide +kernel) ?_
  refine vp_callSi (W.runS (As := [.ref b, .int (nI 0)]) (rest := [.int (nI 4)]) ⟨hx, hb, hml, hown, hts⟩ (c_L_cell l b L xs 0 hL (by omega)) (va_cwS 2 hts gL_build_L_cell rfl rfl rfl (by decide +kernel) ⟨Nat.le_of_ble_eq_true rfl, Nat.le_of_ble_eq_true rfl⟩) ⟨sx_blind, fun U hU hW => ⟨rfl, X_at hU (va_X.moved hW.alike hXH)⟩⟩ rfl rfl hl.1 rfl (lv_room (Nat.le_of_ble_eq_true rfl)) dL_build_11 ⟨Nat.le_of_ble_eq_true rfl, Nat.le_of_ble_eq_true rfl⟩) (fun z_11 _ => ?_)
  refine lv_bipush (v := nI 14) hx hb dL_build_14 (by decide +kernel) ?_
  refine vp_callSi (W.runS (As := [.int z_11, .int (nI 14)]) (rest := [.int (nI 4)]) ⟨hx, hb, hml, hown, hts⟩ (c_L_below l z_11 14 (by omega) (by omega)) (va_cwS 2 hts gL_build_L_below rfl rfl rfl (by decide +kernel) ⟨Nat.le_of_ble_eq_true rfl, Nat.le_of_ble_eq_true rfl⟩) preEq rfl rfl hl.1 rfl (lv_room (Nat.le_of_ble_eq_true rfl)) dL_build_16 ⟨Nat.le_of_ble_eq_true rfl, Nat.le_of_ble_eq_true rfl⟩) (fun r hr9 => ?_)
  obtain ⟨j_16, hj_16, rfl⟩ := hr9
  refine q_iaddN hx hb dL_build_19 ?_
  refine lv_istore_n (lv' := [(3, .int (nI (4 + j_16))), (2, .ref h1), (0, .ref h0), (1, .ref b)]) hx hb dL_build_20 rfl hl (by decide) rfl (fun ls hl => ?_)
  refine lv_iconst (v := nI 0) hx hb dL_build_21 (by decide +kernel) ?_
  refine lv_istore (lv' := [(4, .int (nI 0)), (3, .int (nI (4 + j_16))), (2, .ref h1), (0, .ref h0), (1, .ref b)]) hx hb dL_build_22 hl (by decide) rfl (fun ls hl => ?_)
  exact bl_loop hx hb hml hr hlocks hts hown hAO hL hX hbl hb9 hK hA (N := 4 + j_16) (by omega) (4 + j_16) 0 (by omega) _ _ (Nat.le_of_ble_eq_true rfl) (Nat.le_of_ble_eq_true rfl) mZ (fun _ => 0) a1 (fun _ => 0) (fun _ => 0) H _ _ ⟨inv_0, invO_0, is_0, hNM, hP, hR1⟩ hD hS (lv_sub hl [3, 4, 2, 1, 0] rfl)
