set_option maxHeartbeats 8000000 in
set_option maxRecDepth 100000 in
theorem law_loop {p : Program} {l : Launch} {e : Env} {s : State} {m : MethodId} {below : List Frame} {meth : Method} {c : Code} {D : va_G} {cI cR : ClassId} {b L h0 h1 : Nat} {a0 : Nat → Nat} {xs : Nat → Int32} (hL : L ≤ 260) (C0 : lw_At p s m meth c b L xs) (hAO : AOI s) (hK : va_K D vwCl (tyR cI cR) s) : ∀ (n tm : Nat), tm + n = 7 → ∀ (C Sl : Nat), C ≤ 200 + 40 * tm → Sl ≤ 2500 + 300 * tm → ∀ (u : MS) (on : Nat → Int32) (a1 nr br : Nat → Nat) (H : Heap) (locs : List Loc) (ls : Array Slot), TW D cI cR h0 a0 h1 u on a1 nr br H → va_D (LA s) (picT cI h0 a0 h1 a1 u u on) → va_S (LA s) s.heap H locs → lv_has ls 21 [(0, .ref b), (1, .ref h0), (2, .ref h1), (3, .int (nI tm))] → W p l e room_1 s m #[Value.ref b] below meth c H locs C Sl (lw_Z below #[Value.ref b] s) (F0 m 22 ls []) := by
  obtain ⟨hx, hb, hr, hml, hown, hts0, hX, hbl, hlocks, hgv⟩ := id C0
  have hown : s.vm.findClass RL = some m.cls := hown
  have hts : ∀ w ∈ wsL_law, w.before #[Value.ref b] s = true := fun w h => hts0 w (wsL_law_in w h)
  have hin : ∀ w ∈ wsX10, w ∈ wsL_law := inlX1
  have hA : ∀ q : Nat, s.heap.size ≤ q → LA s q := fun _ h => h
  have hbA : ¬ LA s b := Nat.not_le.mpr hbl
  intro n
  induction n with
  | zero =>
    intro tm hk C Sl hC hSl u on a1 nr br H locs ls hT hD hS hl
    obtain ⟨hI, hO, hIS, hNM, hP, hR⟩ := id hT
    obtain ⟨hIa, hIb, hIc, hId, hIe, hIf, hIg, hIh, hIi, hIj⟩ := id hI
    have hXH : va_X b L xs s H := hX.kept (hS.2.1 b hbl hbA)
    refine lv_iload_n hx hb dL_law_22 rfl (lv_at hl 3 rfl) ?_
    refine lv_bipush (v := nI 7) hx hb dL_law_23 (by decide +kernel) ?_
    refine lv_icmp_ge (tgt := 1127) hx hb dL_law_25 (by decide) (fun c_25 => ?_) (fun c_25 => ?_)
    · skip
      replace c_25 : 7 ≤ tm := leN c_25
      refine lv_aload_n hx hb dL_law_1127 rfl (lv_at hl 2 rfl) ?_
      refine lv_aload_n hx hb dL_law_1128 rfl (lv_at hl 1 rfl) ?_
      refine vp_callSi (W.runV (As := [.ref h0]) (rest := []) ⟨hx, hb, hml, hown, hts⟩ (c_X1_isSame l D cI cR h0 h1 a0 a1 nr br u on hI hO) (cwV 1 hts gL_law_X1_isSame rfl rfl rfl (by decide +kernel) ⟨Nat.le_of_ble_eq_true rfl, Nat.le_of_ble_eq_true rfl⟩) ⟨(fun a U g mk q => ⟨q.1, q.2.1, q.2.2.1, va_K.moved (u := U) (U := U.calling g mk a) (Vm.Alike.refl U.vm) q.2.2.2⟩), va_recv (ci := 1) (q0 := 8) hK hP rfl rfl, fun U hU hW => ⟨rfl, by rw [hU]; exact hP, by rw [hU]; exact hR, va_K.moved hW.alike hK⟩⟩ rfl rfl hl.1 rfl (lv_room (Nat.le_of_ble_eq_true rfl)) dL_law_1129 ⟨show C + 0 ≤ 754895 by omega, show Sl + 0 ≤ 6836784 by omega⟩) (fun r hr9 => ?_)
      subst hr9
      refine va_forget (fun q hq => hS.2.2 q hq) ?_
      refine W.widen (k := 754895) (n := 6836784) (by omega) (by omega) ?_
      rw [show nI 1 = (1 : Int32) from rfl]
      exact W.base (lw_ret (d0 := s.drawn) (Drawn.sameBut.refl s.drawn lw_cs) hx hb hr hlocks dL_law_1132)
    · skip
      replace c_25 : tm < 7 := nleN c_25
      exact (by omega : False).elim
  | succ n ih =>
    intro tm hk C Sl hC hSl u on a1 nr br H locs ls hT hD hS hl
    obtain ⟨hI, hO, hIS, hNM, hP, hR⟩ := id hT
    obtain ⟨hIa, hIb, hIc, hId, hIe, hIf, hIg, hIh, hIi, hIj⟩ := id hI
    have hXH : va_X b L xs s H := hX.kept (hS.2.1 b hbl hbA)
    refine lv_iload_n hx hb dL_law_22 rfl (lv_at hl 3 rfl) ?_
    refine lv_bipush (v := nI 7) hx hb dL_law_23 (by decide +kernel) ?_
    refine lv_icmp_ge (tgt := 1127) hx hb dL_law_25 (by decide) (fun c_25 => ?_) (fun c_25 => ?_)
    · skip
      replace c_25 : 7 ≤ tm := leN c_25
      exact (by omega : False).elim
    · skip
      replace c_25 : tm < 7 := nleN c_25
      refine lv_aload_n hx hb dL_law_28 rfl (lv_at hl 0 rfl) ?_
      refine lv_iload_n hx hb dL_law_29 rfl (lv_at hl 3 rfl) ?_
      refine lv_iconst (v := nI 1) hx hb dL_law_30 (by decide +kernel) ?_
      refine q_iaddN hx hb dL_law_31 ?_
      refine vp_callSi (W.runS (As := [.ref b, .int (nI (tm + 1))]) (rest := []) ⟨hx, hb, hml, hown, hts⟩ (c_L_cell l b L xs (tm + 1) hL (by omega)) (va_cwS 2 hts gL_law_L_cell rfl rfl rfl (by decide +kernel) ⟨Nat.le_of_ble_eq_true rfl, Nat.le_of_ble_eq_true rfl⟩) ⟨sx_blind, fun U hU hW => ⟨rfl, X_at hU (va_X.moved hW.alike hXH)⟩⟩ rfl rfl hl.1 rfl (lv_room (Nat.le_of_ble_eq_true rfl)) dL_law_32 ⟨show C + 0 ≤ 754895 by omega, show Sl + 0 ≤ 6836784 by omega⟩) (fun z_32 _ => ?_)
      refine lv_iconst (v := nI 2) hx hb dL_law_35 (by decide +kernel) ?_
      refine lv_ishr hx hb dL_law_36 ?_
      refine lv_topi (fun z_36 _ => ?_)
      refine lv_bipush (v := nI 53) hx hb dL_law_37 (by decide +kernel) ?_
      refine lv_iload_n hx hb dL_law_39 rfl (lv_at hl 3 rfl) ?_
      refine q_imulN hx hb dL_law_40 ?_
      refine lv_iadd hx hb dL_law_41 ?_
      refine lv_istore (lv' := [(4, .int (z_36 + (nI (53 * tm)))), (0, .ref b), (1, .ref h0), (2, .ref h1), (3, .int (nI tm))]) hx hb dL_law_42 hl (by decide) rfl (fun ls hl => ?_)
      refine lv_iconst (v := nI 0) hx hb dL_law_44 (by decide +kernel) ?_
      refine lv_istore (lv' := [(5, .int (nI 0)), (4, .int (z_36 + (nI (53 * tm)))), (0, .ref b), (1, .ref h0), (2, .ref h1), (3, .int (nI tm))]) hx hb dL_law_45 hl (by decide) rfl (fun ls hl => ?_)
      have hl : lv_has ls 21 [(0, .ref b), (1, .ref h0), (2, .ref h1), (3, .int (nI tm)), (4, .int (z_36 + (nI (53 * tm)))), (5, .int (nI 0))] := lv_sub hl [2, 3, 4, 5, 1, 0] rfl
      refine lx_loop hL C0 hAO hK 3 0 (by omega) C Sl (by omega) (by omega) u on a1 nr br H _ _ hT hD hS hl (fun u on a1 nr br H locs ls hT hD hS hl => ?_)
      refine sg_82 hL C0 hAO hK (by omega) (by omega) hT hD hS hl (fun ls hl => ?_)
      refine sg_312 hL C0 hAO hK (by omega) (by omega) hT hD hS hl (fun ls hl => ?_)
      refine sg_430 hL C0 hAO hK (by omega) (by omega) hT hD hS hl (fun ls hl => ?_)
      refine sg_495 hL C0 hAO hK (by omega) (by omega) hT hD hS hl (fun ls hl => ?_)
      refine sg_653 hL C0 hAO hK (by omega) (by omega) hT hD hS hl (fun ls hl => ?_)
      refine sg_822 hL C0 hAO hK (by omega) (by omega) hT hD hS hl (fun H locs hP hR hS ls hl => ?_)
      obtain ⟨hI, hO, hIS, hNM, _, _⟩ := hT
      have hT : TW D cI cR h0 a0 h1 u on a1 nr br H := ⟨hI, hO, hIS, hNM, hP, hR⟩
      refine lv_iload hx hb dL_law_928 (lv_at hl 6 rfl) ?_
      refine lv_istore (lv' := [(18, .int (nI (mNow u))), (0, .ref b), (1, .ref h0), (2, .ref h1), (3, .int (nI tm)), (4, .int (z_36 + (nI (53 * tm)))), (5, .long (fDig u)), (7, .int (nI (mNow u))), (11, .int (nI (ct (awB u) 360))), (12, .int (fBG u)), (14, .int (fSp u (mRate u)))]) hx hb dL_law_930 hl (by decide) rfl (fun ls hl => ?_)
      refine lp_932 hL C0 hAO hK (by omega) (by omega) 25 0 (by omega) u H _ _ hT hD hS rfl rfl rfl (Or.inl rfl) (lv_sub hl [1, 2, 3, 4, 5, 7, 8, 9, 10, 0] rfl) (fun v H locs ls hT hD hS hup haw hl => ?_)
      rw [hup, haw] at hl
      refine sg_1016 hL C0 hAO hK (by omega) (by omega) hT hD hS hl (fun u on a1 nr br H locs ls hT hD hS hl => ?_)
      exact ih (tm + 1) (by omega) _ _ (by omega) (by omega) u on a1 nr br H _ _ hT hD hS hl
