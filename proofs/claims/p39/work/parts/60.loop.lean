set_option maxHeartbeats 8000000 in
set_option maxRecDepth 100000 in
theorem lx_loop {p : Program} {l : Launch} {e : Env} {s : State} {m : MethodId} {below : List Frame} {meth : Method} {c : Code} {D : va_G} {cI cR : ClassId} {b L h0 h1 : Nat} {a0 : Nat → Nat} {xs : Nat → Int32} {tm : Nat} {x0 : Int32} (hL : L ≤ 260) (C0 : lw_At p s m meth c b L xs) (hAO : AOI s) (hK : va_K D vwCl (tyR cI cR) s) : ∀ (n k : Nat), k + n = 3 → ∀ (C Sl : Nat), C + 8 * n + 300 ≤ 754895 → Sl + 63 * n + 3000 ≤ 6836784 → ∀ (u : MS) (on : Nat → Int32) (a1 nr br : Nat → Nat) (H : Heap) (locs : List Loc) (ls : Array Slot), TW D cI cR h0 a0 h1 u on a1 nr br H → va_D (LA s) (picT cI h0 a0 h1 a1 u u on) → va_S (LA s) s.heap H locs → lv_has ls 21 [(0, .ref b), (1, .ref h0), (2, .ref h1), (3, .int (nI tm)), (4, .int x0), (5, .int (nI k))] → (∀ (u : MS) (on : Nat → Int32) (a1 nr br : Nat → Nat) (H : Heap) (locs : List Loc) (ls : Array Slot), TW D cI cR h0 a0 h1 u on a1 nr br H → va_D (LA s) (picT cI h0 a0 h1 a1 u u on) → va_S (LA s) s.heap H locs → lv_has ls 21 [(0, .ref b), (1, .ref h0), (2, .ref h1), (3, .int (nI tm)), (4, .int x0)] → W p l e room_1 s m #[Value.ref b] below meth c H locs (C + 8 * n) (Sl + 63 * n) (lw_Z below #[Value.ref b] s) (F0 m 82 ls [])) → W p l e room_1 s m #[Value.ref b] below meth c H locs C Sl (lw_Z below #[Value.ref b] s) (F0 m 47 ls []) := by
  obtain ⟨hx, hb, hr, hml, hown, hts0, hX, hbl, hlocks, hgv⟩ := id C0
  have hown : s.vm.findClass RL = some m.cls := hown
  have hts : ∀ w ∈ wsL_law, w.before #[Value.ref b] s = true := fun w h => hts0 w (wsL_law_in w h)
  have hin : ∀ w ∈ wsX10, w ∈ wsL_law := inlX1
  have hA : ∀ q : Nat, s.heap.size ≤ q → LA s q := fun _ h => h
  have hbA : ¬ LA s b := Nat.not_le.mpr hbl
  intro n
  induction n with
  | zero =>
    intro k hk C Sl hC hSl u on a1 nr br H locs ls hT hD hS hl kk
    obtain ⟨hI, hO, hIS, hNM, hP, hR⟩ := id hT
    obtain ⟨hIa, hIb, hIc, hId, hIe, hIf, hIg, hIh, hIi, hIj⟩ := id hI
    have hXH : va_X b L xs s H := hX.kept (hS.2.1 b hbl hbA)
    refine lv_iload hx hb dL_law_47 (lv_at hl 5 rfl) ?_
    refine lv_iconst (v := nI 3) hx hb dL_law_49 (by decide +kernel) ?_
    refine lv_icmp_ge (tgt := 82) hx hb dL_law_50 (by decide) (fun c_50 => ?_) (fun c_50 => ?_)
    · skip
      replace c_50 : 3 ≤ k := leN c_50
      exact kk u on a1 nr br H _ _ hT hD hS (lv_sub hl [0, 1, 2, 3, 4] rfl)
    · skip
      replace c_50 : k < 3 := nleN c_50
      exact (by omega : False).elim
  | succ n ih =>
    intro k hk C Sl hC hSl u on a1 nr br H locs ls hT hD hS hl kk
    obtain ⟨hI, hO, hIS, hNM, hP, hR⟩ := id hT
    obtain ⟨hIa, hIb, hIc, hId, hIe, hIf, hIg, hIh, hIi, hIj⟩ := id hI
    have hXH : va_X b L xs s H := hX.kept (hS.2.1 b hbl hbA)
    refine lv_iload hx hb dL_law_47 (lv_at hl 5 rfl) ?_
    refine lv_iconst (v := nI 3) hx hb dL_law_49 (by decide +kernel) ?_
    refine lv_icmp_ge (tgt := 82) hx hb dL_law_50 (by decide) (fun c_50 => ?_) (fun c_50 => ?_)
    · skip
      replace c_50 : 3 ≤ k := leN c_50
      exact (by omega : False).elim
    · skip
      replace c_50 : k < 3 := nleN c_50
      refine lv_aload_n hx hb dL_law_53 rfl (lv_at hl 1 rfl) ?_
      refine lv_aload_n hx hb dL_law_54 rfl (lv_at hl 2 rfl) ?_
      refine lv_iload hx hb dL_law_55 (lv_at hl 4 rfl) ?_
      refine lv_iconst (v := nI 3) hx hb dL_law_57 (by decide +kernel) ?_
      refine lv_iload hx hb dL_law_58 (lv_at hl 5 rfl) ?_
      refine q_imulN hx hb dL_law_60 ?_
      refine lv_ishr hx hb dL_law_61 ?_
      refine lv_topi (fun z_61 _ => ?_)
      refine lv_bipush (v := nI 29) hx hb dL_law_62 (by decide +kernel) ?_
      refine lv_iload hx hb dL_law_64 (lv_at hl 5 rfl) ?_
      refine q_imulN hx hb dL_law_66 ?_
      refine lv_iadd hx hb dL_law_67 ?_
      have hFT := F_T hD hA hS.1
      refine va_calli (va_runS (As := [.ref h0, .ref h1, .int (z_61 + (nI (29 * k)))]) (rest := []) ⟨hx, hb, hml, hown, hts⟩ (c_L_act l D cI cR h0 h1 a0 a1 nr br u on H.size (z_61 + (nI (29 * k))) hI hO hIS hNM) (va_cwS 3 hts gL_law_L_act rfl rfl rfl (by decide +kernel) ⟨Nat.le_of_ble_eq_true rfl, Nat.le_of_ble_eq_true rfl⟩) ⟨act_blind (RR := RO cI cR a1 nr br u), fun U hU hW => ⟨rfl, by rw [hU], by rw [hU]; exact hP, hD.weaken (fun _ _ _ _ => trivial), by rw [hU]; exact hR, va_K.moved hW.alike hK, hAO.warm hW⟩⟩ rfl rfl hl.1 rfl (lv_room (Nat.le_of_ble_eq_true rfl)) dL_law_68 ⟨show C + 8 ≤ 754895 by omega, show Sl + 63 ≤ 6836784 by omega⟩) hS (fun q _ h => hFT q h) hFT (fun r w t H1 locs ht hvm hw hB hz1 hk1 hS1 => ?_)
      try dsimp only at hw hB
      subst hw
      rw [ht] at hB
      obtain ⟨u2, on2, a2, nr2, br2, hI2, hO2, hS2, hN2, hP2, hR2⟩ := hB
      refine lv_if_ne (tgt := 76) hx hb dL_law_71 (by decide) (fun c_71 => ?_) (fun c_71 => ?_)
      · skip
        replace c_71 : 1 ≠ 0 := neN c_71
        refine lv_iinc (v := nI (k + 1)) (lv' := [(5, .int (nI (k + 1))), (0, .ref b), (1, .ref h0), (2, .ref h1), (3, .int (nI tm)), (4, .int x0)]) hx hb dL_law_76 hl (k := 5) rfl (nI_i1 _) (by decide) rfl (fun ls hl => ?_)
        refine lv_goto (tgt := 47) hx hb dL_law_79 (by decide) ?_
        exact ih (k + 1) (by omega) (C + 8) (Sl + 63) (by omega) (by omega) u2 on2 a2 nr2 br2 H1 _ _ ⟨hI2, hO2, hS2, hN2, hP2, hR2⟩ (D_T hD) hS1 (lv_sub hl [1, 2, 3, 4, 5, 0] rfl) (by rw [show C + 8 + 8 * n = C + 8 * (n + 1) by omega, show Sl + 63 + 63 * n = Sl + 63 * (n + 1) by omega]; exact kk)
      · skip
        replace c_71 : 1 = 0 := eN c_71
        exact (by omega : False).elim
set_option maxHeartbeats 8000000 in
set_option maxRecDepth 100000 in
theorem lp_932 {p : Program} {l : Launch} {e : Env} {s : State} {m : MethodId} {below : List Frame} {meth : Method} {c : Code} {D : va_G} {cI cR : ClassId} {b L h0 h1 : Nat} {a0 : Nat → Nat} {xs : Nat → Int32} {tm n0 aw0 : Nat} {x0 up0 sp0 : Int32} (hL : L ≤ 260) (C0 : lw_At p s m meth c b L xs) (hAO : AOI s) (hK : va_K D vwCl (tyR cI cR) s) {on : Nat → Int32} {a1 nr br : Nat → Nat} {C Sl : Nat} (hC : C + 100 ≤ 754895) (hSl : Sl + 1000 ≤ 6836784) : ∀ (n k : Nat), k + n = 25 → ∀ (u : MS) (H : Heap) (locs : List Loc) (ls : Array Slot), TW D cI cR h0 a0 h1 u on a1 nr br H → va_D (LA s) (picT cI h0 a0 h1 a1 u u on) → va_S (LA s) s.heap H locs → mNow u = n0 + k → up0 = fBG u → aw0 = ct (awB u) 360 → (sp0 = fSp u (mRate u) ∨ ∃ T, sp0 = nI T ∧ T < mNow u) → lv_has ls 21 [(0, .ref b), (1, .ref h0), (2, .ref h1), (3, .int (nI tm)), (4, .int x0), (7, .int (nI n0)), (11, .int (nI aw0)), (12, .int up0), (14, .int sp0), (18, .int (nI (mNow u)))] → (∀ (u : MS) (H : Heap) (locs : List Loc) (ls : Array Slot), TW D cI cR h0 a0 h1 u on a1 nr br H → va_D (LA s) (picT cI h0 a0 h1 a1 u u on) → va_S (LA s) s.heap H locs → up0 = fBG u → aw0 = ct (awB u) 360 → lv_has ls 21 [(0, .ref b), (1, .ref h0), (2, .ref h1), (3, .int (nI tm)), (4, .int x0), (11, .int (nI aw0)), (12, .int up0)] → W p l e room_1 s m #[Value.ref b] below meth c H locs C Sl (lw_Z below #[Value.ref b] s) (F0 m 1016 ls [])) → W p l e room_1 s m #[Value.ref b] below meth c H locs C Sl (lw_Z below #[Value.ref b] s) (F0 m 932 ls []) := by
  obtain ⟨hx, hb, hr, hml, hown, hts0, hX, hbl, hlocks, hgv⟩ := id C0
  have hown : s.vm.findClass RL = some m.cls := hown
  have hts : ∀ w ∈ wsL_law, w.before #[Value.ref b] s = true := fun w h => hts0 w (wsL_law_in w h)
  have hin : ∀ w ∈ wsX10, w ∈ wsL_law := inlX1
  have hA : ∀ q : Nat, s.heap.size ≤ q → LA s q := fun _ h => h
  have hbA : ¬ LA s b := Nat.not_le.mpr hbl
  intro n
  induction n with
  | zero =>
    intro k hk u H locs ls hT hD hS hn9 hup haw hsp hl kk
    obtain ⟨hI, hO, hIS, hNM, hP, hR⟩ := id hT
    obtain ⟨hIa, hIb, hIc, hId, hIe, hIf, hIg, hIh, hIi, hIj⟩ := id hI
    have hXH : va_X b L xs s H := hX.kept (hS.2.1 b hbl hbA)
    refine lv_iload hx hb dL_law_932 (lv_at hl 9 rfl) ?_
    refine lv_sipush (v := nI 360) hx hb dL_law_934 (by decide +kernel) ?_
    refine lv_icmp_ge (tgt := 1016) hx hb dL_law_937 (by decide) (fun c_937 => ?_) (fun c_937 => ?_)
    · skip
      replace c_937 : 360 ≤ (mNow u) := leN c_937
      exact kk u H _ _ hT hD hS hup haw (lv_sub hl [0, 1, 2, 3, 4, 6, 7] rfl)
    · skip
      replace c_937 : (mNow u) < 360 := nleN c_937
      refine lv_iload hx hb dL_law_940 (lv_at hl 9 rfl) ?_
      refine lv_iload hx hb dL_law_942 (lv_at hl 5 rfl) ?_
      refine lv_bipush (v := nI 25) hx hb dL_law_944 (by decide +kernel) ?_
      refine q_iaddN hx hb dL_law_946 ?_
      refine lv_icmp_ge (tgt := 1016) hx hb dL_law_947 (by decide) (fun c_947 => ?_) (fun c_947 => ?_)
      · skip
        replace c_947 : (n0 + 25) ≤ (mNow u) := leN c_947
        exact kk u H _ _ hT hD hS hup haw (lv_sub hl [0, 1, 2, 3, 4, 6, 7] rfl)
      · skip
        replace c_947 : (mNow u) < (n0 + 25) := nleN c_947
        exact (by omega : False).elim
  | succ n ih =>
    intro k hk u H locs ls hT hD hS hn9 hup haw hsp hl kk
    obtain ⟨hI, hO, hIS, hNM, hP, hR⟩ := id hT
    obtain ⟨hIa, hIb, hIc, hId, hIe, hIf, hIg, hIh, hIi, hIj⟩ := id hI
    have hXH : va_X b L xs s H := hX.kept (hS.2.1 b hbl hbA)
    refine lv_iload hx hb dL_law_932 (lv_at hl 9 rfl) ?_
    refine lv_sipush (v := nI 360) hx hb dL_law_934 (by decide +kernel) ?_
    refine lv_icmp_ge (tgt := 1016) hx hb dL_law_937 (by decide) (fun c_937 => ?_) (fun c_937 => ?_)
    · skip
      replace c_937 : 360 ≤ (mNow u) := leN c_937
      exact kk u H _ _ hT hD hS hup haw (lv_sub hl [0, 1, 2, 3, 4, 6, 7] rfl)
    · skip
      replace c_937 : (mNow u) < 360 := nleN c_937
      refine lv_iload hx hb dL_law_940 (lv_at hl 9 rfl) ?_
      refine lv_iload hx hb dL_law_942 (lv_at hl 5 rfl) ?_
      refine lv_bipush (v := nI 25) hx hb dL_law_944 (by decide +kernel) ?_
      refine q_iaddN hx hb dL_law_946 ?_
      refine lv_icmp_ge (tgt := 1016) hx hb dL_law_947 (by decide) (fun c_947 => ?_) (fun c_947 => ?_)
      · skip
        replace c_947 : (n0 + 25) ≤ (mNow u) := leN c_947
        exact kk u H _ _ hT hD hS hup haw (lv_sub hl [0, 1, 2, 3, 4, 6, 7] rfl)
      · skip
        replace c_947 : (mNow u) < (n0 + 25) := nleN c_947
        exact sg_950 hL C0 hAO hK hC hSl hT hD hS c_937 hsp (lv_sub hl [0, 1, 2, 3, 4, 5, 6, 7, 8, 9] rfl) (fun H locs hT2 hS2 hsp2 ls hl2 => ih (k + 1) (by omega) (uOne u) H locs ls hT2 (D_T hD) hS2 (by show mNow u + 1 = _; omega) hup haw hsp2 hl2 kk)
