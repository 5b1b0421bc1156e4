/-! rows of naps and bees: one more, one less -/
def upN (r : Nat → Nat) (n x : Nat) : Nat → Nat := fun j => if j = n then x else r j
def dnN (r : Nat → Nat) (one : Nat) : Nat → Nat := fun j => if j < one then r j else r (j + 1)
def isRow (cI : ClassId) (H : Heap) (q : Nat) : Prop := ∃ f : Nat → Int32, H[q]? = some (vp_cell cI (2, .inl f))
def WP (cI cR : ClassId) (rA n : Nat) (r : Nat → Nat) (H : Heap) : Prop := H[rA]? = some (vp_cell cR (n, .inr (.inr (.inr (.inr (rfs r)))))) ∧ ∀ k, k < n → isRow cI H (r k)
theorem isRow.keep {cI : ClassId} {H H1 : Heap} {q : Nat} (h : isRow cI H q) (hk : ∀ q : Nat, q < H.size → H1[q]? = H[q]?) : isRow cI H1 q := by
  obtain ⟨f, h⟩ := h
  exact ⟨f, (hk q (sm_lt h)).trans h⟩
theorem WP.keep {cI cR : ClassId} {rA n : Nat} {r : Nat → Nat} {H H1 : Heap} (h : WP cI cR rA n r H) (hk : ∀ q : Nat, q < H.size → H1[q]? = H[q]?) : WP cI cR rA n r H1 :=
  ⟨(hk rA (sm_lt h.1)).trans h.1, fun k hk9 => (h.2 k hk9).keep hk⟩
theorem S_new {H0 H : Heap} {locs : List Loc} (hS : va_S (fun q : Nat => H0.size ≤ q) H0 H locs) : ∀ q : Nat, q < H0.size → H[q]? = H0[q]? := fun q hq => hS.2.1 q hq (Nat.not_le.mpr hq)
def cpN (r : Nat → Nat) (k : Nat) : Nat → Option Nat := fun j => if j < k then some (r j) else none
theorem cpN_0 {r : Nat → Nat} : (fun _ => none) = cpN r 0 := funext fun j => (if_neg (Nat.not_lt_zero j)).symm
theorem cpN_s {r : Nat → Nat} {k : Nat} : va_up (cpN r k) k (some (r k)) = cpN r (k + 1) := by
  funext j
  show (if j = k then some (r k) else if j < k then some (r j) else none) = if j < k + 1 then some (r j) else none
  by_cases e : j = k
  · subst e
    rw [if_pos rfl, if_pos (Nat.lt_succ_self j)]
  · rw [if_neg e]
    by_cases h : j < k
    · rw [if_pos h, if_pos (by omega)]
    · rw [if_neg h, if_neg (by omega)]
set_option maxHeartbeats 4000000 in
set_option maxRecDepth 100000 in
theorem c_X1_with (l : Launch) (D : va_G) (cI cR : ClassId) (rA n : Nat) (r : Nat → Nat) (x sz : Nat) (hn : n ≤ 8) : Met l yX1_with wsX1_with ({ frames := 0, cells := 1, slots := 9, locals := 0 } : Room) (va_Pc [.ref rA, .ref x] (fun U => U.heap.size = sz ∧ (WP cI cR rA n r U.heap ∧ isRow cI U.heap x) ∧ va_K D vwCl (tyR cI cR) U ∧ AOI U)) (va_Qr (fun _ : Unit => True) (fun _ q t => sz ≤ q ∧ t.heap[q]? = some (vp_cell cR (n + 1, .inr (.inr (.inr (.inr (rfs (upN r n x)))))))) (fun q => sz ≤ q)) 1 9 (fun q => sz ≤ q) := by
  refine en_sm (cc := cX1_with) (maxL := 4) (ret := some (.array (.array .int))) _ (fun H => WP cI cR rA n r H ∧ isRow cI H x) _ (by decide) rfl (Nat.le_of_ble_eq_true rfl) ?_
  intro p e s m args below meth c ls hx hb hml hr hlocks hts hown hsz hRx hK hO hl
  have hown : s.vm.findClass RX1 = some m.cls := hown
  have hl : lv_has ls 4 [(0, .ref rA), (1, .ref x)] := hl
  subst hsz
  obtain ⟨hR0, hx0⟩ := hRx
  have hA : ∀ q : Nat, s.heap.size ≤ q → (fun q : Nat => s.heap.size ≤ q) q := fun _ h => h
  have hS : va_S (fun q : Nat => s.heap.size ≤ q) s.heap s.heap [] := va_S.rf
  have hP : va_P D vwCl [] s.heap := fun k q h => by simp at h
  have hD : va_D (fun q : Nat => s.heap.size ≤ q) [] := ⟨fun i j p q h => by simp at h, fun k q h => by simp at h⟩
  refine lv_aload_n hx hb dX1_with_0 rfl (lv_at hl 0 rfl) ?_
  refine va_alen (ws := [(rA, .inl (cR, n, .inr (.inr (.inr (.inr (rfs r))))))]) (v := nI n) hx hb hK (P_one hR0.1) 0 1 rfl rfl rfl dX1_with_1 ?_
  refine lv_iconst (v := nI 1) hx hb dX1_with_2 (by decide +kernel) ?_
  refine q_iaddN hx hb dX1_with_3 ?_
  refine q_newA (N' := n + 1) hx hb hown (hts (.classLink RX1 13 "[I") (List.mem_of_getElem? (i := 1) rfl)) hO hK hP hD hS hA (by omega) (Nat.le_of_ble_eq_true rfl) (by show 0 + (n + 1) ≤ 9; omega) dX1_with_4 (fun q cX H hq hK hP hD hS => ?_)
  have hcX := K_uniR hK
  subst hcX
  have hK : va_K D vwCl (tyR cI cR) s := hK.sub [0, 1] rfl
  refine W.widen (k := 1) (n := 9) (by omega) (by omega) ?_
  refine lv_astore_n (lv' := [(2, .ref q), (0, .ref rA), (1, .ref x)]) hx hb dX1_with_7 rfl hl (by decide) rfl (fun ls hl => ?_)
  refine lv_iconst (v := nI 0) hx hb dX1_with_8 (by decide +kernel) ?_
  refine lv_istore_n (lv' := [(3, .int (nI 0)), (2, .ref q), (0, .ref rA), (1, .ref x)]) hx hb dX1_with_9 rfl hl (by decide) rfl (fun ls hl => ?_)
  have lp : ∀ (n9 k : Nat), k + n9 = n → ∀ (H : Heap) (locs : List Loc), va_P D vwCl [(q, .inl (cR, n + 1, .inr (.inr (.inr (.inr (cpN r k))))))] H → va_D (fun q : Nat => s.heap.size ≤ q) [(q, .inl (cR, n + 1, .inr (.inr (.inr (.inr (cpN r k))))))] → va_S (fun q : Nat => s.heap.size ≤ q) s.heap H locs → ∀ (ls : Array Slot), lv_has ls 4 [(0, .ref rA), (1, .ref x), (2, .ref q), (3, .int (nI k))] → W p l e ({ frames := 0, cells := 1, slots := 9, locals := 0 } : Room) s m args below meth c H locs 1 9 (MQ below (va_Qr (fun _ : Unit => True) (fun _ q t => s.heap.size ≤ q ∧ t.heap[q]? = some (vp_cell cR (n + 1, .inr (.inr (.inr (.inr (rfs (upN r n x)))))))) (fun q => s.heap.size ≤ q)) args s 1 9 (fun q => s.heap.size ≤ q)) (F0 m 10 ls []) := by
    intro n9
    induction n9 with
    | zero =>
      intro k hk H locs hP hD hS ls hl
      have hkp := S_new hS
      have hR := hR0.keep hkp
      have hx1 := hx0.keep hkp
      refine lv_iload_n hx hb dX1_with_10 rfl (lv_at hl 3 rfl) ?_
      refine lv_aload_n hx hb dX1_with_11 rfl (lv_at hl 0 rfl) ?_
      refine va_alen (ws := [(rA, .inl (cR, n, .inr (.inr (.inr (.inr (rfs r))))))]) (v := nI n) hx hb hK (P_one hR.1) 0 1 rfl rfl rfl dX1_with_12 ?_
      refine lv_icmp_ge (tgt := 28) hx hb dX1_with_13 (by decide) (fun c_13 => ?_) (fun c_13 => ?_)
      · refine lv_aload_n hx hb dX1_with_28 rfl (lv_at hl 2 rfl) ?_
        refine lv_aload_n hx hb dX1_with_29 rfl (lv_at hl 0 rfl) ?_
        refine va_alen (ws := [(rA, .inl (cR, n, .inr (.inr (.inr (.inr (rfs r))))))]) (v := nI n) hx hb hK (P_one hR.1) 0 1 rfl rfl rfl dX1_with_30 ?_
        refine lv_aload_n hx hb dX1_with_31 rfl (lv_at hl 1 rfl) ?_
        obtain ⟨f, hxf⟩ := hx1
        refine q_astA hx hb hK hO hP hD hS 0 rfl hxf (k := n) (by omega) (by omega) dX1_with_32 (fun H locs hP hD hS => ?_)
        refine lv_aload_n hx hb dX1_with_33 rfl (lv_at hl 2 rfl) ?_
        have h1 := hP 0 _ rfl
        have h2 : H[q]? = some (vp_cell cR (n + 1, .inr (.inr (.inr (.inr (rfs (upN r n x))))))) := by
          refine Eq.trans h1 (congrArg some (cell_q (fun j hj => ?_)))
          show (if j = n then some x else if j < k then some (r j) else none) = some (if j = n then x else r j)
          by_cases e : j = n
          · rw [if_pos e, if_pos e]
          · rw [if_neg e, if_neg e, if_pos (by omega)]
        exact W.aret hx hb hr (Or.inr ⟨_, rfl⟩) (Or.inr ⟨_, rfl⟩) (fun t ht hW => ⟨⟨(), q, rfl, trivial, hD.2 0 _ rfl, by rw [ht]; exact h2⟩, hS.F ht⟩) hS.2.2 dX1_with_34
      · exact absurd (nleN c_13) (by omega)
    | succ n9 ih =>
      intro k hk H locs hP hD hS ls hl
      have hkp := S_new hS
      have hR := hR0.keep hkp
      refine lv_iload_n hx hb dX1_with_10 rfl (lv_at hl 3 rfl) ?_
      refine lv_aload_n hx hb dX1_with_11 rfl (lv_at hl 0 rfl) ?_
      refine va_alen (ws := [(rA, .inl (cR, n, .inr (.inr (.inr (.inr (rfs r))))))]) (v := nI n) hx hb hK (P_one hR.1) 0 1 rfl rfl rfl dX1_with_12 ?_
      refine lv_icmp_ge (tgt := 28) hx hb dX1_with_13 (by decide) (fun c_13 => ?_) (fun c_13 => ?_)
      · exact absurd (leN c_13) (by omega)
      · refine lv_aload_n hx hb dX1_with_16 rfl (lv_at hl 2 rfl) ?_
        refine lv_iload_n hx hb dX1_with_17 rfl (lv_at hl 3 rfl) ?_
        refine lv_aload_n hx hb dX1_with_18 rfl (lv_at hl 0 rfl) ?_
        refine lv_iload_n hx hb dX1_with_19 rfl (lv_at hl 3 rfl) ?_
        refine q_aald (cA := cR) (n := n) (f := r) (ty := .int) hx hb hK 1 hR.1 rfl (k := k) (by omega) (by omega) dX1_with_20 ?_
        obtain ⟨f, hf⟩ := hR.2 k (by omega)
        refine q_astA hx hb hK hO hP hD hS 0 rfl hf (k := k) (by omega) (by omega) dX1_with_21 (fun H locs hP hD hS => ?_)
        have hP : va_P D vwCl [(q, .inl (cR, n + 1, .inr (.inr (.inr (.inr (cpN r (k + 1)))))))] H := by rw [← cpN_s]; exact hP
        have hD : va_D (fun q : Nat => s.heap.size ≤ q) [(q, .inl (cR, n + 1, .inr (.inr (.inr (.inr (cpN r (k + 1)))))))] := D_one (hD.2 0 _ rfl)
        refine lv_iinc (v := nI (k + 1)) (lv' := [(3, .int (nI (k + 1))), (0, .ref rA), (1, .ref x), (2, .ref q)]) hx hb dX1_with_22 hl (k := 3) rfl (nI_i1 _) (by decide) rfl (fun ls hl => ?_)
        refine lv_goto (tgt := 10) hx hb dX1_with_25 (by decide) ?_
        exact ih (k + 1) (by omega) H _ hP hD hS _ (lv_sub hl [1, 2, 3, 0] rfl)
  exact lp n 0 (by omega) H _ (by rw [← cpN_0]; exact hP) (D_one (hD.2 0 _ rfl)) hS _ (lv_sub hl [2, 3, 1, 0] rfl)
set_option maxHeartbeats 4000000 in
set_option maxRecDepth 100000 in
theorem c_X1_without (l : Launch) (D : va_G) (cI cR : ClassId) (rA n : Nat) (r : Nat → Nat) (one sz : Nat) (hn : n ≤ 8) (h1n : one < n) : Met l yX1_without wsX1_without ({ frames := 1, cells := 8, slots := 63, locals := 23 } : Room) (va_Pc [.ref rA, .int (nI one)] (fun U => U.heap.size = sz ∧ WP cI cR rA n r U.heap ∧ va_K D vwCl (tyR cI cR) U ∧ AOI U)) (va_Qr (fun _ : Unit => True) (fun _ q t => sz ≤ q ∧ t.heap[q]? = some (vp_cell cR (n - 1, .inr (.inr (.inr (.inr (rfs (dnN r one)))))))) (fun q => sz ≤ q)) 8 63 (fun q => sz ≤ q) := by
  refine en_sm (cc := cX1_without) (maxL := 4) (ret := some (.array (.array .int))) _ (fun H => WP cI cR rA n r H) _ (by decide) rfl (Nat.le_of_ble_eq_true rfl) ?_
  intro p e s m args below meth c ls hx hb hml hr hlocks hts hown hsz hR0 hK hO hl
  have hown : s.vm.findClass RX1 = some m.cls := hown
  have hl : lv_has ls 4 [(0, .ref rA), (1, .int (nI one))] := hl
  subst hsz
  have hA : ∀ q : Nat, s.heap.size ≤ q → (fun q : Nat => s.heap.size ≤ q) q := fun _ h => h
  have hS : va_S (fun q : Nat => s.heap.size ≤ q) s.heap s.heap [] := va_S.rf
  have hP : va_P D vwCl [] s.heap := fun k q h => by simp at h
  have hD : va_D (fun q : Nat => s.heap.size ≤ q) [] := ⟨fun i j p q h => by simp at h, fun k q h => by simp at h⟩
  refine lv_iconst (v := nI 0) hx hb dX1_without_0 (by decide +kernel) ?_
  refine q_newA (N' := 0) hx hb hown (hts (.classLink RX1 13 "[I") (List.mem_of_getElem? (i := 1) rfl)) hO hK hP hD hS hA (by omega) (Nat.le_of_ble_eq_true rfl) (Nat.le_of_ble_eq_true rfl) dX1_without_1 (fun q cX H hq hK hP hD hS => ?_)
  have hcX := K_uniR hK
  subst hcX
  have hK : va_K D vwCl (tyR cI cR) s := hK.sub [0, 1] rfl
  refine lv_astore_n (lv' := [(2, .ref q), (0, .ref rA), (1, .int (nI one))]) hx hb dX1_without_4 rfl hl (by decide) rfl (fun ls hl => ?_)
  refine lv_iconst (v := nI 0) hx hb dX1_without_5 (by decide +kernel) ?_
  refine lv_istore_n (lv' := [(3, .int (nI 0)), (2, .ref q), (0, .ref rA), (1, .int (nI one))]) hx hb dX1_without_6 rfl hl (by decide) rfl (fun ls hl => ?_)
  have lp : ∀ (n9 k : Nat), k + n9 = n → ∀ (M q C Sl : Nat) (H : Heap) (locs : List Loc), ((k ≤ one ∧ M = k) ∨ (one < k ∧ M + 1 = k)) → C ≤ 1 + M → Sl ≤ 9 * M → s.heap.size ≤ q → H[q]? = some (vp_cell cR (M, .inr (.inr (.inr (.inr (rfs (dnN r one))))))) → va_S (fun q : Nat => s.heap.size ≤ q) s.heap H locs → ∀ (ls : Array Slot), lv_has ls 4 [(0, .ref rA), (1, .int (nI one)), (2, .ref q), (3, .int (nI k))] → W p l e ({ frames := 1, cells := 8, slots := 63, locals := 23 } : Room) s m args below meth c H locs C Sl (MQ below (va_Qr (fun _ : Unit => True) (fun _ q t => s.heap.size ≤ q ∧ t.heap[q]? = some (vp_cell cR (n - 1, .inr (.inr (.inr (.inr (rfs (dnN r one)))))))) (fun q => s.heap.size ≤ q)) args s 8 63 (fun q => s.heap.size ≤ q)) (F0 m 7 ls []) := by
    intro n9
    induction n9 with
    | zero =>
      intro k hk M q C Sl H locs hM hC hSl hq9 hq hS ls hl
      have hkp := S_new hS
      have hR := hR0.keep hkp
      refine lv_iload_n hx hb dX1_without_7 rfl (lv_at hl 3 rfl) ?_
      refine lv_aload_n hx hb dX1_without_8 rfl (lv_at hl 0 rfl) ?_
      refine va_alen (ws := [(rA, .inl (cR, n, .inr (.inr (.inr (.inr (rfs r))))))]) (v := nI n) hx hb hK (P_one hR.1) 0 1 rfl rfl rfl dX1_without_9 ?_
      refine lv_icmp_ge (tgt := 32) hx hb dX1_without_10 (by decide) (fun c_10 => ?_) (fun c_10 => ?_)
      · refine lv_aload_n hx hb dX1_without_32 rfl (lv_at hl 2 rfl) ?_
        have eM : M = n - 1 := by omega
        subst eM
        refine W.widen (k := 8) (n := 63) (by omega) (by omega) ?_
        exact W.aret hx hb hr (Or.inr ⟨_, rfl⟩) (Or.inr ⟨_, rfl⟩) (fun t ht hW => ⟨⟨(), q, rfl, trivial, hq9, by rw [ht]; exact hq⟩, hS.F ht⟩) hS.2.2 dX1_without_33
      · exact absurd (nleN c_10) (by omega)
    | succ n9 ih =>
      intro k hk M q C Sl H locs hM hC hSl hq9 hq hS ls hl
      have hkp := S_new hS
      have hR := hR0.keep hkp
      refine lv_iload_n hx hb dX1_without_7 rfl (lv_at hl 3 rfl) ?_
      refine lv_aload_n hx hb dX1_without_8 rfl (lv_at hl 0 rfl) ?_
      refine va_alen (ws := [(rA, .inl (cR, n, .inr (.inr (.inr (.inr (rfs r))))))]) (v := nI n) hx hb hK (P_one hR.1) 0 1 rfl rfl rfl dX1_without_9 ?_
      refine lv_icmp_ge (tgt := 32) hx hb dX1_without_10 (by decide) (fun c_10 => ?_) (fun c_10 => ?_)
      · exact absurd (leN c_10) (by omega)
      · refine lv_iload_n hx hb dX1_without_13 rfl (lv_at hl 3 rfl) ?_
        refine lv_iload_n hx hb dX1_without_14 rfl (lv_at hl 1 rfl) ?_
        refine lv_icmp_eq (tgt := 26) hx hb dX1_without_15 (by decide) (fun c_15 => ?_) (fun c_15 => ?_)
        · replace c_15 : k = one := eN c_15
          refine lv_iinc (v := nI (k + 1)) (lv' := [(3, .int (nI (k + 1))), (0, .ref rA), (1, .int (nI one)), (2, .ref q)]) hx hb dX1_without_26 hl (k := 3) rfl (nI_i1 _) (by decide) rfl (fun ls hl => ?_)
          refine lv_goto (tgt := 7) hx hb dX1_without_29 (by decide) ?_
          exact ih (k + 1) (by omega) M q C Sl H _ (by omega) hC hSl hq9 hq hS _ (lv_sub hl [1, 2, 3, 0] rfl)
        · replace c_15 : k ≠ one := neN c_15
          refine lv_aload_n hx hb dX1_without_18 rfl (lv_at hl 2 rfl) ?_
          refine lv_aload_n hx hb dX1_without_19 rfl (lv_at hl 0 rfl) ?_
          refine lv_iload_n hx hb dX1_without_20 rfl (lv_at hl 3 rfl) ?_
          refine q_aald (cA := cR) (n := n) (f := r) (ty := .int) hx hb hK 1 hR.1 rfl (k := k) (by omega) (by omega) dX1_without_21 ?_
          have hrow : ∀ j, j < M → isRow cI H (dnN r one j) := fun j hj => by
            unfold dnN
            by_cases e : j < one
            · rw [if_pos e]; exact hR.2 j (by omega)
            · rw [if_neg e]; exact hR.2 (j + 1) (by omega)
          have hrk : isRow cI H (r k) := hR.2 k (by omega)
          refine va_callr (va_runS (As := [.ref q, .ref (r k)]) (rest := []) ⟨hx, hb, hml, hown, hts⟩ (c_X1_with l D cI cR q M (dnN r one) (r k) H.size (by omega)) (va_cwS 2 hts gX1_without_X1_with rfl rfl rfl (by decide +kernel) ⟨Nat.le_of_ble_eq_true rfl, Nat.le_of_ble_eq_true rfl⟩) ⟨sm_blind (RR := fun H9 => WP cI cR q M (dnN r one) H9 ∧ isRow cI H9 (r k)), fun U hU hW => ⟨rfl, by rw [hU], by rw [hU]; exact ⟨⟨hq, hrow⟩, hrk⟩, va_K.moved hW.alike hK, hO.warm hW⟩⟩ rfl rfl hl.1 rfl (lv_room (Nat.le_of_ble_eq_true rfl)) dX1_without_22 ⟨by show C + 1 ≤ 8; omega, by show Sl + 9 ≤ 63; omega⟩) hS (fun q9 _ h9 => Nat.le_trans hS.1 h9) (fun q9 h9 => Nat.le_trans hS.1 h9) (fun w q2 t H1 locs1 ht hvm hw hB hz1 hk1 hS1 => ?_)
          try dsimp only at hB
          rw [ht] at hB
          obtain ⟨hB1, hB2⟩ := hB
          have hB3 : H1[q2]? = some (vp_cell cR (M + 1, .inr (.inr (.inr (.inr (rfs (dnN r one))))))) := by
            refine Eq.trans hB2 (congrArg some (cell_q (fun j hj => ?_)))
            show some (if j = M then r k else dnN r one j) = some (dnN r one j)
            by_cases e : j = M
            · rw [if_pos e, e]
              unfold dnN
              by_cases e2 : M < one
              · rw [if_pos e2, show M = k by omega]
              · rw [if_neg e2, show M + 1 = k by omega]
            · rw [if_neg e]
          refine lv_astore_n (lv' := [(2, .ref q2), (0, .ref rA), (1, .int (nI one)), (3, .int (nI k))]) hx hb dX1_without_25 rfl hl (by decide) rfl (fun ls hl => ?_)
          refine lv_iinc (v := nI (k + 1)) (lv' := [(3, .int (nI (k + 1))), (2, .ref q2), (0, .ref rA), (1, .int (nI one))]) hx hb dX1_without_26 hl (k := 3) rfl (nI_i1 _) (by decide) rfl (fun ls hl => ?_)
          refine lv_goto (tgt := 7) hx hb dX1_without_29 (by decide) ?_
          exact ih (k + 1) (by omega) (M + 1) q2 (C + 1) (Sl + 9) H1 _ (by omega) (by omega) (by omega) (Nat.le_trans hS.1 hB1) hB3 hS1 _ (lv_sub hl [2, 3, 1, 0] rfl)
  have h0 : H[q]? = some (vp_cell cR (0, .inr (.inr (.inr (.inr (rfs (dnN r one))))))) := Eq.trans (hP 0 _ rfl) (congrArg some (cell_q (fun j hj => absurd hj (Nat.not_lt_zero j))))
  exact lp n 0 (by omega) 0 q _ _ H _ (Or.inl ⟨Nat.zero_le _, rfl⟩) (Nat.le_of_ble_eq_true rfl) (Nat.le_of_ble_eq_true rfl) (hD.2 0 _ rfl) h0 hS _ (lv_sub hl [2, 3, 1, 0] rfl)
