set_option maxHeartbeats 8000000 in
set_option maxRecDepth 100000 in
theorem c_L_act (l : Launch) (D : va_G) (cI cR : ClassId) (h0 h1 : Nat) (a0 a1 nr br : Nat → Nat) (u : MS) (on : Nat → Int32) (sz : Nat) (x0 : Int32) (hI : Inv u) (hO : InvO u on) (hIS : InvS u) (hNM : NM (fun q => q ∈ adr h0 a0 h1) a1 nr br u) : Met l yL_act wsL_act ({ frames := 4, cells := 8, slots := 63, locals := 91 } : Room) (va_Pc [.ref h0, .ref h1, .int x0] (fun U => U.heap.size = sz ∧ va_P D vwCl (picT cI h0 a0 h1 a1 u u on) U.heap ∧ va_D (fun _ => True) (picT cI h0 a0 h1 a1 u u on) ∧ RO cI cR a1 nr br u U.heap ∧ va_K D vwCl (tyR cI cR) U ∧ AOI U)) ((fun A : Nat → Prop => va_Qi (fun (r : Int32) (_ : Unit) => r = nI 1) (fun (_ : Unit) (t : State) => ∃ (u2 : MS) (on2 : Nat → Int32) (a2 nr2 br2 : Nat → Nat), Inv u2 ∧ InvO u2 on2 ∧ InvS u2 ∧ NM (fun q => q ∈ adr h0 a0 h1) a2 nr2 br2 u2 ∧ va_P D vwCl (picT cI h0 a0 h1 a2 u2 u2 on2) t.heap ∧ RO cI cR a2 nr2 br2 u2 t.heap) A) (va_A (picT cI h0 a0 h1 a1 u u on) sz)) 8 63 (va_A (picT cI h0 a0 h1 a1 u u on) sz) := by
  refine Met.ofW (cc := cL_act) (maxL := 5) (ret := some .boolean) (by decide) rfl ?_
  intro p e s m args below meth c s₁ B hml hv
  obtain ⟨rfl, hsz, hP, hD, hR, hK, hAO⟩ := hv
  have hx := B.exec
  have hb := B.bytes
  have hr := B.returns
  have hlocks := B.notSynchronized
  have hts := atoms_spec (ws := wsL_act) B.pre
  have hown : s.vm.findClass RL = some m.cls := findClass_of_methodNamed B.named
  have hl := lv_entry ([.ref h0, .ref h1, .int x0]) (n := 5) (Nat.le_of_ble_eq_true rfl)
  rw [lg_entry_eq]
  generalize (lg_sl ([.ref h0, .ref h1, .int x0])  ++ List.replicate (5 - (lg_sl ([.ref h0, .ref h1, .int x0])).length) Slot.unset).toArray = ls at hl ⊢
  have hl : lv_has ls 5 [(0, .ref h0), (1, .ref h1), (2, .int x0)] := hl
  subst hsz
  have hD := hD.self (sz := s.heap.size)
  have hlt : ∀ q : Nat, q ∈ adr h0 a0 h1 → q < s.heap.size := fun q z => adr_lt hP z
  have hRk : ∀ (H2 : Heap) (locs2 : List Loc), va_S (va_A (picT cI h0 a0 h1 a1 u u on) s.heap.size) s.heap H2 locs2 → RO cI cR a1 nr br u H2 := fun H2 locs2 hS => hR.keep hNM (fun q hq hx => hS.2.1 q hq (fun z => (A_T z).elim hx (fun z => absurd hq (Nat.not_lt.mpr z))))
  have hA : ∀ q : Nat, s.heap.size ≤ q → va_A (picT cI h0 a0 h1 a1 u u on) s.heap.size q := fun q h => Or.inr h
  have hS : va_S (va_A (picT cI h0 a0 h1 a1 u u on) s.heap.size) s.heap s.heap [] := va_S.rf
  refine lv_iload_n hx hb dL_act_0 rfl (lv_at hl 2 rfl) ?_
  refine lv_bipush (v := nI 13) hx hb dL_act_1 (by decide +kernel) ?_
  refine vp_callSi (W.runS (As := [.int x0, .int (nI 13)]) (rest := []) ⟨hx, hb, hml, hown, hts⟩ (c_L_below l x0 13 (by omega) (by omega)) (va_cwS 2 hts gL_act_L_below rfl rfl rfl (by decide +kernel) ⟨Nat.le_of_ble_eq_true rfl, Nat.le_of_ble_eq_true rfl⟩) preEq rfl rfl hl.1 rfl (lv_room (Nat.le_of_ble_eq_true rfl)) dL_act_3 ⟨Nat.le_of_ble_eq_true rfl, Nat.le_of_ble_eq_true rfl⟩) (fun r hr9 => ?_)
  obtain ⟨j, hj, rfl⟩ := hr9
  by_cases h9 : j < 9
  · match j, h9 with
    | 0, _ => exact lv_tableIn (off := 50) (tgt := 56) hx hb dL_act_6 (by decide +kernel) (by decide +kernel) (by decide +kernel) (by decide) (ac_56 hx hb hml hr hlocks hts hown hAO hI hO hIS hNM hRk hlt hK hP hD hA hS hl)
    | 1, _ => exact lv_tableIn (off := 98) (tgt := 104) hx hb dL_act_6 (by decide +kernel) (by decide +kernel) (by decide +kernel) (by decide) (ac_104 hx hb hml hr hlocks hts hown hAO hI hO hIS hNM hRk hlt hK hP hD hA hS hl)
    | 2, _ => exact lv_tableIn (off := 98) (tgt := 104) hx hb dL_act_6 (by decide +kernel) (by decide +kernel) (by decide +kernel) (by decide) (ac_104 hx hb hml hr hlocks hts hown hAO hI hO hIS hNM hRk hlt hK hP hD hA hS hl)
    | 3, _ => exact lv_tableIn (off := 208) (tgt := 214) hx hb dL_act_6 (by decide +kernel) (by decide +kernel) (by decide +kernel) (by decide) (ac_214 hx hb hml hr hlocks hts hown hAO hI hO hIS hNM hRk hlt hK hP hD hA hS hl)
    | 4, _ => exact lv_tableIn (off := 261) (tgt := 267) hx hb dL_act_6 (by decide +kernel) (by decide +kernel) (by decide +kernel) (by decide) (ac_267 hx hb hml hr hlocks hts hown hAO hI hO hIS hNM hRk hlt hK hP hD hA hS hl)
    | 5, _ => exact lv_tableIn (off := 261) (tgt := 267) hx hb dL_act_6 (by decide +kernel) (by decide +kernel) (by decide +kernel) (by decide) (ac_267 hx hb hml hr hlocks hts hown hAO hI hO hIS hNM hRk hlt hK hP hD hA hS hl)
    | 6, _ => exact lv_tableIn (off := 361) (tgt := 367) hx hb dL_act_6 (by decide +kernel) (by decide +kernel) (by decide +kernel) (by decide) (ac_367 hx hb hml hr hlocks hts hown hAO hI hO hIS hNM hRk hlt hK hP hD hA hS hl)
    | 7, _ => exact lv_tableIn (off := 361) (tgt := 367) hx hb dL_act_6 (by decide +kernel) (by decide +kernel) (by decide +kernel) (by decide) (ac_367 hx hb hml hr hlocks hts hown hAO hI hO hIS hNM hRk hlt hK hP hD hA hS hl)
    | 8, _ => exact lv_tableIn (off := 487) (tgt := 493) hx hb dL_act_6 (by decide +kernel) (by decide +kernel) (by decide +kernel) (by decide) (ac_493 hx hb hml hr hlocks hts hown hAO hI hO hIS hNM hRk hlt hK hP hD hA hS hl)
    | k + 9, hk => exact absurd hk (by omega)
  · exact lv_tableOut (tgt := 547) hx hb dL_act_6 (Or.inr (by rw [nI_toInt (by omega)]; omega)) (by decide) (ac_547 hx hb hml hr hlocks hts hown hAO hI hO hIS hNM hRk hlt hK hP hD hA hS hl)
