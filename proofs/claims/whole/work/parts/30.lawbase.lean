/-! the law's world, and what holds at the end of a round of its loop -/
abbrev picR1 (cI cJ : ClassId) (h1 : Nat) (a1 : Nat → Nat) (o : Nat) (u : MS) (th : Int32) (f : Nat → Int64) : va_W := pic1 cI h1 a1 u th ++ [(o, .inl (cJ, 1, .inr (.inl f)))]
abbrev picW (cI cJ : ClassId) (h0 : Nat) (a0 : Nat → Nat) (h1 : Nat) (a1 : Nat → Nat) (o : Nat) (u : MS) (on : Nat → Int32) (u1 : MS) (th : Int32) (f : Nat → Int64) : va_W := pic0 cI h0 a0 u on ++ picR1 cI cJ h1 a1 o u1 th f
def lwI (D : va_G) (cI cJ : ClassId) (h0 h1 o : Nat) (a0 a1 : Nat → Nat) (s : State) (u : MS) (on : Nat → Int32) (th : Int32) (f : Nat → Int64) (H : Heap) (locs : List Loc) : Prop :=
  Inv u ∧ InvO u on ∧ va_P D vwCl (picW cI cJ h0 a0 h1 a1 o u on u th f) H ∧ va_D (fun q : Nat => s.heap.size ≤ q) (picW cI cJ h0 a0 h1 a1 o u on u th f) ∧ va_S (fun q : Nat => s.heap.size ≤ q) s.heap H locs
def lwK (p : Program) (l : Launch) (e : Env) (s : State) (m : MethodId) (below : List Frame) (meth : Method) (c : Code) (D : va_G) (cI cJ : ClassId) (b h0 h1 o : Nat) (a0 a1 : Nat → Nat) (i C Sl : Nat) : Prop :=
  ∀ (u : MS) (on : Nat → Int32) (th : Int32) (f : Nat → Int64) (H : Heap) (locs : List Loc) (ls : Array Slot), lwI D cI cJ h0 h1 o a0 a1 s u on th f H locs → lv_has ls 9 [(0, .ref b), (1, .ref h0), (2, .ref h1), (3, .ref o), (4, .int (nI i))] → W p l e room_1 s m #[Value.ref b] below meth c H locs C Sl (lw_Z below #[Value.ref b] s) (F0 m 1546 ls [])
theorem lcmp_self {x : Int64} : lg_cmp x x = 0 := by
  unfold lg_cmp
  rw [if_neg (Int64.lt_irrefl x), if_pos rfl]
section QS
variable {p : Program} {l : Launch} {e : Env} {R : Room} {s : State} {m : MethodId} {args : Array Value} {below : List Frame} {meth : Method} {c : Code} {H : Heap} {locs : List Loc} {cells slots : Nat} {Q : State → Prop} {cc : ByteArray} {pc : Nat} {ls : Array Slot} {rest : List Value} {A : Nat → Prop} {H0 : Heap}
theorem q_sld (hexec : p.tables.exec = Jvm.exec) (hb : c.code = cc) {b L : Nat} {xs : Nat → Int32} (hX : va_X b L xs s H0) (hbl : b < H0.size) (hbA : ¬ A b) (hS : va_S A H0 H locs) {k : Nat} (hk : k < L) (hL : L < 2147483648) (hdg : decode cc pc = .ok (.iaload, 1))
    (kk : W p l e R s m args below meth c H locs cells slots Q (F0 m (pc + 1) ls (.int (xs k) :: rest))) : W p l e R s m args below meth c H locs cells slots Q (F0 m pc ls (.int (nI k) :: .ref b :: rest)) := by
  refine va_sld hexec hb hX hbl hbA hS (vp_in_nI hk hL) hdg ?_
  rw [nI_clamp (Nat.lt_trans hk hL)]
  exact kk
end QS
