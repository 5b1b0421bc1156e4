/-! THE CLAIM OUT OF ONE WALK OF THE LAW'S BODY. Your part is whole_start (and what it stands on); all else here is the same for every law, but numbers. -/
def R_law : String := "AfternoonMeterLaw"
def lw_P (b : Addr) (xs : List Int32) (args : Array Value) (s : State) : Prop := args = #[.ref b] ∧ s.IntsAt b xs ∧ xs.length ≤ 260 ∧ (Jvm.Cond.and given_1 narrow_1).before args s = true
/-- what a walk over the start with the record d0 says of its end, said of the start itself -/
theorem lw_closed {s t : State} {o : Outcome} {d0 : Drawn} {L : List Loc} {k n : Nat} (hd0 : s.drawn.sameBut d0 lw_cs) (hv : ∃ v, o = .returned v) (hW : (s.setDrawn d0).WarmedH t.vm) (hs : (s.setDrawn d0).sameButNew ({ t with vm := s.vm } : State) L k n) : State.butDraws s t lw_cs (fun t1 => Framed s o t1 L k n) := by
  have h2 : t.drawn = d0 := congrArg State.drawn hs.1
  refine ⟨⟨hv, hW, State.sameButNew.setDrawn hs s.drawn⟩, ?_, by decide⟩
  rw [h2]
  exact hd0
def lw_Q (_ : Array Value) (s : State) (o : Outcome) (t : State) : Prop := o = .returned (some (.int 1)) ∧ State.butDraws s t lw_cs (fun t1 => Framed s o t1 [] 754895 6836784)
def lw_Z (below : List Frame) (a : Array Value) (s : State) : State → Prop := fun t => ∃ o, t.status = .running ∧ Ended t below o ∧ lw_Q a s o t
/-- the law's own end, with 1 on the stack, nothing written that was there before, its room as the claim has it; d0: the record of draws at this point (at the entry s.drawn: begin with 'refine W.base ?_' and 'have hd0 := Drawn.sameBut.refl s.drawn lw_cs') -/
theorem lw_ret {p : Program} {l : Launch} {e : Env} {s : State} {m : MethodId} {below : List Frame} {meth : Method} {c : Code} {b : Nat} {d0 : Drawn} (hd0 : s.drawn.sameBut d0 lw_cs) (hx : p.tables.exec = Jvm.exec) (hb : c.code = code) (hr : meth.sig.returnType = ret) (hlocks : meth.locks = false) {pc : Nat} {H : Heap} {ls : Array Slot} (hdg : decode code pc = .ok (.ireturn, 1)) : W p l e room_1 (s.setDrawn d0) m #[Value.ref b] below meth c H [] 754895 6836784 (lw_Z below #[Value.ref b] s) (F0 m pc ls [.int 1]) := by
  intro T hT X
  obtain ⟨fs, hret, hrun, hended, hW, hframe⟩ := X.leave (v := some (.int 1)) (hlocks := hlocks) (fun h => by rw [hr] at h; cases h)
  have hmeth' : T.vm.method? m = some meth := X.method'
  refine ⟨T.setFrames fs, ?_, .returned (some (.int 1)), hrun, hended, rfl, lw_closed hd0 ⟨_, rfl⟩ hW hframe⟩
  jvm_step X.here [X.here.top, hx, hb, hdg, hmeth', hr, ret, narrow_b1]
  (try refine ⟨rfl, ?_⟩); (try refine ⟨rfl, ?_⟩)
  first | (intro acts; rw [hret _ acts rfl rfl rfl]) | rw [hret _ _ rfl rfl rfl]
  exact Steps.refl _
/-- what holds at the law's entry: the machine, the code, the tables' words (any of lw_tbl by 'hts w (by decide +kernel)'), the script of L ints xs at the cell b, what the Statement gives of the start (any of its parts by flat_of_before) -/
def lw_At (p : Program) (s : State) (m : MethodId) (meth : Method) (c : Code) (b L : Nat) (xs : Nat → Int32) : Prop :=
  p.tables.exec = Jvm.exec ∧ c.code = code ∧ meth.sig.returnType = ret ∧ c.maxLocals = 21 ∧ s.vm.findClass R_law = some m.cls ∧ (∀ w ∈ lw_tbl, w.before #[Value.ref b] s = true) ∧ va_X b L xs s s.heap ∧ b < s.heap.size ∧ meth.locks = false ∧ (Jvm.Cond.and given_1 narrow_1).before #[Value.ref b] s = true
/-! the law: what stays behind its calls -/
theorem A_0 {cI : ClassId} {h0 h1 : Nat} {a0 : Nat → Nat} {u : MS} {on : Nat → Int32} {sz q : Nat} (h : va_A (pic0 cI h0 a0 u on) sz q) : q ∈ adr h0 a0 h1 ∨ sz ≤ q := by
  rcases h with ⟨k, e, h⟩ | h
  · have h2 : (pic0 cI h0 a0 u on ++ picS h1 a0 u : va_W)[k]? = some (q, e) := by
      rw [List.getElem?_append_left (List.getElem?_eq_some_iff.mp h).1]
      exact h
    exact Or.inl (adr_in (a1 := a0) (v := u) h2)
  · exact Or.inr h
theorem RO.k0 {cI cR : ClassId} {a1 nr br : Nat → Nat} {u : MS} {H H1 : Heap} {h0 h1 : Nat} {a0 : Nat → Nat} {v : MS} {on : Nat → Int32} (hR : RO cI cR a1 nr br u H) (hn : NM (fun q => q ∈ adr h0 a0 h1) a1 nr br u) (hk : ∀ q : Nat, q < H.size → ¬ va_A (pic0 cI h0 a0 v on) H.size q → H1[q]? = H[q]?) : RO cI cR a1 nr br u H1 :=
  hR.keep hn (fun q hq hx => hk q hq (fun z => (A_0 (h1 := h1) z).elim hx (fun z => absurd hq (Nat.not_lt.mpr z))))
theorem RO.kn {cI cR : ClassId} {a1 nr br : Nat → Nat} {u : MS} {H H1 : Heap} (hR : RO cI cR a1 nr br u H) (hk : ∀ q : Nat, q < H.size → ¬ H.size ≤ q → H1[q]? = H[q]?) : RO cI cR a1 nr br u H1 :=
  hR.keep (X := fun _ => False) ⟨fun z => z, fun z => z, fun z => z, fun _ _ z => z, fun _ _ z => z⟩ (fun q hq _ => hk q hq (Nat.not_le.mpr hq))
theorem RO.k1 {cI cR : ClassId} {a1 nr br : Nat → Nat} {u : MS} {H H1 : Heap} {h0 h1 : Nat} {a0 : Nat → Nat} {e9 : va_E} (hR : RO cI cR a1 nr br u H) (hn : NM (fun q => q ∈ adr h0 a0 h1) a1 nr br u) (hk : ∀ q : Nat, q < H.size → ¬ va_A [(h1, e9)] H.size q → H1[q]? = H[q]?) : RO cI cR a1 nr br u H1 :=
  hR.after (hn.weak (fun q z => z ▸ List.mem_of_getElem? (l := adr h0 a0 h1) (i := 8) rfl)) hk
abbrev uW (u : MS) (n t : Nat) (s : Int32) : MS := (mSc u, mNc u, mBc u, n, mRoom u, mRate u, mSip u, t, s, mAft u, mHt u, mFr u, mTo u, mCov u, mPe u, mBe u)
/-- the law's code, where it stands -/
abbrev LA (s : State) : Nat → Prop := fun q => s.heap.size ≤ q
theorem NM_or {X Y : Nat → Prop} {a nr br : Nat → Nat} {u : MS} (h : NM X a nr br u) (g : NM Y a nr br u) : NM (fun z => X z ∨ Y z) a nr br u :=
  ⟨fun z => z.elim h.1 g.1, fun z => z.elim h.2.1 g.2.1, fun z => z.elim h.2.2.1 g.2.2.1, fun k hk z => z.elim (h.2.2.2.1 k hk) (g.2.2.2.1 k hk), fun k hk z => z.elim (h.2.2.2.2 k hk) (g.2.2.2.2 k hk)⟩
theorem NM_new {cI cR : ClassId} {a nr br : Nat → Nat} {u : MS} {H : Heap} {q : Nat} (hR : RO cI cR a nr br u H) (hq : H.size ≤ q) : NM (fun z => z = q) a nr br u :=
  ⟨fun z => by have := sm_lt hR.1; omega, fun z => by have := sm_lt hR.2.1; omega, fun z => by have := sm_lt hR.2.2.1; omega, fun k hk z => by have := sm_lt (hR.2.2.2.1 k hk); omega, fun k hk z => by have := sm_lt (hR.2.2.2.2 k hk); omega⟩
theorem S_comp {A B : Nat → Prop} {H0 H H1 : Heap} {locs : List Loc} (h : va_S A H0 H []) (g : va_S B H H1 locs) (hBA : ∀ z, B z → A z) : va_S A H0 H1 locs :=
  ⟨Nat.le_trans h.1 g.1, fun q h1 h2 => (g.2.1 q (Nat.lt_of_lt_of_le h1 h.1) (fun z => h2 (hBA q z))).trans (h.2.1 q h1 h2), fun l hl => hBA _ (g.2.2 l hl)⟩
theorem D_adr {A : Nat → Prop} {ws : va_W} {L : List Nat} {q : Nat} (hD : va_D A ws) (he : ws.map (fun q => q.1) = L ++ [q]) : va_D (fun z => z ∈ L ∨ z = q) ws :=
  hD.weaken (fun k w hk _ => by
    have e : (ws.map (fun q => q.1))[k]? = some w.1 := by rw [List.getElem?_map, hk]; rfl
    rw [he] at e
    exact (List.mem_append.mp (List.mem_of_getElem? e)).elim Or.inl (fun z => Or.inr (List.mem_singleton.mp z)))
