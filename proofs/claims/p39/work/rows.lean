section
-- ===== PART A: goes FIRST, ahead of the names: the tables' words, and 'selects' of the private methods out of them =====
/-- a private method of a class that the tables say can be made, by its rows of tables_1 -/
def lw_okq (q : MethodName × Nat) : Prop := (q.1.cls ≠ "java/lang/invoke/MethodHandle" ∧ q.1.cls ≠ "java/lang/invoke/VarHandle") ∧ Cond.instantiable q.1.cls q.2 ∈ tables_1 ∧ Cond.privateMethod q.1 ∈ tables_1 ∧ Cond.instanceMethod q.1 ∈ tables_1
theorem lw_p0 : lw_okq (⟨"AfternoonMeter", "checkNap", "(I)V"⟩, 17) := ⟨⟨by decide +kernel, by decide +kernel⟩, List.mem_of_getElem? (i := 11) (by decide +kernel), List.mem_of_getElem? (i := 76) (by decide +kernel), List.mem_of_getElem? (i := 77) (by decide +kernel)⟩
theorem lw_p1 : lw_okq (⟨"java/lang/Throwable", "fillInStackTrace", "(I)Ljava/lang/Throwable;"⟩, 6) := ⟨⟨by decide +kernel, by decide +kernel⟩, List.mem_of_getElem? (i := 118) (by decide +kernel), List.mem_of_getElem? (i := 116) (by decide +kernel), List.mem_of_getElem? (i := 117) (by decide +kernel)⟩
theorem lw_p2 : lw_okq (⟨"AfternoonMeter", "changeCover", "(II)V"⟩, 17) := ⟨⟨by decide +kernel, by decide +kernel⟩, List.mem_of_getElem? (i := 11) (by decide +kernel), List.mem_of_getElem? (i := 148) (by decide +kernel), List.mem_of_getElem? (i := 149) (by decide +kernel)⟩
theorem lw_p3 : lw_okq (⟨"AfternoonMeter", "covers", "(II)Z"⟩, 17) := ⟨⟨by decide +kernel, by decide +kernel⟩, List.mem_of_getElem? (i := 11) (by decide +kernel), List.mem_of_getElem? (i := 152) (by decide +kernel), List.mem_of_getElem? (i := 153) (by decide +kernel)⟩
theorem lw_p4 : lw_okq (⟨"AfternoonMeter", "pourInto", "(I)I"⟩, 17) := ⟨⟨by decide +kernel, by decide +kernel⟩, List.mem_of_getElem? (i := 11) (by decide +kernel), List.mem_of_getElem? (i := 178) (by decide +kernel), List.mem_of_getElem? (i := 179) (by decide +kernel)⟩
theorem lw_p5 : lw_okq (⟨"AfternoonMeter", "excess", "(I)I"⟩, 17) := ⟨⟨by decide +kernel, by decide +kernel⟩, List.mem_of_getElem? (i := 11) (by decide +kernel), List.mem_of_getElem? (i := 182) (by decide +kernel), List.mem_of_getElem? (i := 183) (by decide +kernel)⟩
theorem lw_p6 : lw_okq (⟨"AfternoonMeter", "contentAfter", "(III)I"⟩, 17) := ⟨⟨by decide +kernel, by decide +kernel⟩, List.mem_of_getElem? (i := 11) (by decide +kernel), List.mem_of_getElem? (i := 210) (by decide +kernel), List.mem_of_getElem? (i := 211) (by decide +kernel)⟩
theorem lw_p7 : lw_okq (⟨"AfternoonMeter", "checkMinute", "(I)V"⟩, 17) := ⟨⟨by decide +kernel, by decide +kernel⟩, List.mem_of_getElem? (i := 11) (by decide +kernel), List.mem_of_getElem? (i := 222) (by decide +kernel), List.mem_of_getElem? (i := 223) (by decide +kernel)⟩
theorem lw_p8 : lw_okq (⟨"AfternoonMeter", "checkStick", "(I)V"⟩, 17) := ⟨⟨by decide +kernel, by decide +kernel⟩, List.mem_of_getElem? (i := 11) (by decide +kernel), List.mem_of_getElem? (i := 248) (by decide +kernel), List.mem_of_getElem? (i := 249) (by decide +kernel)⟩
theorem lw_p9 : lw_okq (⟨"AfternoonMeter", "shadowOf", "(II)I"⟩, 17) := ⟨⟨by decide +kernel, by decide +kernel⟩, List.mem_of_getElem? (i := 11) (by decide +kernel), List.mem_of_getElem? (i := 253) (by decide +kernel), List.mem_of_getElem? (i := 254) (by decide +kernel)⟩
theorem lw_p10 : lw_okq (⟨"AfternoonMeter", "sumOfShadows", "(I)I"⟩, 17) := ⟨⟨by decide +kernel, by decide +kernel⟩, List.mem_of_getElem? (i := 11) (by decide +kernel), List.mem_of_getElem? (i := 265) (by decide +kernel), List.mem_of_getElem? (i := 266) (by decide +kernel)⟩
theorem lw_p11 : lw_okq (⟨"AfternoonMeter", "countAlone", "(I)I"⟩, 17) := ⟨⟨by decide +kernel, by decide +kernel⟩, List.mem_of_getElem? (i := 11) (by decide +kernel), List.mem_of_getElem? (i := 289) (by decide +kernel), List.mem_of_getElem? (i := 290) (by decide +kernel)⟩
theorem lw_p12 : lw_okq (⟨"AfternoonMeter", "checkBee", "(I)V"⟩, 17) := ⟨⟨by decide +kernel, by decide +kernel⟩, List.mem_of_getElem? (i := 11) (by decide +kernel), List.mem_of_getElem? (i := 301) (by decide +kernel), List.mem_of_getElem? (i := 302) (by decide +kernel)⟩
theorem lw_p13 : lw_okq (⟨"AfternoonMeter", "countTicks", "(I)I"⟩, 17) := ⟨⟨by decide +kernel, by decide +kernel⟩, List.mem_of_getElem? (i := 11) (by decide +kernel), List.mem_of_getElem? (i := 306) (by decide +kernel), List.mem_of_getElem? (i := 307) (by decide +kernel)⟩
theorem lw_p14 : lw_okq (⟨"AfternoonMeter", "ticksIn", "(II)Z"⟩, 17) := ⟨⟨by decide +kernel, by decide +kernel⟩, List.mem_of_getElem? (i := 11) (by decide +kernel), List.mem_of_getElem? (i := 310) (by decide +kernel), List.mem_of_getElem? (i := 311) (by decide +kernel)⟩
theorem lw_p15 : lw_okq (⟨"AfternoonMeter", "hasBeatIn", "(II)Z"⟩, 17) := ⟨⟨by decide +kernel, by decide +kernel⟩, List.mem_of_getElem? (i := 11) (by decide +kernel), List.mem_of_getElem? (i := 314) (by decide +kernel), List.mem_of_getElem? (i := 315) (by decide +kernel)⟩
def lw_privs_1 : List (MethodName × Nat) := [(⟨"AfternoonMeter", "checkNap", "(I)V"⟩, 17), (⟨"java/lang/Throwable", "fillInStackTrace", "(I)Ljava/lang/Throwable;"⟩, 6), (⟨"AfternoonMeter", "changeCover", "(II)V"⟩, 17), (⟨"AfternoonMeter", "covers", "(II)Z"⟩, 17), (⟨"AfternoonMeter", "pourInto", "(I)I"⟩, 17), (⟨"AfternoonMeter", "excess", "(I)I"⟩, 17), (⟨"AfternoonMeter", "contentAfter", "(III)I"⟩, 17), (⟨"AfternoonMeter", "checkMinute", "(I)V"⟩, 17), (⟨"AfternoonMeter", "checkStick", "(I)V"⟩, 17), (⟨"AfternoonMeter", "shadowOf", "(II)I"⟩, 17), (⟨"AfternoonMeter", "sumOfShadows", "(I)I"⟩, 17), (⟨"AfternoonMeter", "countAlone", "(I)I"⟩, 17), (⟨"AfternoonMeter", "checkBee", "(I)V"⟩, 17), (⟨"AfternoonMeter", "countTicks", "(I)I"⟩, 17), (⟨"AfternoonMeter", "ticksIn", "(II)Z"⟩, 17), (⟨"AfternoonMeter", "hasBeatIn", "(II)Z"⟩, 17)]
theorem lw_r1 : ∀ q ∈ lw_privs_1, lw_okq q := List.forall_mem_cons.mpr ⟨lw_p0, List.forall_mem_cons.mpr ⟨lw_p1, List.forall_mem_cons.mpr ⟨lw_p2, List.forall_mem_cons.mpr ⟨lw_p3, List.forall_mem_cons.mpr ⟨lw_p4, List.forall_mem_cons.mpr ⟨lw_p5, List.forall_mem_cons.mpr ⟨lw_p6, List.forall_mem_cons.mpr ⟨lw_p7, List.forall_mem_cons.mpr ⟨lw_p8, List.forall_mem_cons.mpr ⟨lw_p9, List.forall_mem_cons.mpr ⟨lw_p10, List.forall_mem_cons.mpr ⟨lw_p11, List.forall_mem_cons.mpr ⟨lw_p12, List.forall_mem_cons.mpr ⟨lw_p13, List.forall_mem_cons.mpr ⟨lw_p14, List.forall_mem_cons.mpr ⟨lw_p15, fun _ h => absurd h List.not_mem_nil⟩⟩⟩⟩⟩⟩⟩⟩⟩⟩⟩⟩⟩⟩⟩⟩
theorem lw_p16 : lw_okq (⟨"AfternoonMeter", "firstSpillWith", "(I)I"⟩, 17) := ⟨⟨by decide +kernel, by decide +kernel⟩, List.mem_of_getElem? (i := 11) (by decide +kernel), List.mem_of_getElem? (i := 355) (by decide +kernel), List.mem_of_getElem? (i := 356) (by decide +kernel)⟩
theorem lw_p17 : lw_okq (⟨"AfternoonMeter", "withSticks", "(J)J"⟩, 17) := ⟨⟨by decide +kernel, by decide +kernel⟩, List.mem_of_getElem? (i := 11) (by decide +kernel), List.mem_of_getElem? (i := 378) (by decide +kernel), List.mem_of_getElem? (i := 379) (by decide +kernel)⟩
theorem lw_p18 : lw_okq (⟨"AfternoonMeter", "withNaps", "(J)J"⟩, 17) := ⟨⟨by decide +kernel, by decide +kernel⟩, List.mem_of_getElem? (i := 11) (by decide +kernel), List.mem_of_getElem? (i := 382) (by decide +kernel), List.mem_of_getElem? (i := 383) (by decide +kernel)⟩
theorem lw_p19 : lw_okq (⟨"AfternoonMeter", "withBees", "(J)J"⟩, 17) := ⟨⟨by decide +kernel, by decide +kernel⟩, List.mem_of_getElem? (i := 11) (by decide +kernel), List.mem_of_getElem? (i := 386) (by decide +kernel), List.mem_of_getElem? (i := 387) (by decide +kernel)⟩
def lw_privs_2 : List (MethodName × Nat) := [(⟨"AfternoonMeter", "firstSpillWith", "(I)I"⟩, 17), (⟨"AfternoonMeter", "withSticks", "(J)J"⟩, 17), (⟨"AfternoonMeter", "withNaps", "(J)J"⟩, 17), (⟨"AfternoonMeter", "withBees", "(J)J"⟩, 17)]
theorem lw_r2 : ∀ q ∈ lw_privs_2, lw_okq q := List.forall_mem_cons.mpr ⟨lw_p16, List.forall_mem_cons.mpr ⟨lw_p17, List.forall_mem_cons.mpr ⟨lw_p18, List.forall_mem_cons.mpr ⟨lw_p19, fun _ h => absurd h List.not_mem_nil⟩⟩⟩⟩
def lw_privs : List (MethodName × Nat) := lw_privs_1 ++ (lw_privs_2)
def lw_tbl : List Cond := k2_sels lw_privs ++ tables_1
theorem lw_privs_ok : ∀ q ∈ lw_privs, lw_okq q := by
  show ∀ q ∈ lw_privs_1 ++ (lw_privs_2), lw_okq q
  exact List.forall_mem_append.mpr ⟨lw_r1, lw_r2⟩
/-- the streams that the claim lets the run draw from -/
abbrev lw_cs : List Choice := [Jvm.Choice.named "NaN.bits"]
theorem lw_bits : nanBits ∈ lw_cs := by first | decide | exact List.mem_cons_self | simp [lw_cs, nanBits]
-- ===== end of PART A; then your names; then what follows =====
end
section
/-! ===== BEGIN words of one list among another's, by their places ===== -/
theorem goodIn_r {big : List Cond} (ws : List Cond) (ps : List Nat) (hp : ws = ps.filterMap (fun i => big[i]?)) (h : ws.all goodWord = true) : GoodIn big ws := by
  intro w hw
  have h1 := List.all_eq_true.mp h w hw
  rw [hp] at hw
  obtain ⟨i, -, hi⟩ := List.mem_filterMap.mp hw
  have hm : w ∈ big := by first | exact List.mem_of_getElem? hi | exact List.getElem?_mem hi
  exact ⟨hm, good_of_word h1⟩
theorem goodIn_app {big a b : List Cond} (ha : GoodIn big a) (hb : GoodIn big b) : GoodIn big (a ++ b) := fun w h => (List.mem_append.mp h).elim (ha w) (hb w)
theorem goodIn_ca {big a b : List Cond} {c : Cond} (ha : GoodIn big (c :: a)) (hb : GoodIn big b) : GoodIn big (c :: (a ++ b)) := fun w h => (List.mem_cons.mp h).elim (fun e => ha w (List.mem_cons.mpr (Or.inl e))) (fun h => (List.mem_append.mp h).elim (fun h => ha w (List.mem_cons.mpr (Or.inr h))) (hb w))
theorem goodIn_sub {big ws : List Cond} (hm : ∀ w ∈ ws, w ∈ big) (h : ws.all goodWord = true) : GoodIn big ws := fun w hw => ⟨hm w hw, good_of_word (List.all_eq_true.mp h w hw)⟩
/-! ===== END ===== -/

/-! ===== BEGIN exceptions that leave a method, and their catching by the caller (launches without stack traces) ===== -/
section VXA
/-! The laws vx_back, vx_callV, vx_callS, vx_callSW, vx_throw0, vx_throwS follow proofs of the library, with one case more: JvmDerived/Free/Laws.lean (Back.of_free), Shelf42/LK1.lean (callV, callS), Shelf/KitTraced.lean (throwNew0V, throwNewS). -/
/-- where a method has thrown q: the class by its name, the cell, what was written, the world -/
def vx_T (XC : String → State → State → Prop) (st : State) (q : Addr) (t : State) (mc ms : Nat) (free : Addr → Prop) : Prop :=
  ∃ (E : String) (ce : Cell) (L : List Loc), XC E st t ∧ t.heap[q]? = some ce ∧ ce.vm = .none ∧ st.vm.findClass E = some ce.cls ∧ st.WarmedH t.vm ∧ st.sameButNew ({ t with vm := st.vm } : State) L mc ms ∧ ∀ z ∈ L, free z.base
def vx_Q (Qc : Array Value → State → Outcome → State → Prop) (XC : String → State → State → Prop) (mc ms : Nat) (free : Addr → Prop) : Array Value → State → Outcome → State → Prop := fun a st o t =>
  (Qc a st o t ∧ ∃ L, FrameEnd st o t L mc ms ∧ ∀ q ∈ L, free q.base) ∨ ∃ q, o = .threw q ∧ vx_T XC st q t mc ms free
/-- a callee that returns or throws -/
def vx_Met (l : Launch) (y : MethodName) (ws : List Cond) (rm : Room) (Pc : Array Value → State → Prop) (Qc : Array Value → State → Outcome → State → Prop) (XC : String → State → State → Prop) (mc ms : Nat) (free : Addr → Prop) : Prop :=
  MetFree l y (headSpec ws rm) Pc (fun _ _ _ _ _ => True) (vx_Q Qc XC mc ms free)
def vx_Post (XC : String → State → State → Prop) (mc ms : Nat) (free : Addr → Prop) : Pt → Array Value → Addr → Pt → Prop := fun A a q B =>
  ∃ (g : JFrame) (mk : MethodId) (t : State) (L : List Loc) (E : String) (ce : Cell), B.U.heap = t.heap ∧ B.U.vm = t.vm ∧ XC E (A.U.calling g mk a) t ∧ t.heap[q]? = some ce ∧ ce.vm = .none ∧ A.U.vm.findClass E = some ce.cls ∧ B.locs = A.locs ++ L ∧ (∀ z ∈ L, free z.base) ∧ B.cells = A.cells + mc ∧ B.slots = A.slots + ms
def vx_Back (l : Launch) (R : Room) (p : Program) (e : Env) (below : List Frame) (s : State) (sargs : Array Value) (y : MethodName) (len W9 : Nat)
    (Pre : Pt → Array Value → Prop) (Post : Pt → Array Value → Option Value → Pt → Prop) (PostX : Pt → Array Value → Addr → Pt → Prop) : Prop :=
  ∀ (m : MethodId) (meth : Method) (c : Code) (A : Pt) (g : JFrame) (ig : Instr) (mk : MethodId) (a : Array Value),
    Stand p l e R s m sargs below meth c A.U A.locs A.cells A.slots → g.method = m → g.locals.size = c.maxLocals → decode c.code g.pc = .ok (ig, len) →
    2 * g.monitorRoom + (g.stack.map fun v => v.category).sum ≤ W9 → A.U.methodNamed? y = some mk → Pre A a →
    (∃ (v : Option Value) (B : Pt), Stand p l e R s m sargs below meth c B.U B.locs B.cells B.slots ∧ Post A a v B ∧
      Steps p.tables e below (doInvoke e (A.U.setTop g) [] mk a).1 (B.U.setTop { g with pc := g.pc + len, stack := v.toList ++ g.stack })) ∨
    (∃ (q : Addr) (B : Pt), Stand p l e R s m sargs below meth c B.U B.locs B.cells B.slots ∧ PostX A a q B ∧
      Steps p.tables e below (doInvoke e (A.U.setTop g) [] mk a).1 ((B.U.setTop g).pushFrame (.throwing q)))
section Payer
variable {l : Launch} {R : Room} {p : Program} {e : Env} {below : List Frame} {s : State} {sargs : Array Value} {y : MethodName} {len W9 : Nat}
theorem vx_back {ws : List Cond} {rm : Room} {Pc : Array Value → State → Prop} {Qc : Array Value → State → Outcome → State → Prop} {XC : String → State → State → Prop} {mc ms : Nat} {free : Addr → Prop} {bytes : ByteArray} {maxL : Nat} {ret : Option FieldType}
    (hM : vx_Met l y ws rm Pc Qc XC mc ms free) (hblind : FrameBlind Pc) (hrc : rm.cells = mc) (hrs : rm.slots = ms)
    (hframes : rm.frames + 1 ≤ R.frames) (hlocals : W9 + (maxL + 11) + rm.locals ≤ R.locals)
    (hws : ∀ w ∈ ws, ∀ a' U, s.WarmedH U.vm → w.before a' U = true) (hcode : Cond.code y bytes maxL ret ∈ ws) (hinit : ∀ a' U, s.WarmedH U.vm → (Cond.initialized y.cls).before a' U = true) :
    vx_Back l R p e below s sargs y len W9 (PreOf R mc ms Pc) (PostOf Qc mc ms free) (vx_Post XC mc ms free) := by
  intro m meth c A g ig mk a X hg hsize hdg hW hn hp
  have h1 : (headSpec ws rm).pre.before a A.U = true := atoms_intro fun w hw => hws w hw _ _ X.warmed
  have h2 : (Cond.code y bytes maxL ret).before a A.U = true := hws _ hcode _ _ X.warmed
  have h3 : (Cond.initialized y.cls).before a A.U = true := hinit _ _ X.warmed
  have h4 : A.cells + (headSpec ws rm).room.cells ≤ R.cells := by rw [show (headSpec ws rm).room.cells = mc from hrc]; exact hp.1
  have h5 : A.slots + (headSpec ws rm).room.slots ≤ R.slots := by rw [show (headSpec ws rm).room.slots = ms from hrs]; exact hp.2.1
  have hPc : Pc a (A.U.calling g mk a) := hblind _ _ _ _ hp.2.2
  obtain ⟨U, Ls, c0, s0⟩ := A
  dsimp only [Pt.U, Pt.locs, Pt.cells, Pt.slots] at h1 h2 h3 h4 h5 X hn hPc ⊢
  obtain ⟨methY, cY, hmY, hcY, -, hlY, -, -, -, -⟩ := Cond.code_spec hn h2
  obtain ⟨kY, hkY, -⟩ := className_of_methodNamed hn
  have hinitY : kY.init = .initialized := Cond.initialized_spec (findClass_of_methodNamed hn) hkY h3
  have h : At U g.method c below := by rw [hg]; exact X.here
  have hlocals9 : W9 + (maxL + 11) + (headSpec ws rm).room.locals ≤ R.locals := hlocals
  have happ : (headSpec ws rm).appliesLoose y e.platform (U.calling g mk a) = true :=
    Spec.appliesLoose_calling (g := g) h hdg hn hkY hinitY
      (X.room_calling (g := g) (R' := (headSpec ws rm).room) hsize hmY hcY hframes (by rw [hlY]; omega) h4 h5) h1
  obtain ⟨mid, hmid⟩ := h.above
  have hfr : (U.setTop g).frames = (.java g :: mid) ++ below := by rw [State.frames_setTop' g h.top, hmid]; rfl
  obtain ⟨o, s₂, hsteps, -, hend, hq⟩ := Steps.callFree hM p X.admits X.cas X.clock (acts := []) hfr happ hPc trivial
  have hq' : vx_Q Qc XC mc ms free a (U.calling g mk a) o s₂ := hq
  rw [State.frames_setTop' g h.top] at hend
  obtain ⟨g₀, hg0⟩ := Option.isSome_iff_exists.mp h.top
  obtain ⟨r, hr⟩ := State.topJava?_eq_some.mp hg0
  have hr' : (({ U with heap := s₂.heap, slotsUsed := s₂.slotsUsed } : State).setVm s₂.vm).frames = .java g₀ :: r := hr
  rcases hq' with ⟨hqc, L, hfe, hL⟩ | ⟨q, rfl, E, ce, L, hx, hce, hcv, hcl, hW₂, hsm, hL⟩
  · obtain ⟨⟨v, rfl⟩, hW₂, e2, q2, q3, q4, q5, q6⟩ := id hfe
    have e3 : s₂ = ({ (U.calling g mk a).setFrames s₂.frames with heap := s₂.heap, slotsUsed := s₂.slotsUsed } : State).setVm s₂.vm := by
      have : s₂ = ({ s₂ with vm := (U.calling g mk a).vm } : State).setVm s₂.vm := rfl
      rw [e2] at this
      exact this
    obtain ⟨c₂, i₂, len₂, hc₂, hd₂, hf₂⟩ := hend
    have hW' : U.WarmedH s₂.vm := hW₂
    have hcc : c₂ = c := by
      have h1 : s₂.code? g.method = U.code? g.method := by
        rw [State.code?_eq, State.code?_eq, hW'.alike.method?]
      exact Option.some.inj (hc₂.symm.trans (h1.trans h.code))
    subst hcc
    have hlen : len₂ = len := by rw [hdg] at hd₂; cases hd₂; rfl
    subst hlen
    have hs₂ : s₂ = (({ U with heap := s₂.heap, slotsUsed := s₂.slotsUsed } : State).setVm s₂.vm).setTop { g with pc := g.pc + len₂, stack := v.toList ++ g.stack } := by
      refine e3.trans ?_
      rw [hf₂, State.calling_eq h.top, State.setFrames_setFrames, State.setTop_of_frames _ hr', hr]
      rfl
    have hsame : U.sameButNew ({ U with heap := s₂.heap, slotsUsed := s₂.slotsUsed } : State) L mc ms := by
      refine ⟨?_, q2, q3, q4, q5, q6⟩
      obtain ⟨t, ht, -⟩ := State.frames_cons hr
      show ({ U with heap := s₂.heap, slotsUsed := s₂.slotsUsed } : State) = { U.setFrames U.frames with heap := s₂.heap, slotsUsed := s₂.slotsUsed }
      rw [State.setFrames_self ht]
    subst hg
    refine Or.inl ⟨v, ⟨(({ U with heap := s₂.heap, slotsUsed := s₂.slotsUsed } : State).setVm s₂.vm), Ls ++ L, c0 + mc, s0 + ms⟩,
      ⟨X.admits, X.cas, X.clock, X.frames, X.room, X.hears, X.method, X.code, (X.here.setHeapUsed s₂.heap s₂.slotsUsed).setVm hW'.alike, X.tail, State.WarmedH.trans X.warmed hW', X.limits, X.bytes, X.same.trans (hsame.setVm s.vm)⟩,
      ⟨g, mk, s₂, L, rfl, rfl, hqc, rfl, hL, rfl, rfl⟩, ?_⟩
    show Steps p.tables e below _ ((({ U with heap := s₂.heap, slotsUsed := s₂.slotsUsed } : State).setVm s₂.vm).setTop { g with pc := g.pc + len₂, stack := v.toList ++ g.stack })
    rw [← hs₂]
    exact hsteps
  · obtain ⟨e2, q2, q3, q4, q5, q6⟩ := id hsm
    have e3 : s₂ = ({ (U.calling g mk a).setFrames s₂.frames with heap := s₂.heap, slotsUsed := s₂.slotsUsed } : State).setVm s₂.vm := by
      have : s₂ = ({ s₂ with vm := (U.calling g mk a).vm } : State).setVm s₂.vm := rfl
      rw [e2] at this
      exact this
    have hf₂ : s₂.frames = .throwing q :: .java g :: U.frames.tail := hend
    have hW' : U.WarmedH s₂.vm := hW₂
    have hs₂ : s₂ = ((({ U with heap := s₂.heap, slotsUsed := s₂.slotsUsed } : State).setVm s₂.vm).setTop g).pushFrame (.throwing q) := by
      refine e3.trans ?_
      rw [hf₂, State.calling_eq h.top, State.setFrames_setFrames, State.pushFrame, State.frames_setTop _ hr', State.setTop_of_frames _ hr', State.setFrames_setFrames, hr]
      rfl
    have hsame : U.sameButNew ({ U with heap := s₂.heap, slotsUsed := s₂.slotsUsed } : State) L mc ms := by
      refine ⟨?_, q2, q3, q4, q5, q6⟩
      obtain ⟨t, ht, -⟩ := State.frames_cons hr
      show ({ U with heap := s₂.heap, slotsUsed := s₂.slotsUsed } : State) = { U.setFrames U.frames with heap := s₂.heap, slotsUsed := s₂.slotsUsed }
      rw [State.setFrames_self ht]
    subst hg
    refine Or.inr ⟨q, ⟨(({ U with heap := s₂.heap, slotsUsed := s₂.slotsUsed } : State).setVm s₂.vm), Ls ++ L, c0 + mc, s0 + ms⟩,
      ⟨X.admits, X.cas, X.clock, X.frames, X.room, X.hears, X.method, X.code, (X.here.setHeapUsed s₂.heap s₂.slotsUsed).setVm hW'.alike, X.tail, State.WarmedH.trans X.warmed hW', X.limits, X.bytes, X.same.trans (hsame.setVm s.vm)⟩,
      ⟨g, mk, s₂, L, E, ce, rfl, rfl, hx, hce, hcv, hcl, rfl, hL, rfl, rfl⟩, ?_⟩
    show Steps p.tables e below _ (((({ U with heap := s₂.heap, slotsUsed := s₂.slotsUsed } : State).setVm s₂.vm).setTop g).pushFrame (.throwing q))
    rw [← hs₂]
    exact hsteps
end Payer
section Calls
variable {p : Program} {l : Launch} {e : Env} {R : Room} {s : State} {m : MethodId} {args : Array Value} {below : List Frame} {meth : Method} {c : Code} {T : State} {locs : List Loc} {cells slots : Nat}
theorem vx_callV (X : Stand p l e R s m args below meth c T locs cells slots) (hexec : p.tables.exec = Jvm.exec) {own C : String} {index : Nat} {y : MethodName} {bytes : ByteArray} {maxL : Nat} {ret : Option FieldType}
    (hown : s.vm.findClass own = some m.cls) (hlink : (Cond.methodLink own index y).before args s = true) (hinst : (Cond.instanceMethod y).before args s = true) (hsel : (Cond.selects C y y).before args s = true)
    (hcode : (Cond.code y bytes maxL ret).before args s = true) (hy : y.cls ≠ "java/lang/invoke/MethodHandle" ∧ y.cls ≠ "java/lang/invoke/VarHandle")
    {W9 : Nat} {Pre : Pt → Array Value → Prop} {Post : Pt → Array Value → Option Value → Pt → Prop} {PostX : Pt → Array Value → Addr → Pt → Prop} (hK : vx_Back l R p e below s args y 3 W9 Pre Post PostX)
    {b : Addr} {cellB : Cell} (hcell : T.heap[b]? = some cellB) (hobj : cellB.vm.isStatics = false) (hcls : s.vm.findClass C = some cellB.cls)
    {g : JFrame} (hg : g.method = m) (hsize : g.locals.size = c.maxLocals) {argsL rest : List Value} (hlen : ∀ sig, parseMethodDescriptor y.desc = some sig → argsL.length = sig.parameters.length)
    (hstack : g.stack = argsL.reverse ++ .ref b :: rest) (hW : 2 * g.monitorRoom + (rest.map fun v => v.category).sum ≤ W9) (hdg : decode c.code g.pc = .ok (.invokevirtual index, 3))
    (hpre : ∀ vm₁, s.WarmedH vm₁ → Pre ⟨T.setVm vm₁, locs, cells, slots⟩ (Value.ref b :: argsL).toArray) :
    (∃ (v : Option Value) (vm₁ : Vm) (B : Pt), s.WarmedH vm₁ ∧ Stand p l e R s m args below meth c B.U B.locs B.cells B.slots ∧ Post ⟨T.setVm vm₁, locs, cells, slots⟩ (Value.ref b :: argsL).toArray v B ∧
      ∀ target, Steps p.tables e below (B.U.setTop { g with pc := g.pc + 3, stack := v.toList ++ rest }) target → Steps p.tables e below (T.setTop g) target) ∨
    (∃ (q : Addr) (vm₁ : Vm) (B : Pt), s.WarmedH vm₁ ∧ Stand p l e R s m args below meth c B.U B.locs B.cells B.slots ∧ PostX ⟨T.setVm vm₁, locs, cells, slots⟩ (Value.ref b :: argsL).toArray q B ∧
      Steps p.tables e below (T.setTop g) ((B.U.setTop { g with stack := rest }).pushFrame (.throwing q))) := by
  obtain ⟨mk, methM, hnamed, hmethM, hstM, habM⟩ := Cond.instanceMethod_spec hinst
  obtain ⟨methM', cM, hmethM', -, -, -, -, -, -, hsigM⟩ := Cond.code_spec hnamed hcode
  cases hmethM.symm.trans hmethM'
  obtain ⟨c2, r2, m2, q1, q2, q3, q4, kP, hkP, hkPi⟩ := Cond.selects_spec hsel
  cases hcls.symm.trans q1
  cases (State.methodFound?_of_named hnamed hy).symm.trans q2
  cases hnamed.symm.trans q3
  have hselP : selectMethod e.platform s.vm cellB.cls mk = .method mk := by rw [Launch.admits_selectMethod X.admits]; exact q4
  obtain ⟨vm₁, X₁, hstep₁⟩ := X.invokevirtual hexec hown hlink hnamed hmethM hstM hkP hkPi hy (a := b) (cell := cellB) hcell
    (fun z h => by rw [h] at hobj; cases hobj) hselP hmethM habM hkP hkPi (g := g) hg (argsL := argsL) (rest := rest) (hlen _ hsigM) hstack hdg
  rcases hK m meth c ⟨T.setVm vm₁, locs, cells, slots⟩ { g with stack := rest } (.invokevirtual index) mk (Value.ref b :: argsL).toArray X₁ hg hsize hdg hW (X₁.named hnamed) (hpre vm₁ X₁.warmed) with ⟨v, B, X', hpost, hsteps⟩ | ⟨q, B, X', hpost, hsteps⟩
  · exact Or.inl ⟨v, vm₁, B, X₁.warmed, X', hpost, fun target h => hstep₁ _ fun acts => by rw [doInvoke_state]; exact hsteps.trans h⟩
  · exact Or.inr ⟨q, vm₁, B, X₁.warmed, X', hpost, hstep₁ _ fun acts => by rw [doInvoke_state]; exact hsteps⟩
theorem vx_callS (X : Stand p l e R s m args below meth c T locs cells slots) (hexec : p.tables.exec = Jvm.exec) {own : String} {index : Nat} {y : MethodName} {bytes : ByteArray} {maxL : Nat} {ret : Option FieldType}
    (hown : s.vm.findClass own = some m.cls) (hlink : (Cond.methodLink own index y).before args s = true) (hstat : (Cond.static y).before args s = true) (hinit : (Cond.initialized y.cls).before args s = true)
    (hcode : (Cond.code y bytes maxL ret).before args s = true) (hy : y.cls ≠ "java/lang/invoke/MethodHandle" ∧ y.cls ≠ "java/lang/invoke/VarHandle")
    {W9 : Nat} {Pre : Pt → Array Value → Prop} {Post : Pt → Array Value → Option Value → Pt → Prop} {PostX : Pt → Array Value → Addr → Pt → Prop} (hK : vx_Back l R p e below s args y 3 W9 Pre Post PostX)
    {g : JFrame} (hg : g.method = m) (hsize : g.locals.size = c.maxLocals) {argsL rest : List Value} (hlen : ∀ sig, parseMethodDescriptor y.desc = some sig → argsL.length = sig.parameters.length)
    (hstack : g.stack = argsL.reverse ++ rest) (hW : 2 * g.monitorRoom + (rest.map fun v => v.category).sum ≤ W9) (hdg : decode c.code g.pc = .ok (.invokestatic index, 3))
    (hpre : ∀ vm₁, s.WarmedH vm₁ → Pre ⟨T.setVm vm₁, locs, cells, slots⟩ argsL.toArray) :
    (∃ (v : Option Value) (vm₁ : Vm) (B : Pt), s.WarmedH vm₁ ∧ Stand p l e R s m args below meth c B.U B.locs B.cells B.slots ∧ Post ⟨T.setVm vm₁, locs, cells, slots⟩ argsL.toArray v B ∧
      ∀ target, Steps p.tables e below (B.U.setTop { g with pc := g.pc + 3, stack := v.toList ++ rest }) target → Steps p.tables e below (T.setTop g) target) ∨
    (∃ (q : Addr) (vm₁ : Vm) (B : Pt), s.WarmedH vm₁ ∧ Stand p l e R s m args below meth c B.U B.locs B.cells B.slots ∧ PostX ⟨T.setVm vm₁, locs, cells, slots⟩ argsL.toArray q B ∧
      Steps p.tables e below (T.setTop g) ((B.U.setTop { g with stack := rest }).pushFrame (.throwing q))) := by
  obtain ⟨mk, hnamed⟩ := Cond.code_named hcode
  obtain ⟨methM, cM, hmethM, -, -, -, -, -, -, hsigM⟩ := Cond.code_spec hnamed hcode
  have hstatic : methM.isStatic = true := Cond.static_spec hnamed hmethM hstat
  obtain ⟨kP, hkP, -⟩ := className_of_methodNamed hnamed
  have hinitP : kP.init = .initialized := Cond.initialized_spec (findClass_of_methodNamed hnamed) hkP hinit
  obtain ⟨vm₁, X₁, hstep₁⟩ := X.invokestatic hexec hown hlink hnamed hmethM hstatic hkP hinitP hy (g := g) hg (argsL := argsL) (rest := rest) (hlen _ hsigM) hstack hdg
  rcases hK m meth c ⟨T.setVm vm₁, locs, cells, slots⟩ { g with stack := rest } (.invokestatic index) mk argsL.toArray X₁ hg hsize hdg hW (X₁.named hnamed) (hpre vm₁ X₁.warmed) with ⟨v, B, X', hpost, hsteps⟩ | ⟨q, B, X', hpost, hsteps⟩
  · exact Or.inl ⟨v, vm₁, B, X₁.warmed, X', hpost, fun target h => hstep₁ _ fun acts => by rw [doInvoke_state]; exact hsteps.trans h⟩
  · exact Or.inr ⟨q, vm₁, B, X₁.warmed, X', hpost, hstep₁ _ fun acts => by rw [doInvoke_state]; exact hsteps⟩
end Calls
theorem vx_cls {s : State} {T : State} {vm₁ : Vm} {E : String} {k : ClassId} (hW : s.WarmedH vm₁) (h : (T.setVm vm₁).vm.findClass E = some k) : s.vm.findClass E = some k := by
  have h1 : vm₁.findClass E = some k := h
  rw [hW.alike.findClass] at h1
  exact h1
/-- the method's frame g, with q thrown over it -/
def vx_W (p : Program) (l : Launch) (e : Env) (R : Room) (s : State) (m : MethodId) (args : Array Value) (below : List Frame) (meth : Method) (c : Code) (H : Heap) (locs : List Loc) (cells slots : Nat) (Q : State → Prop) (g : JFrame) (q : Addr) : Prop :=
  ∀ T : State, T.heap = H → Stand p l e R s m args below meth c T locs cells slots → ∃ t, Steps p.tables e below ((T.setTop g).pushFrame (.throwing q)) t ∧ Q t
def vx_Run (p : Program) (l : Launch) (e : Env) (R : Room) (s : State) (m : MethodId) (args : Array Value) (below : List Frame) (meth : Method) (c : Code) (H : Heap) (locs : List Loc) (cells slots mc ms : Nat) (g : JFrame) (rest : List Value) (Qa : State → Outcome → State → Prop) (XC : String → State → State → Prop) (free : Addr → Prop) : Prop :=
  ∀ T : State, T.heap = H → Stand p l e R s m args below meth c T locs cells slots →
    (∃ (v : Option Value) (st₀ t T' : State) (L : List Loc), st₀.heap = H ∧ Stand p l e R s m args below meth c T' (locs ++ L) (cells + mc) (slots + ms) ∧ (∀ q ∈ L, free q.base) ∧ T'.heap = t.heap ∧ T'.vm = t.vm ∧ Qa st₀ (.returned v) t ∧
      Goes p e below T g T' { g with pc := g.pc + 3, stack := v.toList ++ rest }) ∨
    (∃ (q : Addr) (st₀ t T' : State) (L : List Loc) (E : String) (ce : Cell), st₀.heap = H ∧ Stand p l e R s m args below meth c T' (locs ++ L) (cells + mc) (slots + ms) ∧ (∀ z ∈ L, free z.base) ∧ T'.heap = t.heap ∧ T'.vm = t.vm ∧ XC E st₀ t ∧ t.heap[q]? = some ce ∧ ce.vm = .none ∧ s.vm.findClass E = some ce.cls ∧
      Steps p.tables e below (T.setTop g) ((T'.setTop { g with stack := rest }).pushFrame (.throwing q)))
def vx_X {S : Type} (px : S → Prop) (B : String → S → State → Prop) (A : Nat → Prop) : String → State → State → Prop := fun E st t => ∃ u : S, px u ∧ B E u t ∧ va_F A st t
section Runs
variable {p : Program} {l : Launch} {e : Env} {R : Room} {s : State} {m : MethodId} {args : Array Value} {below : List Frame} {meth : Method} {c : Code} {H : Heap} {locs : List Loc} {cells slots : Nat}
variable {y : MethodName} {bytes cc : ByteArray} {maxL nL mc ms n index : Nat} {ret : Option FieldType} {ws : List Cond} {rm : Room} {Pc : Array Value → State → Prop} {Qc : Array Value → State → Outcome → State → Prop} {XC : String → State → State → Prop} {free : Addr → Prop} {Ts : List Cond} {own C : String} {b : Addr} {As rest : List Value} {g : JFrame}
theorem vx_callBack (cb : CallB R s args own index y bytes maxL ret ws rm mc ms n) (hM : vx_Met l y ws rm Pc Qc XC mc ms free) (hbl : FrameBlind Pc) : vx_Back l R p e below s args y 3 8 (PreOf R mc ms Pc) (PostOf Qc mc ms free) (vx_Post XC mc ms free) := by
  obtain ⟨hrc, hrs, hfr, hlo, hws, hcw, -, hini, -⟩ := cb
  exact vx_back (bytes := bytes) (maxL := maxL) (ret := ret) hM hbl hrc hrs hfr hlo hws hcw (fun a' U hW => word_at hW (Or.inl (by first | rfl | simp [Cond.onTables, Cond.keeps, Cond.steady])) hini)
theorem vx_runV (S : CallFix p m c cc nL s args Ts own) (hM : vx_Met l y ws rm Pc Qc XC mc ms free) (cw : CallW R s args own C index y bytes maxL ret ws rm mc ms n) (hp : PreV s H C b Pc As)
    (hg : g.method = m) (hn : As.length = n) (hsize : g.locals.size = nL) (hstack : g.stack = As.reverse ++ .ref b :: rest) (hW : 2 * g.monitorRoom + (rest.map fun v => v.category).sum ≤ 8) (hdg : decode cc g.pc = .ok (.invokevirtual index, 3)) (hf : cells + mc ≤ R.cells ∧ slots + ms ≤ R.slots) :
    vx_Run p l e R s m args below meth c H locs cells slots mc ms g rest (Qc (Value.ref b :: As).toArray) XC free := by
  have hK : vx_Back l R p e below s args y 3 8 (PreOf R mc ms Pc) (PostOf Qc mc ms free) (vx_Post XC mc ms free) := vx_callBack cw.1 hM hp.1
  obtain ⟨⟨-, -, -, -, -, -, hcode, -, hy, hlen, hl⟩, hin, hse⟩ := cw
  obtain ⟨hx, hb, hml, ho, -⟩ := S
  obtain ⟨-, ⟨cellB, hcB, hoB, hclB⟩, hPc⟩ := hp
  intro T hT X
  rcases vx_callV X hx (C := C) (bytes := bytes) (maxL := maxL) (ret := ret) ho hl hin hse hcode hy hK (by rw [hT]; exact hcB) hoB hclB hg (hsize.trans hml.symm) (argsL := As) (rest := rest) (fun sig h => hn.trans (hlen sig h)) hstack hW (by rw [hb]; exact hdg)
    (fun vm₁ hW₁ => ⟨hf.1, hf.2, hPc (T.setVm vm₁) hT hW₁⟩) with ⟨v, vm₁, ⟨U', l2, c2, s2⟩, hW₁, X', ⟨g', mk, t, L, e1, e2, hq, h1, hL, h2, h3⟩, st⟩ | ⟨q, vm₁, ⟨U', l2, c2, s2⟩, hW₁, X', ⟨g', mk, t, L, E, ce, e1, e2, hq, hce, hcv, hcl, h1, hL, h2, h3⟩, st⟩
  · dsimp only [Pt.U, Pt.locs, Pt.cells, Pt.slots] at X' e1 e2 h1 h2 h3 st
    subst h1; subst h2; subst h3
    exact Or.inl ⟨v, (T.setVm vm₁).calling g' mk (Value.ref b :: As).toArray, t, U', L, hT, X', hL, e1, e2, hq, st⟩
  · dsimp only [Pt.U, Pt.locs, Pt.cells, Pt.slots] at X' e1 e2 h1 h2 h3 st hcl
    subst h1; subst h2; subst h3
    exact Or.inr ⟨q, (T.setVm vm₁).calling g' mk (Value.ref b :: As).toArray, t, U', L, E, ce, hT, X', hL, e1, e2, hq, hce, hcv, vx_cls hW₁ hcl, st⟩
theorem vx_runS (S : CallFix p m c cc nL s args Ts own) (hM : vx_Met l y ws rm Pc Qc XC mc ms free) (cw : CallB R s args own index y bytes maxL ret ws rm mc ms n ∧ (Cond.static y).before args s = true) (hp : PreS s H Pc As)
    (hg : g.method = m) (hn : As.length = n) (hsize : g.locals.size = nL) (hstack : g.stack = As.reverse ++ rest) (hW : 2 * g.monitorRoom + (rest.map fun v => v.category).sum ≤ 8) (hdg : decode cc g.pc = .ok (.invokestatic index, 3)) (hf : cells + mc ≤ R.cells ∧ slots + ms ≤ R.slots) :
    vx_Run p l e R s m args below meth c H locs cells slots mc ms g rest (Qc As.toArray) XC free := by
  have hK : vx_Back l R p e below s args y 3 8 (PreOf R mc ms Pc) (PostOf Qc mc ms free) (vx_Post XC mc ms free) := vx_callBack cw.1 hM hp.1
  obtain ⟨⟨-, -, -, -, -, -, hcode, hini, hy, hlen, hl⟩, hstt⟩ := cw
  obtain ⟨hx, hb, hml, ho, -⟩ := S
  intro T hT X
  rcases vx_callS X hx (bytes := bytes) (maxL := maxL) (ret := ret) ho hl hstt hini hcode hy hK hg (hsize.trans hml.symm) (argsL := As) (rest := rest) (fun sig h => hn.trans (hlen sig h)) hstack hW (by rw [hb]; exact hdg)
    (fun vm₁ hW₁ => ⟨hf.1, hf.2, hp.2 (T.setVm vm₁) hT hW₁⟩) with ⟨v, vm₁, ⟨U', l2, c2, s2⟩, hW₁, X', ⟨g', mk, t, L, e1, e2, hq, h1, hL, h2, h3⟩, st⟩ | ⟨q, vm₁, ⟨U', l2, c2, s2⟩, hW₁, X', ⟨g', mk, t, L, E, ce, e1, e2, hq, hce, hcv, hcl, h1, hL, h2, h3⟩, st⟩
  · dsimp only [Pt.U, Pt.locs, Pt.cells, Pt.slots] at X' e1 e2 h1 h2 h3 st
    subst h1; subst h2; subst h3
    exact Or.inl ⟨v, (T.setVm vm₁).calling g' mk As.toArray, t, U', L, hT, X', hL, e1, e2, hq, st⟩
  · dsimp only [Pt.U, Pt.locs, Pt.cells, Pt.slots] at X' e1 e2 h1 h2 h3 st hcl
    subst h1; subst h2; subst h3
    exact Or.inr ⟨q, (T.setVm vm₁).calling g' mk As.toArray, t, U', L, E, ce, hT, X', hL, e1, e2, hq, hce, hcv, vx_cls hW₁ hcl, st⟩
end Runs
section Rows
variable {p : Program} {l : Launch} {e : Env} {R : Room} {s : State} {m : MethodId} {args : Array Value} {below : List Frame} {meth : Method} {c : Code} {H : Heap} {locs : List Loc} {cells slots : Nat} {Q : State → Prop}
variable {mc ms : Nat} {free : Addr → Prop} {A0 A1 : Nat → Prop} {H0 : Heap} {a : Array Value} {pc : Nat} {ls : Array Slot} {st0 rest : List Value}
theorem vx_keep {st₀ t T' : State} {L : List Loc} (h0 : st₀.heap = H) (e1 : T'.heap = t.heap) (hS : va_S A0 H0 H locs) (hA : ∀ q, q < H.size → A1 q → A0 q) (hf : ∀ q, free q → A0 q) (hL : ∀ q ∈ L, free q.base) (hF : va_F A1 st₀ t) :
    H.size ≤ T'.heap.size ∧ (∀ q : Nat, q < H.size → ¬ A1 q → T'.heap[q]? = H[q]?) ∧ va_S A0 H0 T'.heap (locs ++ L) := by
  obtain ⟨hz, hk⟩ := hF
  rw [h0] at hz hk
  exact ⟨by rw [e1]; exact hz, fun q h1 h2 => by rw [e1]; exact hk q h1 h2,
    ⟨Nat.le_trans hS.1 (by rw [e1]; exact hz), fun q h1 h2 => by rw [e1, hk q (Nat.lt_of_lt_of_le h1 hS.1) (fun z => h2 (hA q (Nat.lt_of_lt_of_le h1 hS.1) z))]; exact hS.2.1 q h1 h2, fun q hq => by
      rcases List.mem_append.mp hq with h | h
      · exact hS.2.2 q h
      · exact hf _ (hL q h)⟩⟩
theorem vx_calli {S SX : Type} {post : Int32 → S → Prop} {px : SX → Prop} {B : S → State → Prop} {BX : String → SX → State → Prop} {AX : Nat → Prop} (hr : vx_Run p l e R s m args below meth c H locs cells slots mc ms (F0 m pc ls st0) rest (va_Qi post B A1 a) (vx_X px BX AX) free) (hS : va_S A0 H0 H locs) (hA : ∀ q, q < H.size → A1 q → A0 q) (hf : ∀ q, free q → A0 q) (hAX : ∀ q, q < H.size → AX q → A0 q)
    (kx : ∀ (E : String) (ce : Cell) (q9 : Addr) (u : SX) (t : State) (H1 : Heap) (locs1 : List Loc), t.heap = H1 → s.vm.Alike t.vm → px u → BX E u t → H.size ≤ H1.size → (∀ q : Nat, q < H.size → ¬ AX q → H1[q]? = H[q]?) → va_S A0 H0 H1 locs1 → H1[q9]? = some ce → ce.vm = .none → s.vm.findClass E = some ce.cls → vx_W p l e R s m args below meth c H1 locs1 (cells + mc) (slots + ms) Q (F0 m pc ls rest) q9)
    (kk : ∀ (r : Int32) (u : S) (t : State) (H1 : Heap) (locs1 : List Loc), t.heap = H1 → s.vm.Alike t.vm → post r u → B u t → H.size ≤ H1.size → (∀ q : Nat, q < H.size → ¬ A1 q → H1[q]? = H[q]?) → va_S A0 H0 H1 locs1 → W p l e R s m args below meth c H1 locs1 (cells + mc) (slots + ms) Q (F0 m (pc + 3) ls (.int r :: rest))) : W p l e R s m args below meth c H locs cells slots Q (F0 m pc ls st0) := by
  intro T hT X
  rcases hr T hT X with ⟨v, st₀, t, T', L, h0, X', hL, e1, e2, ⟨⟨r, u, hv, hp, hb⟩, hF⟩, st⟩ | ⟨q, st₀, t, T', L, E, ce, h0, X', hL, e1, e2, ⟨u, hp, hb, hF⟩, hce, hcv, hcl, st⟩
  · cases hv
    obtain ⟨k1, k2, k3⟩ := vx_keep h0 e1 hS hA hf hL hF
    obtain ⟨t2, a1, b1⟩ := kk r u t T'.heap (locs ++ L) e1.symm (by rw [← e2]; exact X'.warmed.alike) hp hb k1 k2 k3 T' rfl X'
    exact ⟨t2, st t2 a1, b1⟩
  · obtain ⟨k1, k2, k3⟩ := vx_keep h0 e1 hS hAX hf hL hF
    obtain ⟨t2, a1, b1⟩ := kx E ce q u t T'.heap (locs ++ L) e1.symm (by rw [← e2]; exact X'.warmed.alike) hp hb k1 k2 k3 (by rw [e1]; exact hce) hcv hcl T' rfl X'
    exact ⟨t2, st.trans a1, b1⟩
theorem vx_calll {S SX : Type} {post : Int64 → S → Prop} {px : SX → Prop} {B : S → State → Prop} {BX : String → SX → State → Prop} {AX : Nat → Prop} (hr : vx_Run p l e R s m args below meth c H locs cells slots mc ms (F0 m pc ls st0) rest (va_Ql post B A1 a) (vx_X px BX AX) free) (hS : va_S A0 H0 H locs) (hA : ∀ q, q < H.size → A1 q → A0 q) (hf : ∀ q, free q → A0 q) (hAX : ∀ q, q < H.size → AX q → A0 q)
    (kx : ∀ (E : String) (ce : Cell) (q9 : Addr) (u : SX) (t : State) (H1 : Heap) (locs1 : List Loc), t.heap = H1 → s.vm.Alike t.vm → px u → BX E u t → H.size ≤ H1.size → (∀ q : Nat, q < H.size → ¬ AX q → H1[q]? = H[q]?) → va_S A0 H0 H1 locs1 → H1[q9]? = some ce → ce.vm = .none → s.vm.findClass E = some ce.cls → vx_W p l e R s m args below meth c H1 locs1 (cells + mc) (slots + ms) Q (F0 m pc ls rest) q9)
    (kk : ∀ (r : Int64) (u : S) (t : State) (H1 : Heap) (locs1 : List Loc), t.heap = H1 → s.vm.Alike t.vm → post r u → B u t → H.size ≤ H1.size → (∀ q : Nat, q < H.size → ¬ A1 q → H1[q]? = H[q]?) → va_S A0 H0 H1 locs1 → W p l e R s m args below meth c H1 locs1 (cells + mc) (slots + ms) Q (F0 m (pc + 3) ls (.long r :: rest))) : W p l e R s m args below meth c H locs cells slots Q (F0 m pc ls st0) := by
  intro T hT X
  rcases hr T hT X with ⟨v, st₀, t, T', L, h0, X', hL, e1, e2, ⟨⟨r, u, hv, hp, hb⟩, hF⟩, st⟩ | ⟨q, st₀, t, T', L, E, ce, h0, X', hL, e1, e2, ⟨u, hp, hb, hF⟩, hce, hcv, hcl, st⟩
  · cases hv
    obtain ⟨k1, k2, k3⟩ := vx_keep h0 e1 hS hA hf hL hF
    obtain ⟨t2, a1, b1⟩ := kk r u t T'.heap (locs ++ L) e1.symm (by rw [← e2]; exact X'.warmed.alike) hp hb k1 k2 k3 T' rfl X'
    exact ⟨t2, st t2 a1, b1⟩
  · obtain ⟨k1, k2, k3⟩ := vx_keep h0 e1 hS hAX hf hL hF
    obtain ⟨t2, a1, b1⟩ := kx E ce q u t T'.heap (locs ++ L) e1.symm (by rw [← e2]; exact X'.warmed.alike) hp hb k1 k2 k3 (by rw [e1]; exact hce) hcv hcl T' rfl X'
    exact ⟨t2, st.trans a1, b1⟩
theorem vx_callf {S SX : Type} {post : UInt32 → S → Prop} {px : SX → Prop} {B : S → State → Prop} {BX : String → SX → State → Prop} {AX : Nat → Prop} (hr : vx_Run p l e R s m args below meth c H locs cells slots mc ms (F0 m pc ls st0) rest (va_Qf post B A1 a) (vx_X px BX AX) free) (hS : va_S A0 H0 H locs) (hA : ∀ q, q < H.size → A1 q → A0 q) (hf : ∀ q, free q → A0 q) (hAX : ∀ q, q < H.size → AX q → A0 q)
    (kx : ∀ (E : String) (ce : Cell) (q9 : Addr) (u : SX) (t : State) (H1 : Heap) (locs1 : List Loc), t.heap = H1 → s.vm.Alike t.vm → px u → BX E u t → H.size ≤ H1.size → (∀ q : Nat, q < H.size → ¬ AX q → H1[q]? = H[q]?) → va_S A0 H0 H1 locs1 → H1[q9]? = some ce → ce.vm = .none → s.vm.findClass E = some ce.cls → vx_W p l e R s m args below meth c H1 locs1 (cells + mc) (slots + ms) Q (F0 m pc ls rest) q9)
    (kk : ∀ (r : UInt32) (u : S) (t : State) (H1 : Heap) (locs1 : List Loc), t.heap = H1 → s.vm.Alike t.vm → post r u → B u t → H.size ≤ H1.size → (∀ q : Nat, q < H.size → ¬ A1 q → H1[q]? = H[q]?) → va_S A0 H0 H1 locs1 → W p l e R s m args below meth c H1 locs1 (cells + mc) (slots + ms) Q (F0 m (pc + 3) ls (.float r :: rest))) : W p l e R s m args below meth c H locs cells slots Q (F0 m pc ls st0) := by
  intro T hT X
  rcases hr T hT X with ⟨v, st₀, t, T', L, h0, X', hL, e1, e2, ⟨⟨r, u, hv, hp, hb⟩, hF⟩, st⟩ | ⟨q, st₀, t, T', L, E, ce, h0, X', hL, e1, e2, ⟨u, hp, hb, hF⟩, hce, hcv, hcl, st⟩
  · cases hv
    obtain ⟨k1, k2, k3⟩ := vx_keep h0 e1 hS hA hf hL hF
    obtain ⟨t2, a1, b1⟩ := kk r u t T'.heap (locs ++ L) e1.symm (by rw [← e2]; exact X'.warmed.alike) hp hb k1 k2 k3 T' rfl X'
    exact ⟨t2, st t2 a1, b1⟩
  · obtain ⟨k1, k2, k3⟩ := vx_keep h0 e1 hS hAX hf hL hF
    obtain ⟨t2, a1, b1⟩ := kx E ce q u t T'.heap (locs ++ L) e1.symm (by rw [← e2]; exact X'.warmed.alike) hp hb k1 k2 k3 (by rw [e1]; exact hce) hcv hcl T' rfl X'
    exact ⟨t2, st.trans a1, b1⟩
theorem vx_calld {S SX : Type} {post : UInt64 → S → Prop} {px : SX → Prop} {B : S → State → Prop} {BX : String → SX → State → Prop} {AX : Nat → Prop} (hr : vx_Run p l e R s m args below meth c H locs cells slots mc ms (F0 m pc ls st0) rest (va_Qd post B A1 a) (vx_X px BX AX) free) (hS : va_S A0 H0 H locs) (hA : ∀ q, q < H.size → A1 q → A0 q) (hf : ∀ q, free q → A0 q) (hAX : ∀ q, q < H.size → AX q → A0 q)
    (kx : ∀ (E : String) (ce : Cell) (q9 : Addr) (u : SX) (t : State) (H1 : Heap) (locs1 : List Loc), t.heap = H1 → s.vm.Alike t.vm → px u → BX E u t → H.size ≤ H1.size → (∀ q : Nat, q < H.size → ¬ AX q → H1[q]? = H[q]?) → va_S A0 H0 H1 locs1 → H1[q9]? = some ce → ce.vm = .none → s.vm.findClass E = some ce.cls → vx_W p l e R s m args below meth c H1 locs1 (cells + mc) (slots + ms) Q (F0 m pc ls rest) q9)
    (kk : ∀ (r : UInt64) (u : S) (t : State) (H1 : Heap) (locs1 : List Loc), t.heap = H1 → s.vm.Alike t.vm → post r u → B u t → H.size ≤ H1.size → (∀ q : Nat, q < H.size → ¬ A1 q → H1[q]? = H[q]?) → va_S A0 H0 H1 locs1 → W p l e R s m args below meth c H1 locs1 (cells + mc) (slots + ms) Q (F0 m (pc + 3) ls (.double r :: rest))) : W p l e R s m args below meth c H locs cells slots Q (F0 m pc ls st0) := by
  intro T hT X
  rcases hr T hT X with ⟨v, st₀, t, T', L, h0, X', hL, e1, e2, ⟨⟨r, u, hv, hp, hb⟩, hF⟩, st⟩ | ⟨q, st₀, t, T', L, E, ce, h0, X', hL, e1, e2, ⟨u, hp, hb, hF⟩, hce, hcv, hcl, st⟩
  · cases hv
    obtain ⟨k1, k2, k3⟩ := vx_keep h0 e1 hS hA hf hL hF
    obtain ⟨t2, a1, b1⟩ := kk r u t T'.heap (locs ++ L) e1.symm (by rw [← e2]; exact X'.warmed.alike) hp hb k1 k2 k3 T' rfl X'
    exact ⟨t2, st t2 a1, b1⟩
  · obtain ⟨k1, k2, k3⟩ := vx_keep h0 e1 hS hAX hf hL hF
    obtain ⟨t2, a1, b1⟩ := kx E ce q u t T'.heap (locs ++ L) e1.symm (by rw [← e2]; exact X'.warmed.alike) hp hb k1 k2 k3 (by rw [e1]; exact hce) hcv hcl T' rfl X'
    exact ⟨t2, st.trans a1, b1⟩
theorem vx_callv {S SX : Type} {post : S → Prop} {px : SX → Prop} {B : S → State → Prop} {BX : String → SX → State → Prop} {AX : Nat → Prop} (hr : vx_Run p l e R s m args below meth c H locs cells slots mc ms (F0 m pc ls st0) rest (va_Qv post B A1 a) (vx_X px BX AX) free) (hS : va_S A0 H0 H locs) (hA : ∀ q, q < H.size → A1 q → A0 q) (hf : ∀ q, free q → A0 q) (hAX : ∀ q, q < H.size → AX q → A0 q)
    (kx : ∀ (E : String) (ce : Cell) (q9 : Addr) (u : SX) (t : State) (H1 : Heap) (locs1 : List Loc), t.heap = H1 → s.vm.Alike t.vm → px u → BX E u t → H.size ≤ H1.size → (∀ q : Nat, q < H.size → ¬ AX q → H1[q]? = H[q]?) → va_S A0 H0 H1 locs1 → H1[q9]? = some ce → ce.vm = .none → s.vm.findClass E = some ce.cls → vx_W p l e R s m args below meth c H1 locs1 (cells + mc) (slots + ms) Q (F0 m pc ls rest) q9)
    (kk : ∀ (u : S) (t : State) (H1 : Heap) (locs1 : List Loc), t.heap = H1 → s.vm.Alike t.vm → post u → B u t → H.size ≤ H1.size → (∀ q : Nat, q < H.size → ¬ A1 q → H1[q]? = H[q]?) → va_S A0 H0 H1 locs1 → W p l e R s m args below meth c H1 locs1 (cells + mc) (slots + ms) Q (F0 m (pc + 3) ls (rest))) : W p l e R s m args below meth c H locs cells slots Q (F0 m pc ls st0) := by
  intro T hT X
  rcases hr T hT X with ⟨v, st₀, t, T', L, h0, X', hL, e1, e2, ⟨⟨u, hv, hp, hb⟩, hF⟩, st⟩ | ⟨q, st₀, t, T', L, E, ce, h0, X', hL, e1, e2, ⟨u, hp, hb, hF⟩, hce, hcv, hcl, st⟩
  · cases hv
    obtain ⟨k1, k2, k3⟩ := vx_keep h0 e1 hS hA hf hL hF
    obtain ⟨t2, a1, b1⟩ := kk u t T'.heap (locs ++ L) e1.symm (by rw [← e2]; exact X'.warmed.alike) hp hb k1 k2 k3 T' rfl X'
    exact ⟨t2, st t2 a1, b1⟩
  · obtain ⟨k1, k2, k3⟩ := vx_keep h0 e1 hS hAX hf hL hF
    obtain ⟨t2, a1, b1⟩ := kx E ce q u t T'.heap (locs ++ L) e1.symm (by rw [← e2]; exact X'.warmed.alike) hp hb k1 k2 k3 (by rw [e1]; exact hce) hcv hcl T' rfl X'
    exact ⟨t2, st.trans a1, b1⟩
/-- caught by the row x of this method's table; the rows ahead don't take it -/
theorem vx_catch {own name : String} {E : String} {ce : Cell} {q : Addr} (hown : s.vm.findClass own = some m.cls) (pre : List ExceptionTableEntry) (x : ExceptionTableEntry) (suf : List ExceptionTableEntry) (hsplit : c.exceptionTable.toList = pre ++ x :: suf)
    (hpass : ∀ z ∈ pre, covers z pc = false ∨ (z.catchType ≠ 0 ∧ ∃ nm : String, (Cond.classLink own z.catchType nm).before args s = true ∧ va_Nc E nm s)) (hx : covers x pc = true) (h0 : x.catchType ≠ 0)
    (hlink : (Cond.classLink own x.catchType name).before args s = true) (hcast : (Cond.castable E name).before args s = true) (hcell : H[q]? = some ce) (hv : ce.vm = .none) (hcl : s.vm.findClass E = some ce.cls)
    (kk : W p l e R s m args below meth c H locs cells slots Q (F0 m x.handlerPc ls [.ref q])) : vx_W p l e R s m args below meth c H locs cells slots Q (F0 m pc ls rest) q := by
  intro T hT X
  have hpl : e.platform.magicAccessors = ({} : Platform).magicAccessors := by rw [X.admits.platform]
  obtain ⟨c3, c4, hc3, hc4, hasg⟩ := Cond.castable_spec hcast
  cases Option.some.inj (hc3.symm.trans hcl)
  obtain ⟨c5, hc5, hcl5⟩ := Cond.classLink_spec hown hlink e.platform hpl
  cases Option.some.inj (hc4.symm.trans hc5)
  obtain ⟨vm', X', st⟩ := X.thenCaughtThrough q (g := F0 m pc ls rest) rfl (Steps.refl _) (by rw [hT]; exact hcell) (by rw [hv]; rfl) (by obtain ⟨k9, h9, -⟩ := Vm.findClass_spec hcl; exact ⟨k9, h9⟩) pre x suf hsplit
    (fun z hz => by
      rcases hpass z hz with h | ⟨hz0, nm, hl1, hn1⟩
      · exact Or.inl h
      · obtain ⟨c6, hc6, hcl6⟩ := Cond.classLink_spec hown hl1 e.platform hpl
        obtain ⟨a8, b8, h1, h2, h3⟩ := hn1
        cases Option.some.inj (h1.symm.trans hcl)
        cases Option.some.inj (h2.symm.trans hc6)
        exact Or.inr ⟨hz0, _, hcl6, h3⟩) hx (Or.inr ⟨h0, c4, hcl5, hasg⟩)
  obtain ⟨t, a1, b1⟩ := kk (T.setVm vm') hT X'
  exact ⟨t, st.trans a1, b1⟩
end Rows
section Ends
variable {p : Program} {l : Launch} {e : Env} {R : Room} {s : State} {m : MethodId} {args : Array Value} {below : List Frame} {meth : Method} {c : Code} {H : Heap} {locs : List Loc} {cells slots : Nat} {Q : State → Prop}
variable {mc ms : Nat} {free : Addr → Prop} {A0 A1 : Nat → Prop} {H0 : Heap} {a : Array Value} {ls : Array Slot} {st0 rest : List Value}
variable {Qc : Array Value → State → Outcome → State → Prop} {XC : String → State → State → Prop}
/-- what a body that may throw owes at its end -/
def vx_MQ (below : List Frame) (Qc : Array Value → State → Outcome → State → Prop) (XC : String → State → State → Prop) (a : Array Value) (s : State) (mc ms : Nat) (free : Addr → Prop) : State → Prop := fun t =>
  ∃ o, t.status = .running ∧ Ended t below o ∧ vx_Q Qc XC mc ms free a s o t
theorem vx_ret {g : JFrame} {mc ms : Nat} (k : W p l e R s m args below meth c H locs cells slots (MQ below Qc args s mc ms free) g) : W p l e R s m args below meth c H locs cells slots (vx_MQ below Qc XC args s mc ms free) g := by
  intro T hT X
  obtain ⟨t, a1, o, b1, b2, b3, b4⟩ := k T hT X
  exact ⟨t, a1, o, b1, b2, Or.inl ⟨b3, b4⟩⟩
/-- not caught here: it goes on to the caller -/
theorem vx_widen {g : JFrame} {q : Addr} {k n : Nat} (h1 : cells ≤ k) (h2 : slots ≤ n) (kk : vx_W p l e R s m args below meth c H locs k n Q g q) : vx_W p l e R s m args below meth c H locs cells slots Q g q := fun T hT X => kk T hT (stand_widen X h1 h2)
theorem vx_out {pc : Nat} {E : String} {ce : Cell} {q : Addr} {mc ms : Nat} (hout : ∀ x ∈ c.exceptionTable.toList, covers x pc = false) (hlocks : meth.locks = false) (hcell : H[q]? = some ce) (hv : ce.vm = .none) (hcl : s.vm.findClass E = some ce.cls)
    (hx : ∀ t : State, t.heap = H → s.vm.Alike t.vm → XC E s t) (hf : ∀ z ∈ locs, free z.base) (hc : cells ≤ mc) (hs : slots ≤ ms) :
    vx_W p l e R s m args below meth c H locs cells slots (vx_MQ below Qc XC args s mc ms free) (F0 m pc ls rest) q := by
  intro T hT X
  obtain ⟨st1, hrun, hend, hW, hsm⟩ := X.leaveThrown q (g := F0 m pc ls rest) rfl rfl rfl hout hlocks
  have hcell9 : (T.setFrames (.throwing q :: below)).heap[q]? = some ce := by
    show T.heap[q]? = some ce
    rw [hT]; exact hcell
  exact ⟨_, st1, .threw q, hrun, hend, Or.inr ⟨q, rfl, E, ce, locs, hx _ hT hW.alike, hcell9, hv, hcl, hW, hsm.mono hc hs, hf⟩⟩
theorem vx_frame {U : State} {k n : Nat} (h : s.sameButNew ({ U with vm := s.vm } : State) locs k n) : s.heap.size ≤ U.heap.size ∧ ∀ q : Nat, q < s.heap.size → (∀ z ∈ locs, z.base ≠ q) → U.heap[q]? = s.heap[q]? := by
  obtain ⟨-, h2, -, -, -, h6⟩ := h
  refine ⟨h2, fun q hq hz => ?_⟩
  obtain ⟨c9, e1, e2, e3, e4⟩ := h6 q _ (Array.getElem?_eq_getElem hq)
  have hs : c9.slots = (s.heap[q]).slots := Array.ext_getElem? fun i => e4 i fun hm => hz _ hm rfl
  have h9 : c9 = s.heap[q] := by
    rw [hs] at e2
    exact e2
  have e5 : U.heap[q]? = some c9 := e1
  rw [e5, h9, Array.getElem?_eq_getElem hq]
/-- the words of a throw but the four that speak of the heap -/
def vx_no (w : Cond) : Bool := decide (w ≠ .isRef (.static Bundle.tN "UNASSIGNED_STACK" Bundle.steD)) && decide (w ≠ .isRef (.static Bundle.tN "SUPPRESSED_SENTINEL" Bundle.listD)) && decide (w ≠ .laysStatic Bundle.tN "UNASSIGNED_STACK" Bundle.steD) && decide (w ≠ .laysStatic Bundle.tN "SUPPRESSED_SENTINEL" Bundle.listD)
def vx_at0 (own : String) (ic : Nat) (X : String) (names : List String) : List Cond := (Bundle.ownAtoms0 own ic X names).filter vx_no
def vx_atS (own : String) (ic : Nat) (X : String) (names : List String) : List Cond := (Bundle.ownAtoms own ic X names).filter vx_no
/-- a word that the tables alone decide, or a good one -/
def vx_ot (w : Cond) : Bool := w.onTables || goodWord w
theorem vx_ot_at {args a' : Array Value} {s U : State} {w : Cond} (hW : s.WarmedH U.vm) (hvm : s.vm = U.vm) (hg : vx_ot w = true) (h : w.before args s = true) : w.before a' U = true := by
  simp only [vx_ot, Bool.or_eq_true] at hg
  rcases hg with hg | hg
  · exact va_tabs hg hvm h
  · exact word_at hW (good_of_word hg) h
/-- a list's words: the good ones out of the method's own list, the others by premises of their own -/
theorem vx_hat {args : Array Value} {s : State} {L B : List Cond} (h1 : ∀ w ∈ L.filter goodWord, w.before args s = true) (h2 : ∀ w ∈ L.filter (fun w => !goodWord w), w ∈ B) (h3 : ∀ w ∈ B, w.before args s = true) : ∀ w ∈ L, w.before args s = true := by
  intro w hw
  by_cases g : goodWord w = true
  · exact h1 w (List.mem_filter.mpr ⟨hw, g⟩)
  · refine h3 w (h2 w (List.mem_filter.mpr ⟨hw, ?_⟩))
    show (!goodWord w) = true
    cases hgw : goodWord w
    · rfl
    · exact absurd hgw g
theorem vx_c {args : Array Value} {s : State} {w : Cond} {B : List Cond} (h : w.before args s = true) (t : ∀ w ∈ B, w.before args s = true) : ∀ w' ∈ w :: B, w'.before args s = true := fun w' h' => (List.mem_cons.mp h').elim (fun e => by rw [e]; exact h) (t w')
theorem vx_n {args : Array Value} {s : State} : ∀ w ∈ ([] : List Cond), w.before args s = true := fun _ h => nomatch h
theorem vx_own {args : Array Value} {s : State} {L : List Cond} (h1 : ∀ w ∈ L.filter vx_no, w.before args s = true)
    (hU : (Cond.isRef (.static Bundle.tN "UNASSIGNED_STACK" Bundle.steD)).before args s = true) (hN : (Cond.isRef (.static Bundle.tN "SUPPRESSED_SENTINEL" Bundle.listD)).before args s = true)
    (lU : (Cond.laysStatic Bundle.tN "UNASSIGNED_STACK" Bundle.steD).before args s = true) (lN : (Cond.laysStatic Bundle.tN "SUPPRESSED_SENTINEL" Bundle.listD).before args s = true) : ∀ w ∈ L, w.before args s = true := by
  intro w hw
  by_cases e1 : w = .isRef (.static Bundle.tN "UNASSIGNED_STACK" Bundle.steD)
  · rw [e1]; exact hU
  · by_cases e2 : w = .isRef (.static Bundle.tN "SUPPRESSED_SENTINEL" Bundle.listD)
    · rw [e2]; exact hN
    · by_cases e3 : w = .laysStatic Bundle.tN "UNASSIGNED_STACK" Bundle.steD
      · rw [e3]; exact lU
      · by_cases e4 : w = .laysStatic Bundle.tN "SUPPRESSED_SENTINEL" Bundle.listD
        · rw [e4]; exact lN
        · exact h1 w (List.mem_filter.mpr ⟨hw, by unfold vx_no; rw [decide_eq_true e1, decide_eq_true e2, decide_eq_true e3, decide_eq_true e4]; rfl⟩)
/-- where a static field lies, its class's statics cell in H -/
def vx_L (C n d : String) (A : Nat → Prop) (U : State) (H : Heap) : Prop := ∃ (c : ClassId) (k : Class) (i : Nat) (f : Field) (a : Nat) (cell : Cell), U.vm.findClass C = some c ∧ U.fieldFound? C n d = some (c, k, i, f) ∧ f.isStatic = true ∧ k.statics = some a ∧ H[a]? = some cell ∧ cell.vm.isStatics = true ∧ cell.cls = c ∧ f.slot < cell.slots.size ∧ k.staticTypes[f.slot]? = some f.type ∧ ¬ A a
theorem vx_L.moved {C n d : String} {A : Nat → Prop} {u U : State} {H : Heap} (hvm : u.vm.Alike U.vm) (h : vx_L C n d A u H) : vx_L C n d A U H := by
  obtain ⟨c, k, i, f, a, cell, h1, h2, h3, h4, h5, h6, h7, h8, h9, h10⟩ := h
  obtain ⟨k', hi', he⟩ := State.fieldFound?_setVm hvm h2
  exact ⟨c, k', i, f, a, cell, by rw [hvm.findClass]; exact h1, hi', h3, by rw [he]; exact h4, h5, h6, h7, h8, by rw [he]; exact h9, h10⟩
theorem vx_L.kept {C n d : String} {A : Nat → Prop} {U : State} {H H1 : Heap} (h : vx_L C n d A U H) (hq : ∀ a : Nat, a < H.size → ¬ A a → H1[a]? = H[a]?) : vx_L C n d A U H1 := by
  obtain ⟨c, k, i, f, a, cell, h1, h2, h3, h4, h5, h6, h7, h8, h9, h10⟩ := h
  exact ⟨c, k, i, f, a, cell, h1, h2, h3, h4, by rw [hq a (Array.getElem?_eq_some_iff.mp h5).1 h10]; exact h5, h6, h7, h8, h9, h10⟩
theorem vx_L.narrow {C n d : String} {A B : Nat → Prop} {U : State} {H : Heap} (h : vx_L C n d A U H) (hAB : ∀ q, B q → A q) : vx_L C n d B U H := by
  obtain ⟨c, k, i, f, a, cell, h1, h2, h3, h4, h5, h6, h7, h8, h9, h10⟩ := h
  exact ⟨c, k, i, f, a, cell, h1, h2, h3, h4, h5, h6, h7, h8, h9, fun z => h10 (hAB _ z)⟩
theorem vx_L.word {C n d : String} {A : Nat → Prop} {s : State} {args : Array Value} (h : vx_L C n d A s s.heap) : (Cond.laysStatic C n d).before args s = true := by
  obtain ⟨c, k, i, f, a, cell, h1, h2, h3, h4, h5, h6, h7, h8, h9, -⟩ := h
  show (Cond.laysStatic C n d).holds args s none s [] = true
  exact Cond.laysStatic_of h1 h2 h3 h4 h5 h6 h7 h8 h9
/-- .. and what it holds: null or some reference -/
def vx_Zq (C n d : String) (A : Nat → Prop) (U : State) (H : Heap) : Prop := va_Zq C n d A U H ∧ vx_L C n d A U H
theorem vx_Zq.moved {C n d : String} {A : Nat → Prop} {u U : State} {H : Heap} (hvm : u.vm.Alike U.vm) (h : vx_Zq C n d A u H) : vx_Zq C n d A U H := ⟨va_Zq.moved hvm h.1, vx_L.moved hvm h.2⟩
theorem vx_Zq.kept {C n d : String} {A : Nat → Prop} {U : State} {H H1 : Heap} (h : vx_Zq C n d A U H) (hq : ∀ a : Nat, a < H.size → ¬ A a → H1[a]? = H[a]?) : vx_Zq C n d A U H1 := ⟨va_Zq.kept h.1 hq, vx_L.kept h.2 hq⟩
theorem vx_Zq.narrow {C n d : String} {A B : Nat → Prop} {U : State} {H : Heap} (h : vx_Zq C n d A U H) (hAB : ∀ q, B q → A q) : vx_Zq C n d B U H := ⟨va_Zq.narrow h.1 hAB, vx_L.narrow h.2 hAB⟩
theorem vx_Zqof {args : Array Value} {s : State} {C n d : String} {A : Nat → Prop} (hl : (Cond.laysStatic C n d).before args s = true) (hini : (Cond.initialized C).before args s = true) (h : (Cond.isRef (.static C n d)).before args s = true) (hA : ∀ a : Nat, a < s.heap.size → ¬ A a) : vx_Zq C n d A s s.heap := by
  refine ⟨va_Zqof hl hini h hA, ?_⟩
  obtain ⟨c, k, i, f, a, cell, h1, h2, h3, h4, h5, h6, h7, h8, h9⟩ := Cond.laysStatic_spec hl
  exact ⟨c, k, i, f, a, cell, h1, h2, h3, h4, h5, h6, h7, h8, h9, hA a (Array.getElem?_eq_some_iff.mp h5).1⟩
theorem vx_isRef {C n d : String} {v : Value} {A : Nat → Prop} {s : State} {args : Array Value} (h : va_Z C n d v A s s.heap) (hv : v.isRef = true) : (Cond.isRef (.static C n d)).before args s = true := by
  obtain ⟨cf, kf, fi, f, a, cell, h1, h2, h3, h4, h5, h6, h7, -⟩ := h
  have he : (Term.static C n d).eval args s none [] s = some v := by
    simp [Term.eval, State.fieldNamed?, h1, h2, h4, h5, h6, h7]
  simp only [Cond.before, Cond.holds, Cond.value, he]
  cases v <;> simp_all [Value.isRef]
theorem vx_isRefq {C n d : String} {A : Nat → Prop} {s : State} {args : Array Value} (h : va_Zq C n d A s s.heap) : (Cond.isRef (.static C n d)).before args s = true := by
  rcases h with h | ⟨t, h⟩
  · exact vx_isRef h rfl
  · exact vx_isRef h rfl
/-- the same frame, seen from here: as if the method were called anew in this heap -/
theorem vx_rebase {T : State} (X : Stand p l e R s m args below meth c T locs cells slots) {R' : Room} (hf : R'.frames ≤ R.frames) (hl : R'.locals ≤ R.locals) (hc : cells + R'.cells ≤ R.cells) (hs : slots + R'.slots ≤ R.slots) :
    Stand p l e R' ((T.setVm s.vm).setFrames (.invoking m args :: below)) m args below meth c T [] 0 0 := by
  have htop : (T.setVm s.vm).topJava?.isSome := X.here.top
  have hF : ((T.setVm s.vm).setFrames (.invoking m args :: below)).frames = .invoking m args :: below := State.frames_setFrames _ (State.cur_lt_of_top htop)
  obtain ⟨g₀, hg0⟩ := Option.isSome_iff_exists.mp htop
  obtain ⟨r, hr⟩ := State.topJava?_eq_some.mp hg0
  have hl9 : e.platform.stackLimits (T.setVm s.vm).me = e.platform.stackLimits s.me := X.limits
  have hb9 : (T.setVm s.vm).me.stackBytes = s.me.stackBytes := X.bytes
  refine ⟨X.admits, X.cas, X.clock, hF, ?_, X.hears, X.method, X.code, X.here, X.tail, X.warmed, ?_, ?_, ?_⟩
  · have h := X.room
    have hU : ((T.setVm s.vm).setFrames (.invoking m args :: below)).localsInUse = s.localsInUse := by
      rw [State.localsInUse_invoking hF (meth := meth) (c := c) X.method X.code, State.localsInUse_invoking X.frames X.method X.code]
    simp only [State.hasRoom, Bool.and_eq_true, decide_eq_true_eq] at h ⊢
    obtain ⟨⟨⟨⟨h1, h2, h3, h4, h5, h6⟩, h7⟩, h8⟩, h9⟩ := h
    rw [X.frames, List.length_cons] at h2 h3
    have q1 := X.heapSize
    have q2 := X.used
    simp only [hF, hU, List.length_cons, State.stackLimits_setFrames, State.stackBytes_setFrames, hl9, hb9]
    refine ⟨⟨⟨⟨by omega, by omega, by omega, by omega, by omega, h6⟩, ?_⟩, ?_⟩, X.book⟩
    · show T.heap.size + R'.cells ≤ e.platform.maxCells
      omega
    · show T.slotsUsed + R'.slots ≤ e.platform.maxSlots
      omega
  · rw [State.stackLimits_setFrames]; rfl
  · rw [State.stackBytes_setFrames]; rfl
  · refine ⟨?_, Nat.le_refl _, Nat.le_refl _, ?_, ?_, fun a c9 h9 => ⟨c9, h9, rfl, rfl, fun _ _ => rfl⟩⟩
    · obtain ⟨t, ht, -⟩ := State.frames_cons hr
      show T.setVm s.vm = { ((T.setVm s.vm).setFrames (.invoking m args :: below)).setFrames (T.setVm s.vm).frames with heap := T.heap, slotsUsed := T.slotsUsed }
      rw [State.setFrames_setFrames, State.setFrames_self ht]
      rfl
    · show T.slotsUsed = T.slotsUsed + ((T.heap.toList.drop T.heap.size).map (·.slots.size)).sum
      rw [List.drop_eq_nil_of_le (Nat.le_of_eq Array.length_toList)]
      rfl
    · show ((T.heap.toList.drop T.heap.size).map (·.slots.size)).sum ≤ 0
      rw [List.drop_eq_nil_of_le (Nat.le_of_eq Array.length_toList)]
      exact Nat.le_refl _
/-- 'throw new E()': new; dup; invokespecial; athrow -/
theorem vx_throw0 {cc : ByteArray} {pc : Nat} (hexec : p.tables.exec = Jvm.exec) (hb : c.code = cc) (hl : l.stackTraces = false) {own cls : String} {names : List String} {ik ic mc ms : Nat} {A : Nat → Prop}
    (hown : s.vm.findClass own = some m.cls) (hcls : Bundle.fit cls = true) (hnames : ∀ n ∈ names, Bundle.fit n = true)
    (hk : (Cond.classLink own ik cls).before args s = true) (hini : (Cond.initialized cls).before args s = true) (hat : ∀ w ∈ vx_at0 own ic cls names, w.before args s = true)
    (hgood : ∀ w ∈ Cond.classLink own ik cls :: Cond.initialized cls :: vx_at0 own ic cls names, vx_ot w = true)
    (hU : vx_Zq Bundle.tN "UNASSIGNED_STACK" Bundle.steD A s s.heap) (hN : vx_Zq Bundle.tN "SUPPRESSED_SENTINEL" Bundle.listD A s s.heap) (hS : va_S A s.heap H locs) (hsize : ls.size = c.maxLocals)
    (d0 : decode cc pc = .ok (.new ik, 3)) (d3 : decode cc (pc + 3) = .ok (.dup, 1)) (d4 : decode cc (pc + 4) = .ok (.invokespecial ic, 3)) (d7 : decode cc (pc + 7) = .ok (.athrow, 1))
    (hout : ∀ x ∈ c.exceptionTable.toList, covers x (pc + 7) = false)
    (hRframes : names.length + 3 < R.frames) (hRlocals : (rest.map fun v => v.category).sum + (13 * (names.length + 1) + 42) ≤ R.locals) (hRcells : cells + 1 ≤ R.cells) (hRslots : slots + 6 ≤ R.slots) (hlocks : meth.locks = false)
    (hx : ∀ t : State, s.vm.Alike t.vm → H.size ≤ t.heap.size → (∀ q : Nat, q < H.size → t.heap[q]? = H[q]?) → XC cls s t)
    (hf : ∀ z ∈ locs, free z.base) (hc : cells + 1 ≤ mc) (hs : slots + 6 ≤ ms) :
    W p l e R s m args below meth c H locs cells slots (vx_MQ below Qc XC args s mc ms free) (F0 m pc ls rest) := by
  intro T hT X
  have htr : e.platform.stackTraces = false := (show e.platform.stackTraces = l.stackTraces by rw [X.admits.platform]).trans hl
  have Y := vx_rebase X (R' := { frames := R.frames, locals := R.locals, cells := 1, slots := 6 }) (Nat.le_refl _) (Nat.le_refl _) hRcells hRslots
  obtain ⟨s', hA⟩ : ∃ z, z = (T.setVm s.vm).setFrames (.invoking m args :: below) := ⟨_, rfl⟩
  rw [← hA] at Y
  have hvm : s'.vm = s.vm := by rw [hA]; rfl
  have hhp : s'.heap = H := by rw [hA]; exact hT
  have hW0 : s.WarmedH s'.vm := by rw [hvm]; exact State.WarmedH.refl s
  have hat' : ∀ w ∈ vx_at0 own ic cls names, w.before args s' = true := fun w hw => vx_ot_at hW0 hvm.symm (hgood w (List.mem_cons_of_mem _ (List.mem_cons_of_mem _ hw))) (hat w hw)
  have hk' : (Cond.classLink own ik cls).before args s' = true := vx_ot_at hW0 hvm.symm (hgood _ List.mem_cons_self) hk
  have hini' : (Cond.initialized cls).before args s' = true := vx_ot_at hW0 hvm.symm (hgood _ (List.mem_cons_of_mem _ List.mem_cons_self)) hini
  have hU' : vx_Zq Bundle.tN "UNASSIGNED_STACK" Bundle.steD A s' s'.heap := by rw [hhp]; exact vx_Zq.moved hW0.alike (hU.kept hS.2.1)
  have hN' : vx_Zq Bundle.tN "SUPPRESSED_SENTINEL" Bundle.listD A s' s'.heap := by rw [hhp]; exact vx_Zq.moved hW0.alike (hN.kept hS.2.1)
  have h : ∀ w ∈ Bundle.ownAtoms0 own ic cls names, w.before args s' = true := vx_own hat' (vx_isRefq hU'.1) (vx_isRefq hN'.1) hU'.2.word hN'.2.word
  have hown' : s'.vm.findClass own = some m.cls := by rw [hvm]; exact hown
  have hins : (Cond.instantiable cls 6).before args s' = true := h _ (by simp [Bundle.ownAtoms0])
  obtain ⟨vm₁, cX, kX, hfX, hkX, -, -, X₁, st1⟩ := Y.newCold hexec (own := own) (C := cls) (index := ik) (n := 6) hown' hk' hins hini'
    (g := F0 m pc ls rest) rfl (by rw [hb]; exact d0) (Nat.le_refl _) (Nat.le_refl _)
  generalize hT1 : (T.setVm vm₁).pushCell { cls := cX, slots := kX.instanceTypes.map defaultValue, vm := .none } = T1 at X₁ st1
  have hcat : (Value.ref T.heap.size).category = 1 := rfl
  have hcellA : T1.heap[T.heap.size]? = some (freshCell cX kX) := by rw [← hT1]; exact State.heap_pushCell_size _ _
  have d3' : decode c.code (pc + 3) = .ok (.dup, 1) := by rw [hb]; exact d3
  obtain ⟨U, hsteps, hrun, hend, hW, hsame, ce, hce, hO⟩ := X₁.ctorThrow0 hexec htr (own := own) (cls := cls) (names := names) (ic := ic) hown' hcls hnames h (fun x hx => nomatch hx) hfX hkX hcellA (by rw [hhp, hT]; exact Nat.le_refl _)
    (g := { method := m, pc := pc + 4, locals := ls, stack := .ref T.heap.size :: .ref T.heap.size :: rest, locked := none }) rfl hsize rfl rfl (rest := rest) rfl
    (by rw [hb]; exact d4) (by rw [hb]; exact d7) hout hRframes (by simp only [List.map_cons, List.sum_cons, hcat]; omega) hlocks
  obtain ⟨f1, f2⟩ := vx_frame hsame
  rw [hhp] at f1 f2
  have hWs : s.WarmedH U.vm := State.WarmedH.trans hW0 hW
  have hcl : s.vm.findClass cls = some ce.cls := by
    have h9 := hO.cls
    rw [hvm] at h9
    exact h9
  have hall : s.sameButNew ({ U with vm := s.vm } : State) locs mc ms := by
    subst hA
    obtain ⟨e1, e2⟩ := hsame
    rw [State.setFrames_setFrames] at e1
    have h2 : (T.setVm s.vm).sameButNew ({ U with vm := s.vm } : State) [] (0 + 1) (0 + 6) := ⟨e1, e2⟩
    have h3 := X.same.trans h2
    rw [List.append_nil] at h3
    exact h3.mono hc hs
  refine ⟨U, ?_, .threw T.heap.size, hrun, hend, Or.inr ⟨T.heap.size, rfl, cls, ce, locs, hx U hWs.alike f1 (fun q hq => f2 q hq (fun z hz => nomatch hz)), hce, hO.vm, hcl, hWs, hall, hf⟩⟩
  refine st1 _ ?_
  show Steps p.tables e below (T1.setTop { method := m, pc := pc + 3, locals := ls, stack := .ref T.heap.size :: rest, locked := none }) _
  jvm_step X₁.here [X₁.here.top, hexec, d3', Value.category]
  exact hsteps
/-- 'throw new E("text")': new; dup; ldc; invokespecial; athrow -/
theorem vx_throwS {cc : ByteArray} {pc : Nat} (hexec : p.tables.exec = Jvm.exec) (hb : c.code = cc) (hl : l.stackTraces = false) {own cls text : String} {names : List String} {ik is ic mc ms sa : Nat} {A : Nat → Prop}
    (hown : s.vm.findClass own = some m.cls) (hcls : Bundle.fit cls = true) (hnames : ∀ n ∈ names, Bundle.fit n = true)
    (hk : (Cond.classLink own ik cls).before args s = true) (hini : (Cond.initialized cls).before args s = true) (hstr : vk_R own is text sa s) (hat : ∀ w ∈ vx_atS own ic cls names, w.before args s = true)
    (hgood : ∀ w ∈ Cond.classLink own ik cls :: Cond.initialized cls :: vx_atS own ic cls names, vx_ot w = true)
    (hU : vx_Zq Bundle.tN "UNASSIGNED_STACK" Bundle.steD A s s.heap) (hN : vx_Zq Bundle.tN "SUPPRESSED_SENTINEL" Bundle.listD A s s.heap) (hS : va_S A s.heap H locs) (hsize : ls.size = c.maxLocals)
    (d0 : decode cc pc = .ok (.new ik, 3)) (d3 : decode cc (pc + 3) = .ok (.dup, 1)) (d4 : decode cc (pc + 4) = .ok (.ldc is, 2)) (d6 : decode cc (pc + 6) = .ok (.invokespecial ic, 3)) (d9 : decode cc (pc + 9) = .ok (.athrow, 1))
    (hout : ∀ x ∈ c.exceptionTable.toList, covers x (pc + 9) = false)
    (hRframes : names.length + 3 < R.frames) (hRlocals : (rest.map fun v => v.category).sum + (13 * (names.length + 1) + 43) ≤ R.locals) (hRcells : cells + 1 ≤ R.cells) (hRslots : slots + 6 ≤ R.slots) (hlocks : meth.locks = false)
    (hx : ∀ t : State, s.vm.Alike t.vm → H.size ≤ t.heap.size → (∀ q : Nat, q < H.size → t.heap[q]? = H[q]?) → XC cls s t)
    (hf : ∀ z ∈ locs, free z.base) (hc : cells + 1 ≤ mc) (hs : slots + 6 ≤ ms) :
    W p l e R s m args below meth c H locs cells slots (vx_MQ below Qc XC args s mc ms free) (F0 m pc ls rest) := by
  intro T hT X
  have htr : e.platform.stackTraces = false := (show e.platform.stackTraces = l.stackTraces by rw [X.admits.platform]).trans hl
  have Y := vx_rebase X (R' := { frames := R.frames, locals := R.locals, cells := 1, slots := 6 }) (Nat.le_refl _) (Nat.le_refl _) hRcells hRslots
  obtain ⟨s', hA⟩ : ∃ z, z = (T.setVm s.vm).setFrames (.invoking m args :: below) := ⟨_, rfl⟩
  rw [← hA] at Y
  have hvm : s'.vm = s.vm := by rw [hA]; rfl
  have hhp : s'.heap = H := by rw [hA]; exact hT
  have hW0 : s.WarmedH s'.vm := by rw [hvm]; exact State.WarmedH.refl s
  have hat' : ∀ w ∈ vx_atS own ic cls names, w.before args s' = true := fun w hw => vx_ot_at hW0 hvm.symm (hgood w (List.mem_cons_of_mem _ (List.mem_cons_of_mem _ hw))) (hat w hw)
  have hk' : (Cond.classLink own ik cls).before args s' = true := vx_ot_at hW0 hvm.symm (hgood _ List.mem_cons_self) hk
  have hini' : (Cond.initialized cls).before args s' = true := vx_ot_at hW0 hvm.symm (hgood _ (List.mem_cons_of_mem _ List.mem_cons_self)) hini
  have hU' : vx_Zq Bundle.tN "UNASSIGNED_STACK" Bundle.steD A s' s'.heap := by rw [hhp]; exact vx_Zq.moved hW0.alike (hU.kept hS.2.1)
  have hN' : vx_Zq Bundle.tN "SUPPRESSED_SENTINEL" Bundle.listD A s' s'.heap := by rw [hhp]; exact vx_Zq.moved hW0.alike (hN.kept hS.2.1)
  have h : ∀ w ∈ Bundle.ownAtoms own ic cls names, w.before args s' = true := vx_own hat' (vx_isRefq hU'.1) (vx_isRefq hN'.1) hU'.2.word hN'.2.word
  have hown' : s'.vm.findClass own = some m.cls := by rw [hvm]; exact hown
  have hins : (Cond.instantiable cls 6).before args s' = true := h _ (by simp [Bundle.ownAtoms])
  obtain ⟨vm₁, cX, kX, hfX, hkX, -, -, X₁, st1⟩ := Y.newCold hexec (own := own) (C := cls) (index := ik) (n := 6) hown' hk' hins hini'
    (g := F0 m pc ls rest) rfl (by rw [hb]; exact d0) (Nat.le_refl _) (Nat.le_refl _)
  generalize hT1 : (T.setVm vm₁).pushCell { cls := cX, slots := kX.instanceTypes.map defaultValue, vm := .none } = T1 at X₁ st1
  have hcat : (Value.ref T.heap.size).category = 1 := rfl
  have hcellA : T1.heap[T.heap.size]? = some (freshCell cX kX) := by rw [← hT1]; exact State.heap_pushCell_size _ _
  have d3' : decode c.code (pc + 3) = .ok (.dup, 1) := by rw [hb]; exact d3
  have d4' : decode c.code (pc + 4) = .ok (.ldc is, 2) := by rw [hb]; exact d4
  have hstr' : vk_R own is text sa s' := vk_R.warm hW0 hstr
  obtain ⟨U, hsteps, hrun, hend, hW, hsame, ce, hce, hO⟩ := X₁.ctorThrowS hexec htr (own := own) (cls := cls) (names := names) (ic := ic) hown' hcls hnames h (fun x hx => nomatch hx) hfX hkX hcellA (by rw [hhp, hT]; exact Nat.le_refl _) (msg := .ref sa) rfl
    (g := { method := m, pc := pc + 6, locals := ls, stack := .ref sa :: .ref T.heap.size :: .ref T.heap.size :: rest, locked := none }) rfl hsize rfl rfl (rest := rest) rfl
    (by rw [hb]; exact d6) (by rw [hb]; exact d9) hout hRframes (by simp only [List.map_cons, List.sum_cons, hcat]; omega) hlocks
  obtain ⟨f1, f2⟩ := vx_frame hsame
  rw [hhp] at f1 f2
  have hWs : s.WarmedH U.vm := State.WarmedH.trans hW0 hW
  have hcl : s.vm.findClass cls = some ce.cls := by
    have h9 := hO.cls
    rw [hvm] at h9
    exact h9
  have hall : s.sameButNew ({ U with vm := s.vm } : State) locs mc ms := by
    subst hA
    obtain ⟨e1, e2⟩ := hsame
    rw [State.setFrames_setFrames] at e1
    have h2 : (T.setVm s.vm).sameButNew ({ U with vm := s.vm } : State) [] (0 + 1) (0 + 6) := ⟨e1, e2⟩
    have h3 := X.same.trans h2
    rw [List.append_nil] at h3
    exact h3.mono hc hs
  refine ⟨U, ?_, .threw T.heap.size, hrun, hend, Or.inr ⟨T.heap.size, rfl, cls, ce, locs, hx U hWs.alike f1 (fun q hq => f2 q hq (fun z hz => nomatch hz)), hce, hO.vm, hcl, hWs, hall, hf⟩⟩
  refine st1 _ ?_
  show Steps p.tables e below (T1.setTop { method := m, pc := pc + 3, locals := ls, stack := .ref T.heap.size :: rest, locked := none }) _
  jvm_step X₁.here [X₁.here.top, hexec, d3', Value.category]
  exact X₁.ldcString hexec (own := own) (text := text) (index := is) (a := sa) hown' hstr'.1 hstr'.2
    (g := { method := m, pc := pc + 4, locals := ls, stack := .ref T.heap.size :: .ref T.heap.size :: rest, locked := none }) rfl d4' _ hsteps
/-- 'throw new E("text")', the text by a wide index -/
theorem vx_throwSW {cc : ByteArray} {pc : Nat} (hexec : p.tables.exec = Jvm.exec) (hb : c.code = cc) (hl : l.stackTraces = false) {own cls text : String} {names : List String} {ik is ic mc ms sa : Nat} {A : Nat → Prop}
    (hown : s.vm.findClass own = some m.cls) (hcls : Bundle.fit cls = true) (hnames : ∀ n ∈ names, Bundle.fit n = true)
    (hk : (Cond.classLink own ik cls).before args s = true) (hini : (Cond.initialized cls).before args s = true) (hstr : vk_R own is text sa s) (hat : ∀ w ∈ vx_atS own ic cls names, w.before args s = true)
    (hgood : ∀ w ∈ Cond.classLink own ik cls :: Cond.initialized cls :: vx_atS own ic cls names, vx_ot w = true)
    (hU : vx_Zq Bundle.tN "UNASSIGNED_STACK" Bundle.steD A s s.heap) (hN : vx_Zq Bundle.tN "SUPPRESSED_SENTINEL" Bundle.listD A s s.heap) (hS : va_S A s.heap H locs) (hsize : ls.size = c.maxLocals)
    (d0 : decode cc pc = .ok (.new ik, 3)) (d3 : decode cc (pc + 3) = .ok (.dup, 1)) (d4 : decode cc (pc + 4) = .ok (.ldc_w is, 3)) (d7 : decode cc (pc + 7) = .ok (.invokespecial ic, 3)) (d10 : decode cc (pc + 10) = .ok (.athrow, 1))
    (hout : ∀ x ∈ c.exceptionTable.toList, covers x (pc + 10) = false)
    (hRframes : names.length + 3 < R.frames) (hRlocals : (rest.map fun v => v.category).sum + (13 * (names.length + 1) + 43) ≤ R.locals) (hRcells : cells + 1 ≤ R.cells) (hRslots : slots + 6 ≤ R.slots) (hlocks : meth.locks = false)
    (hx : ∀ t : State, s.vm.Alike t.vm → H.size ≤ t.heap.size → (∀ q : Nat, q < H.size → t.heap[q]? = H[q]?) → XC cls s t)
    (hf : ∀ z ∈ locs, free z.base) (hc : cells + 1 ≤ mc) (hs : slots + 6 ≤ ms) :
    W p l e R s m args below meth c H locs cells slots (vx_MQ below Qc XC args s mc ms free) (F0 m pc ls rest) := by
  intro T hT X
  have htr : e.platform.stackTraces = false := (show e.platform.stackTraces = l.stackTraces by rw [X.admits.platform]).trans hl
  have Y := vx_rebase X (R' := { frames := R.frames, locals := R.locals, cells := 1, slots := 6 }) (Nat.le_refl _) (Nat.le_refl _) hRcells hRslots
  obtain ⟨s', hA⟩ : ∃ z, z = (T.setVm s.vm).setFrames (.invoking m args :: below) := ⟨_, rfl⟩
  rw [← hA] at Y
  have hvm : s'.vm = s.vm := by rw [hA]; rfl
  have hhp : s'.heap = H := by rw [hA]; exact hT
  have hW0 : s.WarmedH s'.vm := by rw [hvm]; exact State.WarmedH.refl s
  have hat' : ∀ w ∈ vx_atS own ic cls names, w.before args s' = true := fun w hw => vx_ot_at hW0 hvm.symm (hgood w (List.mem_cons_of_mem _ (List.mem_cons_of_mem _ hw))) (hat w hw)
  have hk' : (Cond.classLink own ik cls).before args s' = true := vx_ot_at hW0 hvm.symm (hgood _ List.mem_cons_self) hk
  have hini' : (Cond.initialized cls).before args s' = true := vx_ot_at hW0 hvm.symm (hgood _ (List.mem_cons_of_mem _ List.mem_cons_self)) hini
  have hU' : vx_Zq Bundle.tN "UNASSIGNED_STACK" Bundle.steD A s' s'.heap := by rw [hhp]; exact vx_Zq.moved hW0.alike (hU.kept hS.2.1)
  have hN' : vx_Zq Bundle.tN "SUPPRESSED_SENTINEL" Bundle.listD A s' s'.heap := by rw [hhp]; exact vx_Zq.moved hW0.alike (hN.kept hS.2.1)
  have h : ∀ w ∈ Bundle.ownAtoms own ic cls names, w.before args s' = true := vx_own hat' (vx_isRefq hU'.1) (vx_isRefq hN'.1) hU'.2.word hN'.2.word
  have hown' : s'.vm.findClass own = some m.cls := by rw [hvm]; exact hown
  have hins : (Cond.instantiable cls 6).before args s' = true := h _ (by simp [Bundle.ownAtoms])
  obtain ⟨vm₁, cX, kX, hfX, hkX, -, -, X₁, st1⟩ := Y.newCold hexec (own := own) (C := cls) (index := ik) (n := 6) hown' hk' hins hini'
    (g := F0 m pc ls rest) rfl (by rw [hb]; exact d0) (Nat.le_refl _) (Nat.le_refl _)
  generalize hT1 : (T.setVm vm₁).pushCell { cls := cX, slots := kX.instanceTypes.map defaultValue, vm := .none } = T1 at X₁ st1
  have hcat : (Value.ref T.heap.size).category = 1 := rfl
  have hcellA : T1.heap[T.heap.size]? = some (freshCell cX kX) := by rw [← hT1]; exact State.heap_pushCell_size _ _
  have d3' : decode c.code (pc + 3) = .ok (.dup, 1) := by rw [hb]; exact d3
  have d4' : decode c.code (pc + 4) = .ok (.ldc_w is, 3) := by rw [hb]; exact d4
  have hstr' : vk_R own is text sa s' := vk_R.warm hW0 hstr
  obtain ⟨U, hsteps, hrun, hend, hW, hsame, ce, hce, hO⟩ := X₁.ctorThrowS hexec htr (own := own) (cls := cls) (names := names) (ic := ic) hown' hcls hnames h (fun x hx => nomatch hx) hfX hkX hcellA (by rw [hhp, hT]; exact Nat.le_refl _) (msg := .ref sa) rfl
    (g := { method := m, pc := pc + 7, locals := ls, stack := .ref sa :: .ref T.heap.size :: .ref T.heap.size :: rest, locked := none }) rfl hsize rfl rfl (rest := rest) rfl
    (by rw [hb]; exact d7) (by rw [hb]; exact d10) hout hRframes (by simp only [List.map_cons, List.sum_cons, hcat]; omega) hlocks
  obtain ⟨f1, f2⟩ := vx_frame hsame
  rw [hhp] at f1 f2
  have hWs : s.WarmedH U.vm := State.WarmedH.trans hW0 hW
  have hcl : s.vm.findClass cls = some ce.cls := by
    have h9 := hO.cls
    rw [hvm] at h9
    exact h9
  have hall : s.sameButNew ({ U with vm := s.vm } : State) locs mc ms := by
    subst hA
    obtain ⟨e1, e2⟩ := hsame
    rw [State.setFrames_setFrames] at e1
    have h2 : (T.setVm s.vm).sameButNew ({ U with vm := s.vm } : State) [] (0 + 1) (0 + 6) := ⟨e1, e2⟩
    have h3 := X.same.trans h2
    rw [List.append_nil] at h3
    exact h3.mono hc hs
  refine ⟨U, ?_, .threw T.heap.size, hrun, hend, Or.inr ⟨T.heap.size, rfl, cls, ce, locs, hx U hWs.alike f1 (fun q hq => f2 q hq (fun z hz => nomatch hz)), hce, hO.vm, hcl, hWs, hall, hf⟩⟩
  refine st1 _ ?_
  show Steps p.tables e below (T1.setTop { method := m, pc := pc + 3, locals := ls, stack := .ref T.heap.size :: rest, locked := none }) _
  jvm_step X₁.here [X₁.here.top, hexec, d3', Value.category]
  exact X₁.ldcStringW hexec (own := own) (text := text) (index := is) (a := sa) hown' hstr'.1 hstr'.2
    (g := { method := m, pc := pc + 4, locals := ls, stack := .ref T.heap.size :: .ref T.heap.size :: rest, locked := none }) rfl d4' _ hsteps
end Ends
section Bodies
variable {l : Launch}
theorem vx_ofW {y : MethodName} {ws ws' : List Cond} {rm : Room} {Pc : Array Value → State → Prop} {Qc : Array Value → State → Outcome → State → Prop} {XC : String → State → State → Prop} {mc ms : Nat} {free : Addr → Prop} {cc : ByteArray} {maxL : Nat} {ret : Option FieldType}
    (hy : plainName y.cls = true) (hw : ws = Cond.code y cc maxL ret :: ws')
    (body : ∀ p e s m args below meth c s₁, BodyLoose p l y (headSpec ws rm) cc maxL ret e s m args below meth c s₁ → c.maxLocals = maxL → (∀ x ∈ c.exceptionTable.toList, False) → Pc args s →
      W p l e (headSpec ws rm).room s m args below meth c s.heap [] 0 0 (vx_MQ below Qc XC args s mc ms free) (entryFrame m args maxL)) : vx_Met l y ws rm Pc Qc XC mc ms free := by
  refine MetFree.of_bodyS (code := cc) (maxLocals := maxL) (ret := ret) hy ?_ ?_
  · intro args s m h hn
    obtain ⟨meth, c, h1, h2, h3, h4, h5, h6, -, -⟩ := Cond.code_spec hn (atoms_spec (ws := ws) h _ (by rw [hw]; exact List.mem_cons_self))
    exact ⟨meth, c, h1, h2, h3, h4, h5, h6⟩
  · intro p e s m args below meth c s₁ B hml hP _
    have hh0 : s₁.heap = s.heap := by rw [B.state]; rfl
    have ht : ∀ x ∈ c.exceptionTable.toList, False := by
      obtain ⟨meth9, c9, h1, h2, -, -, -, -, h7, -⟩ := Cond.code_spec B.named (atoms_spec (ws := ws) B.pre _ (by rw [hw]; exact List.mem_cons_self))
      cases Option.some.inj (h1.symm.trans B.method)
      cases Option.some.inj (h2.symm.trans (Stand.of_body B).code)
      intro x hx
      rw [Array.isEmpty_iff.mp h7] at hx
      cases hx
    obtain ⟨t, a1, o, b1, b2, b3⟩ := body p e s m args below meth c s₁ B hml ht hP s₁ hh0 (Stand.of_body B)
    exact ⟨t, o, a1, b1, b2, b3⟩
/-- the table of a body with handlers -/
theorem vx_table {p : Program} {x y : MethodName} {S : Spec} {cc bytes : ByteArray} {maxL maxL' : Nat} {ret ret' : Option FieldType} {e : Env} {s s₁ : State} {m : MethodId} {args : Array Value} {below : List Frame} {meth : Method} {c : Code} {hh : List (Nat × Nat × Nat × Nat)}
    (B : BodyLoose p l y S cc maxL ret e s m args below meth c s₁) (h : (Cond.codeWith y bytes maxL' ret' hh).before args s = true) : c.exceptionTable.toList = tableOf hh := by
  obtain ⟨m9, meth9, c9, hn9, h1, h2, -, -, h6, -⟩ := Cond.codeWith_spec h
  cases Option.some.inj (hn9.symm.trans B.named)
  cases Option.some.inj (h1.symm.trans B.method)
  cases Option.some.inj (h2.symm.trans (Stand.of_body B).code)
  rw [← h6, table_eq]
end Bodies
end VXA
/-! ===== END ===== -/
/-! ===== BEGIN a static call of a method with an exception table ===== -/
section VXS
variable {p : Program} {l : Launch} {e : Env} {R : Room} {s : State} {m : MethodId} {args : Array Value} {below : List Frame} {meth : Method} {c : Code} {T : State} {H : Heap} {locs : List Loc} {cells slots : Nat}
abbrev vx_CSW (R : Room) (s : State) (args : Array Value) (own : String) (index : Nat) (y : MethodName) (bytes : ByteArray) (maxL : Nat) (ret : Option FieldType) (hh : List (Nat × Nat × Nat × Nat)) (ws : List Cond) (rm : Room) (mc ms n : Nat) : Prop :=
  (rm.cells = mc ∧ rm.slots = ms ∧ rm.frames + 1 ≤ R.frames ∧ 8 + (maxL + 11) + rm.locals ≤ R.locals ∧ (∀ w ∈ ws, ∀ (a' : Array Value) (U : State), s.WarmedH U.vm → w.before a' U = true) ∧ Cond.codeWith y bytes maxL ret hh ∈ ws) ∧
  (Cond.codeWith y bytes maxL ret hh).before args s = true ∧ (Cond.initialized y.cls).before args s = true ∧ (y.cls ≠ "java/lang/invoke/MethodHandle" ∧ y.cls ≠ "java/lang/invoke/VarHandle") ∧
  (∀ sig, parseMethodDescriptor y.desc = some sig → n = sig.parameters.length) ∧ (Cond.methodLink own index y).before args s = true ∧ (Cond.static y).before args s = true
theorem vx_cwSW {own : String} {index maxL mc ms : Nat} {y : MethodName} {bytes : ByteArray} {ret : Option FieldType} {hh : List (Nat × Nat × Nat × Nat)} {Ts ws ws' : List Cond} {rm : Room} (n : Nat) (ht : ∀ w ∈ Ts, w.before args s = true) (hT : GoodIn Ts (va_wsS own index y ws)) (hw : ws = Cond.codeWith y bytes maxL ret hh :: ws') (hrc : rm.cells = mc) (hrs : rm.slots = ms)
    (hd : y.cls ≠ "java/lang/invoke/MethodHandle" ∧ y.cls ≠ "java/lang/invoke/VarHandle" ∧ (parseMethodDescriptor y.desc).map (fun d => d.parameters.length) = some n) (hR : rm.frames + 1 ≤ R.frames ∧ 8 + (maxL + 11) + rm.locals ≤ R.locals) :
    vx_CSW R s args own index y bytes maxL ret hh ws rm mc ms n := by
  have ok : ∀ w ∈ va_wsS own index y ws, w.before args s = true := fun w h => ht w (hT w h).1
  have hG : GoodIn Ts ws := fun w h => hT w (by unfold va_wsS; exact List.mem_append_right _ h)
  have hc : Cond.codeWith y bytes maxL ret hh ∈ ws := by rw [hw]; exact List.mem_cons_self
  refine ⟨⟨hrc, hrs, hR.1, hR.2, pay_in ht hG, hc⟩, ht _ (hG _ hc).1, ok _ (by simp [va_wsS]), ⟨hd.1, hd.2.1⟩, fun sig h => ?_, ok _ (by simp [va_wsS]), ok _ (by simp [va_wsS])⟩
  have h2 := hd.2.2
  rw [h] at h2
  exact (Option.some.inj h2).symm
theorem vx_callSW (X : Stand p l e R s m args below meth c T locs cells slots) (hexec : p.tables.exec = Jvm.exec) {own : String} {index : Nat} {y : MethodName} {bytes : ByteArray} {maxL : Nat} {ret : Option FieldType} {hh : List (Nat × Nat × Nat × Nat)}
    (hown : s.vm.findClass own = some m.cls) (hlink : (Cond.methodLink own index y).before args s = true) (hstat : (Cond.static y).before args s = true) (hinit : (Cond.initialized y.cls).before args s = true)
    (hcode : (Cond.codeWith y bytes maxL ret hh).before args s = true) (hy : y.cls ≠ "java/lang/invoke/MethodHandle" ∧ y.cls ≠ "java/lang/invoke/VarHandle")
    {W9 : Nat} {Pre : Pt → Array Value → Prop} {Post : Pt → Array Value → Option Value → Pt → Prop} (hK : Back l R p e below s args y 3 W9 Pre Post)
    {g : JFrame} (hg : g.method = m) (hsize : g.locals.size = c.maxLocals) {argsL rest : List Value} (hlen : ∀ sig, parseMethodDescriptor y.desc = some sig → argsL.length = sig.parameters.length)
    (hstack : g.stack = argsL.reverse ++ rest) (hW : 2 * g.monitorRoom + (rest.map fun v => v.category).sum ≤ W9) (hdg : decode c.code g.pc = .ok (.invokestatic index, 3))
    (hpre : ∀ vm₁, s.WarmedH vm₁ → Pre ⟨T.setVm vm₁, locs, cells, slots⟩ argsL.toArray) :
    ∃ (v : Option Value) (vm₁ : Vm) (B : Pt), s.WarmedH vm₁ ∧ Stand p l e R s m args below meth c B.U B.locs B.cells B.slots ∧ Post ⟨T.setVm vm₁, locs, cells, slots⟩ argsL.toArray v B ∧
      ∀ target, Steps p.tables e below (B.U.setTop { g with pc := g.pc + 3, stack := v.toList ++ rest }) target → Steps p.tables e below (T.setTop g) target := by
  obtain ⟨mk, methM, cM, hnamed, hmethM, -, -, -, -, -, -, hsigM⟩ := Cond.codeWith_spec hcode
  have hstatic : methM.isStatic = true := Cond.static_spec hnamed hmethM hstat
  obtain ⟨kP, hkP, -⟩ := className_of_methodNamed hnamed
  have hinitP : kP.init = .initialized := Cond.initialized_spec (findClass_of_methodNamed hnamed) hkP hinit
  obtain ⟨vm₁, X₁, hstep₁⟩ := X.invokestatic hexec hown hlink hnamed hmethM hstatic hkP hinitP hy (g := g) hg (argsL := argsL) (rest := rest) (hlen _ hsigM) hstack hdg
  obtain ⟨v, B, X', hpost, hsteps⟩ := hK m meth c ⟨T.setVm vm₁, locs, cells, slots⟩ { g with stack := rest } (.invokestatic index) mk argsL.toArray X₁ hg hsize hdg hW (X₁.named hnamed) (hpre vm₁ X₁.warmed)
  exact ⟨v, vm₁, B, X₁.warmed, X', hpost, fun target h => hstep₁ _ fun acts => by rw [doInvoke_state]; exact hsteps.trans h⟩
theorem vx_runSW {y : MethodName} {bytes cc : ByteArray} {maxL nL mc ms n index : Nat} {ret : Option FieldType} {hh : List (Nat × Nat × Nat × Nat)} {ws : List Cond} {rm : Room} {Pc : Array Value → State → Prop} {Qc : Array Value → State → Outcome → State → Prop} {free : Addr → Prop} {Ts : List Cond} {own : String} {As rest : List Value} {g : JFrame}
    (S : CallFix p m c cc nL s args Ts own) (hM : Met l y ws rm Pc Qc mc ms free) (cw : vx_CSW R s args own index y bytes maxL ret hh ws rm mc ms n) (hp : PreS s H Pc As)
    (hg : g.method = m) (hn : As.length = n) (hsize : g.locals.size = nL) (hstack : g.stack = As.reverse ++ rest) (hW : 2 * g.monitorRoom + (rest.map fun v => v.category).sum ≤ 8) (hdg : decode cc g.pc = .ok (.invokestatic index, 3)) (hf : cells + mc ≤ R.cells ∧ slots + ms ≤ R.slots) :
    va_Run p l e R s m args below meth c H locs cells slots mc ms g rest (Qc As.toArray) (free) := by
  obtain ⟨⟨hrc, hrs, hfr, hlo, hws, hcw⟩, hcode, hini, hy, hlen, hl, hstt⟩ := cw
  have hK : Back l R p e below s args y 3 8 (PreOf R mc ms Pc) (PostOf Qc mc ms free) := va_backW (hh := hh) (bytes := bytes) (maxL := maxL) (ret := ret) hM hp.1 hrc hrs hfr hlo hws hcw (fun a' U hW => word_at hW (Or.inl (by first | rfl | simp [Cond.onTables, Cond.keeps, Cond.steady])) hini)
  obtain ⟨hx, hb, hml, ho, -⟩ := S
  intro T hT X
  obtain ⟨v, vm₁, ⟨U', l2, c2, s2⟩, hW₁, X', ⟨g', mk, t, L, e1, e2, hq, h1, hL, h2, h3⟩, st⟩ := vx_callSW X hx (hh := hh) (bytes := bytes) (maxL := maxL) (ret := ret) ho hl hstt hini hcode hy hK hg (hsize.trans hml.symm) (argsL := As) (rest := rest) (fun sig h => hn.trans (hlen sig h)) hstack hW (by rw [hb]; exact hdg)
    (fun vm₁ hW₁ => ⟨hf.1, hf.2, hp.2 (T.setVm vm₁) hT hW₁⟩)
  dsimp only [Pt.U, Pt.locs, Pt.cells, Pt.slots] at X' e1 e2 h1 h2 h3 st
  subst h1; subst h2; subst h3
  exact ⟨v, (T.setVm vm₁).calling g' mk As.toArray, t, U', L, hT, X', hL, e1, e2, hq, st⟩
/-- not caught here, past rows that name other classes: it goes on to the caller -/
theorem vx_outP {p : Program} {l : Launch} {e : Env} {R : Room} {s : State} {m : MethodId} {args : Array Value} {below : List Frame} {meth : Method} {c : Code} {H : Heap} {locs : List Loc} {cells slots : Nat} {free : Addr → Prop} {ls : Array Slot} {rest : List Value} {Qc : Array Value → State → Outcome → State → Prop} {XC : String → State → State → Prop}
    {pc : Nat} {own E : String} {ce : Cell} {q : Addr} {mc ms : Nat} (hown : s.vm.findClass own = some m.cls) (hlocks : meth.locks = false)
    (hpass : ∀ z ∈ c.exceptionTable.toList, covers z pc = false ∨ (z.catchType ≠ 0 ∧ ∃ nm : String, (Cond.classLink own z.catchType nm).before args s = true ∧ va_Nc E nm s)) (hcell : H[q]? = some ce) (hv : ce.vm = .none) (hcl : s.vm.findClass E = some ce.cls)
    (hx : ∀ t : State, t.heap = H → s.vm.Alike t.vm → XC E s t) (hf : ∀ z ∈ locs, free z.base) (hc : cells ≤ mc) (hs : slots ≤ ms) :
    vx_W p l e R s m args below meth c H locs cells slots (vx_MQ below Qc XC args s mc ms free) (F0 m pc ls rest) q := by
  intro T hT X
  have hpl : e.platform.magicAccessors = ({} : Platform).magicAccessors := by rw [X.admits.platform]
  obtain ⟨vm', hW', X', st⟩ := X.outThrough hlocks q (g := F0 m pc ls rest) rfl rfl rfl (cell := ce) (by rw [hT]; exact hcell) (by rw [hv]; rfl)
    (by obtain ⟨k9, h9, -⟩ := Vm.findClass_spec hcl; exact ⟨k9, h9⟩) (fun z hz => by
      rcases hpass z hz with h | ⟨hz0, nm, hl1, hn1⟩
      · exact Or.inl h
      · obtain ⟨c6, hc6, hcl6⟩ := Cond.classLink_spec hown hl1 e.platform hpl
        obtain ⟨a8, b8, h1, h2, h3⟩ := hn1
        cases Option.some.inj (h1.symm.trans hcl)
        cases Option.some.inj (h2.symm.trans hc6)
        exact Or.inr ⟨hz0, _, hcl6, h3⟩)
  obtain ⟨g₀, hfr⟩ := X'.frames_eq
  have hcell9 : ((T.setVm vm').setFrames (.throwing q :: below)).heap[q]? = some ce := by
    show T.heap[q]? = some ce
    rw [hT]; exact hcell
  have hend : Ended ((T.setVm vm').setFrames (.throwing q :: below)) below (.threw q) := State.frames_setFrames _ (State.cur_lt_of_frames hfr)
  refine ⟨(T.setVm vm').setFrames (.throwing q :: below), ?_, .threw q, X'.here.running, hend, Or.inr ⟨q, rfl, E, ce, locs, hx _ hT (X'.ends _).1.alike, hcell9, hv, hcl, (X'.ends _).1, (X'.ends _).2.mono hc hs, hf⟩⟩
  rw [X.pushThrowing_eq]
  exact st
/-- a thing of a world lies in the heap -/
theorem vx_lt {D : va_G} {cl : List vw_C} {ws : va_W} {H1 : Heap} (h : va_P D cl ws H1) {k : Nat} {q : Nat × va_E} (hk : ws[k]? = some q) : q.1 < H1.size := (h k q hk).lt
end VXS
/-! ===== END ===== -/
/-! ===== BEGIN methods with a table of their own: called by a name, returning or throwing ===== -/
section VXH
/-! vx_backW, vx_callVX, vx_callSX, vx_callVW, vx_runVW, vx_runVX, vx_runSX, vx_ofWH follow the same proofs as their sisters above (Free/Laws.lean, Shelf42/LK1.lean); vx_outP calls Shelf42/NT130.lean (outThrough). -/
section
variable {l : Launch} {R : Room} {p : Program} {e : Env} {below : List Frame} {s : State} {sargs : Array Value} {y : MethodName} {len W9 : Nat}
theorem vx_backW {ws : List Cond} {rm : Room} {Pc : Array Value → State → Prop} {Qc : Array Value → State → Outcome → State → Prop} {XC : String → State → State → Prop} {mc ms : Nat} {free : Addr → Prop} {bytes : ByteArray} {maxL : Nat} {ret : Option FieldType} {hh : List (Nat × Nat × Nat × Nat)}
    (hM : vx_Met l y ws rm Pc Qc XC mc ms free) (hblind : FrameBlind Pc) (hrc : rm.cells = mc) (hrs : rm.slots = ms)
    (hframes : rm.frames + 1 ≤ R.frames) (hlocals : W9 + (maxL + 11) + rm.locals ≤ R.locals)
    (hws : ∀ w ∈ ws, ∀ a' U, s.WarmedH U.vm → w.before a' U = true) (hcode : Cond.codeWith y bytes maxL ret hh ∈ ws) (hinit : ∀ a' U, s.WarmedH U.vm → (Cond.initialized y.cls).before a' U = true) :
    vx_Back l R p e below s sargs y len W9 (PreOf R mc ms Pc) (PostOf Qc mc ms free) (vx_Post XC mc ms free) := by
  intro m meth c A g ig mk a X hg hsize hdg hW hn hp
  have h1 : (headSpec ws rm).pre.before a A.U = true := atoms_intro fun w hw => hws w hw _ _ X.warmed
  have h2 : (Cond.codeWith y bytes maxL ret hh).before a A.U = true := hws _ hcode _ _ X.warmed
  have h3 : (Cond.initialized y.cls).before a A.U = true := hinit _ _ X.warmed
  have h4 : A.cells + (headSpec ws rm).room.cells ≤ R.cells := by rw [show (headSpec ws rm).room.cells = mc from hrc]; exact hp.1
  have h5 : A.slots + (headSpec ws rm).room.slots ≤ R.slots := by rw [show (headSpec ws rm).room.slots = ms from hrs]; exact hp.2.1
  have hPc : Pc a (A.U.calling g mk a) := hblind _ _ _ _ hp.2.2
  obtain ⟨U, Ls, c0, s0⟩ := A
  dsimp only [Pt.U, Pt.locs, Pt.cells, Pt.slots] at h1 h2 h3 h4 h5 X hn hPc ⊢
  obtain ⟨m9, methY, cY, hn9, hmY, hcY, -, hlY, -⟩ := Cond.codeWith_spec h2
  cases Option.some.inj (hn9.symm.trans hn)
  obtain ⟨kY, hkY, -⟩ := className_of_methodNamed hn
  have hinitY : kY.init = .initialized := Cond.initialized_spec (findClass_of_methodNamed hn) hkY h3
  have h : At U g.method c below := by rw [hg]; exact X.here
  have hlocals9 : W9 + (maxL + 11) + (headSpec ws rm).room.locals ≤ R.locals := hlocals
  have happ : (headSpec ws rm).appliesLoose y e.platform (U.calling g mk a) = true :=
    Spec.appliesLoose_calling (g := g) h hdg hn hkY hinitY
      (X.room_calling (g := g) (R' := (headSpec ws rm).room) hsize hmY hcY hframes (by rw [hlY]; omega) h4 h5) h1
  obtain ⟨mid, hmid⟩ := h.above
  have hfr : (U.setTop g).frames = (.java g :: mid) ++ below := by rw [State.frames_setTop' g h.top, hmid]; rfl
  obtain ⟨o, s₂, hsteps, -, hend, hq⟩ := Steps.callFree hM p X.admits X.cas X.clock (acts := []) hfr happ hPc trivial
  have hq' : vx_Q Qc XC mc ms free a (U.calling g mk a) o s₂ := hq
  rw [State.frames_setTop' g h.top] at hend
  obtain ⟨g₀, hg0⟩ := Option.isSome_iff_exists.mp h.top
  obtain ⟨r, hr⟩ := State.topJava?_eq_some.mp hg0
  have hr' : (({ U with heap := s₂.heap, slotsUsed := s₂.slotsUsed } : State).setVm s₂.vm).frames = .java g₀ :: r := hr
  rcases hq' with ⟨hqc, L, hfe, hL⟩ | ⟨q, rfl, E, ce, L, hx, hce, hcv, hcl, hW₂, hsm, hL⟩
  · obtain ⟨⟨v, rfl⟩, hW₂, e2, q2, q3, q4, q5, q6⟩ := id hfe
    have e3 : s₂ = ({ (U.calling g mk a).setFrames s₂.frames with heap := s₂.heap, slotsUsed := s₂.slotsUsed } : State).setVm s₂.vm := by
      have : s₂ = ({ s₂ with vm := (U.calling g mk a).vm } : State).setVm s₂.vm := rfl
      rw [e2] at this
      exact this
    obtain ⟨c₂, i₂, len₂, hc₂, hd₂, hf₂⟩ := hend
    have hW' : U.WarmedH s₂.vm := hW₂
    have hcc : c₂ = c := by
      have h1 : s₂.code? g.method = U.code? g.method := by
        rw [State.code?_eq, State.code?_eq, hW'.alike.method?]
      exact Option.some.inj (hc₂.symm.trans (h1.trans h.code))
    subst hcc
    have hlen : len₂ = len := by rw [hdg] at hd₂; cases hd₂; rfl
    subst hlen
    have hs₂ : s₂ = (({ U with heap := s₂.heap, slotsUsed := s₂.slotsUsed } : State).setVm s₂.vm).setTop { g with pc := g.pc + len₂, stack := v.toList ++ g.stack } := by
      refine e3.trans ?_
      rw [hf₂, State.calling_eq h.top, State.setFrames_setFrames, State.setTop_of_frames _ hr', hr]
      rfl
    have hsame : U.sameButNew ({ U with heap := s₂.heap, slotsUsed := s₂.slotsUsed } : State) L mc ms := by
      refine ⟨?_, q2, q3, q4, q5, q6⟩
      obtain ⟨t, ht, -⟩ := State.frames_cons hr
      show ({ U with heap := s₂.heap, slotsUsed := s₂.slotsUsed } : State) = { U.setFrames U.frames with heap := s₂.heap, slotsUsed := s₂.slotsUsed }
      rw [State.setFrames_self ht]
    subst hg
    refine Or.inl ⟨v, ⟨(({ U with heap := s₂.heap, slotsUsed := s₂.slotsUsed } : State).setVm s₂.vm), Ls ++ L, c0 + mc, s0 + ms⟩,
      ⟨X.admits, X.cas, X.clock, X.frames, X.room, X.hears, X.method, X.code, (X.here.setHeapUsed s₂.heap s₂.slotsUsed).setVm hW'.alike, X.tail, State.WarmedH.trans X.warmed hW', X.limits, X.bytes, X.same.trans (hsame.setVm s.vm)⟩,
      ⟨g, mk, s₂, L, rfl, rfl, hqc, rfl, hL, rfl, rfl⟩, ?_⟩
    show Steps p.tables e below _ ((({ U with heap := s₂.heap, slotsUsed := s₂.slotsUsed } : State).setVm s₂.vm).setTop { g with pc := g.pc + len₂, stack := v.toList ++ g.stack })
    rw [← hs₂]
    exact hsteps
  · obtain ⟨e2, q2, q3, q4, q5, q6⟩ := id hsm
    have e3 : s₂ = ({ (U.calling g mk a).setFrames s₂.frames with heap := s₂.heap, slotsUsed := s₂.slotsUsed } : State).setVm s₂.vm := by
      have : s₂ = ({ s₂ with vm := (U.calling g mk a).vm } : State).setVm s₂.vm := rfl
      rw [e2] at this
      exact this
    have hf₂ : s₂.frames = .throwing q :: .java g :: U.frames.tail := hend
    have hW' : U.WarmedH s₂.vm := hW₂
    have hs₂ : s₂ = ((({ U with heap := s₂.heap, slotsUsed := s₂.slotsUsed } : State).setVm s₂.vm).setTop g).pushFrame (.throwing q) := by
      refine e3.trans ?_
      rw [hf₂, State.calling_eq h.top, State.setFrames_setFrames, State.pushFrame, State.frames_setTop _ hr', State.setTop_of_frames _ hr', State.setFrames_setFrames, hr]
      rfl
    have hsame : U.sameButNew ({ U with heap := s₂.heap, slotsUsed := s₂.slotsUsed } : State) L mc ms := by
      refine ⟨?_, q2, q3, q4, q5, q6⟩
      obtain ⟨t, ht, -⟩ := State.frames_cons hr
      show ({ U with heap := s₂.heap, slotsUsed := s₂.slotsUsed } : State) = { U.setFrames U.frames with heap := s₂.heap, slotsUsed := s₂.slotsUsed }
      rw [State.setFrames_self ht]
    subst hg
    refine Or.inr ⟨q, ⟨(({ U with heap := s₂.heap, slotsUsed := s₂.slotsUsed } : State).setVm s₂.vm), Ls ++ L, c0 + mc, s0 + ms⟩,
      ⟨X.admits, X.cas, X.clock, X.frames, X.room, X.hears, X.method, X.code, (X.here.setHeapUsed s₂.heap s₂.slotsUsed).setVm hW'.alike, X.tail, State.WarmedH.trans X.warmed hW', X.limits, X.bytes, X.same.trans (hsame.setVm s.vm)⟩,
      ⟨g, mk, s₂, L, E, ce, rfl, rfl, hx, hce, hcv, hcl, rfl, hL, rfl, rfl⟩, ?_⟩
    show Steps p.tables e below _ (((({ U with heap := s₂.heap, slotsUsed := s₂.slotsUsed } : State).setVm s₂.vm).setTop g).pushFrame (.throwing q))
    rw [← hs₂]
    exact hsteps
end
variable {p : Program} {l : Launch} {e : Env} {R : Room} {s : State} {m : MethodId} {args : Array Value} {below : List Frame} {meth : Method} {c : Code} {T : State} {H : Heap} {locs : List Loc} {cells slots : Nat}
theorem vx_callVX (X : Stand p l e R s m args below meth c T locs cells slots) (hexec : p.tables.exec = Jvm.exec) {own C : String} {index : Nat} {y : MethodName} {bytes : ByteArray} {maxL : Nat} {ret : Option FieldType} {hh : List (Nat × Nat × Nat × Nat)}
    (hown : s.vm.findClass own = some m.cls) (hlink : (Cond.methodLink own index y).before args s = true) (hinst : (Cond.instanceMethod y).before args s = true) (hsel : (Cond.selects C y y).before args s = true)
    (hcode : (Cond.codeWith y bytes maxL ret hh).before args s = true) (hy : y.cls ≠ "java/lang/invoke/MethodHandle" ∧ y.cls ≠ "java/lang/invoke/VarHandle")
    {W9 : Nat} {Pre : Pt → Array Value → Prop} {Post : Pt → Array Value → Option Value → Pt → Prop} {PostX : Pt → Array Value → Addr → Pt → Prop} (hK : vx_Back l R p e below s args y 3 W9 Pre Post PostX)
    {b : Addr} {cellB : Cell} (hcell : T.heap[b]? = some cellB) (hobj : cellB.vm.isStatics = false) (hcls : s.vm.findClass C = some cellB.cls)
    {g : JFrame} (hg : g.method = m) (hsize : g.locals.size = c.maxLocals) {argsL rest : List Value} (hlen : ∀ sig, parseMethodDescriptor y.desc = some sig → argsL.length = sig.parameters.length)
    (hstack : g.stack = argsL.reverse ++ .ref b :: rest) (hW : 2 * g.monitorRoom + (rest.map fun v => v.category).sum ≤ W9) (hdg : decode c.code g.pc = .ok (.invokevirtual index, 3))
    (hpre : ∀ vm₁, s.WarmedH vm₁ → Pre ⟨T.setVm vm₁, locs, cells, slots⟩ (Value.ref b :: argsL).toArray) :
    (∃ (v : Option Value) (vm₁ : Vm) (B : Pt), s.WarmedH vm₁ ∧ Stand p l e R s m args below meth c B.U B.locs B.cells B.slots ∧ Post ⟨T.setVm vm₁, locs, cells, slots⟩ (Value.ref b :: argsL).toArray v B ∧
      ∀ target, Steps p.tables e below (B.U.setTop { g with pc := g.pc + 3, stack := v.toList ++ rest }) target → Steps p.tables e below (T.setTop g) target) ∨
    (∃ (q : Addr) (vm₁ : Vm) (B : Pt), s.WarmedH vm₁ ∧ Stand p l e R s m args below meth c B.U B.locs B.cells B.slots ∧ PostX ⟨T.setVm vm₁, locs, cells, slots⟩ (Value.ref b :: argsL).toArray q B ∧
      Steps p.tables e below (T.setTop g) ((B.U.setTop { g with stack := rest }).pushFrame (.throwing q))) := by
  obtain ⟨mk, methM, hnamed, hmethM, hstM, habM⟩ := Cond.instanceMethod_spec hinst
  obtain ⟨m8, methM', cM, hn8, hmethM', -, -, -, -, -, -, hsigM⟩ := Cond.codeWith_spec hcode
  cases Option.some.inj (hn8.symm.trans hnamed)
  cases hmethM.symm.trans hmethM'
  obtain ⟨c2, r2, m2, q1, q2, q3, q4, kP, hkP, hkPi⟩ := Cond.selects_spec hsel
  cases hcls.symm.trans q1
  cases (State.methodFound?_of_named hnamed hy).symm.trans q2
  cases hnamed.symm.trans q3
  have hselP : selectMethod e.platform s.vm cellB.cls mk = .method mk := by rw [Launch.admits_selectMethod X.admits]; exact q4
  obtain ⟨vm₁, X₁, hstep₁⟩ := X.invokevirtual hexec hown hlink hnamed hmethM hstM hkP hkPi hy (a := b) (cell := cellB) hcell
    (fun z h => by rw [h] at hobj; cases hobj) hselP hmethM habM hkP hkPi (g := g) hg (argsL := argsL) (rest := rest) (hlen _ hsigM) hstack hdg
  rcases hK m meth c ⟨T.setVm vm₁, locs, cells, slots⟩ { g with stack := rest } (.invokevirtual index) mk (Value.ref b :: argsL).toArray X₁ hg hsize hdg hW (X₁.named hnamed) (hpre vm₁ X₁.warmed) with ⟨v, B, X', hpost, hsteps⟩ | ⟨q, B, X', hpost, hsteps⟩
  · exact Or.inl ⟨v, vm₁, B, X₁.warmed, X', hpost, fun target h => hstep₁ _ fun acts => by rw [doInvoke_state]; exact hsteps.trans h⟩
  · exact Or.inr ⟨q, vm₁, B, X₁.warmed, X', hpost, hstep₁ _ fun acts => by rw [doInvoke_state]; exact hsteps⟩
theorem vx_callSX (X : Stand p l e R s m args below meth c T locs cells slots) (hexec : p.tables.exec = Jvm.exec) {own : String} {index : Nat} {y : MethodName} {bytes : ByteArray} {maxL : Nat} {ret : Option FieldType} {hh : List (Nat × Nat × Nat × Nat)}
    (hown : s.vm.findClass own = some m.cls) (hlink : (Cond.methodLink own index y).before args s = true) (hstat : (Cond.static y).before args s = true) (hinit : (Cond.initialized y.cls).before args s = true)
    (hcode : (Cond.codeWith y bytes maxL ret hh).before args s = true) (hy : y.cls ≠ "java/lang/invoke/MethodHandle" ∧ y.cls ≠ "java/lang/invoke/VarHandle")
    {W9 : Nat} {Pre : Pt → Array Value → Prop} {Post : Pt → Array Value → Option Value → Pt → Prop} {PostX : Pt → Array Value → Addr → Pt → Prop} (hK : vx_Back l R p e below s args y 3 W9 Pre Post PostX)
    {g : JFrame} (hg : g.method = m) (hsize : g.locals.size = c.maxLocals) {argsL rest : List Value} (hlen : ∀ sig, parseMethodDescriptor y.desc = some sig → argsL.length = sig.parameters.length)
    (hstack : g.stack = argsL.reverse ++ rest) (hW : 2 * g.monitorRoom + (rest.map fun v => v.category).sum ≤ W9) (hdg : decode c.code g.pc = .ok (.invokestatic index, 3))
    (hpre : ∀ vm₁, s.WarmedH vm₁ → Pre ⟨T.setVm vm₁, locs, cells, slots⟩ argsL.toArray) :
    (∃ (v : Option Value) (vm₁ : Vm) (B : Pt), s.WarmedH vm₁ ∧ Stand p l e R s m args below meth c B.U B.locs B.cells B.slots ∧ Post ⟨T.setVm vm₁, locs, cells, slots⟩ argsL.toArray v B ∧
      ∀ target, Steps p.tables e below (B.U.setTop { g with pc := g.pc + 3, stack := v.toList ++ rest }) target → Steps p.tables e below (T.setTop g) target) ∨
    (∃ (q : Addr) (vm₁ : Vm) (B : Pt), s.WarmedH vm₁ ∧ Stand p l e R s m args below meth c B.U B.locs B.cells B.slots ∧ PostX ⟨T.setVm vm₁, locs, cells, slots⟩ argsL.toArray q B ∧
      Steps p.tables e below (T.setTop g) ((B.U.setTop { g with stack := rest }).pushFrame (.throwing q))) := by
  obtain ⟨mk, methM, cM, hnamed, hmethM, -, -, -, -, -, -, hsigM⟩ := Cond.codeWith_spec hcode
  have hstatic : methM.isStatic = true := Cond.static_spec hnamed hmethM hstat
  obtain ⟨kP, hkP, -⟩ := className_of_methodNamed hnamed
  have hinitP : kP.init = .initialized := Cond.initialized_spec (findClass_of_methodNamed hnamed) hkP hinit
  obtain ⟨vm₁, X₁, hstep₁⟩ := X.invokestatic hexec hown hlink hnamed hmethM hstatic hkP hinitP hy (g := g) hg (argsL := argsL) (rest := rest) (hlen _ hsigM) hstack hdg
  rcases hK m meth c ⟨T.setVm vm₁, locs, cells, slots⟩ { g with stack := rest } (.invokestatic index) mk argsL.toArray X₁ hg hsize hdg hW (X₁.named hnamed) (hpre vm₁ X₁.warmed) with ⟨v, B, X', hpost, hsteps⟩ | ⟨q, B, X', hpost, hsteps⟩
  · exact Or.inl ⟨v, vm₁, B, X₁.warmed, X', hpost, fun target h => hstep₁ _ fun acts => by rw [doInvoke_state]; exact hsteps.trans h⟩
  · exact Or.inr ⟨q, vm₁, B, X₁.warmed, X', hpost, hstep₁ _ fun acts => by rw [doInvoke_state]; exact hsteps⟩
theorem vx_callVW (X : Stand p l e R s m args below meth c T locs cells slots) (hexec : p.tables.exec = Jvm.exec) {own C : String} {index : Nat} {y : MethodName} {bytes : ByteArray} {maxL : Nat} {ret : Option FieldType} {hh : List (Nat × Nat × Nat × Nat)}
    (hown : s.vm.findClass own = some m.cls) (hlink : (Cond.methodLink own index y).before args s = true) (hinst : (Cond.instanceMethod y).before args s = true) (hsel : (Cond.selects C y y).before args s = true)
    (hcode : (Cond.codeWith y bytes maxL ret hh).before args s = true) (hy : y.cls ≠ "java/lang/invoke/MethodHandle" ∧ y.cls ≠ "java/lang/invoke/VarHandle")
    {W9 : Nat} {Pre : Pt → Array Value → Prop} {Post : Pt → Array Value → Option Value → Pt → Prop} (hK : Back l R p e below s args y 3 W9 Pre Post)
    {b : Addr} {cellB : Cell} (hcell : T.heap[b]? = some cellB) (hobj : cellB.vm.isStatics = false) (hcls : s.vm.findClass C = some cellB.cls)
    {g : JFrame} (hg : g.method = m) (hsize : g.locals.size = c.maxLocals) {argsL rest : List Value} (hlen : ∀ sig, parseMethodDescriptor y.desc = some sig → argsL.length = sig.parameters.length)
    (hstack : g.stack = argsL.reverse ++ .ref b :: rest) (hW : 2 * g.monitorRoom + (rest.map fun v => v.category).sum ≤ W9) (hdg : decode c.code g.pc = .ok (.invokevirtual index, 3))
    (hpre : ∀ vm₁, s.WarmedH vm₁ → Pre ⟨T.setVm vm₁, locs, cells, slots⟩ (Value.ref b :: argsL).toArray) :
    ∃ (v : Option Value) (vm₁ : Vm) (B : Pt), s.WarmedH vm₁ ∧ Stand p l e R s m args below meth c B.U B.locs B.cells B.slots ∧ Post ⟨T.setVm vm₁, locs, cells, slots⟩ (Value.ref b :: argsL).toArray v B ∧
      ∀ target, Steps p.tables e below (B.U.setTop { g with pc := g.pc + 3, stack := v.toList ++ rest }) target → Steps p.tables e below (T.setTop g) target := by
  obtain ⟨mk, methM, hnamed, hmethM, hstM, habM⟩ := Cond.instanceMethod_spec hinst
  obtain ⟨m8, methM', cM, hn8, hmethM', -, -, -, -, -, -, hsigM⟩ := Cond.codeWith_spec hcode
  cases Option.some.inj (hn8.symm.trans hnamed)
  cases hmethM.symm.trans hmethM'
  obtain ⟨c2, r2, m2, q1, q2, q3, q4, kP, hkP, hkPi⟩ := Cond.selects_spec hsel
  cases hcls.symm.trans q1
  cases (State.methodFound?_of_named hnamed hy).symm.trans q2
  cases hnamed.symm.trans q3
  have hselP : selectMethod e.platform s.vm cellB.cls mk = .method mk := by rw [Launch.admits_selectMethod X.admits]; exact q4
  obtain ⟨vm₁, X₁, hstep₁⟩ := X.invokevirtual hexec hown hlink hnamed hmethM hstM hkP hkPi hy (a := b) (cell := cellB) hcell
    (fun z h => by rw [h] at hobj; cases hobj) hselP hmethM habM hkP hkPi (g := g) hg (argsL := argsL) (rest := rest) (hlen _ hsigM) hstack hdg
  obtain ⟨v, B, X', hpost, hsteps⟩ := hK m meth c ⟨T.setVm vm₁, locs, cells, slots⟩ { g with stack := rest } (.invokevirtual index) mk (Value.ref b :: argsL).toArray X₁ hg hsize hdg hW (X₁.named hnamed) (hpre vm₁ X₁.warmed)
  exact ⟨v, vm₁, B, X₁.warmed, X', hpost, fun target h => hstep₁ _ fun acts => by rw [doInvoke_state]; exact hsteps.trans h⟩
abbrev vx_CVW (R : Room) (s : State) (args : Array Value) (own C : String) (index : Nat) (y : MethodName) (bytes : ByteArray) (maxL : Nat) (ret : Option FieldType) (hh : List (Nat × Nat × Nat × Nat)) (ws : List Cond) (rm : Room) (mc ms n : Nat) : Prop :=
  (rm.cells = mc ∧ rm.slots = ms ∧ rm.frames + 1 ≤ R.frames ∧ 8 + (maxL + 11) + rm.locals ≤ R.locals ∧ (∀ w ∈ ws, ∀ (a' : Array Value) (U : State), s.WarmedH U.vm → w.before a' U = true) ∧ Cond.codeWith y bytes maxL ret hh ∈ ws) ∧
  (Cond.codeWith y bytes maxL ret hh).before args s = true ∧ (Cond.initialized y.cls).before args s = true ∧ (y.cls ≠ "java/lang/invoke/MethodHandle" ∧ y.cls ≠ "java/lang/invoke/VarHandle") ∧
  (∀ sig, parseMethodDescriptor y.desc = some sig → n = sig.parameters.length) ∧ (Cond.methodLink own index y).before args s = true ∧ (Cond.instanceMethod y).before args s = true ∧ (Cond.selects C y y).before args s = true
theorem vx_cwVW {own C : String} {index maxL mc ms : Nat} {y : MethodName} {bytes : ByteArray} {ret : Option FieldType} {hh : List (Nat × Nat × Nat × Nat)} {Ts ws ws' : List Cond} {rm : Room} (n : Nat) (ht : ∀ w ∈ Ts, w.before args s = true) (hT : GoodIn Ts (wsV own index C y ws)) (hw : ws = Cond.codeWith y bytes maxL ret hh :: ws') (hrc : rm.cells = mc) (hrs : rm.slots = ms)
    (hd : y.cls = C ∧ y.cls ≠ "java/lang/invoke/MethodHandle" ∧ y.cls ≠ "java/lang/invoke/VarHandle" ∧ (parseMethodDescriptor y.desc).map (fun d => d.parameters.length) = some n) (hR : rm.frames + 1 ≤ R.frames ∧ 8 + (maxL + 11) + rm.locals ≤ R.locals) :
    vx_CVW R s args own C index y bytes maxL ret hh ws rm mc ms n := by
  obtain ⟨hC, hd⟩ := hd
  subst hC
  have ok : ∀ w ∈ wsV own index y.cls y ws, w.before args s = true := fun w h => ht w (hT w h).1
  have hG : GoodIn Ts ws := fun w h => hT w (by unfold wsV; exact List.mem_append_right _ h)
  have hc : Cond.codeWith y bytes maxL ret hh ∈ ws := by rw [hw]; exact List.mem_cons_self
  refine ⟨⟨hrc, hrs, hR.1, hR.2, pay_in ht hG, hc⟩, ht _ (hG _ hc).1, ok _ (by simp [wsV]), ⟨hd.1, hd.2.1⟩, fun sig h => ?_, ok _ (by simp [wsV]), ok _ (by simp [wsV]), ok _ (by simp [wsV])⟩
  have h2 := hd.2.2
  rw [h] at h2
  exact (Option.some.inj h2).symm
theorem vx_runVW {y : MethodName} {bytes cc : ByteArray} {maxL nL mc ms n index : Nat} {ret : Option FieldType} {hh : List (Nat × Nat × Nat × Nat)} {ws : List Cond} {rm : Room} {Pc : Array Value → State → Prop} {Qc : Array Value → State → Outcome → State → Prop} {free : Addr → Prop} {Ts : List Cond} {own C : String} {b : Addr} {As rest : List Value} {g : JFrame}
    (S : CallFix p m c cc nL s args Ts own) (hM : Met l y ws rm Pc Qc mc ms free) (cw : vx_CVW R s args own C index y bytes maxL ret hh ws rm mc ms n) (hp : PreV s H C b Pc As)
    (hg : g.method = m) (hn : As.length = n) (hsize : g.locals.size = nL) (hstack : g.stack = As.reverse ++ .ref b :: rest) (hW : 2 * g.monitorRoom + (rest.map fun v => v.category).sum ≤ 8) (hdg : decode cc g.pc = .ok (.invokevirtual index, 3)) (hf : cells + mc ≤ R.cells ∧ slots + ms ≤ R.slots) :
    va_Run p l e R s m args below meth c H locs cells slots mc ms g rest (Qc (Value.ref b :: As).toArray) free := by
  obtain ⟨⟨hrc, hrs, hfr, hlo, hws, hcw⟩, hcode, hini, hy, hlen, hl, hin, hse⟩ := cw
  have hK : Back l R p e below s args y 3 8 (PreOf R mc ms Pc) (PostOf Qc mc ms free) := va_backW (hh := hh) (bytes := bytes) (maxL := maxL) (ret := ret) hM hp.1 hrc hrs hfr hlo hws hcw (fun a' U hW => word_at hW (Or.inl (by first | rfl | simp [Cond.onTables, Cond.keeps, Cond.steady])) hini)
  obtain ⟨hx, hb, hml, ho, -⟩ := S
  obtain ⟨-, ⟨cellB, hcB, hoB, hclB⟩, hPc⟩ := hp
  intro T hT X
  obtain ⟨v, vm₁, ⟨U', l2, c2, s2⟩, hW₁, X', ⟨g', mk, t, L, e1, e2, hq, h1, hL, h2, h3⟩, st⟩ := vx_callVW X hx (C := C) (hh := hh) (bytes := bytes) (maxL := maxL) (ret := ret) ho hl hin hse hcode hy hK (by rw [hT]; exact hcB) hoB hclB hg (hsize.trans hml.symm) (argsL := As) (rest := rest) (fun sig h => hn.trans (hlen sig h)) hstack hW (by rw [hb]; exact hdg)
    (fun vm₁ hW₁ => ⟨hf.1, hf.2, hPc (T.setVm vm₁) hT hW₁⟩)
  dsimp only [Pt.U, Pt.locs, Pt.cells, Pt.slots] at X' e1 e2 h1 h2 h3 st
  subst h1; subst h2; subst h3
  exact ⟨v, (T.setVm vm₁).calling g' mk (Value.ref b :: As).toArray, t, U', L, hT, X', hL, e1, e2, hq, st⟩
section
variable {y : MethodName} {bytes cc : ByteArray} {maxL nL mc ms n index : Nat} {ret : Option FieldType} {ws : List Cond} {rm : Room} {Pc : Array Value → State → Prop} {Qc : Array Value → State → Outcome → State → Prop} {XC : String → State → State → Prop} {free : Addr → Prop} {Ts : List Cond} {own C : String} {b : Addr} {As rest : List Value} {g : JFrame}
theorem vx_runVX {hh : List (Nat × Nat × Nat × Nat)} (S : CallFix p m c cc nL s args Ts own) (hM : vx_Met l y ws rm Pc Qc XC mc ms free) (cw : vx_CVW R s args own C index y bytes maxL ret hh ws rm mc ms n) (hp : PreV s H C b Pc As)
    (hg : g.method = m) (hn : As.length = n) (hsize : g.locals.size = nL) (hstack : g.stack = As.reverse ++ .ref b :: rest) (hW : 2 * g.monitorRoom + (rest.map fun v => v.category).sum ≤ 8) (hdg : decode cc g.pc = .ok (.invokevirtual index, 3)) (hf : cells + mc ≤ R.cells ∧ slots + ms ≤ R.slots) :
    vx_Run p l e R s m args below meth c H locs cells slots mc ms g rest (Qc (Value.ref b :: As).toArray) XC free := by
  obtain ⟨⟨hrc, hrs, hfr, hlo, hws, hcw⟩, hcode, hini, hy, hlen, hl, hin, hse⟩ := cw
  have hK : vx_Back l R p e below s args y 3 8 (PreOf R mc ms Pc) (PostOf Qc mc ms free) (vx_Post XC mc ms free) := vx_backW (hh := hh) (bytes := bytes) (maxL := maxL) (ret := ret) hM hp.1 hrc hrs hfr hlo hws hcw (fun a' U hW => word_at hW (Or.inl (by first | rfl | simp [Cond.onTables, Cond.keeps, Cond.steady])) hini)
  obtain ⟨hx, hb, hml, ho, -⟩ := S
  obtain ⟨-, ⟨cellB, hcB, hoB, hclB⟩, hPc⟩ := hp
  intro T hT X
  rcases vx_callVX X hx (C := C) (hh := hh) (bytes := bytes) (maxL := maxL) (ret := ret) ho hl hin hse hcode hy hK (by rw [hT]; exact hcB) hoB hclB hg (hsize.trans hml.symm) (argsL := As) (rest := rest) (fun sig h => hn.trans (hlen sig h)) hstack hW (by rw [hb]; exact hdg)
    (fun vm₁ hW₁ => ⟨hf.1, hf.2, hPc (T.setVm vm₁) hT hW₁⟩) with ⟨v, vm₁, ⟨U', l2, c2, s2⟩, hW₁, X', ⟨g', mk, t, L, e1, e2, hq, h1, hL, h2, h3⟩, st⟩ | ⟨q, vm₁, ⟨U', l2, c2, s2⟩, hW₁, X', ⟨g', mk, t, L, E, ce, e1, e2, hq, hce, hcv, hcl, h1, hL, h2, h3⟩, st⟩
  · dsimp only [Pt.U, Pt.locs, Pt.cells, Pt.slots] at X' e1 e2 h1 h2 h3 st
    subst h1; subst h2; subst h3
    exact Or.inl ⟨v, (T.setVm vm₁).calling g' mk (Value.ref b :: As).toArray, t, U', L, hT, X', hL, e1, e2, hq, st⟩
  · dsimp only [Pt.U, Pt.locs, Pt.cells, Pt.slots] at X' e1 e2 h1 h2 h3 st hcl
    subst h1; subst h2; subst h3
    exact Or.inr ⟨q, (T.setVm vm₁).calling g' mk (Value.ref b :: As).toArray, t, U', L, E, ce, hT, X', hL, e1, e2, hq, hce, hcv, vx_cls hW₁ hcl, st⟩
theorem vx_runSX {hh : List (Nat × Nat × Nat × Nat)} (S : CallFix p m c cc nL s args Ts own) (hM : vx_Met l y ws rm Pc Qc XC mc ms free) (cw : vx_CSW R s args own index y bytes maxL ret hh ws rm mc ms n) (hp : PreS s H Pc As)
    (hg : g.method = m) (hn : As.length = n) (hsize : g.locals.size = nL) (hstack : g.stack = As.reverse ++ rest) (hW : 2 * g.monitorRoom + (rest.map fun v => v.category).sum ≤ 8) (hdg : decode cc g.pc = .ok (.invokestatic index, 3)) (hf : cells + mc ≤ R.cells ∧ slots + ms ≤ R.slots) :
    vx_Run p l e R s m args below meth c H locs cells slots mc ms g rest (Qc As.toArray) XC free := by
  obtain ⟨⟨hrc, hrs, hfr, hlo, hws, hcw⟩, hcode, hini, hy, hlen, hl, hstt⟩ := cw
  have hK : vx_Back l R p e below s args y 3 8 (PreOf R mc ms Pc) (PostOf Qc mc ms free) (vx_Post XC mc ms free) := vx_backW (hh := hh) (bytes := bytes) (maxL := maxL) (ret := ret) hM hp.1 hrc hrs hfr hlo hws hcw (fun a' U hW => word_at hW (Or.inl (by first | rfl | simp [Cond.onTables, Cond.keeps, Cond.steady])) hini)
  obtain ⟨hx, hb, hml, ho, -⟩ := S
  intro T hT X
  rcases vx_callSX X hx (hh := hh) (bytes := bytes) (maxL := maxL) (ret := ret) ho hl hstt hini hcode hy hK hg (hsize.trans hml.symm) (argsL := As) (rest := rest) (fun sig h => hn.trans (hlen sig h)) hstack hW (by rw [hb]; exact hdg)
    (fun vm₁ hW₁ => ⟨hf.1, hf.2, hp.2 (T.setVm vm₁) hT hW₁⟩) with ⟨v, vm₁, ⟨U', l2, c2, s2⟩, hW₁, X', ⟨g', mk, t, L, e1, e2, hq, h1, hL, h2, h3⟩, st⟩ | ⟨q, vm₁, ⟨U', l2, c2, s2⟩, hW₁, X', ⟨g', mk, t, L, E, ce, e1, e2, hq, hce, hcv, hcl, h1, hL, h2, h3⟩, st⟩
  · dsimp only [Pt.U, Pt.locs, Pt.cells, Pt.slots] at X' e1 e2 h1 h2 h3 st
    subst h1; subst h2; subst h3
    exact Or.inl ⟨v, (T.setVm vm₁).calling g' mk As.toArray, t, U', L, hT, X', hL, e1, e2, hq, st⟩
  · dsimp only [Pt.U, Pt.locs, Pt.cells, Pt.slots] at X' e1 e2 h1 h2 h3 st hcl
    subst h1; subst h2; subst h3
    exact Or.inr ⟨q, (T.setVm vm₁).calling g' mk As.toArray, t, U', L, E, ce, hT, X', hL, e1, e2, hq, hce, hcv, vx_cls hW₁ hcl, st⟩
end
end VXH
theorem vx_ofWH {l : Launch} {y : MethodName} {ws ws' : List Cond} {rm : Room} {Pc : Array Value → State → Prop} {Qc : Array Value → State → Outcome → State → Prop} {XC : String → State → State → Prop} {mc ms : Nat} {free : Addr → Prop} {cc : ByteArray} {maxL : Nat} {ret : Option FieldType} {hh : List (Nat × Nat × Nat × Nat)}
    (hy : plainName y.cls = true) (hw : ws = Cond.codeWith y cc maxL ret hh :: ws')
    (body : ∀ p e s m args below meth c s₁, BodyLoose p l y (headSpec ws rm) cc maxL ret e s m args below meth c s₁ → c.maxLocals = maxL → Pc args s →
      W p l e (headSpec ws rm).room s m args below meth c s.heap [] 0 0 (vx_MQ below Qc XC args s mc ms free) (entryFrame m args maxL)) : vx_Met l y ws rm Pc Qc XC mc ms free := by
  refine MetFree.of_bodyS (code := cc) (maxLocals := maxL) (ret := ret) hy ?_ ?_
  · intro args s m h hn
    obtain ⟨m9, meth, c, hn9, h1, h2, h3, h4, -, h5, h6, -⟩ := Cond.codeWith_spec (atoms_spec (ws := ws) h _ (by rw [hw]; exact List.mem_cons_self))
    cases hn.symm.trans hn9
    exact ⟨meth, c, h1, h2, h3, h4, h5, h6⟩
  · intro p e s m args below meth c s₁ B hml hP _
    have hh0 : s₁.heap = s.heap := by rw [B.state]; rfl
    obtain ⟨t, a1, o, b1, b2, b3⟩ := body p e s m args below meth c s₁ B hml hP s₁ hh0 (Stand.of_body B)
    exact ⟨t, o, a1, b1, b2, b3⟩
/-! ===== END ===== -/
end
section
/-! ===== BEGIN printed: names, fields, word lists, decode rows ===== -/
def RX0 : String := "AfternoonMeter"
def TX0 : u_T := fun k => match k with
  | 0 => ("AfternoonMeter", "heights", "[I", true)
  | 1 => ("AfternoonMeter", "stickCount", "I", false)
  | 2 => ("AfternoonMeter", "napStarts", "[I", true)
  | 3 => ("AfternoonMeter", "napEnds", "[I", true)
  | 4 => ("AfternoonMeter", "napCount", "I", false)
  | 5 => ("AfternoonMeter", "napsOver", "[I", true)
  | 6 => ("AfternoonMeter", "periods", "[I", true)
  | 7 => ("AfternoonMeter", "beats", "[I", true)
  | 8 => ("AfternoonMeter", "beeCount", "I", false)
  | 9 => ("AfternoonMeter", "beesOn", "[I", true)
  | 10 => ("AfternoonMeter", "room", "I", false)
  | 11 => ("AfternoonMeter", "rate", "I", false)
  | 12 => ("AfternoonMeter", "sip", "I", false)
  | 13 => ("AfternoonMeter", "inCup", "I", false)
  | 14 => ("AfternoonMeter", "ranOver", "I", false)
  | 15 => ("AfternoonMeter", "now", "I", false)
  | _ => ("AfternoonMeter", "afternoonNumber", "I", false)
def tyX0 : Nat → FieldType := fun k => match k with
  | 0 => .array .int
  | 1 => .int
  | 2 => .array .int
  | 3 => .array .int
  | 4 => .int
  | 5 => .array .int
  | 6 => .array .int
  | 7 => .array .int
  | 8 => .int
  | 9 => .array .int
  | 10 => .int
  | 11 => .int
  | 12 => .int
  | 13 => .int
  | 14 => .int
  | 15 => .int
  | _ => .int
abbrev wsX00 : List Cond := u_ws RX0 TX0 17
theorem nmX0 : ∀ a, a < 17 → ∀ b, b < 17 → a ≠ b → (TX0 a).2.1 ≠ (TX0 b).2.1 := by decide +kernel
theorem tyX0_ok : ∀ k, k < 17 → parseFieldDescriptor (TX0 k).2.2.1 = some (tyX0 k) := by decide +kernel
abbrev cX0_init : ByteArray := prog_1_method_1_code
def yX0_init : MethodName := ⟨RX0, "<init>", "()V"⟩
abbrev cX0_addStick : ByteArray := prog_1_method_2_code
def yX0_addStick : MethodName := ⟨RX0, "addStick", "(I)I"⟩
abbrev cX0_addNap : ByteArray := prog_1_method_3_code
def yX0_addNap : MethodName := ⟨RX0, "addNap", "(II)I"⟩
abbrev cX0_giveUp : ByteArray := prog_1_method_4_code
def yX0_giveUp : MethodName := ⟨RX0, "giveUp", "(I)I"⟩
abbrev cX0_addBee : ByteArray := prog_1_method_5_code
def yX0_addBee : MethodName := ⟨RX0, "addBee", "(II)I"⟩
abbrev cX0_setTea : ByteArray := prog_1_method_6_code
def yX0_setTea : MethodName := ⟨RX0, "setTea", "(III)I"⟩
abbrev cX0_pass : ByteArray := prog_1_method_7_code
def yX0_pass : MethodName := ⟨RX0, "pass", "(I)I"⟩
abbrev cX0_begin : ByteArray := prog_1_method_8_code
def yX0_begin : MethodName := ⟨RX0, "begin", "()I"⟩
abbrev cX0_afternoon : ByteArray := prog_1_method_9_code
def yX0_afternoon : MethodName := ⟨RX0, "afternoon", "()I"⟩
abbrev cX0_minute : ByteArray := prog_1_method_10_code
def yX0_minute : MethodName := ⟨RX0, "minute", "()I"⟩
abbrev cX0_isAsleep : ByteArray := prog_1_method_11_code
def yX0_isAsleep : MethodName := ⟨RX0, "isAsleep", "(I)Z"⟩
abbrev cX0_awakeMinutes : ByteArray := prog_1_method_12_code
def yX0_awakeMinutes : MethodName := ⟨RX0, "awakeMinutes", "()I"⟩
abbrev cX0_sleptMinutes : ByteArray := prog_1_method_13_code
def yX0_sleptMinutes : MethodName := ⟨RX0, "sleptMinutes", "()I"⟩
abbrev cX0_longestAwake : ByteArray := prog_1_method_14_code
def yX0_longestAwake : MethodName := ⟨RX0, "longestAwake", "()I"⟩
abbrev cX0_sticks : ByteArray := prog_1_method_15_code
def yX0_sticks : MethodName := ⟨RX0, "sticks", "()I"⟩
abbrev cX0_shadowAt : ByteArray := prog_1_method_16_code
def yX0_shadowAt : MethodName := ⟨RX0, "shadowAt", "(II)I"⟩
abbrev cX0_minuteOfShadow : ByteArray := prog_1_method_17_code
def yX0_minuteOfShadow : MethodName := ⟨RX0, "minuteOfShadow", "(II)I"⟩
abbrev cX0_allShadows : ByteArray := prog_1_method_18_code
def yX0_allShadows : MethodName := ⟨RX0, "allShadows", "(I)I"⟩
abbrev cX0_naps : ByteArray := prog_1_method_19_code
def yX0_naps : MethodName := ⟨RX0, "naps", "()I"⟩
abbrev cX0_startOf : ByteArray := prog_1_method_20_code
def yX0_startOf : MethodName := ⟨RX0, "startOf", "(I)I"⟩
abbrev cX0_lengthOf : ByteArray := prog_1_method_21_code
def yX0_lengthOf : MethodName := ⟨RX0, "lengthOf", "(I)I"⟩
abbrev cX0_napsAt : ByteArray := prog_1_method_22_code
def yX0_napsAt : MethodName := ⟨RX0, "napsAt", "(I)I"⟩
abbrev cX0_minutesAlone : ByteArray := prog_1_method_23_code
def yX0_minutesAlone : MethodName := ⟨RX0, "minutesAlone", "(I)I"⟩
abbrev cX0_bees : ByteArray := prog_1_method_24_code
def yX0_bees : MethodName := ⟨RX0, "bees", "()I"⟩
abbrev cX0_ticksOf : ByteArray := prog_1_method_25_code
def yX0_ticksOf : MethodName := ⟨RX0, "ticksOf", "(I)I"⟩
abbrev cX0_measuredBy : ByteArray := prog_1_method_26_code
def yX0_measuredBy : MethodName := ⟨RX0, "measuredBy", "(I)I"⟩
abbrev cX0_errorOf : ByteArray := prog_1_method_27_code
def yX0_errorOf : MethodName := ⟨RX0, "errorOf", "(I)I"⟩
abbrev cX0_bestBee : ByteArray := prog_1_method_28_code
def yX0_bestBee : MethodName := ⟨RX0, "bestBee", "()I"⟩
abbrev cX0_nextTick : ByteArray := prog_1_method_29_code
def yX0_nextTick : MethodName := ⟨RX0, "nextTick", "(I)I"⟩
abbrev cX0_tea : ByteArray := prog_1_method_30_code
def yX0_tea : MethodName := ⟨RX0, "tea", "()I"⟩
abbrev cX0_spilt : ByteArray := prog_1_method_31_code
def yX0_spilt : MethodName := ⟨RX0, "spilt", "()I"⟩
abbrev cX0_spiltAtEnd : ByteArray := prog_1_method_32_code
def yX0_spiltAtEnd : MethodName := ⟨RX0, "spiltAtEnd", "()I"⟩
abbrev cX0_minuteOfSpill : ByteArray := prog_1_method_33_code
def yX0_minuteOfSpill : MethodName := ⟨RX0, "minuteOfSpill", "()I"⟩
abbrev cX0_safeRate : ByteArray := prog_1_method_34_code
def yX0_safeRate : MethodName := ⟨RX0, "safeRate", "()I"⟩
abbrev cX0_bestToGiveUp : ByteArray := prog_1_method_35_code
def yX0_bestToGiveUp : MethodName := ⟨RX0, "bestToGiveUp", "()I"⟩
abbrev cX0_meanLastShadow : ByteArray := prog_1_method_36_code
def yX0_meanLastShadow : MethodName := ⟨RX0, "meanLastShadow", "()D"⟩
abbrev cX0_digest : ByteArray := prog_1_method_37_code
def yX0_digest : MethodName := ⟨RX0, "digest", "()J"⟩
abbrev cX0_checkMinute : ByteArray := prog_1_method_38_code
def yX0_checkMinute : MethodName := ⟨RX0, "checkMinute", "(I)V"⟩
abbrev cX0_checkStick : ByteArray := prog_1_method_39_code
def yX0_checkStick : MethodName := ⟨RX0, "checkStick", "(I)V"⟩
abbrev cX0_checkNap : ByteArray := prog_1_method_40_code
def yX0_checkNap : MethodName := ⟨RX0, "checkNap", "(I)V"⟩
abbrev cX0_checkBee : ByteArray := prog_1_method_41_code
def yX0_checkBee : MethodName := ⟨RX0, "checkBee", "(I)V"⟩
abbrev cX0_covers : ByteArray := prog_1_method_42_code
def yX0_covers : MethodName := ⟨RX0, "covers", "(II)Z"⟩
abbrev cX0_changeCover : ByteArray := prog_1_method_43_code
def yX0_changeCover : MethodName := ⟨RX0, "changeCover", "(II)V"⟩
abbrev cX0_countAlone : ByteArray := prog_1_method_44_code
def yX0_countAlone : MethodName := ⟨RX0, "countAlone", "(I)I"⟩
abbrev cX0_shadowOf : ByteArray := prog_1_method_45_code
def yX0_shadowOf : MethodName := ⟨RX0, "shadowOf", "(II)I"⟩
abbrev cX0_sumOfShadows : ByteArray := prog_1_method_46_code
def yX0_sumOfShadows : MethodName := ⟨RX0, "sumOfShadows", "(I)I"⟩
abbrev cX0_hasBeatIn : ByteArray := prog_1_method_47_code
def yX0_hasBeatIn : MethodName := ⟨RX0, "hasBeatIn", "(II)Z"⟩
abbrev cX0_ticksIn : ByteArray := prog_1_method_48_code
def yX0_ticksIn : MethodName := ⟨RX0, "ticksIn", "(II)Z"⟩
abbrev cX0_countTicks : ByteArray := prog_1_method_49_code
def yX0_countTicks : MethodName := ⟨RX0, "countTicks", "(I)I"⟩
abbrev cX0_contentAfter : ByteArray := prog_1_method_50_code
def yX0_contentAfter : MethodName := ⟨RX0, "contentAfter", "(III)I"⟩
abbrev cX0_excess : ByteArray := prog_1_method_51_code
def yX0_excess : MethodName := ⟨RX0, "excess", "(I)I"⟩
abbrev cX0_pourInto : ByteArray := prog_1_method_52_code
def yX0_pourInto : MethodName := ⟨RX0, "pourInto", "(I)I"⟩
abbrev cX0_firstSpillWith : ByteArray := prog_1_method_53_code
def yX0_firstSpillWith : MethodName := ⟨RX0, "firstSpillWith", "(I)I"⟩
abbrev cX0_withSticks : ByteArray := prog_1_method_54_code
def yX0_withSticks : MethodName := ⟨RX0, "withSticks", "(J)J"⟩
abbrev cX0_withNaps : ByteArray := prog_1_method_55_code
def yX0_withNaps : MethodName := ⟨RX0, "withNaps", "(J)J"⟩
abbrev cX0_withBees : ByteArray := prog_1_method_56_code
def yX0_withBees : MethodName := ⟨RX0, "withBees", "(J)J"⟩
def RX1 : String := "AfternoonMeterLaw$Sim"
def TX1 : u_T := fun k => match k with
  | 0 => ("AfternoonMeterLaw$Sim", "sticks", "[I", false)
  | 1 => ("AfternoonMeterLaw$Sim", "naps", "[[I", false)
  | 2 => ("AfternoonMeterLaw$Sim", "bees", "[[I", false)
  | 3 => ("AfternoonMeterLaw$Sim", "room", "I", false)
  | 4 => ("AfternoonMeterLaw$Sim", "rate", "I", false)
  | 5 => ("AfternoonMeterLaw$Sim", "sip", "I", false)
  | 6 => ("AfternoonMeterLaw$Sim", "afternoon", "I", false)
  | 7 => ("AfternoonMeterLaw$Sim", "minute", "I", false)
  | 8 => ("AfternoonMeterLaw$Sim", "tea", "I", false)
  | _ => ("AfternoonMeterLaw$Sim", "spilt", "I", false)
def tyX1 : Nat → FieldType := fun k => match k with
  | 0 => .array .int
  | 1 => .array (.array .int)
  | 2 => .array (.array .int)
  | 3 => .int
  | 4 => .int
  | 5 => .int
  | 6 => .int
  | 7 => .int
  | 8 => .int
  | _ => .int
abbrev wsX10 : List Cond := u_ws RX1 TX1 10
theorem nmX1 : ∀ a, a < 10 → ∀ b, b < 10 → a ≠ b → (TX1 a).2.1 ≠ (TX1 b).2.1 := by decide +kernel
theorem tyX1_ok : ∀ k, k < 10 → parseFieldDescriptor (TX1 k).2.2.1 = some (tyX1 k) := by decide +kernel
abbrev cX1_init : ByteArray := prog_3_method_1_code
def yX1_init : MethodName := ⟨RX1, "<init>", "()V"⟩
abbrev cX1_with : ByteArray := prog_3_method_2_code
def yX1_with : MethodName := ⟨RX1, "with", "([[I[I)[[I"⟩
abbrev cX1_without : ByteArray := prog_3_method_3_code
def yX1_without : MethodName := ⟨RX1, "without", "([[II)[[I"⟩
abbrev cX1_addStick : ByteArray := prog_3_method_5_code
def yX1_addStick : MethodName := ⟨RX1, "addStick", "(I)V"⟩
abbrev cX1_napsAt : ByteArray := prog_3_method_6_code
def yX1_napsAt : MethodName := ⟨RX1, "napsAt", "(II)I"⟩
abbrev cX1_awake : ByteArray := prog_3_method_7_code
def yX1_awake : MethodName := ⟨RX1, "awake", "(II)I"⟩
abbrev cX1_ticks : ByteArray := prog_3_method_8_code
def yX1_ticks : MethodName := ⟨RX1, "ticks", "(II)Z"⟩
abbrev cX1_ticked : ByteArray := prog_3_method_9_code
def yX1_ticked : MethodName := ⟨RX1, "ticked", "(I)I"⟩
abbrev cX1_pass : ByteArray := prog_3_method_10_code
def yX1_pass : MethodName := ⟨RX1, "pass", "()I"⟩
abbrev cX1_pass_ : ByteArray := prog_3_method_11_code
def yX1_pass_ : MethodName := ⟨RX1, "pass", "(I)I"⟩
abbrev cX1_isSame : ByteArray := prog_3_method_12_code
def yX1_isSame : MethodName := ⟨RX1, "isSame", "(LAfternoonMeter;)Z"⟩
def RX2 : String := "AfternoonMeterModel"
def TX2 : u_T := fun k => match k with
  | _ => ("", "", "", false)
def tyX2 : Nat → FieldType := fun k => match k with
  | _ => .int
abbrev wsX20 : List Cond := u_ws RX2 TX2 0
theorem nmX2 : ∀ a, a < 0 → ∀ b, b < 0 → a ≠ b → (TX2 a).2.1 ≠ (TX2 b).2.1 := by decide +kernel
theorem tyX2_ok : ∀ k, k < 0 → parseFieldDescriptor (TX2 k).2.2.1 = some (tyX2 k) := by decide +kernel
def RJ9 : String := "java/lang/Math"
def TJ9 : u_T := fun k => match k with
  | _ => ("", "", "", false)
def tyJ9 : Nat → FieldType := fun k => match k with
  | _ => .int
abbrev wsJ90 : List Cond := u_ws RJ9 TJ9 0
theorem nmJ9 : ∀ a, a < 0 → ∀ b, b < 0 → a ≠ b → (TJ9 a).2.1 ≠ (TJ9 b).2.1 := by decide +kernel
theorem tyJ9_ok : ∀ k, k < 0 → parseFieldDescriptor (TJ9 k).2.2.1 = some (tyJ9 k) := by decide +kernel
abbrev cJ9_abs_0f7a4 : ByteArray := prog_9_method_59_code
def yJ9_abs_0f7a4 : MethodName := ⟨RJ9, "abs", "(I)I"⟩
abbrev cJ9_max_7cf53 : ByteArray := prog_9_method_65_code
def yJ9_max_7cf53 : MethodName := ⟨RJ9, "max", "(II)I"⟩
abbrev cJ9_min_7cf53 : ByteArray := prog_9_method_69_code
def yJ9_min_7cf53 : MethodName := ⟨RJ9, "min", "(II)I"⟩
def RJ0 : String := "java/lang/String"
def TJ0 : u_T := fun k => match k with
  | _ => ("", "", "", false)
def tyJ0 : Nat → FieldType := fun k => match k with
  | _ => .int
abbrev wsJ00 : List Cond := u_ws RJ0 TJ0 0
theorem nmJ0 : ∀ a, a < 0 → ∀ b, b < 0 → a ≠ b → (TJ0 a).2.1 ≠ (TJ0 b).2.1 := by decide +kernel
theorem tyJ0_ok : ∀ k, k < 0 → parseFieldDescriptor (TJ0 k).2.2.1 = some (tyJ0 k) := by decide +kernel
def RL : String := "AfternoonMeterLaw"
abbrev cL_below : ByteArray := method_2_code
def yL_below : MethodName := ⟨RL, "below", "(II)I"⟩
abbrev cL_cell : ByteArray := method_3_code
def yL_cell : MethodName := ⟨RL, "cell", "([II)I"⟩
abbrev cL_act : ByteArray := method_4_code
def yL_act : MethodName := ⟨RL, "act", "(LAfternoonMeter;LAfternoonMeterLaw$Sim;I)Z"⟩
abbrev cL_build : ByteArray := method_5_code
def yL_build : MethodName := ⟨RL, "build", "(LAfternoonMeter;[I)LAfternoonMeterLaw$Sim;"⟩
abbrev cL_law : ByteArray := code
def yL_law : MethodName := ⟨RL, "law", "([I)Z"⟩
def wsX0_init : List Cond := .code yX0_init cX0_init 1 none :: ([.methodLink RX0 1 objectInit, .instanceMethod objectInit, .code objectInit ⟨#[0xb1]⟩ 1 none, .arrayClass .int, .fieldLink RX0 9 "AfternoonMeter" "heights" "[I", .fieldLink RX0 13 "AfternoonMeter" "napStarts" "[I", .fieldLink RX0 16 "AfternoonMeter" "napEnds" "[I", .fieldLink RX0 19 "AfternoonMeter" "napsOver" "[I", .fieldLink RX0 22 "AfternoonMeter" "periods" "[I", .fieldLink RX0 25 "AfternoonMeter" "beats" "[I", .fieldLink RX0 28 "AfternoonMeter" "beesOn" "[I", .fieldLink RX0 31 "AfternoonMeter" "room" "I", .fieldLink RX0 35 "AfternoonMeter" "rate" "I", .fieldLink RX0 38 "AfternoonMeter" "sip" "I"] ++ wsX00)
def wsX0_addStick : List Cond := .code yX0_addStick cX0_addStick 3 (some .int) :: ([.classLink RX0 41 "java/lang/IllegalArgumentException", .initialized "java/lang/IllegalArgumentException", .classLink RX0 51 "java/lang/IllegalStateException", .initialized "java/lang/IllegalStateException", .fieldLink RX0 48 "AfternoonMeter" "stickCount" "I", .fieldLink RX0 9 "AfternoonMeter" "heights" "[I"] ++ wsX00 ++ (vx_atS RX0 45 "java/lang/IllegalArgumentException" ["java/lang/RuntimeException", "java/lang/Exception"]).filter goodWord ++ (vx_atS RX0 55 "java/lang/IllegalStateException" ["java/lang/RuntimeException", "java/lang/Exception"]).filter goodWord)
def wsX0_covers : List Cond := .code yX0_covers cX0_covers 3 (some .boolean) :: ([.fieldLink RX0 13 "AfternoonMeter" "napStarts" "[I", .fieldLink RX0 16 "AfternoonMeter" "napEnds" "[I"] ++ wsX00)
def wsX0_changeCover : List Cond := .code yX0_changeCover cX0_changeCover 4 none :: ([.fieldLink RX0 19 "AfternoonMeter" "napsOver" "[I", .methodLink RX0 201 yX0_covers, .instanceMethod yX0_covers, .selects RX0 yX0_covers yX0_covers, .initialized RX0, .code yX0_covers cX0_covers 3 (some .boolean), .fieldLink RX0 13 "AfternoonMeter" "napStarts" "[I", .fieldLink RX0 16 "AfternoonMeter" "napEnds" "[I"] ++ wsX00)
def wsX0_addNap : List Cond := .code yX0_addNap cX0_addNap 4 (some .int) :: ([.classLink RX0 41 "java/lang/IllegalArgumentException", .initialized "java/lang/IllegalArgumentException", .classLink RX0 51 "java/lang/IllegalStateException", .initialized "java/lang/IllegalStateException", .fieldLink RX0 58 "AfternoonMeter" "napCount" "I", .fieldLink RX0 13 "AfternoonMeter" "napStarts" "[I", .fieldLink RX0 16 "AfternoonMeter" "napEnds" "[I", .methodLink RX0 63 yX0_changeCover, .instanceMethod yX0_changeCover, .selects RX0 yX0_changeCover yX0_changeCover, .initialized RX0, .code yX0_changeCover cX0_changeCover 4 none, .fieldLink RX0 19 "AfternoonMeter" "napsOver" "[I", .methodLink RX0 201 yX0_covers, .instanceMethod yX0_covers, .selects RX0 yX0_covers yX0_covers, .code yX0_covers cX0_covers 3 (some .boolean)] ++ wsX00 ++ (vx_atS RX0 45 "java/lang/IllegalArgumentException" ["java/lang/RuntimeException", "java/lang/Exception"]).filter goodWord ++ (vx_atS RX0 55 "java/lang/IllegalStateException" ["java/lang/RuntimeException", "java/lang/Exception"]).filter goodWord)
def wsX0_checkNap : List Cond := .code yX0_checkNap cX0_checkNap 2 none :: ([.classLink RX0 192 "java/lang/IndexOutOfBoundsException", .initialized "java/lang/IndexOutOfBoundsException", .fieldLink RX0 58 "AfternoonMeter" "napCount" "I"] ++ wsX00 ++ (vx_atS RX0 196 "java/lang/IndexOutOfBoundsException" ["java/lang/RuntimeException", "java/lang/Exception"]).filter goodWord)
def wsX0_giveUp : List Cond := .code yX0_giveUp cX0_giveUp 3 (some .int) :: ([.fieldLink RX0 58 "AfternoonMeter" "napCount" "I", .fieldLink RX0 13 "AfternoonMeter" "napStarts" "[I", .fieldLink RX0 16 "AfternoonMeter" "napEnds" "[I", .methodLink RX0 67 yX0_checkNap, .instanceMethod yX0_checkNap, .selects RX0 yX0_checkNap yX0_checkNap, .initialized RX0, .code yX0_checkNap cX0_checkNap 2 none, .classLink RX0 192 "java/lang/IndexOutOfBoundsException", .initialized "java/lang/IndexOutOfBoundsException", .methodLink RX0 63 yX0_changeCover, .instanceMethod yX0_changeCover, .selects RX0 yX0_changeCover yX0_changeCover, .code yX0_changeCover cX0_changeCover 4 none, .fieldLink RX0 19 "AfternoonMeter" "napsOver" "[I", .methodLink RX0 201 yX0_covers, .instanceMethod yX0_covers, .selects RX0 yX0_covers yX0_covers, .code yX0_covers cX0_covers 3 (some .boolean)] ++ wsX00 ++ (vx_atS RX0 196 "java/lang/IndexOutOfBoundsException" ["java/lang/RuntimeException", "java/lang/Exception"]).filter goodWord)
def wsX0_hasBeatIn : List Cond := .code yX0_hasBeatIn cX0_hasBeatIn 4 (some .boolean) :: ([.fieldLink RX0 22 "AfternoonMeter" "periods" "[I", .fieldLink RX0 25 "AfternoonMeter" "beats" "[I"] ++ wsX00)
def wsX0_addBee : List Cond := .code yX0_addBee cX0_addBee 5 (some .int) :: ([.classLink RX0 41 "java/lang/IllegalArgumentException", .initialized "java/lang/IllegalArgumentException", .classLink RX0 51 "java/lang/IllegalStateException", .initialized "java/lang/IllegalStateException", .fieldLink RX0 73 "AfternoonMeter" "beeCount" "I", .fieldLink RX0 22 "AfternoonMeter" "periods" "[I", .fieldLink RX0 25 "AfternoonMeter" "beats" "[I", .fieldLink RX0 28 "AfternoonMeter" "beesOn" "[I", .methodLink RX0 78 yX0_hasBeatIn, .instanceMethod yX0_hasBeatIn, .selects RX0 yX0_hasBeatIn yX0_hasBeatIn, .initialized RX0, .code yX0_hasBeatIn cX0_hasBeatIn 4 (some .boolean)] ++ wsX00 ++ (vx_atS RX0 45 "java/lang/IllegalArgumentException" ["java/lang/RuntimeException", "java/lang/Exception"]).filter goodWord ++ (vx_atS RX0 55 "java/lang/IllegalStateException" ["java/lang/RuntimeException", "java/lang/Exception"]).filter goodWord)
def wsX0_excess : List Cond := .code yX0_excess cX0_excess 2 (some .int) :: ([.fieldLink RX0 31 "AfternoonMeter" "room" "I", .methodLink RX0 119 Lib.Math.max.name, .static Lib.Math.max.name, .initialized "java/lang/Math", .code Lib.Math.max.name Lib.Math.max.code 2 (some .int)] ++ wsX00)
def wsX0_pourInto : List Cond := .code yX0_pourInto cX0_pourInto 3 (some .int) :: ([.fieldLink RX0 88 "AfternoonMeter" "inCup" "I", .fieldLink RX0 106 "AfternoonMeter" "ranOver" "I", .methodLink RX0 155 yX0_excess, .instanceMethod yX0_excess, .selects RX0 yX0_excess yX0_excess, .initialized RX0, .code yX0_excess cX0_excess 2 (some .int), .fieldLink RX0 31 "AfternoonMeter" "room" "I", .methodLink RX0 119 Lib.Math.max.name, .static Lib.Math.max.name, .initialized "java/lang/Math", .code Lib.Math.max.name Lib.Math.max.code 2 (some .int)] ++ wsX00)
def wsX0_setTea : List Cond := .code yX0_setTea cX0_setTea 4 (some .int) :: ([.classLink RX0 41 "java/lang/IllegalArgumentException", .initialized "java/lang/IllegalArgumentException", .fieldLink RX0 31 "AfternoonMeter" "room" "I", .fieldLink RX0 35 "AfternoonMeter" "rate" "I", .fieldLink RX0 38 "AfternoonMeter" "sip" "I", .fieldLink RX0 88 "AfternoonMeter" "inCup" "I", .methodLink RX0 91 yX0_pourInto, .instanceMethod yX0_pourInto, .selects RX0 yX0_pourInto yX0_pourInto, .initialized RX0, .code yX0_pourInto cX0_pourInto 3 (some .int), .fieldLink RX0 106 "AfternoonMeter" "ranOver" "I", .methodLink RX0 155 yX0_excess, .instanceMethod yX0_excess, .selects RX0 yX0_excess yX0_excess, .code yX0_excess cX0_excess 2 (some .int), .methodLink RX0 119 Lib.Math.max.name, .static Lib.Math.max.name, .initialized "java/lang/Math", .code Lib.Math.max.name Lib.Math.max.code 2 (some .int)] ++ wsX00 ++ (vx_atS RX0 45 "java/lang/IllegalArgumentException" ["java/lang/RuntimeException", "java/lang/Exception"]).filter goodWord)
def wsX0_contentAfter : List Cond := .code yX0_contentAfter cX0_contentAfter 4 (some .int) :: ([.fieldLink RX0 19 "AfternoonMeter" "napsOver" "[I", .fieldLink RX0 38 "AfternoonMeter" "sip" "I", .fieldLink RX0 28 "AfternoonMeter" "beesOn" "[I", .methodLink RX0 119 Lib.Math.max.name, .static Lib.Math.max.name, .initialized "java/lang/Math", .code Lib.Math.max.name Lib.Math.max.code 2 (some .int)] ++ wsX00)
def wsX0_pass_r1 : List Cond := [Cond.classLink RX0 41 "java/lang/IllegalArgumentException", Cond.initialized "java/lang/IllegalArgumentException", Cond.classLink RX0 51 "java/lang/IllegalStateException", Cond.initialized "java/lang/IllegalStateException", Cond.fieldLink RX0 97 "AfternoonMeter" "now" "I", Cond.fieldLink RX0 88 "AfternoonMeter" "inCup" "I", Cond.fieldLink RX0 35 "AfternoonMeter" "rate" "I", Cond.methodLink RX0 102 yX0_contentAfter, Cond.instanceMethod yX0_contentAfter, Cond.selects RX0 yX0_contentAfter yX0_contentAfter, Cond.initialized RX0, Cond.code yX0_contentAfter cX0_contentAfter 4 (some .int), Cond.fieldLink RX0 19 "AfternoonMeter" "napsOver" "[I", Cond.fieldLink RX0 38 "AfternoonMeter" "sip" "I", Cond.fieldLink RX0 28 "AfternoonMeter" "beesOn" "[I", Cond.methodLink RX0 119 Lib.Math.max.name, Cond.static Lib.Math.max.name, Cond.initialized "java/lang/Math", Cond.code Lib.Math.max.name Lib.Math.max.code 2 (some .int), Cond.methodLink RX0 91 yX0_pourInto, Cond.instanceMethod yX0_pourInto, Cond.selects RX0 yX0_pourInto yX0_pourInto, Cond.code yX0_pourInto cX0_pourInto 3 (some .int), Cond.fieldLink RX0 106 "AfternoonMeter" "ranOver" "I"]
def wsX0_pass_r2 : List Cond := [Cond.methodLink RX0 155 yX0_excess, Cond.instanceMethod yX0_excess, Cond.selects RX0 yX0_excess yX0_excess, Cond.code yX0_excess cX0_excess 2 (some .int), Cond.fieldLink RX0 31 "AfternoonMeter" "room" "I"]
def wsX0_pass : List Cond := .code yX0_pass cX0_pass 4 (some .int) :: ((wsX0_pass_r1 ++ wsX0_pass_r2) ++ wsX00 ++ (vx_atS RX0 45 "java/lang/IllegalArgumentException" ["java/lang/RuntimeException", "java/lang/Exception"]).filter goodWord ++ (vx_atS RX0 55 "java/lang/IllegalStateException" ["java/lang/RuntimeException", "java/lang/Exception"]).filter goodWord)
def wsX0_begin : List Cond := .code yX0_begin cX0_begin 1 (some .int) :: ([.fieldLink RX0 97 "AfternoonMeter" "now" "I", .fieldLink RX0 88 "AfternoonMeter" "inCup" "I", .fieldLink RX0 106 "AfternoonMeter" "ranOver" "I", .fieldLink RX0 109 "AfternoonMeter" "afternoonNumber" "I"] ++ wsX00)
def wsX0_afternoon : List Cond := .code yX0_afternoon cX0_afternoon 1 (some .int) :: ([.fieldLink RX0 109 "AfternoonMeter" "afternoonNumber" "I"] ++ wsX00)
def wsX0_minute : List Cond := .code yX0_minute cX0_minute 1 (some .int) :: ([.fieldLink RX0 97 "AfternoonMeter" "now" "I"] ++ wsX00)
def wsX0_checkMinute : List Cond := .code yX0_checkMinute cX0_checkMinute 2 none :: ([.classLink RX0 41 "java/lang/IllegalArgumentException", .initialized "java/lang/IllegalArgumentException"] ++ (vx_atS RX0 45 "java/lang/IllegalArgumentException" ["java/lang/RuntimeException", "java/lang/Exception"]).filter goodWord)
def wsX0_isAsleep : List Cond := .code yX0_isAsleep cX0_isAsleep 2 (some .boolean) :: ([.fieldLink RX0 19 "AfternoonMeter" "napsOver" "[I", .methodLink RX0 112 yX0_checkMinute, .instanceMethod yX0_checkMinute, .selects RX0 yX0_checkMinute yX0_checkMinute, .initialized RX0, .code yX0_checkMinute cX0_checkMinute 2 none, .classLink RX0 41 "java/lang/IllegalArgumentException", .initialized "java/lang/IllegalArgumentException"] ++ wsX00 ++ (vx_atS RX0 45 "java/lang/IllegalArgumentException" ["java/lang/RuntimeException", "java/lang/Exception"]).filter goodWord)
def wsX0_awakeMinutes : List Cond := .code yX0_awakeMinutes cX0_awakeMinutes 3 (some .int) :: ([.fieldLink RX0 97 "AfternoonMeter" "now" "I", .fieldLink RX0 19 "AfternoonMeter" "napsOver" "[I"] ++ wsX00)
def wsX0_sleptMinutes : List Cond := .code yX0_sleptMinutes cX0_sleptMinutes 1 (some .int) :: ([.fieldLink RX0 97 "AfternoonMeter" "now" "I", .methodLink RX0 115 yX0_awakeMinutes, .instanceMethod yX0_awakeMinutes, .selects RX0 yX0_awakeMinutes yX0_awakeMinutes, .initialized RX0, .code yX0_awakeMinutes cX0_awakeMinutes 3 (some .int), .fieldLink RX0 19 "AfternoonMeter" "napsOver" "[I"] ++ wsX00)
def wsX0_longestAwake : List Cond := .code yX0_longestAwake cX0_longestAwake 4 (some .int) :: ([.fieldLink RX0 19 "AfternoonMeter" "napsOver" "[I", .methodLink RX0 119 Lib.Math.max.name, .static Lib.Math.max.name, .initialized "java/lang/Math", .code Lib.Math.max.name Lib.Math.max.code 2 (some .int)] ++ wsX00)
def wsX0_sticks : List Cond := .code yX0_sticks cX0_sticks 1 (some .int) :: ([.fieldLink RX0 48 "AfternoonMeter" "stickCount" "I"] ++ wsX00)
def wsX0_checkStick : List Cond := .code yX0_checkStick cX0_checkStick 2 none :: ([.classLink RX0 192 "java/lang/IndexOutOfBoundsException", .initialized "java/lang/IndexOutOfBoundsException", .fieldLink RX0 48 "AfternoonMeter" "stickCount" "I"] ++ wsX00 ++ (vx_atS RX0 196 "java/lang/IndexOutOfBoundsException" ["java/lang/RuntimeException", "java/lang/Exception"]).filter goodWord)
def wsX0_shadowOf : List Cond := .code yX0_shadowOf cX0_shadowOf 3 (some .int) :: ([.fieldLink RX0 9 "AfternoonMeter" "heights" "[I"] ++ wsX00)
def wsX0_shadowAt : List Cond := .code yX0_shadowAt cX0_shadowAt 3 (some .int) :: ([.methodLink RX0 125 yX0_checkStick, .instanceMethod yX0_checkStick, .selects RX0 yX0_checkStick yX0_checkStick, .initialized RX0, .code yX0_checkStick cX0_checkStick 2 none, .classLink RX0 192 "java/lang/IndexOutOfBoundsException", .initialized "java/lang/IndexOutOfBoundsException", .fieldLink RX0 48 "AfternoonMeter" "stickCount" "I", .methodLink RX0 112 yX0_checkMinute, .instanceMethod yX0_checkMinute, .selects RX0 yX0_checkMinute yX0_checkMinute, .code yX0_checkMinute cX0_checkMinute 2 none, .classLink RX0 41 "java/lang/IllegalArgumentException", .initialized "java/lang/IllegalArgumentException", .methodLink RX0 128 yX0_shadowOf, .instanceMethod yX0_shadowOf, .selects RX0 yX0_shadowOf yX0_shadowOf, .code yX0_shadowOf cX0_shadowOf 3 (some .int), .fieldLink RX0 9 "AfternoonMeter" "heights" "[I"] ++ wsX00 ++ (vx_atS RX0 196 "java/lang/IndexOutOfBoundsException" ["java/lang/RuntimeException", "java/lang/Exception"]).filter goodWord ++ (vx_atS RX0 45 "java/lang/IllegalArgumentException" ["java/lang/RuntimeException", "java/lang/Exception"]).filter goodWord)
def wsX0_minuteOfShadow : List Cond := .code yX0_minuteOfShadow cX0_minuteOfShadow 4 (some .int) :: ([.methodLink RX0 125 yX0_checkStick, .instanceMethod yX0_checkStick, .selects RX0 yX0_checkStick yX0_checkStick, .initialized RX0, .code yX0_checkStick cX0_checkStick 2 none, .classLink RX0 192 "java/lang/IndexOutOfBoundsException", .initialized "java/lang/IndexOutOfBoundsException", .fieldLink RX0 48 "AfternoonMeter" "stickCount" "I", .methodLink RX0 128 yX0_shadowOf, .instanceMethod yX0_shadowOf, .selects RX0 yX0_shadowOf yX0_shadowOf, .code yX0_shadowOf cX0_shadowOf 3 (some .int), .fieldLink RX0 9 "AfternoonMeter" "heights" "[I"] ++ wsX00 ++ (vx_atS RX0 196 "java/lang/IndexOutOfBoundsException" ["java/lang/RuntimeException", "java/lang/Exception"]).filter goodWord)
def wsX0_sumOfShadows : List Cond := .code yX0_sumOfShadows cX0_sumOfShadows 4 (some .int) :: ([.fieldLink RX0 48 "AfternoonMeter" "stickCount" "I", .methodLink RX0 128 yX0_shadowOf, .instanceMethod yX0_shadowOf, .selects RX0 yX0_shadowOf yX0_shadowOf, .initialized RX0, .code yX0_shadowOf cX0_shadowOf 3 (some .int), .fieldLink RX0 9 "AfternoonMeter" "heights" "[I"] ++ wsX00)
def wsX0_allShadows : List Cond := .code yX0_allShadows cX0_allShadows 2 (some .int) :: ([.methodLink RX0 112 yX0_checkMinute, .instanceMethod yX0_checkMinute, .selects RX0 yX0_checkMinute yX0_checkMinute, .initialized RX0, .code yX0_checkMinute cX0_checkMinute 2 none, .classLink RX0 41 "java/lang/IllegalArgumentException", .initialized "java/lang/IllegalArgumentException", .methodLink RX0 131 yX0_sumOfShadows, .instanceMethod yX0_sumOfShadows, .selects RX0 yX0_sumOfShadows yX0_sumOfShadows, .code yX0_sumOfShadows cX0_sumOfShadows 4 (some .int), .fieldLink RX0 48 "AfternoonMeter" "stickCount" "I", .methodLink RX0 128 yX0_shadowOf, .instanceMethod yX0_shadowOf, .selects RX0 yX0_shadowOf yX0_shadowOf, .code yX0_shadowOf cX0_shadowOf 3 (some .int), .fieldLink RX0 9 "AfternoonMeter" "heights" "[I"] ++ wsX00 ++ (vx_atS RX0 45 "java/lang/IllegalArgumentException" ["java/lang/RuntimeException", "java/lang/Exception"]).filter goodWord)
def wsX0_naps : List Cond := .code yX0_naps cX0_naps 1 (some .int) :: ([.fieldLink RX0 58 "AfternoonMeter" "napCount" "I"] ++ wsX00)
def wsX0_startOf : List Cond := .code yX0_startOf cX0_startOf 2 (some .int) :: ([.fieldLink RX0 13 "AfternoonMeter" "napStarts" "[I", .methodLink RX0 67 yX0_checkNap, .instanceMethod yX0_checkNap, .selects RX0 yX0_checkNap yX0_checkNap, .initialized RX0, .code yX0_checkNap cX0_checkNap 2 none, .classLink RX0 192 "java/lang/IndexOutOfBoundsException", .initialized "java/lang/IndexOutOfBoundsException", .fieldLink RX0 58 "AfternoonMeter" "napCount" "I"] ++ wsX00 ++ (vx_atS RX0 196 "java/lang/IndexOutOfBoundsException" ["java/lang/RuntimeException", "java/lang/Exception"]).filter goodWord)
def wsX0_lengthOf : List Cond := .code yX0_lengthOf cX0_lengthOf 2 (some .int) :: ([.fieldLink RX0 16 "AfternoonMeter" "napEnds" "[I", .fieldLink RX0 13 "AfternoonMeter" "napStarts" "[I", .methodLink RX0 67 yX0_checkNap, .instanceMethod yX0_checkNap, .selects RX0 yX0_checkNap yX0_checkNap, .initialized RX0, .code yX0_checkNap cX0_checkNap 2 none, .classLink RX0 192 "java/lang/IndexOutOfBoundsException", .initialized "java/lang/IndexOutOfBoundsException", .fieldLink RX0 58 "AfternoonMeter" "napCount" "I"] ++ wsX00 ++ (vx_atS RX0 196 "java/lang/IndexOutOfBoundsException" ["java/lang/RuntimeException", "java/lang/Exception"]).filter goodWord)
def wsX0_napsAt : List Cond := .code yX0_napsAt cX0_napsAt 2 (some .int) :: ([.fieldLink RX0 19 "AfternoonMeter" "napsOver" "[I", .methodLink RX0 112 yX0_checkMinute, .instanceMethod yX0_checkMinute, .selects RX0 yX0_checkMinute yX0_checkMinute, .initialized RX0, .code yX0_checkMinute cX0_checkMinute 2 none, .classLink RX0 41 "java/lang/IllegalArgumentException", .initialized "java/lang/IllegalArgumentException"] ++ wsX00 ++ (vx_atS RX0 45 "java/lang/IllegalArgumentException" ["java/lang/RuntimeException", "java/lang/Exception"]).filter goodWord)
def wsX0_countAlone : List Cond := .code yX0_countAlone cX0_countAlone 4 (some .int) :: ([.fieldLink RX0 19 "AfternoonMeter" "napsOver" "[I", .methodLink RX0 201 yX0_covers, .instanceMethod yX0_covers, .selects RX0 yX0_covers yX0_covers, .initialized RX0, .code yX0_covers cX0_covers 3 (some .boolean), .fieldLink RX0 13 "AfternoonMeter" "napStarts" "[I", .fieldLink RX0 16 "AfternoonMeter" "napEnds" "[I"] ++ wsX00)
def wsX0_minutesAlone : List Cond := .code yX0_minutesAlone cX0_minutesAlone 2 (some .int) :: ([.methodLink RX0 67 yX0_checkNap, .instanceMethod yX0_checkNap, .selects RX0 yX0_checkNap yX0_checkNap, .initialized RX0, .code yX0_checkNap cX0_checkNap 2 none, .classLink RX0 192 "java/lang/IndexOutOfBoundsException", .initialized "java/lang/IndexOutOfBoundsException", .fieldLink RX0 58 "AfternoonMeter" "napCount" "I", .methodLink RX0 134 yX0_countAlone, .instanceMethod yX0_countAlone, .selects RX0 yX0_countAlone yX0_countAlone, .code yX0_countAlone cX0_countAlone 4 (some .int), .fieldLink RX0 19 "AfternoonMeter" "napsOver" "[I", .methodLink RX0 201 yX0_covers, .instanceMethod yX0_covers, .selects RX0 yX0_covers yX0_covers, .code yX0_covers cX0_covers 3 (some .boolean), .fieldLink RX0 13 "AfternoonMeter" "napStarts" "[I", .fieldLink RX0 16 "AfternoonMeter" "napEnds" "[I"] ++ wsX00 ++ (vx_atS RX0 196 "java/lang/IndexOutOfBoundsException" ["java/lang/RuntimeException", "java/lang/Exception"]).filter goodWord)
def wsX0_bees : List Cond := .code yX0_bees cX0_bees 1 (some .int) :: ([.fieldLink RX0 73 "AfternoonMeter" "beeCount" "I"] ++ wsX00)
def wsX0_checkBee : List Cond := .code yX0_checkBee cX0_checkBee 2 none :: ([.classLink RX0 192 "java/lang/IndexOutOfBoundsException", .initialized "java/lang/IndexOutOfBoundsException", .fieldLink RX0 73 "AfternoonMeter" "beeCount" "I"] ++ wsX00 ++ (vx_atS RX0 196 "java/lang/IndexOutOfBoundsException" ["java/lang/RuntimeException", "java/lang/Exception"]).filter goodWord)
def wsX0_ticksIn : List Cond := .code yX0_ticksIn cX0_ticksIn 3 (some .boolean) :: ([.fieldLink RX0 19 "AfternoonMeter" "napsOver" "[I", .methodLink RX0 78 yX0_hasBeatIn, .instanceMethod yX0_hasBeatIn, .selects RX0 yX0_hasBeatIn yX0_hasBeatIn, .initialized RX0, .code yX0_hasBeatIn cX0_hasBeatIn 4 (some .boolean), .fieldLink RX0 22 "AfternoonMeter" "periods" "[I", .fieldLink RX0 25 "AfternoonMeter" "beats" "[I"] ++ wsX00)
def wsX0_countTicks : List Cond := .code yX0_countTicks cX0_countTicks 4 (some .int) :: ([.fieldLink RX0 97 "AfternoonMeter" "now" "I", .methodLink RX0 152 yX0_ticksIn, .instanceMethod yX0_ticksIn, .selects RX0 yX0_ticksIn yX0_ticksIn, .initialized RX0, .code yX0_ticksIn cX0_ticksIn 3 (some .boolean), .fieldLink RX0 19 "AfternoonMeter" "napsOver" "[I", .methodLink RX0 78 yX0_hasBeatIn, .instanceMethod yX0_hasBeatIn, .selects RX0 yX0_hasBeatIn yX0_hasBeatIn, .code yX0_hasBeatIn cX0_hasBeatIn 4 (some .boolean), .fieldLink RX0 22 "AfternoonMeter" "periods" "[I", .fieldLink RX0 25 "AfternoonMeter" "beats" "[I"] ++ wsX00)
def wsX0_ticksOf : List Cond := .code yX0_ticksOf cX0_ticksOf 2 (some .int) :: ([.methodLink RX0 137 yX0_checkBee, .instanceMethod yX0_checkBee, .selects RX0 yX0_checkBee yX0_checkBee, .initialized RX0, .code yX0_checkBee cX0_checkBee 2 none, .classLink RX0 192 "java/lang/IndexOutOfBoundsException", .initialized "java/lang/IndexOutOfBoundsException", .fieldLink RX0 73 "AfternoonMeter" "beeCount" "I", .methodLink RX0 140 yX0_countTicks, .instanceMethod yX0_countTicks, .selects RX0 yX0_countTicks yX0_countTicks, .code yX0_countTicks cX0_countTicks 4 (some .int), .fieldLink RX0 97 "AfternoonMeter" "now" "I", .methodLink RX0 152 yX0_ticksIn, .instanceMethod yX0_ticksIn, .selects RX0 yX0_ticksIn yX0_ticksIn, .code yX0_ticksIn cX0_ticksIn 3 (some .boolean), .fieldLink RX0 19 "AfternoonMeter" "napsOver" "[I", .methodLink RX0 78 yX0_hasBeatIn, .instanceMethod yX0_hasBeatIn, .selects RX0 yX0_hasBeatIn yX0_hasBeatIn, .code yX0_hasBeatIn cX0_hasBeatIn 4 (some .boolean), .fieldLink RX0 22 "AfternoonMeter" "periods" "[I", .fieldLink RX0 25 "AfternoonMeter" "beats" "[I"] ++ wsX00 ++ (vx_atS RX0 196 "java/lang/IndexOutOfBoundsException" ["java/lang/RuntimeException", "java/lang/Exception"]).filter goodWord)
def wsX0_measuredBy : List Cond := .code yX0_measuredBy cX0_measuredBy 2 (some .int) :: ([.fieldLink RX0 22 "AfternoonMeter" "periods" "[I", .methodLink RX0 137 yX0_checkBee, .instanceMethod yX0_checkBee, .selects RX0 yX0_checkBee yX0_checkBee, .initialized RX0, .code yX0_checkBee cX0_checkBee 2 none, .classLink RX0 192 "java/lang/IndexOutOfBoundsException", .initialized "java/lang/IndexOutOfBoundsException", .fieldLink RX0 73 "AfternoonMeter" "beeCount" "I", .methodLink RX0 140 yX0_countTicks, .instanceMethod yX0_countTicks, .selects RX0 yX0_countTicks yX0_countTicks, .code yX0_countTicks cX0_countTicks 4 (some .int), .fieldLink RX0 97 "AfternoonMeter" "now" "I", .methodLink RX0 152 yX0_ticksIn, .instanceMethod yX0_ticksIn, .selects RX0 yX0_ticksIn yX0_ticksIn, .code yX0_ticksIn cX0_ticksIn 3 (some .boolean), .fieldLink RX0 19 "AfternoonMeter" "napsOver" "[I", .methodLink RX0 78 yX0_hasBeatIn, .instanceMethod yX0_hasBeatIn, .selects RX0 yX0_hasBeatIn yX0_hasBeatIn, .code yX0_hasBeatIn cX0_hasBeatIn 4 (some .boolean), .fieldLink RX0 25 "AfternoonMeter" "beats" "[I"] ++ wsX00 ++ (vx_atS RX0 196 "java/lang/IndexOutOfBoundsException" ["java/lang/RuntimeException", "java/lang/Exception"]).filter goodWord)
def wsX0_errorOf_r1 : List Cond := [Cond.methodLink RX0 143 yX0_measuredBy, Cond.instanceMethod yX0_measuredBy, Cond.selects RX0 yX0_measuredBy yX0_measuredBy, Cond.initialized RX0, Cond.code yX0_measuredBy cX0_measuredBy 2 (some .int), Cond.fieldLink RX0 22 "AfternoonMeter" "periods" "[I", Cond.methodLink RX0 137 yX0_checkBee, Cond.instanceMethod yX0_checkBee, Cond.selects RX0 yX0_checkBee yX0_checkBee, Cond.code yX0_checkBee cX0_checkBee 2 none, Cond.classLink RX0 192 "java/lang/IndexOutOfBoundsException", Cond.initialized "java/lang/IndexOutOfBoundsException", Cond.fieldLink RX0 73 "AfternoonMeter" "beeCount" "I", Cond.methodLink RX0 140 yX0_countTicks, Cond.instanceMethod yX0_countTicks, Cond.selects RX0 yX0_countTicks yX0_countTicks, Cond.code yX0_countTicks cX0_countTicks 4 (some .int), Cond.fieldLink RX0 97 "AfternoonMeter" "now" "I", Cond.methodLink RX0 152 yX0_ticksIn, Cond.instanceMethod yX0_ticksIn, Cond.selects RX0 yX0_ticksIn yX0_ticksIn, Cond.code yX0_ticksIn cX0_ticksIn 3 (some .boolean), Cond.fieldLink RX0 19 "AfternoonMeter" "napsOver" "[I", Cond.methodLink RX0 78 yX0_hasBeatIn]
def wsX0_errorOf_r2 : List Cond := [Cond.instanceMethod yX0_hasBeatIn, Cond.selects RX0 yX0_hasBeatIn yX0_hasBeatIn, Cond.code yX0_hasBeatIn cX0_hasBeatIn 4 (some .boolean), Cond.fieldLink RX0 25 "AfternoonMeter" "beats" "[I", Cond.methodLink RX0 115 yX0_awakeMinutes, Cond.instanceMethod yX0_awakeMinutes, Cond.selects RX0 yX0_awakeMinutes yX0_awakeMinutes, Cond.code yX0_awakeMinutes cX0_awakeMinutes 3 (some .int)]
def wsX0_errorOf : List Cond := .code yX0_errorOf cX0_errorOf 2 (some .int) :: ((wsX0_errorOf_r1 ++ wsX0_errorOf_r2) ++ wsX00 ++ (vx_atS RX0 196 "java/lang/IndexOutOfBoundsException" ["java/lang/RuntimeException", "java/lang/Exception"]).filter goodWord)
def wsX0_bestBee_r1 : List Cond := [Cond.fieldLink RX0 73 "AfternoonMeter" "beeCount" "I", Cond.methodLink RX0 149 Lib.Math.abs.name, Cond.static Lib.Math.abs.name, Cond.initialized "java/lang/Math", Cond.code Lib.Math.abs.name Lib.Math.abs.code 1 (some .int), Cond.methodLink RX0 146 yX0_errorOf, Cond.instanceMethod yX0_errorOf, Cond.selects RX0 yX0_errorOf yX0_errorOf, Cond.initialized RX0, Cond.code yX0_errorOf cX0_errorOf 2 (some .int), Cond.methodLink RX0 143 yX0_measuredBy, Cond.instanceMethod yX0_measuredBy, Cond.selects RX0 yX0_measuredBy yX0_measuredBy, Cond.code yX0_measuredBy cX0_measuredBy 2 (some .int), Cond.fieldLink RX0 22 "AfternoonMeter" "periods" "[I", Cond.methodLink RX0 137 yX0_checkBee, Cond.instanceMethod yX0_checkBee, Cond.selects RX0 yX0_checkBee yX0_checkBee, Cond.code yX0_checkBee cX0_checkBee 2 none, Cond.classLink RX0 192 "java/lang/IndexOutOfBoundsException", Cond.initialized "java/lang/IndexOutOfBoundsException", Cond.methodLink RX0 140 yX0_countTicks, Cond.instanceMethod yX0_countTicks, Cond.selects RX0 yX0_countTicks yX0_countTicks]
def wsX0_bestBee_r2 : List Cond := [Cond.code yX0_countTicks cX0_countTicks 4 (some .int), Cond.fieldLink RX0 97 "AfternoonMeter" "now" "I", Cond.methodLink RX0 152 yX0_ticksIn, Cond.instanceMethod yX0_ticksIn, Cond.selects RX0 yX0_ticksIn yX0_ticksIn, Cond.code yX0_ticksIn cX0_ticksIn 3 (some .boolean), Cond.fieldLink RX0 19 "AfternoonMeter" "napsOver" "[I", Cond.methodLink RX0 78 yX0_hasBeatIn, Cond.instanceMethod yX0_hasBeatIn, Cond.selects RX0 yX0_hasBeatIn yX0_hasBeatIn, Cond.code yX0_hasBeatIn cX0_hasBeatIn 4 (some .boolean), Cond.fieldLink RX0 25 "AfternoonMeter" "beats" "[I", Cond.methodLink RX0 115 yX0_awakeMinutes, Cond.instanceMethod yX0_awakeMinutes, Cond.selects RX0 yX0_awakeMinutes yX0_awakeMinutes, Cond.code yX0_awakeMinutes cX0_awakeMinutes 3 (some .int)]
def wsX0_bestBee : List Cond := .code yX0_bestBee cX0_bestBee 5 (some .int) :: ((wsX0_bestBee_r1 ++ wsX0_bestBee_r2) ++ wsX00 ++ (vx_atS RX0 196 "java/lang/IndexOutOfBoundsException" ["java/lang/RuntimeException", "java/lang/Exception"]).filter goodWord)
def wsX0_nextTick : List Cond := .code yX0_nextTick cX0_nextTick 3 (some .int) :: ([.fieldLink RX0 97 "AfternoonMeter" "now" "I", .methodLink RX0 137 yX0_checkBee, .instanceMethod yX0_checkBee, .selects RX0 yX0_checkBee yX0_checkBee, .initialized RX0, .code yX0_checkBee cX0_checkBee 2 none, .classLink RX0 192 "java/lang/IndexOutOfBoundsException", .initialized "java/lang/IndexOutOfBoundsException", .fieldLink RX0 73 "AfternoonMeter" "beeCount" "I", .methodLink RX0 152 yX0_ticksIn, .instanceMethod yX0_ticksIn, .selects RX0 yX0_ticksIn yX0_ticksIn, .code yX0_ticksIn cX0_ticksIn 3 (some .boolean), .fieldLink RX0 19 "AfternoonMeter" "napsOver" "[I", .methodLink RX0 78 yX0_hasBeatIn, .instanceMethod yX0_hasBeatIn, .selects RX0 yX0_hasBeatIn yX0_hasBeatIn, .code yX0_hasBeatIn cX0_hasBeatIn 4 (some .boolean), .fieldLink RX0 22 "AfternoonMeter" "periods" "[I", .fieldLink RX0 25 "AfternoonMeter" "beats" "[I"] ++ wsX00 ++ (vx_atS RX0 196 "java/lang/IndexOutOfBoundsException" ["java/lang/RuntimeException", "java/lang/Exception"]).filter goodWord)
def wsX0_tea : List Cond := .code yX0_tea cX0_tea 1 (some .int) :: ([.fieldLink RX0 88 "AfternoonMeter" "inCup" "I"] ++ wsX00)
def wsX0_spilt : List Cond := .code yX0_spilt cX0_spilt 1 (some .int) :: ([.fieldLink RX0 106 "AfternoonMeter" "ranOver" "I"] ++ wsX00)
def wsX0_spiltAtEnd : List Cond := .code yX0_spiltAtEnd cX0_spiltAtEnd 5 (some .int) :: ([.fieldLink RX0 106 "AfternoonMeter" "ranOver" "I", .fieldLink RX0 88 "AfternoonMeter" "inCup" "I", .fieldLink RX0 97 "AfternoonMeter" "now" "I", .fieldLink RX0 35 "AfternoonMeter" "rate" "I", .methodLink RX0 102 yX0_contentAfter, .instanceMethod yX0_contentAfter, .selects RX0 yX0_contentAfter yX0_contentAfter, .initialized RX0, .code yX0_contentAfter cX0_contentAfter 4 (some .int), .fieldLink RX0 19 "AfternoonMeter" "napsOver" "[I", .fieldLink RX0 38 "AfternoonMeter" "sip" "I", .fieldLink RX0 28 "AfternoonMeter" "beesOn" "[I", .methodLink RX0 119 Lib.Math.max.name, .static Lib.Math.max.name, .initialized "java/lang/Math", .code Lib.Math.max.name Lib.Math.max.code 2 (some .int), .methodLink RX0 155 yX0_excess, .instanceMethod yX0_excess, .selects RX0 yX0_excess yX0_excess, .code yX0_excess cX0_excess 2 (some .int), .fieldLink RX0 31 "AfternoonMeter" "room" "I"] ++ wsX00)
def wsX0_firstSpillWith : List Cond := .code yX0_firstSpillWith cX0_firstSpillWith 4 (some .int) :: ([.fieldLink RX0 88 "AfternoonMeter" "inCup" "I", .fieldLink RX0 97 "AfternoonMeter" "now" "I", .methodLink RX0 102 yX0_contentAfter, .instanceMethod yX0_contentAfter, .selects RX0 yX0_contentAfter yX0_contentAfter, .initialized RX0, .code yX0_contentAfter cX0_contentAfter 4 (some .int), .fieldLink RX0 19 "AfternoonMeter" "napsOver" "[I", .fieldLink RX0 38 "AfternoonMeter" "sip" "I", .fieldLink RX0 28 "AfternoonMeter" "beesOn" "[I", .methodLink RX0 119 Lib.Math.max.name, .static Lib.Math.max.name, .initialized "java/lang/Math", .code Lib.Math.max.name Lib.Math.max.code 2 (some .int), .methodLink RX0 155 yX0_excess, .instanceMethod yX0_excess, .selects RX0 yX0_excess yX0_excess, .code yX0_excess cX0_excess 2 (some .int), .fieldLink RX0 31 "AfternoonMeter" "room" "I"] ++ wsX00)
def wsX0_minuteOfSpill : List Cond := .code yX0_minuteOfSpill cX0_minuteOfSpill 1 (some .int) :: ([.fieldLink RX0 35 "AfternoonMeter" "rate" "I", .methodLink RX0 158 yX0_firstSpillWith, .instanceMethod yX0_firstSpillWith, .selects RX0 yX0_firstSpillWith yX0_firstSpillWith, .initialized RX0, .code yX0_firstSpillWith cX0_firstSpillWith 4 (some .int), .fieldLink RX0 88 "AfternoonMeter" "inCup" "I", .fieldLink RX0 97 "AfternoonMeter" "now" "I", .methodLink RX0 102 yX0_contentAfter, .instanceMethod yX0_contentAfter, .selects RX0 yX0_contentAfter yX0_contentAfter, .code yX0_contentAfter cX0_contentAfter 4 (some .int), .fieldLink RX0 19 "AfternoonMeter" "napsOver" "[I", .fieldLink RX0 38 "AfternoonMeter" "sip" "I", .fieldLink RX0 28 "AfternoonMeter" "beesOn" "[I", .methodLink RX0 119 Lib.Math.max.name, .static Lib.Math.max.name, .initialized "java/lang/Math", .code Lib.Math.max.name Lib.Math.max.code 2 (some .int), .methodLink RX0 155 yX0_excess, .instanceMethod yX0_excess, .selects RX0 yX0_excess yX0_excess, .code yX0_excess cX0_excess 2 (some .int), .fieldLink RX0 31 "AfternoonMeter" "room" "I"] ++ wsX00)
def wsX0_safeRate : List Cond := .code yX0_safeRate cX0_safeRate 2 (some .int) :: ([.methodLink RX0 158 yX0_firstSpillWith, .instanceMethod yX0_firstSpillWith, .selects RX0 yX0_firstSpillWith yX0_firstSpillWith, .initialized RX0, .code yX0_firstSpillWith cX0_firstSpillWith 4 (some .int), .fieldLink RX0 88 "AfternoonMeter" "inCup" "I", .fieldLink RX0 97 "AfternoonMeter" "now" "I", .methodLink RX0 102 yX0_contentAfter, .instanceMethod yX0_contentAfter, .selects RX0 yX0_contentAfter yX0_contentAfter, .code yX0_contentAfter cX0_contentAfter 4 (some .int), .fieldLink RX0 19 "AfternoonMeter" "napsOver" "[I", .fieldLink RX0 38 "AfternoonMeter" "sip" "I", .fieldLink RX0 28 "AfternoonMeter" "beesOn" "[I", .methodLink RX0 119 Lib.Math.max.name, .static Lib.Math.max.name, .initialized "java/lang/Math", .code Lib.Math.max.name Lib.Math.max.code 2 (some .int), .methodLink RX0 155 yX0_excess, .instanceMethod yX0_excess, .selects RX0 yX0_excess yX0_excess, .code yX0_excess cX0_excess 2 (some .int), .fieldLink RX0 31 "AfternoonMeter" "room" "I"] ++ wsX00)
def wsX0_bestToGiveUp : List Cond := .code yX0_bestToGiveUp cX0_bestToGiveUp 5 (some .int) :: ([.fieldLink RX0 58 "AfternoonMeter" "napCount" "I", .methodLink RX0 134 yX0_countAlone, .instanceMethod yX0_countAlone, .selects RX0 yX0_countAlone yX0_countAlone, .initialized RX0, .code yX0_countAlone cX0_countAlone 4 (some .int), .fieldLink RX0 19 "AfternoonMeter" "napsOver" "[I", .methodLink RX0 201 yX0_covers, .instanceMethod yX0_covers, .selects RX0 yX0_covers yX0_covers, .code yX0_covers cX0_covers 3 (some .boolean), .fieldLink RX0 13 "AfternoonMeter" "napStarts" "[I", .fieldLink RX0 16 "AfternoonMeter" "napEnds" "[I"] ++ wsX00)
def wsX0_meanLastShadow : List Cond := .code yX0_meanLastShadow cX0_meanLastShadow 1 (some .double) :: ([.fieldLink RX0 48 "AfternoonMeter" "stickCount" "I", .methodLink RX0 131 yX0_sumOfShadows, .instanceMethod yX0_sumOfShadows, .selects RX0 yX0_sumOfShadows yX0_sumOfShadows, .initialized RX0, .code yX0_sumOfShadows cX0_sumOfShadows 4 (some .int), .methodLink RX0 128 yX0_shadowOf, .instanceMethod yX0_shadowOf, .selects RX0 yX0_shadowOf yX0_shadowOf, .code yX0_shadowOf cX0_shadowOf 3 (some .int), .fieldLink RX0 9 "AfternoonMeter" "heights" "[I"] ++ wsX00)
def wsX0_withSticks : List Cond := .code yX0_withSticks cX0_withSticks 6 (some .long) :: ([.fieldLink RX0 48 "AfternoonMeter" "stickCount" "I", .constantLong RX0 163 (31), .methodLink RX0 128 yX0_shadowOf, .instanceMethod yX0_shadowOf, .selects RX0 yX0_shadowOf yX0_shadowOf, .initialized RX0, .code yX0_shadowOf cX0_shadowOf 3 (some .int), .fieldLink RX0 9 "AfternoonMeter" "heights" "[I"] ++ wsX00)
def wsX0_withNaps : List Cond := .code yX0_withNaps cX0_withNaps 6 (some .long) :: ([.fieldLink RX0 58 "AfternoonMeter" "napCount" "I", .constantLong RX0 163 (31), .fieldLink RX0 13 "AfternoonMeter" "napStarts" "[I", .fieldLink RX0 16 "AfternoonMeter" "napEnds" "[I", .methodLink RX0 134 yX0_countAlone, .instanceMethod yX0_countAlone, .selects RX0 yX0_countAlone yX0_countAlone, .initialized RX0, .code yX0_countAlone cX0_countAlone 4 (some .int), .fieldLink RX0 19 "AfternoonMeter" "napsOver" "[I", .methodLink RX0 201 yX0_covers, .instanceMethod yX0_covers, .selects RX0 yX0_covers yX0_covers, .code yX0_covers cX0_covers 3 (some .boolean)] ++ wsX00)
def wsX0_withBees_r1 : List Cond := [Cond.fieldLink RX0 73 "AfternoonMeter" "beeCount" "I", Cond.constantLong RX0 163 (31), Cond.methodLink RX0 140 yX0_countTicks, Cond.instanceMethod yX0_countTicks, Cond.selects RX0 yX0_countTicks yX0_countTicks, Cond.initialized RX0, Cond.code yX0_countTicks cX0_countTicks 4 (some .int), Cond.fieldLink RX0 97 "AfternoonMeter" "now" "I", Cond.methodLink RX0 152 yX0_ticksIn, Cond.instanceMethod yX0_ticksIn, Cond.selects RX0 yX0_ticksIn yX0_ticksIn, Cond.code yX0_ticksIn cX0_ticksIn 3 (some .boolean), Cond.fieldLink RX0 19 "AfternoonMeter" "napsOver" "[I", Cond.methodLink RX0 78 yX0_hasBeatIn, Cond.instanceMethod yX0_hasBeatIn, Cond.selects RX0 yX0_hasBeatIn yX0_hasBeatIn, Cond.code yX0_hasBeatIn cX0_hasBeatIn 4 (some .boolean), Cond.fieldLink RX0 22 "AfternoonMeter" "periods" "[I", Cond.fieldLink RX0 25 "AfternoonMeter" "beats" "[I", Cond.methodLink RX0 143 yX0_measuredBy, Cond.instanceMethod yX0_measuredBy, Cond.selects RX0 yX0_measuredBy yX0_measuredBy, Cond.code yX0_measuredBy cX0_measuredBy 2 (some .int), Cond.methodLink RX0 137 yX0_checkBee]
def wsX0_withBees_r2 : List Cond := [Cond.instanceMethod yX0_checkBee, Cond.selects RX0 yX0_checkBee yX0_checkBee, Cond.code yX0_checkBee cX0_checkBee 2 none, Cond.classLink RX0 192 "java/lang/IndexOutOfBoundsException", Cond.initialized "java/lang/IndexOutOfBoundsException", Cond.methodLink RX0 204 yX0_nextTick, Cond.instanceMethod yX0_nextTick, Cond.selects RX0 yX0_nextTick yX0_nextTick, Cond.code yX0_nextTick cX0_nextTick 3 (some .int)]
def wsX0_withBees : List Cond := .code yX0_withBees cX0_withBees 6 (some .long) :: ((wsX0_withBees_r1 ++ wsX0_withBees_r2) ++ wsX00 ++ (vx_atS RX0 196 "java/lang/IndexOutOfBoundsException" ["java/lang/RuntimeException", "java/lang/Exception"]).filter goodWord)
def wsX0_digest_r1 : List Cond := [Cond.constantLong RX0 161 (2083), Cond.constantLong RX0 163 (31), Cond.fieldLink RX0 109 "AfternoonMeter" "afternoonNumber" "I", Cond.fieldLink RX0 97 "AfternoonMeter" "now" "I", Cond.fieldLink RX0 48 "AfternoonMeter" "stickCount" "I", Cond.fieldLink RX0 58 "AfternoonMeter" "napCount" "I", Cond.fieldLink RX0 73 "AfternoonMeter" "beeCount" "I", Cond.fieldLink RX0 88 "AfternoonMeter" "inCup" "I", Cond.fieldLink RX0 106 "AfternoonMeter" "ranOver" "I", Cond.methodLink RX0 115 yX0_awakeMinutes, Cond.instanceMethod yX0_awakeMinutes, Cond.selects RX0 yX0_awakeMinutes yX0_awakeMinutes, Cond.initialized RX0, Cond.code yX0_awakeMinutes cX0_awakeMinutes 3 (some .int), Cond.fieldLink RX0 19 "AfternoonMeter" "napsOver" "[I", Cond.methodLink RX0 165 yX0_longestAwake, Cond.instanceMethod yX0_longestAwake, Cond.selects RX0 yX0_longestAwake yX0_longestAwake, Cond.code yX0_longestAwake cX0_longestAwake 4 (some .int), Cond.methodLink RX0 119 Lib.Math.max.name, Cond.static Lib.Math.max.name, Cond.initialized "java/lang/Math", Cond.code Lib.Math.max.name Lib.Math.max.code 2 (some .int), Cond.methodLink RX0 168 yX0_spiltAtEnd]
def wsX0_digest_r2 : List Cond := [Cond.instanceMethod yX0_spiltAtEnd, Cond.selects RX0 yX0_spiltAtEnd yX0_spiltAtEnd, Cond.code yX0_spiltAtEnd cX0_spiltAtEnd 5 (some .int), Cond.fieldLink RX0 35 "AfternoonMeter" "rate" "I", Cond.methodLink RX0 102 yX0_contentAfter, Cond.instanceMethod yX0_contentAfter, Cond.selects RX0 yX0_contentAfter yX0_contentAfter, Cond.code yX0_contentAfter cX0_contentAfter 4 (some .int), Cond.fieldLink RX0 38 "AfternoonMeter" "sip" "I", Cond.fieldLink RX0 28 "AfternoonMeter" "beesOn" "[I", Cond.methodLink RX0 155 yX0_excess, Cond.instanceMethod yX0_excess, Cond.selects RX0 yX0_excess yX0_excess, Cond.code yX0_excess cX0_excess 2 (some .int), Cond.fieldLink RX0 31 "AfternoonMeter" "room" "I", Cond.methodLink RX0 171 yX0_safeRate, Cond.instanceMethod yX0_safeRate, Cond.selects RX0 yX0_safeRate yX0_safeRate, Cond.code yX0_safeRate cX0_safeRate 2 (some .int), Cond.methodLink RX0 158 yX0_firstSpillWith, Cond.instanceMethod yX0_firstSpillWith, Cond.selects RX0 yX0_firstSpillWith yX0_firstSpillWith, Cond.code yX0_firstSpillWith cX0_firstSpillWith 4 (some .int), Cond.methodLink RX0 174 yX0_bestToGiveUp]
def wsX0_digest_r3 : List Cond := [Cond.instanceMethod yX0_bestToGiveUp, Cond.selects RX0 yX0_bestToGiveUp yX0_bestToGiveUp, Cond.code yX0_bestToGiveUp cX0_bestToGiveUp 5 (some .int), Cond.methodLink RX0 134 yX0_countAlone, Cond.instanceMethod yX0_countAlone, Cond.selects RX0 yX0_countAlone yX0_countAlone, Cond.code yX0_countAlone cX0_countAlone 4 (some .int), Cond.methodLink RX0 201 yX0_covers, Cond.instanceMethod yX0_covers, Cond.selects RX0 yX0_covers yX0_covers, Cond.code yX0_covers cX0_covers 3 (some .boolean), Cond.fieldLink RX0 13 "AfternoonMeter" "napStarts" "[I", Cond.fieldLink RX0 16 "AfternoonMeter" "napEnds" "[I", Cond.methodLink RX0 177 yX0_bestBee, Cond.instanceMethod yX0_bestBee, Cond.selects RX0 yX0_bestBee yX0_bestBee, Cond.code yX0_bestBee cX0_bestBee 5 (some .int), Cond.methodLink RX0 149 Lib.Math.abs.name, Cond.static Lib.Math.abs.name, Cond.code Lib.Math.abs.name Lib.Math.abs.code 1 (some .int), Cond.methodLink RX0 146 yX0_errorOf, Cond.instanceMethod yX0_errorOf, Cond.selects RX0 yX0_errorOf yX0_errorOf, Cond.code yX0_errorOf cX0_errorOf 2 (some .int)]
def wsX0_digest_r4 : List Cond := [Cond.methodLink RX0 143 yX0_measuredBy, Cond.instanceMethod yX0_measuredBy, Cond.selects RX0 yX0_measuredBy yX0_measuredBy, Cond.code yX0_measuredBy cX0_measuredBy 2 (some .int), Cond.fieldLink RX0 22 "AfternoonMeter" "periods" "[I", Cond.methodLink RX0 137 yX0_checkBee, Cond.instanceMethod yX0_checkBee, Cond.selects RX0 yX0_checkBee yX0_checkBee, Cond.code yX0_checkBee cX0_checkBee 2 none, Cond.classLink RX0 192 "java/lang/IndexOutOfBoundsException", Cond.initialized "java/lang/IndexOutOfBoundsException", Cond.methodLink RX0 140 yX0_countTicks, Cond.instanceMethod yX0_countTicks, Cond.selects RX0 yX0_countTicks yX0_countTicks, Cond.code yX0_countTicks cX0_countTicks 4 (some .int), Cond.methodLink RX0 152 yX0_ticksIn, Cond.instanceMethod yX0_ticksIn, Cond.selects RX0 yX0_ticksIn yX0_ticksIn, Cond.code yX0_ticksIn cX0_ticksIn 3 (some .boolean), Cond.methodLink RX0 78 yX0_hasBeatIn, Cond.instanceMethod yX0_hasBeatIn, Cond.selects RX0 yX0_hasBeatIn yX0_hasBeatIn, Cond.code yX0_hasBeatIn cX0_hasBeatIn 4 (some .boolean), Cond.fieldLink RX0 25 "AfternoonMeter" "beats" "[I"]
def wsX0_digest_r5 : List Cond := [Cond.methodLink RX0 180 yX0_withSticks, Cond.instanceMethod yX0_withSticks, Cond.selects RX0 yX0_withSticks yX0_withSticks, Cond.code yX0_withSticks cX0_withSticks 6 (some .long), Cond.methodLink RX0 128 yX0_shadowOf, Cond.instanceMethod yX0_shadowOf, Cond.selects RX0 yX0_shadowOf yX0_shadowOf, Cond.code yX0_shadowOf cX0_shadowOf 3 (some .int), Cond.fieldLink RX0 9 "AfternoonMeter" "heights" "[I", Cond.methodLink RX0 184 yX0_withNaps, Cond.instanceMethod yX0_withNaps, Cond.selects RX0 yX0_withNaps yX0_withNaps, Cond.code yX0_withNaps cX0_withNaps 6 (some .long), Cond.methodLink RX0 187 yX0_withBees, Cond.instanceMethod yX0_withBees, Cond.selects RX0 yX0_withBees yX0_withBees, Cond.code yX0_withBees cX0_withBees 6 (some .long), Cond.methodLink RX0 204 yX0_nextTick, Cond.instanceMethod yX0_nextTick, Cond.selects RX0 yX0_nextTick yX0_nextTick, Cond.code yX0_nextTick cX0_nextTick 3 (some .int)]
def wsX0_digest : List Cond := .code yX0_digest cX0_digest 3 (some .long) :: ((wsX0_digest_r1 ++ (wsX0_digest_r2 ++ (wsX0_digest_r3 ++ (wsX0_digest_r4 ++ wsX0_digest_r5)))) ++ wsX00 ++ (vx_atS RX0 196 "java/lang/IndexOutOfBoundsException" ["java/lang/RuntimeException", "java/lang/Exception"]).filter goodWord)
def wsX1_init : List Cond := .code yX1_init cX1_init 1 none :: ([.methodLink RX1 1 objectInit, .instanceMethod objectInit, .code objectInit ⟨#[0xb1]⟩ 1 none, .arrayClass .int, .fieldLink RX1 7 "AfternoonMeterLaw$Sim" "sticks" "[I", .classLink RX1 13 "[I", .fieldLink RX1 14 "AfternoonMeterLaw$Sim" "naps" "[[I", .fieldLink RX1 18 "AfternoonMeterLaw$Sim" "bees" "[[I", .fieldLink RX1 21 "AfternoonMeterLaw$Sim" "room" "I", .fieldLink RX1 25 "AfternoonMeterLaw$Sim" "rate" "I", .fieldLink RX1 28 "AfternoonMeterLaw$Sim" "sip" "I"] ++ wsX10)
def wsX1_with : List Cond := .code yX1_with cX1_with 4 (some (.array (.array .int))) :: ([.classLink RX1 13 "[I"])
def wsX1_without : List Cond := .code yX1_without cX1_without 4 (some (.array (.array .int))) :: ([.classLink RX1 13 "[I", .methodLink RX1 31 yX1_with, .static yX1_with, .initialized RX1, .code yX1_with cX1_with 4 (some (.array (.array .int)))])
def wsX1_addStick : List Cond := .code yX1_addStick cX1_addStick 4 none :: ([.fieldLink RX1 7 "AfternoonMeterLaw$Sim" "sticks" "[I", .arrayClass .int] ++ wsX10)
def wsX1_napsAt : List Cond := .code yX1_napsAt cX1_napsAt 5 (some .int) :: ([.fieldLink RX1 14 "AfternoonMeterLaw$Sim" "naps" "[[I"] ++ wsX10)
def wsX1_awake : List Cond := .code yX1_awake cX1_awake 5 (some .int) :: ([.methodLink RX1 48 yX1_napsAt, .instanceMethod yX1_napsAt, .selects RX1 yX1_napsAt yX1_napsAt, .initialized RX1, .code yX1_napsAt cX1_napsAt 5 (some .int), .fieldLink RX1 14 "AfternoonMeterLaw$Sim" "naps" "[[I"] ++ wsX10)
def wsX1_ticks : List Cond := .code yX1_ticks cX1_ticks 3 (some .boolean) :: ([.fieldLink RX1 18 "AfternoonMeterLaw$Sim" "bees" "[[I", .methodLink RX1 48 yX1_napsAt, .instanceMethod yX1_napsAt, .selects RX1 yX1_napsAt yX1_napsAt, .initialized RX1, .code yX1_napsAt cX1_napsAt 5 (some .int), .fieldLink RX1 14 "AfternoonMeterLaw$Sim" "naps" "[[I"] ++ wsX10)
def wsX1_ticked : List Cond := .code yX1_ticked cX1_ticked 4 (some .int) :: ([.fieldLink RX1 18 "AfternoonMeterLaw$Sim" "bees" "[[I", .fieldLink RX1 39 "AfternoonMeterLaw$Sim" "minute" "I", .methodLink RX1 48 yX1_napsAt, .instanceMethod yX1_napsAt, .selects RX1 yX1_napsAt yX1_napsAt, .initialized RX1, .code yX1_napsAt cX1_napsAt 5 (some .int), .fieldLink RX1 14 "AfternoonMeterLaw$Sim" "naps" "[[I"] ++ wsX10)
def wsX1_pass : List Cond := .code yX1_pass cX1_pass 3 (some .int) :: ([.fieldLink RX1 39 "AfternoonMeterLaw$Sim" "minute" "I", .fieldLink RX1 42 "AfternoonMeterLaw$Sim" "tea" "I", .fieldLink RX1 25 "AfternoonMeterLaw$Sim" "rate" "I", .fieldLink RX1 18 "AfternoonMeterLaw$Sim" "bees" "[[I", .fieldLink RX1 28 "AfternoonMeterLaw$Sim" "sip" "I", .fieldLink RX1 21 "AfternoonMeterLaw$Sim" "room" "I", .fieldLink RX1 45 "AfternoonMeterLaw$Sim" "spilt" "I", .methodLink RX1 48 yX1_napsAt, .instanceMethod yX1_napsAt, .selects RX1 yX1_napsAt yX1_napsAt, .initialized RX1, .code yX1_napsAt cX1_napsAt 5 (some .int), .fieldLink RX1 14 "AfternoonMeterLaw$Sim" "naps" "[[I", .methodLink RX1 52 yX1_ticks, .instanceMethod yX1_ticks, .selects RX1 yX1_ticks yX1_ticks, .code yX1_ticks cX1_ticks 3 (some .boolean)] ++ wsX10)
def wsX1_pass_ : List Cond := .code yX1_pass_ cX1_pass_ 4 (some .int) :: ([.methodLink RX1 56 yX1_pass, .instanceMethod yX1_pass, .selects RX1 yX1_pass yX1_pass, .initialized RX1, .code yX1_pass cX1_pass 3 (some .int), .fieldLink RX1 39 "AfternoonMeterLaw$Sim" "minute" "I", .fieldLink RX1 42 "AfternoonMeterLaw$Sim" "tea" "I", .fieldLink RX1 25 "AfternoonMeterLaw$Sim" "rate" "I", .fieldLink RX1 18 "AfternoonMeterLaw$Sim" "bees" "[[I", .fieldLink RX1 28 "AfternoonMeterLaw$Sim" "sip" "I", .fieldLink RX1 21 "AfternoonMeterLaw$Sim" "room" "I", .fieldLink RX1 45 "AfternoonMeterLaw$Sim" "spilt" "I", .methodLink RX1 48 yX1_napsAt, .instanceMethod yX1_napsAt, .selects RX1 yX1_napsAt yX1_napsAt, .code yX1_napsAt cX1_napsAt 5 (some .int), .fieldLink RX1 14 "AfternoonMeterLaw$Sim" "naps" "[[I", .methodLink RX1 52 yX1_ticks, .instanceMethod yX1_ticks, .selects RX1 yX1_ticks yX1_ticks, .code yX1_ticks cX1_ticks 3 (some .boolean)] ++ wsX10)
def wsX1_isSame_r1 : List Cond := [Cond.fieldLink RX1 36 "AfternoonMeterLaw$Sim" "afternoon" "I", Cond.fieldLink RX1 39 "AfternoonMeterLaw$Sim" "minute" "I", Cond.fieldLink RX1 7 "AfternoonMeterLaw$Sim" "sticks" "[I", Cond.fieldLink RX1 14 "AfternoonMeterLaw$Sim" "naps" "[[I", Cond.fieldLink RX1 18 "AfternoonMeterLaw$Sim" "bees" "[[I", Cond.fieldLink RX1 42 "AfternoonMeterLaw$Sim" "tea" "I", Cond.fieldLink RX1 45 "AfternoonMeterLaw$Sim" "spilt" "I", Cond.methodLink RX1 126 Lib.Math.abs.name, Cond.static Lib.Math.abs.name, Cond.initialized "java/lang/Math", Cond.code Lib.Math.abs.name Lib.Math.abs.code 1 (some .int), Cond.methodLink RX1 60 yX0_afternoon, Cond.instanceMethod yX0_afternoon, Cond.selects RX0 yX0_afternoon yX0_afternoon, Cond.initialized RX0, Cond.code yX0_afternoon cX0_afternoon 1 (some .int), Cond.fieldLink RX0 109 "AfternoonMeter" "afternoonNumber" "I", Cond.methodLink RX1 64 yX0_minute, Cond.instanceMethod yX0_minute, Cond.selects RX0 yX0_minute yX0_minute, Cond.code yX0_minute cX0_minute 1 (some .int), Cond.fieldLink RX0 97 "AfternoonMeter" "now" "I", Cond.methodLink RX1 66 yX0_awakeMinutes, Cond.instanceMethod yX0_awakeMinutes]
def wsX1_isSame_r2 : List Cond := [Cond.selects RX0 yX0_awakeMinutes yX0_awakeMinutes, Cond.code yX0_awakeMinutes cX0_awakeMinutes 3 (some .int), Cond.fieldLink RX0 19 "AfternoonMeter" "napsOver" "[I", Cond.methodLink RX1 69 yX1_awake, Cond.instanceMethod yX1_awake, Cond.selects RX1 yX1_awake yX1_awake, Cond.initialized RX1, Cond.code yX1_awake cX1_awake 5 (some .int), Cond.methodLink RX1 48 yX1_napsAt, Cond.instanceMethod yX1_napsAt, Cond.selects RX1 yX1_napsAt yX1_napsAt, Cond.code yX1_napsAt cX1_napsAt 5 (some .int), Cond.methodLink RX1 72 yX0_sleptMinutes, Cond.instanceMethod yX0_sleptMinutes, Cond.selects RX0 yX0_sleptMinutes yX0_sleptMinutes, Cond.code yX0_sleptMinutes cX0_sleptMinutes 1 (some .int), Cond.methodLink RX0 115 yX0_awakeMinutes, Cond.methodLink RX1 75 yX0_sticks, Cond.instanceMethod yX0_sticks, Cond.selects RX0 yX0_sticks yX0_sticks, Cond.code yX0_sticks cX0_sticks 1 (some .int), Cond.fieldLink RX0 48 "AfternoonMeter" "stickCount" "I", Cond.methodLink RX1 77 yX0_naps, Cond.instanceMethod yX0_naps]
def wsX1_isSame_r3 : List Cond := [Cond.selects RX0 yX0_naps yX0_naps, Cond.code yX0_naps cX0_naps 1 (some .int), Cond.fieldLink RX0 58 "AfternoonMeter" "napCount" "I", Cond.methodLink RX1 79 yX0_bees, Cond.instanceMethod yX0_bees, Cond.selects RX0 yX0_bees yX0_bees, Cond.code yX0_bees cX0_bees 1 (some .int), Cond.fieldLink RX0 73 "AfternoonMeter" "beeCount" "I", Cond.methodLink RX1 81 yX0_tea, Cond.instanceMethod yX0_tea, Cond.selects RX0 yX0_tea yX0_tea, Cond.code yX0_tea cX0_tea 1 (some .int), Cond.fieldLink RX0 88 "AfternoonMeter" "inCup" "I", Cond.methodLink RX1 83 yX0_spilt, Cond.instanceMethod yX0_spilt, Cond.selects RX0 yX0_spilt yX0_spilt, Cond.code yX0_spilt cX0_spilt 1 (some .int), Cond.fieldLink RX0 106 "AfternoonMeter" "ranOver" "I", Cond.methodLink RX1 85 yX0_longestAwake, Cond.instanceMethod yX0_longestAwake, Cond.selects RX0 yX0_longestAwake yX0_longestAwake, Cond.code yX0_longestAwake cX0_longestAwake 4 (some .int), Cond.methodLink RX0 119 Lib.Math.max.name, Cond.static Lib.Math.max.name]
def wsX1_isSame_r4 : List Cond := [Cond.code Lib.Math.max.name Lib.Math.max.code 2 (some .int), Cond.methodLink RX1 88 yX0_napsAt, Cond.instanceMethod yX0_napsAt, Cond.selects RX0 yX0_napsAt yX0_napsAt, Cond.code yX0_napsAt cX0_napsAt 2 (some .int), Cond.methodLink RX0 112 yX0_checkMinute, Cond.instanceMethod yX0_checkMinute, Cond.selects RX0 yX0_checkMinute yX0_checkMinute, Cond.code yX0_checkMinute cX0_checkMinute 2 none, Cond.classLink RX0 41 "java/lang/IllegalArgumentException", Cond.initialized "java/lang/IllegalArgumentException", Cond.methodLink RX1 91 yX0_isAsleep, Cond.instanceMethod yX0_isAsleep, Cond.selects RX0 yX0_isAsleep yX0_isAsleep, Cond.code yX0_isAsleep cX0_isAsleep 2 (some .boolean), Cond.methodLink RX1 95 yX0_shadowAt, Cond.instanceMethod yX0_shadowAt, Cond.selects RX0 yX0_shadowAt yX0_shadowAt, Cond.code yX0_shadowAt cX0_shadowAt 3 (some .int), Cond.methodLink RX0 125 yX0_checkStick, Cond.instanceMethod yX0_checkStick, Cond.selects RX0 yX0_checkStick yX0_checkStick, Cond.code yX0_checkStick cX0_checkStick 2 none, Cond.classLink RX0 192 "java/lang/IndexOutOfBoundsException"]
def wsX1_isSame_r5 : List Cond := [Cond.initialized "java/lang/IndexOutOfBoundsException", Cond.methodLink RX0 128 yX0_shadowOf, Cond.instanceMethod yX0_shadowOf, Cond.selects RX0 yX0_shadowOf yX0_shadowOf, Cond.code yX0_shadowOf cX0_shadowOf 3 (some .int), Cond.fieldLink RX0 9 "AfternoonMeter" "heights" "[I", Cond.methodLink RX1 98 yX0_allShadows, Cond.instanceMethod yX0_allShadows, Cond.selects RX0 yX0_allShadows yX0_allShadows, Cond.code yX0_allShadows cX0_allShadows 2 (some .int), Cond.methodLink RX0 131 yX0_sumOfShadows, Cond.instanceMethod yX0_sumOfShadows, Cond.selects RX0 yX0_sumOfShadows yX0_sumOfShadows, Cond.code yX0_sumOfShadows cX0_sumOfShadows 4 (some .int), Cond.methodLink RX1 101 yX0_meanLastShadow, Cond.instanceMethod yX0_meanLastShadow, Cond.selects RX0 yX0_meanLastShadow yX0_meanLastShadow, Cond.code yX0_meanLastShadow cX0_meanLastShadow 1 (some .double), Cond.methodLink RX1 105 yX0_startOf, Cond.instanceMethod yX0_startOf, Cond.selects RX0 yX0_startOf yX0_startOf, Cond.code yX0_startOf cX0_startOf 2 (some .int), Cond.fieldLink RX0 13 "AfternoonMeter" "napStarts" "[I", Cond.methodLink RX0 67 yX0_checkNap]
def wsX1_isSame_r6 : List Cond := [Cond.instanceMethod yX0_checkNap, Cond.selects RX0 yX0_checkNap yX0_checkNap, Cond.code yX0_checkNap cX0_checkNap 2 none, Cond.methodLink RX1 108 yX0_lengthOf, Cond.instanceMethod yX0_lengthOf, Cond.selects RX0 yX0_lengthOf yX0_lengthOf, Cond.code yX0_lengthOf cX0_lengthOf 2 (some .int), Cond.fieldLink RX0 16 "AfternoonMeter" "napEnds" "[I", Cond.methodLink RX1 111 yX0_minutesAlone, Cond.instanceMethod yX0_minutesAlone, Cond.selects RX0 yX0_minutesAlone yX0_minutesAlone, Cond.code yX0_minutesAlone cX0_minutesAlone 2 (some .int), Cond.methodLink RX0 134 yX0_countAlone, Cond.instanceMethod yX0_countAlone, Cond.selects RX0 yX0_countAlone yX0_countAlone, Cond.code yX0_countAlone cX0_countAlone 4 (some .int), Cond.methodLink RX0 201 yX0_covers, Cond.instanceMethod yX0_covers, Cond.selects RX0 yX0_covers yX0_covers, Cond.code yX0_covers cX0_covers 3 (some .boolean), Cond.methodLink RX1 114 yX1_ticked, Cond.instanceMethod yX1_ticked, Cond.selects RX1 yX1_ticked yX1_ticked, Cond.code yX1_ticked cX1_ticked 4 (some .int)]
def wsX1_isSame_r7 : List Cond := [Cond.methodLink RX1 117 yX0_ticksOf, Cond.instanceMethod yX0_ticksOf, Cond.selects RX0 yX0_ticksOf yX0_ticksOf, Cond.code yX0_ticksOf cX0_ticksOf 2 (some .int), Cond.methodLink RX0 137 yX0_checkBee, Cond.instanceMethod yX0_checkBee, Cond.selects RX0 yX0_checkBee yX0_checkBee, Cond.code yX0_checkBee cX0_checkBee 2 none, Cond.methodLink RX0 140 yX0_countTicks, Cond.instanceMethod yX0_countTicks, Cond.selects RX0 yX0_countTicks yX0_countTicks, Cond.code yX0_countTicks cX0_countTicks 4 (some .int), Cond.methodLink RX0 152 yX0_ticksIn, Cond.instanceMethod yX0_ticksIn, Cond.selects RX0 yX0_ticksIn yX0_ticksIn, Cond.code yX0_ticksIn cX0_ticksIn 3 (some .boolean), Cond.methodLink RX0 78 yX0_hasBeatIn, Cond.instanceMethod yX0_hasBeatIn, Cond.selects RX0 yX0_hasBeatIn yX0_hasBeatIn, Cond.code yX0_hasBeatIn cX0_hasBeatIn 4 (some .boolean), Cond.fieldLink RX0 22 "AfternoonMeter" "periods" "[I", Cond.fieldLink RX0 25 "AfternoonMeter" "beats" "[I", Cond.methodLink RX1 120 yX0_measuredBy, Cond.instanceMethod yX0_measuredBy]
def wsX1_isSame_r8 : List Cond := [Cond.selects RX0 yX0_measuredBy yX0_measuredBy, Cond.code yX0_measuredBy cX0_measuredBy 2 (some .int), Cond.methodLink RX1 123 yX0_errorOf, Cond.instanceMethod yX0_errorOf, Cond.selects RX0 yX0_errorOf yX0_errorOf, Cond.code yX0_errorOf cX0_errorOf 2 (some .int), Cond.methodLink RX0 143 yX0_measuredBy, Cond.methodLink RX1 131 yX0_bestToGiveUp, Cond.instanceMethod yX0_bestToGiveUp, Cond.selects RX0 yX0_bestToGiveUp yX0_bestToGiveUp, Cond.code yX0_bestToGiveUp cX0_bestToGiveUp 5 (some .int), Cond.methodLink RX1 134 yX0_bestBee, Cond.instanceMethod yX0_bestBee, Cond.selects RX0 yX0_bestBee yX0_bestBee, Cond.code yX0_bestBee cX0_bestBee 5 (some .int), Cond.methodLink RX0 149 Lib.Math.abs.name, Cond.methodLink RX0 146 yX0_errorOf]
def wsX1_isSame : List Cond := .code yX1_isSame cX1_isSame 10 (some .boolean) :: ((wsX1_isSame_r1 ++ (wsX1_isSame_r2 ++ (wsX1_isSame_r3 ++ (wsX1_isSame_r4 ++ (wsX1_isSame_r5 ++ (wsX1_isSame_r6 ++ (wsX1_isSame_r7 ++ wsX1_isSame_r8))))))) ++ wsX10 ++ wsX00 ++ (vx_atS RX0 45 "java/lang/IllegalArgumentException" ["java/lang/RuntimeException", "java/lang/Exception"]).filter goodWord ++ (vx_atS RX0 196 "java/lang/IndexOutOfBoundsException" ["java/lang/RuntimeException", "java/lang/Exception"]).filter goodWord)
def wsJ9_abs_0f7a4 : List Cond := .code yJ9_abs_0f7a4 cJ9_abs_0f7a4 1 (some .int) :: ([])
def wsJ9_max_7cf53 : List Cond := .code yJ9_max_7cf53 cJ9_max_7cf53 2 (some .int) :: ([])
def wsJ9_min_7cf53 : List Cond := .code yJ9_min_7cf53 cJ9_min_7cf53 2 (some .int) :: ([])
def wsL_below : List Cond := .code yL_below cL_below 2 (some .int) :: ([.constant RL 7 (2147483647)])
def wsL_cell : List Cond := .code yL_cell cL_cell 2 (some .int) :: ([.constant RL 8 (790386105)])
def wsL_act_r1 : List Cond := [Cond.fieldLink RL 15 "AfternoonMeterLaw$Sim" "sticks" "[I", Cond.methodLink RL 30 Lib.Math.min.name, Cond.static Lib.Math.min.name, Cond.initialized "java/lang/Math", Cond.code Lib.Math.min.name Lib.Math.min.code 2 (some .int), Cond.fieldLink RL 35 "AfternoonMeterLaw$Sim" "naps" "[[I", Cond.arrayClass .int, Cond.fieldLink RL 53 "AfternoonMeterLaw$Sim" "bees" "[[I", Cond.fieldLink RL 59 "AfternoonMeterLaw$Sim" "room" "I", Cond.fieldLink RL 63 "AfternoonMeterLaw$Sim" "rate" "I", Cond.fieldLink RL 66 "AfternoonMeterLaw$Sim" "sip" "I", Cond.fieldLink RL 69 "AfternoonMeterLaw$Sim" "tea" "I", Cond.fieldLink RL 72 "AfternoonMeterLaw$Sim" "spilt" "I", Cond.fieldLink RL 79 "AfternoonMeterLaw$Sim" "afternoon" "I", Cond.fieldLink RL 82 "AfternoonMeterLaw$Sim" "minute" "I", Cond.methodLink RL 9 yL_below, Cond.static yL_below, Cond.initialized RL, Cond.code yL_below cL_below 2 (some .int), Cond.constant RL 7 (2147483647), Cond.methodLink RL 21 yX1_addStick, Cond.instanceMethod yX1_addStick, Cond.selects RX1 yX1_addStick yX1_addStick, Cond.initialized RX1]
def wsL_act_r2 : List Cond := [Cond.code yX1_addStick cX1_addStick 4 none, Cond.fieldLink RX1 7 "AfternoonMeterLaw$Sim" "sticks" "[I", Cond.methodLink RL 25 yX0_addStick, Cond.instanceMethod yX0_addStick, Cond.selects RX0 yX0_addStick yX0_addStick, Cond.initialized RX0, Cond.code yX0_addStick cX0_addStick 3 (some .int), Cond.classLink RX0 41 "java/lang/IllegalArgumentException", Cond.initialized "java/lang/IllegalArgumentException", Cond.classLink RX0 51 "java/lang/IllegalStateException", Cond.initialized "java/lang/IllegalStateException", Cond.fieldLink RX0 48 "AfternoonMeter" "stickCount" "I", Cond.fieldLink RX0 9 "AfternoonMeter" "heights" "[I", Cond.methodLink RL 39 yX1_with, Cond.static yX1_with, Cond.code yX1_with cX1_with 4 (some (.array (.array .int))), Cond.classLink RX1 13 "[I", Cond.methodLink RL 43 yX0_addNap, Cond.instanceMethod yX0_addNap, Cond.selects RX0 yX0_addNap yX0_addNap, Cond.code yX0_addNap cX0_addNap 4 (some .int), Cond.fieldLink RX0 58 "AfternoonMeter" "napCount" "I", Cond.fieldLink RX0 13 "AfternoonMeter" "napStarts" "[I", Cond.fieldLink RX0 16 "AfternoonMeter" "napEnds" "[I"]
def wsL_act_r3 : List Cond := [Cond.methodLink RX0 63 yX0_changeCover, Cond.instanceMethod yX0_changeCover, Cond.selects RX0 yX0_changeCover yX0_changeCover, Cond.code yX0_changeCover cX0_changeCover 4 none, Cond.fieldLink RX0 19 "AfternoonMeter" "napsOver" "[I", Cond.methodLink RX0 201 yX0_covers, Cond.instanceMethod yX0_covers, Cond.selects RX0 yX0_covers yX0_covers, Cond.code yX0_covers cX0_covers 3 (some .boolean), Cond.methodLink RL 46 yX1_without, Cond.static yX1_without, Cond.code yX1_without cX1_without 4 (some (.array (.array .int))), Cond.methodLink RX1 31 yX1_with, Cond.methodLink RL 50 yX0_giveUp, Cond.instanceMethod yX0_giveUp, Cond.selects RX0 yX0_giveUp yX0_giveUp, Cond.code yX0_giveUp cX0_giveUp 3 (some .int), Cond.methodLink RX0 67 yX0_checkNap, Cond.instanceMethod yX0_checkNap, Cond.selects RX0 yX0_checkNap yX0_checkNap, Cond.code yX0_checkNap cX0_checkNap 2 none, Cond.classLink RX0 192 "java/lang/IndexOutOfBoundsException", Cond.initialized "java/lang/IndexOutOfBoundsException", Cond.methodLink RL 56 yX0_addBee]
def wsL_act_r4 : List Cond := [Cond.instanceMethod yX0_addBee, Cond.selects RX0 yX0_addBee yX0_addBee, Cond.code yX0_addBee cX0_addBee 5 (some .int), Cond.fieldLink RX0 73 "AfternoonMeter" "beeCount" "I", Cond.fieldLink RX0 22 "AfternoonMeter" "periods" "[I", Cond.fieldLink RX0 25 "AfternoonMeter" "beats" "[I", Cond.fieldLink RX0 28 "AfternoonMeter" "beesOn" "[I", Cond.methodLink RX0 78 yX0_hasBeatIn, Cond.instanceMethod yX0_hasBeatIn, Cond.selects RX0 yX0_hasBeatIn yX0_hasBeatIn, Cond.code yX0_hasBeatIn cX0_hasBeatIn 4 (some .boolean), Cond.methodLink RL 75 yX0_setTea, Cond.instanceMethod yX0_setTea, Cond.selects RX0 yX0_setTea yX0_setTea, Cond.code yX0_setTea cX0_setTea 4 (some .int), Cond.fieldLink RX0 31 "AfternoonMeter" "room" "I", Cond.fieldLink RX0 35 "AfternoonMeter" "rate" "I", Cond.fieldLink RX0 38 "AfternoonMeter" "sip" "I", Cond.fieldLink RX0 88 "AfternoonMeter" "inCup" "I", Cond.methodLink RX0 91 yX0_pourInto, Cond.instanceMethod yX0_pourInto, Cond.selects RX0 yX0_pourInto yX0_pourInto, Cond.code yX0_pourInto cX0_pourInto 3 (some .int), Cond.fieldLink RX0 106 "AfternoonMeter" "ranOver" "I"]
def wsL_act_r5 : List Cond := [Cond.methodLink RX0 155 yX0_excess, Cond.instanceMethod yX0_excess, Cond.selects RX0 yX0_excess yX0_excess, Cond.code yX0_excess cX0_excess 2 (some .int), Cond.methodLink RX0 119 Lib.Math.max.name, Cond.static Lib.Math.max.name, Cond.code Lib.Math.max.name Lib.Math.max.code 2 (some .int), Cond.methodLink RL 85 yX0_begin, Cond.instanceMethod yX0_begin, Cond.selects RX0 yX0_begin yX0_begin, Cond.code yX0_begin cX0_begin 1 (some .int), Cond.fieldLink RX0 97 "AfternoonMeter" "now" "I", Cond.fieldLink RX0 109 "AfternoonMeter" "afternoonNumber" "I", Cond.methodLink RL 89 yX0_pass, Cond.instanceMethod yX0_pass, Cond.selects RX0 yX0_pass yX0_pass, Cond.code yX0_pass cX0_pass 4 (some .int), Cond.methodLink RX0 102 yX0_contentAfter, Cond.instanceMethod yX0_contentAfter, Cond.selects RX0 yX0_contentAfter yX0_contentAfter, Cond.code yX0_contentAfter cX0_contentAfter 4 (some .int), Cond.methodLink RL 92 yX1_pass_, Cond.instanceMethod yX1_pass_, Cond.selects RX1 yX1_pass_ yX1_pass_]
def wsL_act_r6 : List Cond := [Cond.code yX1_pass_ cX1_pass_ 4 (some .int), Cond.methodLink RX1 56 yX1_pass, Cond.instanceMethod yX1_pass, Cond.selects RX1 yX1_pass yX1_pass, Cond.code yX1_pass cX1_pass 3 (some .int), Cond.fieldLink RX1 39 "AfternoonMeterLaw$Sim" "minute" "I", Cond.fieldLink RX1 42 "AfternoonMeterLaw$Sim" "tea" "I", Cond.fieldLink RX1 25 "AfternoonMeterLaw$Sim" "rate" "I", Cond.fieldLink RX1 18 "AfternoonMeterLaw$Sim" "bees" "[[I", Cond.fieldLink RX1 28 "AfternoonMeterLaw$Sim" "sip" "I", Cond.fieldLink RX1 21 "AfternoonMeterLaw$Sim" "room" "I", Cond.fieldLink RX1 45 "AfternoonMeterLaw$Sim" "spilt" "I", Cond.methodLink RX1 48 yX1_napsAt, Cond.instanceMethod yX1_napsAt, Cond.selects RX1 yX1_napsAt yX1_napsAt, Cond.code yX1_napsAt cX1_napsAt 5 (some .int), Cond.fieldLink RX1 14 "AfternoonMeterLaw$Sim" "naps" "[[I", Cond.methodLink RX1 52 yX1_ticks, Cond.instanceMethod yX1_ticks, Cond.selects RX1 yX1_ticks yX1_ticks, Cond.code yX1_ticks cX1_ticks 3 (some .boolean)]
def wsL_act : List Cond := .code yL_act cL_act 5 (some .boolean) :: ((wsL_act_r1 ++ (wsL_act_r2 ++ (wsL_act_r3 ++ (wsL_act_r4 ++ (wsL_act_r5 ++ wsL_act_r6))))) ++ wsX10 ++ wsX00 ++ (vx_atS RX0 45 "java/lang/IllegalArgumentException" ["java/lang/RuntimeException", "java/lang/Exception"]).filter goodWord ++ (vx_atS RX0 55 "java/lang/IllegalStateException" ["java/lang/RuntimeException", "java/lang/Exception"]).filter goodWord ++ (vx_atS RX0 196 "java/lang/IndexOutOfBoundsException" ["java/lang/RuntimeException", "java/lang/Exception"]).filter goodWord)
def wsL_build_r1 : List Cond := [Cond.classLink RL 16 RX1, Cond.instantiable RX1 10, Cond.initialized RX1, Cond.instanceMethod yX1_init, Cond.code yX1_init cX1_init 1 none, Cond.methodLink RX1 1 objectInit, Cond.instanceMethod objectInit, Cond.code objectInit ⟨#[0xb1]⟩ 1 none, Cond.arrayClass .int, Cond.fieldLink RX1 7 "AfternoonMeterLaw$Sim" "sticks" "[I", Cond.classLink RX1 13 "[I", Cond.fieldLink RX1 14 "AfternoonMeterLaw$Sim" "naps" "[[I", Cond.fieldLink RX1 18 "AfternoonMeterLaw$Sim" "bees" "[[I", Cond.fieldLink RX1 21 "AfternoonMeterLaw$Sim" "room" "I", Cond.fieldLink RX1 25 "AfternoonMeterLaw$Sim" "rate" "I", Cond.fieldLink RX1 28 "AfternoonMeterLaw$Sim" "sip" "I", Cond.methodLink RL 94 yL_cell, Cond.static yL_cell, Cond.initialized RL, Cond.code yL_cell cL_cell 2 (some .int), Cond.constant RL 8 (790386105), Cond.methodLink RL 9 yL_below, Cond.static yL_below, Cond.code yL_below cL_below 2 (some .int)]
def wsL_build_r2 : List Cond := [Cond.constant RL 7 (2147483647), Cond.methodLink RL 98 yL_act, Cond.static yL_act, Cond.code yL_act cL_act 5 (some .boolean), Cond.fieldLink RL 15 "AfternoonMeterLaw$Sim" "sticks" "[I", Cond.methodLink RL 30 Lib.Math.min.name, Cond.static Lib.Math.min.name, Cond.initialized "java/lang/Math", Cond.code Lib.Math.min.name Lib.Math.min.code 2 (some .int), Cond.fieldLink RL 35 "AfternoonMeterLaw$Sim" "naps" "[[I", Cond.fieldLink RL 53 "AfternoonMeterLaw$Sim" "bees" "[[I", Cond.fieldLink RL 59 "AfternoonMeterLaw$Sim" "room" "I", Cond.fieldLink RL 63 "AfternoonMeterLaw$Sim" "rate" "I", Cond.fieldLink RL 66 "AfternoonMeterLaw$Sim" "sip" "I", Cond.fieldLink RL 69 "AfternoonMeterLaw$Sim" "tea" "I", Cond.fieldLink RL 72 "AfternoonMeterLaw$Sim" "spilt" "I", Cond.fieldLink RL 79 "AfternoonMeterLaw$Sim" "afternoon" "I", Cond.fieldLink RL 82 "AfternoonMeterLaw$Sim" "minute" "I", Cond.methodLink RL 21 yX1_addStick, Cond.instanceMethod yX1_addStick, Cond.selects RX1 yX1_addStick yX1_addStick, Cond.code yX1_addStick cX1_addStick 4 none, Cond.methodLink RL 25 yX0_addStick, Cond.instanceMethod yX0_addStick]
def wsL_build_r3 : List Cond := [Cond.selects RX0 yX0_addStick yX0_addStick, Cond.initialized RX0, Cond.code yX0_addStick cX0_addStick 3 (some .int), Cond.classLink RX0 41 "java/lang/IllegalArgumentException", Cond.initialized "java/lang/IllegalArgumentException", Cond.classLink RX0 51 "java/lang/IllegalStateException", Cond.initialized "java/lang/IllegalStateException", Cond.fieldLink RX0 48 "AfternoonMeter" "stickCount" "I", Cond.fieldLink RX0 9 "AfternoonMeter" "heights" "[I", Cond.methodLink RL 39 yX1_with, Cond.static yX1_with, Cond.code yX1_with cX1_with 4 (some (.array (.array .int))), Cond.methodLink RL 43 yX0_addNap, Cond.instanceMethod yX0_addNap, Cond.selects RX0 yX0_addNap yX0_addNap, Cond.code yX0_addNap cX0_addNap 4 (some .int), Cond.fieldLink RX0 58 "AfternoonMeter" "napCount" "I", Cond.fieldLink RX0 13 "AfternoonMeter" "napStarts" "[I", Cond.fieldLink RX0 16 "AfternoonMeter" "napEnds" "[I", Cond.methodLink RX0 63 yX0_changeCover, Cond.instanceMethod yX0_changeCover, Cond.selects RX0 yX0_changeCover yX0_changeCover, Cond.code yX0_changeCover cX0_changeCover 4 none, Cond.fieldLink RX0 19 "AfternoonMeter" "napsOver" "[I"]
def wsL_build_r4 : List Cond := [Cond.methodLink RX0 201 yX0_covers, Cond.instanceMethod yX0_covers, Cond.selects RX0 yX0_covers yX0_covers, Cond.code yX0_covers cX0_covers 3 (some .boolean), Cond.methodLink RL 46 yX1_without, Cond.static yX1_without, Cond.code yX1_without cX1_without 4 (some (.array (.array .int))), Cond.methodLink RX1 31 yX1_with, Cond.methodLink RL 50 yX0_giveUp, Cond.instanceMethod yX0_giveUp, Cond.selects RX0 yX0_giveUp yX0_giveUp, Cond.code yX0_giveUp cX0_giveUp 3 (some .int), Cond.methodLink RX0 67 yX0_checkNap, Cond.instanceMethod yX0_checkNap, Cond.selects RX0 yX0_checkNap yX0_checkNap, Cond.code yX0_checkNap cX0_checkNap 2 none, Cond.classLink RX0 192 "java/lang/IndexOutOfBoundsException", Cond.initialized "java/lang/IndexOutOfBoundsException", Cond.methodLink RL 56 yX0_addBee, Cond.instanceMethod yX0_addBee, Cond.selects RX0 yX0_addBee yX0_addBee, Cond.code yX0_addBee cX0_addBee 5 (some .int), Cond.fieldLink RX0 73 "AfternoonMeter" "beeCount" "I", Cond.fieldLink RX0 22 "AfternoonMeter" "periods" "[I"]
def wsL_build_r5 : List Cond := [Cond.fieldLink RX0 25 "AfternoonMeter" "beats" "[I", Cond.fieldLink RX0 28 "AfternoonMeter" "beesOn" "[I", Cond.methodLink RX0 78 yX0_hasBeatIn, Cond.instanceMethod yX0_hasBeatIn, Cond.selects RX0 yX0_hasBeatIn yX0_hasBeatIn, Cond.code yX0_hasBeatIn cX0_hasBeatIn 4 (some .boolean), Cond.methodLink RL 75 yX0_setTea, Cond.instanceMethod yX0_setTea, Cond.selects RX0 yX0_setTea yX0_setTea, Cond.code yX0_setTea cX0_setTea 4 (some .int), Cond.fieldLink RX0 31 "AfternoonMeter" "room" "I", Cond.fieldLink RX0 35 "AfternoonMeter" "rate" "I", Cond.fieldLink RX0 38 "AfternoonMeter" "sip" "I", Cond.fieldLink RX0 88 "AfternoonMeter" "inCup" "I", Cond.methodLink RX0 91 yX0_pourInto, Cond.instanceMethod yX0_pourInto, Cond.selects RX0 yX0_pourInto yX0_pourInto, Cond.code yX0_pourInto cX0_pourInto 3 (some .int), Cond.fieldLink RX0 106 "AfternoonMeter" "ranOver" "I", Cond.methodLink RX0 155 yX0_excess, Cond.instanceMethod yX0_excess, Cond.selects RX0 yX0_excess yX0_excess, Cond.code yX0_excess cX0_excess 2 (some .int), Cond.methodLink RX0 119 Lib.Math.max.name]
def wsL_build_r6 : List Cond := [Cond.static Lib.Math.max.name, Cond.code Lib.Math.max.name Lib.Math.max.code 2 (some .int), Cond.methodLink RL 85 yX0_begin, Cond.instanceMethod yX0_begin, Cond.selects RX0 yX0_begin yX0_begin, Cond.code yX0_begin cX0_begin 1 (some .int), Cond.fieldLink RX0 97 "AfternoonMeter" "now" "I", Cond.fieldLink RX0 109 "AfternoonMeter" "afternoonNumber" "I", Cond.methodLink RL 89 yX0_pass, Cond.instanceMethod yX0_pass, Cond.selects RX0 yX0_pass yX0_pass, Cond.code yX0_pass cX0_pass 4 (some .int), Cond.methodLink RX0 102 yX0_contentAfter, Cond.instanceMethod yX0_contentAfter, Cond.selects RX0 yX0_contentAfter yX0_contentAfter, Cond.code yX0_contentAfter cX0_contentAfter 4 (some .int), Cond.methodLink RL 92 yX1_pass_, Cond.instanceMethod yX1_pass_, Cond.selects RX1 yX1_pass_ yX1_pass_, Cond.code yX1_pass_ cX1_pass_ 4 (some .int), Cond.methodLink RX1 56 yX1_pass, Cond.instanceMethod yX1_pass, Cond.selects RX1 yX1_pass yX1_pass, Cond.code yX1_pass cX1_pass 3 (some .int)]
def wsL_build_r7 : List Cond := [Cond.fieldLink RX1 39 "AfternoonMeterLaw$Sim" "minute" "I", Cond.fieldLink RX1 42 "AfternoonMeterLaw$Sim" "tea" "I", Cond.fieldLink RX1 45 "AfternoonMeterLaw$Sim" "spilt" "I", Cond.methodLink RX1 48 yX1_napsAt, Cond.instanceMethod yX1_napsAt, Cond.selects RX1 yX1_napsAt yX1_napsAt, Cond.code yX1_napsAt cX1_napsAt 5 (some .int), Cond.methodLink RX1 52 yX1_ticks, Cond.instanceMethod yX1_ticks, Cond.selects RX1 yX1_ticks yX1_ticks, Cond.code yX1_ticks cX1_ticks 3 (some .boolean)]
def wsL_build : List Cond := .code yL_build cL_build 5 (some (.object "AfternoonMeterLaw$Sim")) :: ((wsL_build_r1 ++ (wsL_build_r2 ++ (wsL_build_r3 ++ (wsL_build_r4 ++ (wsL_build_r5 ++ (wsL_build_r6 ++ wsL_build_r7)))))) ++ wsX10 ++ wsX00 ++ (vx_atS RX0 45 "java/lang/IllegalArgumentException" ["java/lang/RuntimeException", "java/lang/Exception"]).filter goodWord ++ (vx_atS RX0 55 "java/lang/IllegalStateException" ["java/lang/RuntimeException", "java/lang/Exception"]).filter goodWord ++ (vx_atS RX0 196 "java/lang/IndexOutOfBoundsException" ["java/lang/RuntimeException", "java/lang/Exception"]).filter goodWord)
def wsL_law0_r1 : List Cond := [Cond.classLink RL 26 RX0, Cond.instantiable RX0 17, Cond.initialized RX0, Cond.methodLink RL 128 Lib.Math.max.name, Cond.static Lib.Math.max.name, Cond.initialized "java/lang/Math", Cond.code Lib.Math.max.name Lib.Math.max.code 2 (some .int), Cond.fieldLink RL 53 "AfternoonMeterLaw$Sim" "bees" "[[I", Cond.methodLink RL 174 Lib.Math.abs.name, Cond.static Lib.Math.abs.name, Cond.code Lib.Math.abs.name Lib.Math.abs.code 1 (some .int), Cond.fieldLink RL 59 "AfternoonMeterLaw$Sim" "room" "I", Cond.fieldLink RL 63 "AfternoonMeterLaw$Sim" "rate" "I", Cond.fieldLink RL 66 "AfternoonMeterLaw$Sim" "sip" "I", Cond.fieldLink RL 35 "AfternoonMeterLaw$Sim" "naps" "[[I", Cond.methodLink RL 102 yX0_init, Cond.instanceMethod yX0_init, Cond.code yX0_init cX0_init 1 none, Cond.methodLink RX0 1 objectInit, Cond.instanceMethod objectInit, Cond.code objectInit ⟨#[0xb1]⟩ 1 none, Cond.arrayClass .int, Cond.fieldLink RX0 9 "AfternoonMeter" "heights" "[I", Cond.fieldLink RX0 13 "AfternoonMeter" "napStarts" "[I"]
def wsL_law0_r2 : List Cond := [Cond.fieldLink RX0 16 "AfternoonMeter" "napEnds" "[I", Cond.fieldLink RX0 19 "AfternoonMeter" "napsOver" "[I", Cond.fieldLink RX0 22 "AfternoonMeter" "periods" "[I", Cond.fieldLink RX0 25 "AfternoonMeter" "beats" "[I", Cond.fieldLink RX0 28 "AfternoonMeter" "beesOn" "[I", Cond.fieldLink RX0 31 "AfternoonMeter" "room" "I", Cond.fieldLink RX0 35 "AfternoonMeter" "rate" "I", Cond.fieldLink RX0 38 "AfternoonMeter" "sip" "I", Cond.methodLink RL 103 yL_build, Cond.static yL_build, Cond.initialized RL, Cond.code yL_build cL_build 5 (some (.object "AfternoonMeterLaw$Sim")), Cond.classLink RL 16 RX1, Cond.instantiable RX1 10, Cond.initialized RX1, Cond.instanceMethod yX1_init, Cond.code yX1_init cX1_init 1 none, Cond.methodLink RX1 1 objectInit, Cond.fieldLink RX1 7 "AfternoonMeterLaw$Sim" "sticks" "[I", Cond.classLink RX1 13 "[I", Cond.fieldLink RX1 14 "AfternoonMeterLaw$Sim" "naps" "[[I", Cond.fieldLink RX1 18 "AfternoonMeterLaw$Sim" "bees" "[[I", Cond.fieldLink RX1 21 "AfternoonMeterLaw$Sim" "room" "I", Cond.fieldLink RX1 25 "AfternoonMeterLaw$Sim" "rate" "I"]
def wsL_law0_r3 : List Cond := [Cond.fieldLink RX1 28 "AfternoonMeterLaw$Sim" "sip" "I", Cond.methodLink RL 94 yL_cell, Cond.static yL_cell, Cond.code yL_cell cL_cell 2 (some .int), Cond.constant RL 8 (790386105), Cond.methodLink RL 9 yL_below, Cond.static yL_below, Cond.code yL_below cL_below 2 (some .int), Cond.constant RL 7 (2147483647), Cond.methodLink RL 98 yL_act, Cond.static yL_act, Cond.code yL_act cL_act 5 (some .boolean), Cond.fieldLink RL 15 "AfternoonMeterLaw$Sim" "sticks" "[I", Cond.methodLink RL 30 Lib.Math.min.name, Cond.static Lib.Math.min.name, Cond.code Lib.Math.min.name Lib.Math.min.code 2 (some .int), Cond.fieldLink RL 69 "AfternoonMeterLaw$Sim" "tea" "I", Cond.fieldLink RL 72 "AfternoonMeterLaw$Sim" "spilt" "I", Cond.fieldLink RL 79 "AfternoonMeterLaw$Sim" "afternoon" "I", Cond.fieldLink RL 82 "AfternoonMeterLaw$Sim" "minute" "I", Cond.methodLink RL 21 yX1_addStick, Cond.instanceMethod yX1_addStick, Cond.selects RX1 yX1_addStick yX1_addStick, Cond.code yX1_addStick cX1_addStick 4 none]
def wsL_law0_r4 : List Cond := [Cond.methodLink RL 25 yX0_addStick, Cond.instanceMethod yX0_addStick, Cond.selects RX0 yX0_addStick yX0_addStick, Cond.code yX0_addStick cX0_addStick 3 (some .int), Cond.classLink RX0 41 "java/lang/IllegalArgumentException", Cond.initialized "java/lang/IllegalArgumentException", Cond.classLink RX0 51 "java/lang/IllegalStateException", Cond.initialized "java/lang/IllegalStateException", Cond.fieldLink RX0 48 "AfternoonMeter" "stickCount" "I", Cond.methodLink RL 39 yX1_with, Cond.static yX1_with, Cond.code yX1_with cX1_with 4 (some (.array (.array .int))), Cond.methodLink RL 43 yX0_addNap, Cond.instanceMethod yX0_addNap, Cond.selects RX0 yX0_addNap yX0_addNap, Cond.code yX0_addNap cX0_addNap 4 (some .int), Cond.fieldLink RX0 58 "AfternoonMeter" "napCount" "I", Cond.methodLink RX0 63 yX0_changeCover, Cond.instanceMethod yX0_changeCover, Cond.selects RX0 yX0_changeCover yX0_changeCover, Cond.code yX0_changeCover cX0_changeCover 4 none, Cond.methodLink RX0 201 yX0_covers, Cond.instanceMethod yX0_covers, Cond.selects RX0 yX0_covers yX0_covers]
def wsL_law0_r5 : List Cond := [Cond.code yX0_covers cX0_covers 3 (some .boolean), Cond.methodLink RL 46 yX1_without, Cond.static yX1_without, Cond.code yX1_without cX1_without 4 (some (.array (.array .int))), Cond.methodLink RX1 31 yX1_with, Cond.methodLink RL 50 yX0_giveUp, Cond.instanceMethod yX0_giveUp, Cond.selects RX0 yX0_giveUp yX0_giveUp, Cond.code yX0_giveUp cX0_giveUp 3 (some .int), Cond.methodLink RX0 67 yX0_checkNap, Cond.instanceMethod yX0_checkNap, Cond.selects RX0 yX0_checkNap yX0_checkNap, Cond.code yX0_checkNap cX0_checkNap 2 none, Cond.classLink RX0 192 "java/lang/IndexOutOfBoundsException", Cond.initialized "java/lang/IndexOutOfBoundsException", Cond.methodLink RL 56 yX0_addBee, Cond.instanceMethod yX0_addBee, Cond.selects RX0 yX0_addBee yX0_addBee, Cond.code yX0_addBee cX0_addBee 5 (some .int), Cond.fieldLink RX0 73 "AfternoonMeter" "beeCount" "I", Cond.methodLink RX0 78 yX0_hasBeatIn, Cond.instanceMethod yX0_hasBeatIn, Cond.selects RX0 yX0_hasBeatIn yX0_hasBeatIn, Cond.code yX0_hasBeatIn cX0_hasBeatIn 4 (some .boolean)]
def wsL_law0_r6 : List Cond := [Cond.methodLink RL 75 yX0_setTea, Cond.instanceMethod yX0_setTea, Cond.selects RX0 yX0_setTea yX0_setTea, Cond.code yX0_setTea cX0_setTea 4 (some .int), Cond.fieldLink RX0 88 "AfternoonMeter" "inCup" "I", Cond.methodLink RX0 91 yX0_pourInto, Cond.instanceMethod yX0_pourInto, Cond.selects RX0 yX0_pourInto yX0_pourInto, Cond.code yX0_pourInto cX0_pourInto 3 (some .int), Cond.fieldLink RX0 106 "AfternoonMeter" "ranOver" "I", Cond.methodLink RX0 155 yX0_excess, Cond.instanceMethod yX0_excess, Cond.selects RX0 yX0_excess yX0_excess, Cond.code yX0_excess cX0_excess 2 (some .int), Cond.methodLink RX0 119 Lib.Math.max.name, Cond.methodLink RL 85 yX0_begin, Cond.instanceMethod yX0_begin, Cond.selects RX0 yX0_begin yX0_begin, Cond.code yX0_begin cX0_begin 1 (some .int), Cond.fieldLink RX0 97 "AfternoonMeter" "now" "I", Cond.fieldLink RX0 109 "AfternoonMeter" "afternoonNumber" "I", Cond.methodLink RL 89 yX0_pass, Cond.instanceMethod yX0_pass, Cond.selects RX0 yX0_pass yX0_pass]
def wsL_law0_r7 : List Cond := [Cond.code yX0_pass cX0_pass 4 (some .int), Cond.methodLink RX0 102 yX0_contentAfter, Cond.instanceMethod yX0_contentAfter, Cond.selects RX0 yX0_contentAfter yX0_contentAfter, Cond.code yX0_contentAfter cX0_contentAfter 4 (some .int), Cond.methodLink RL 92 yX1_pass_, Cond.instanceMethod yX1_pass_, Cond.selects RX1 yX1_pass_ yX1_pass_, Cond.code yX1_pass_ cX1_pass_ 4 (some .int), Cond.methodLink RX1 56 yX1_pass, Cond.instanceMethod yX1_pass, Cond.selects RX1 yX1_pass yX1_pass, Cond.code yX1_pass cX1_pass 3 (some .int), Cond.fieldLink RX1 39 "AfternoonMeterLaw$Sim" "minute" "I", Cond.fieldLink RX1 42 "AfternoonMeterLaw$Sim" "tea" "I", Cond.fieldLink RX1 45 "AfternoonMeterLaw$Sim" "spilt" "I", Cond.methodLink RX1 48 yX1_napsAt, Cond.instanceMethod yX1_napsAt, Cond.selects RX1 yX1_napsAt yX1_napsAt, Cond.code yX1_napsAt cX1_napsAt 5 (some .int), Cond.methodLink RX1 52 yX1_ticks, Cond.instanceMethod yX1_ticks, Cond.selects RX1 yX1_ticks yX1_ticks, Cond.code yX1_ticks cX1_ticks 3 (some .boolean)]
def wsL_law0_r8 : List Cond := [Cond.methodLink RL 107 yX0_digest, Cond.instanceMethod yX0_digest, Cond.selects RX0 yX0_digest yX0_digest, Cond.code yX0_digest cX0_digest 3 (some .long), Cond.constantLong RX0 161 (2083), Cond.constantLong RX0 163 (31), Cond.methodLink RX0 115 yX0_awakeMinutes, Cond.instanceMethod yX0_awakeMinutes, Cond.selects RX0 yX0_awakeMinutes yX0_awakeMinutes, Cond.code yX0_awakeMinutes cX0_awakeMinutes 3 (some .int), Cond.methodLink RX0 165 yX0_longestAwake, Cond.instanceMethod yX0_longestAwake, Cond.selects RX0 yX0_longestAwake yX0_longestAwake, Cond.code yX0_longestAwake cX0_longestAwake 4 (some .int), Cond.methodLink RX0 168 yX0_spiltAtEnd, Cond.instanceMethod yX0_spiltAtEnd, Cond.selects RX0 yX0_spiltAtEnd yX0_spiltAtEnd, Cond.code yX0_spiltAtEnd cX0_spiltAtEnd 5 (some .int), Cond.methodLink RX0 171 yX0_safeRate, Cond.instanceMethod yX0_safeRate, Cond.selects RX0 yX0_safeRate yX0_safeRate, Cond.code yX0_safeRate cX0_safeRate 2 (some .int), Cond.methodLink RX0 158 yX0_firstSpillWith, Cond.instanceMethod yX0_firstSpillWith]
def wsL_law0_r9 : List Cond := [Cond.selects RX0 yX0_firstSpillWith yX0_firstSpillWith, Cond.code yX0_firstSpillWith cX0_firstSpillWith 4 (some .int), Cond.methodLink RX0 174 yX0_bestToGiveUp, Cond.instanceMethod yX0_bestToGiveUp, Cond.selects RX0 yX0_bestToGiveUp yX0_bestToGiveUp, Cond.code yX0_bestToGiveUp cX0_bestToGiveUp 5 (some .int), Cond.methodLink RX0 134 yX0_countAlone, Cond.instanceMethod yX0_countAlone, Cond.selects RX0 yX0_countAlone yX0_countAlone, Cond.code yX0_countAlone cX0_countAlone 4 (some .int), Cond.methodLink RX0 177 yX0_bestBee, Cond.instanceMethod yX0_bestBee, Cond.selects RX0 yX0_bestBee yX0_bestBee, Cond.code yX0_bestBee cX0_bestBee 5 (some .int), Cond.methodLink RX0 149 Lib.Math.abs.name, Cond.methodLink RX0 146 yX0_errorOf, Cond.instanceMethod yX0_errorOf, Cond.selects RX0 yX0_errorOf yX0_errorOf, Cond.code yX0_errorOf cX0_errorOf 2 (some .int), Cond.methodLink RX0 143 yX0_measuredBy, Cond.instanceMethod yX0_measuredBy, Cond.selects RX0 yX0_measuredBy yX0_measuredBy, Cond.code yX0_measuredBy cX0_measuredBy 2 (some .int), Cond.methodLink RX0 137 yX0_checkBee]
def wsL_law0_r10 : List Cond := [Cond.instanceMethod yX0_checkBee, Cond.selects RX0 yX0_checkBee yX0_checkBee, Cond.code yX0_checkBee cX0_checkBee 2 none, Cond.methodLink RX0 140 yX0_countTicks, Cond.instanceMethod yX0_countTicks, Cond.selects RX0 yX0_countTicks yX0_countTicks, Cond.code yX0_countTicks cX0_countTicks 4 (some .int), Cond.methodLink RX0 152 yX0_ticksIn, Cond.instanceMethod yX0_ticksIn, Cond.selects RX0 yX0_ticksIn yX0_ticksIn, Cond.code yX0_ticksIn cX0_ticksIn 3 (some .boolean), Cond.methodLink RX0 180 yX0_withSticks, Cond.instanceMethod yX0_withSticks, Cond.selects RX0 yX0_withSticks yX0_withSticks, Cond.code yX0_withSticks cX0_withSticks 6 (some .long), Cond.methodLink RX0 128 yX0_shadowOf, Cond.instanceMethod yX0_shadowOf, Cond.selects RX0 yX0_shadowOf yX0_shadowOf, Cond.code yX0_shadowOf cX0_shadowOf 3 (some .int), Cond.methodLink RX0 184 yX0_withNaps, Cond.instanceMethod yX0_withNaps, Cond.selects RX0 yX0_withNaps yX0_withNaps, Cond.code yX0_withNaps cX0_withNaps 6 (some .long), Cond.methodLink RX0 187 yX0_withBees]
def wsL_law0_r11 : List Cond := [Cond.instanceMethod yX0_withBees, Cond.selects RX0 yX0_withBees yX0_withBees, Cond.code yX0_withBees cX0_withBees 6 (some .long), Cond.methodLink RX0 204 yX0_nextTick, Cond.instanceMethod yX0_nextTick, Cond.selects RX0 yX0_nextTick yX0_nextTick, Cond.code yX0_nextTick cX0_nextTick 3 (some .int), Cond.methodLink RL 111 yX0_minute, Cond.instanceMethod yX0_minute, Cond.selects RX0 yX0_minute yX0_minute, Cond.code yX0_minute cX0_minute 1 (some .int), Cond.methodLink RL 113 yX0_isAsleep, Cond.instanceMethod yX0_isAsleep, Cond.selects RX0 yX0_isAsleep yX0_isAsleep, Cond.code yX0_isAsleep cX0_isAsleep 2 (some .boolean), Cond.methodLink RX0 112 yX0_checkMinute, Cond.instanceMethod yX0_checkMinute, Cond.selects RX0 yX0_checkMinute yX0_checkMinute, Cond.code yX0_checkMinute cX0_checkMinute 2 none, Cond.methodLink RL 117 yX0_naps, Cond.instanceMethod yX0_naps, Cond.selects RX0 yX0_naps yX0_naps, Cond.code yX0_naps cX0_naps 1 (some .int), Cond.methodLink RL 119 yX0_startOf]
def wsL_law0_r12 : List Cond := [Cond.instanceMethod yX0_startOf, Cond.selects RX0 yX0_startOf yX0_startOf, Cond.code yX0_startOf cX0_startOf 2 (some .int), Cond.methodLink RL 122 yX0_lengthOf, Cond.instanceMethod yX0_lengthOf, Cond.selects RX0 yX0_lengthOf yX0_lengthOf, Cond.code yX0_lengthOf cX0_lengthOf 2 (some .int), Cond.methodLink RL 125 yX0_napsAt, Cond.instanceMethod yX0_napsAt, Cond.selects RX0 yX0_napsAt yX0_napsAt, Cond.code yX0_napsAt cX0_napsAt 2 (some .int), Cond.methodLink RL 131 yX0_sleptMinutes, Cond.instanceMethod yX0_sleptMinutes, Cond.selects RX0 yX0_sleptMinutes yX0_sleptMinutes, Cond.code yX0_sleptMinutes cX0_sleptMinutes 1 (some .int), Cond.methodLink RL 134 yX0_awakeMinutes, Cond.methodLink RL 137 yX0_longestAwake, Cond.methodLink RL 140 yX0_sticks, Cond.instanceMethod yX0_sticks, Cond.selects RX0 yX0_sticks yX0_sticks, Cond.code yX0_sticks cX0_sticks 1 (some .int), Cond.methodLink RL 142 yX0_shadowAt, Cond.instanceMethod yX0_shadowAt, Cond.selects RX0 yX0_shadowAt yX0_shadowAt]
def wsL_law0_r13 : List Cond := [Cond.code yX0_shadowAt cX0_shadowAt 3 (some .int), Cond.methodLink RX0 125 yX0_checkStick, Cond.instanceMethod yX0_checkStick, Cond.selects RX0 yX0_checkStick yX0_checkStick, Cond.code yX0_checkStick cX0_checkStick 2 none, Cond.methodLink RL 145 yX0_minuteOfShadow, Cond.instanceMethod yX0_minuteOfShadow, Cond.selects RX0 yX0_minuteOfShadow yX0_minuteOfShadow, Cond.code yX0_minuteOfShadow cX0_minuteOfShadow 4 (some .int), Cond.methodLink RL 148 yX0_allShadows, Cond.instanceMethod yX0_allShadows, Cond.selects RX0 yX0_allShadows yX0_allShadows, Cond.code yX0_allShadows cX0_allShadows 2 (some .int), Cond.methodLink RX0 131 yX0_sumOfShadows, Cond.instanceMethod yX0_sumOfShadows, Cond.selects RX0 yX0_sumOfShadows yX0_sumOfShadows, Cond.code yX0_sumOfShadows cX0_sumOfShadows 4 (some .int), Cond.methodLink RL 151 yX0_bestToGiveUp, Cond.methodLink RL 154 yX0_minutesAlone, Cond.instanceMethod yX0_minutesAlone, Cond.selects RX0 yX0_minutesAlone yX0_minutesAlone, Cond.code yX0_minutesAlone cX0_minutesAlone 2 (some .int), Cond.methodLink RL 157 yX0_bestBee, Cond.methodLink RL 160 yX0_bees]
def wsL_law0_r14 : List Cond := [Cond.instanceMethod yX0_bees, Cond.selects RX0 yX0_bees yX0_bees, Cond.code yX0_bees cX0_bees 1 (some .int), Cond.methodLink RL 162 yX0_nextTick, Cond.methodLink RL 165 yX0_measuredBy, Cond.methodLink RL 168 yX0_ticksOf, Cond.instanceMethod yX0_ticksOf, Cond.selects RX0 yX0_ticksOf yX0_ticksOf, Cond.code yX0_ticksOf cX0_ticksOf 2 (some .int), Cond.methodLink RL 171 yX0_errorOf, Cond.methodLink RL 177 yX0_minuteOfSpill, Cond.instanceMethod yX0_minuteOfSpill, Cond.selects RX0 yX0_minuteOfSpill yX0_minuteOfSpill, Cond.code yX0_minuteOfSpill cX0_minuteOfSpill 1 (some .int), Cond.methodLink RL 180 yX0_spiltAtEnd, Cond.methodLink RL 183 yX0_safeRate, Cond.methodLink RL 186 yX0_tea, Cond.instanceMethod yX0_tea, Cond.selects RX0 yX0_tea yX0_tea, Cond.code yX0_tea cX0_tea 1 (some .int), Cond.methodLink RL 188 yX0_spilt, Cond.instanceMethod yX0_spilt, Cond.selects RX0 yX0_spilt yX0_spilt, Cond.code yX0_spilt cX0_spilt 1 (some .int)]
def wsL_law0_r15 : List Cond := [Cond.methodLink RL 190 yX1_pass, Cond.methodLink RL 192 yX1_isSame, Cond.instanceMethod yX1_isSame, Cond.selects RX1 yX1_isSame yX1_isSame, Cond.code yX1_isSame cX1_isSame 10 (some .boolean), Cond.fieldLink RX1 36 "AfternoonMeterLaw$Sim" "afternoon" "I", Cond.methodLink RX1 126 Lib.Math.abs.name, Cond.methodLink RX1 60 yX0_afternoon, Cond.instanceMethod yX0_afternoon, Cond.selects RX0 yX0_afternoon yX0_afternoon, Cond.code yX0_afternoon cX0_afternoon 1 (some .int), Cond.methodLink RX1 64 yX0_minute, Cond.methodLink RX1 66 yX0_awakeMinutes, Cond.methodLink RX1 69 yX1_awake, Cond.instanceMethod yX1_awake, Cond.selects RX1 yX1_awake yX1_awake, Cond.code yX1_awake cX1_awake 5 (some .int), Cond.methodLink RX1 72 yX0_sleptMinutes, Cond.methodLink RX1 75 yX0_sticks, Cond.methodLink RX1 77 yX0_naps, Cond.methodLink RX1 79 yX0_bees, Cond.methodLink RX1 81 yX0_tea, Cond.methodLink RX1 83 yX0_spilt, Cond.methodLink RX1 85 yX0_longestAwake]
def wsL_law0_r16 : List Cond := [Cond.methodLink RX1 88 yX0_napsAt, Cond.methodLink RX1 91 yX0_isAsleep, Cond.methodLink RX1 95 yX0_shadowAt, Cond.methodLink RX1 98 yX0_allShadows, Cond.methodLink RX1 101 yX0_meanLastShadow, Cond.instanceMethod yX0_meanLastShadow, Cond.selects RX0 yX0_meanLastShadow yX0_meanLastShadow, Cond.code yX0_meanLastShadow cX0_meanLastShadow 1 (some .double), Cond.methodLink RX1 105 yX0_startOf, Cond.methodLink RX1 108 yX0_lengthOf, Cond.methodLink RX1 111 yX0_minutesAlone, Cond.methodLink RX1 114 yX1_ticked, Cond.instanceMethod yX1_ticked, Cond.selects RX1 yX1_ticked yX1_ticked, Cond.code yX1_ticked cX1_ticked 4 (some .int), Cond.methodLink RX1 117 yX0_ticksOf, Cond.methodLink RX1 120 yX0_measuredBy, Cond.methodLink RX1 123 yX0_errorOf, Cond.methodLink RX1 131 yX0_bestToGiveUp, Cond.methodLink RX1 134 yX0_bestBee]
def wsL_law0 : List Cond := (wsL_law0_r1 ++ (wsL_law0_r2 ++ (wsL_law0_r3 ++ (wsL_law0_r4 ++ (wsL_law0_r5 ++ (wsL_law0_r6 ++ (wsL_law0_r7 ++ (wsL_law0_r8 ++ (wsL_law0_r9 ++ (wsL_law0_r10 ++ (wsL_law0_r11 ++ (wsL_law0_r12 ++ (wsL_law0_r13 ++ (wsL_law0_r14 ++ (wsL_law0_r15 ++ wsL_law0_r16))))))))))))))) ++ wsX00 ++ wsX10 ++ ([] : List Cond)
def wsL_law : List Cond := wsL_law0 ++ (vx_atS RX0 45 "java/lang/IllegalArgumentException" ["java/lang/RuntimeException", "java/lang/Exception"]).filter goodWord ++ (vx_atS RX0 55 "java/lang/IllegalStateException" ["java/lang/RuntimeException", "java/lang/Exception"]).filter goodWord ++ (vx_atS RX0 196 "java/lang/IndexOutOfBoundsException" ["java/lang/RuntimeException", "java/lang/Exception"]).filter goodWord
abbrev vwCl : List vw_C := [(RX0, TX0, 17), (RX1, TX1, 10)]
end
section
set_option maxRecDepth 20000 in
theorem inq_1 : ∀ w ∈ wsL_law0_r1, w ∈ lw_tbl := fun w h => (goodIn_p wsL_law0_r1 [207, 353, 34, 37] (by decide +kernel) (by decide +kernel) w h).1
set_option maxRecDepth 20000 in
theorem inq_2 : ∀ w ∈ wsL_law0_r2, w ∈ lw_tbl := fun w h => (goodIn_p wsL_law0_r2 [520, 525] (by decide +kernel) (by decide +kernel) w h).1
set_option maxRecDepth 20000 in
theorem inq_3 : ∀ w ∈ wsL_law0_r3, w ∈ lw_tbl := fun w h => (goodIn_p wsL_law0_r3 [478, 474, 482, 495, 486] (by decide +kernel) (by decide +kernel) w h).1
set_option maxRecDepth 20000 in
theorem inq_4 : ∀ w ∈ wsL_law0_r4, w ∈ lw_tbl := fun w h => (goodIn_p wsL_law0_r4 [490, 417, 500, 170] (by decide +kernel) (by decide +kernel) w h).1
set_option maxRecDepth 20000 in
theorem inq_5 : ∀ w ∈ wsL_law0_r5, w ∈ lw_tbl := fun w h => (goodIn_p wsL_law0_r5 [174, 412, 94, 98, 506, 336] (by decide +kernel) (by decide +kernel) w h).1
end
section
set_option maxRecDepth 20000 in
theorem inq_6 : ∀ w ∈ wsL_law0_r6, w ∈ lw_tbl := fun w h => (goodIn_p wsL_law0_r6 [178, 200, 204, 512] (by decide +kernel) (by decide +kernel) w h).1
set_option maxRecDepth 20000 in
theorem inq_7 : ∀ w ∈ wsL_law0_r7, w ∈ lw_tbl := fun w h => (goodIn_p wsL_law0_r7 [211, 232, 516, 421, 425, 429] (by decide +kernel) (by decide +kernel) w h).1
set_option maxRecDepth 20000 in
theorem inq_8 : ∀ w ∈ wsL_law0_r8, w ∈ lw_tbl := fun w h => (goodIn_p wsL_law0_r8 [389, 249, 258, 369, 381] (by decide +kernel) (by decide +kernel) w h).1
set_option maxRecDepth 20000 in
theorem inq_9 : ∀ w ∈ wsL_law0_r9, w ∈ lw_tbl := fun w h => (goodIn_p wsL_law0_r9 [377, 385, 311, 349, 344, 340] (by decide +kernel) (by decide +kernel) w h).1
set_option maxRecDepth 20000 in
theorem inq_10 : ∀ w ∈ wsL_law0_r10, w ∈ lw_tbl := fun w h => (goodIn_p wsL_law0_r10 [323, 328, 332, 400, 275, 404] (by decide +kernel) (by decide +kernel) w h).1
end
section
set_option maxRecDepth 20000 in
theorem inq_11 : ∀ w ∈ wsL_law0_r11, w ∈ lw_tbl := fun w h => (goodIn_p wsL_law0_r11 [408, 357, 236, 240, 244, 291] (by decide +kernel) (by decide +kernel) w h).1
set_option maxRecDepth 20000 in
theorem inq_12 : ∀ w ∈ wsL_law0_r12, w ∈ lw_tbl := fun w h => (goodIn_p wsL_law0_r12 [295, 299, 303, 253, 262] (by decide +kernel) (by decide +kernel) w h).1
set_option maxRecDepth 20000 in
theorem inq_13 : ∀ w ∈ wsL_law0_r13, w ∈ lw_tbl := fun w h => (goodIn_p wsL_law0_r13 [266, 270, 279, 283, 287, 307] (by decide +kernel) (by decide +kernel) w h).1
set_option maxRecDepth 20000 in
theorem inq_14 : ∀ w ∈ wsL_law0_r14, w ∈ lw_tbl := fun w h => (goodIn_p wsL_law0_r14 [315, 319, 373, 361, 365] (by decide +kernel) (by decide +kernel) w h).1
set_option maxRecDepth 20000 in
theorem inq_15 : ∀ w ∈ wsL_law0_r15, w ∈ lw_tbl := fun w h => (goodIn_p wsL_law0_r15 [433, 437, 443] rfl (by decide +kernel) w h).1
set_option maxRecDepth 20000 in
theorem inq_16 : ∀ w ∈ wsL_law0_r16, w ∈ lw_tbl := fun w h => (goodIn_p wsL_law0_r16 [458, 465] (by decide +kernel) (by decide +kernel) w h).1
theorem inq_X0 : ∀ w ∈ wsX00, w ∈ lw_tbl := by decide +kernel
theorem inq_X1 : ∀ w ∈ wsX10, w ∈ lw_tbl := by decide +kernel
theorem inq_app {a b c : List Cond} (ha : ∀ w ∈ a, w ∈ c) (hb : ∀ w ∈ b, w ∈ c) : ∀ w ∈ a ++ b, w ∈ c := fun w h => (List.mem_append.mp h).elim (ha w) (hb w)
theorem wsL_law_in0 : ∀ w ∈ wsL_law0, w ∈ lw_tbl := inq_app (inq_app (inq_app (inq_app inq_1 (inq_app inq_2 (inq_app inq_3 (inq_app inq_4 (inq_app inq_5 (inq_app inq_6 (inq_app inq_7 (inq_app inq_8 (inq_app inq_9 (inq_app inq_10 (inq_app inq_11 (inq_app inq_12 (inq_app inq_13 (inq_app inq_14 (inq_app inq_15 inq_16))))))))))))))) inq_X0) inq_X1) (fun _ h => nomatch h)
theorem wsL_law_x0 : ∀ w ∈ (vx_atS RX0 45 "java/lang/IllegalArgumentException" ["java/lang/RuntimeException", "java/lang/Exception"]).filter goodWord, w ∈ lw_tbl := by decide +kernel
theorem wsL_law_x1 : ∀ w ∈ (vx_atS RX0 55 "java/lang/IllegalStateException" ["java/lang/RuntimeException", "java/lang/Exception"]).filter goodWord, w ∈ lw_tbl := by decide +kernel
theorem wsL_law_x2 : ∀ w ∈ (vx_atS RX0 196 "java/lang/IndexOutOfBoundsException" ["java/lang/RuntimeException", "java/lang/Exception"]).filter goodWord, w ∈ lw_tbl := by decide +kernel
theorem wsL_law_in : ∀ w ∈ wsL_law, w ∈ lw_tbl := fun w h => (List.mem_append.mp h).elim (fun h => (List.mem_append.mp h).elim (fun h => (List.mem_append.mp h).elim (fun h => wsL_law_in0 w h) (fun h => wsL_law_x0 w h)) (fun h => wsL_law_x1 w h)) (fun h => wsL_law_x2 w h)
theorem inlX0 : ∀ w ∈ wsX00, w ∈ wsL_law := fun _ h => List.mem_append_left _ (List.mem_append_left _ (List.mem_append_left _ (List.mem_append_left _ (List.mem_append_left _ (List.mem_append_right _ h)))))
theorem inX0 : ∀ w ∈ wsX00, w ∈ lw_tbl := fun w h => wsL_law_in w (inlX0 w h)
theorem inlX1 : ∀ w ∈ wsX10, w ∈ wsL_law := fun _ h => List.mem_append_left _ (List.mem_append_left _ (List.mem_append_left _ (List.mem_append_left _ (List.mem_append_right _ h))))
theorem inX1 : ∀ w ∈ wsX10, w ∈ lw_tbl := fun w h => wsL_law_in w (inlX1 w h)
theorem inX2 : ∀ w ∈ wsX20, w ∈ lw_tbl := by decide +kernel
theorem inJ9 : ∀ w ∈ wsJ90, w ∈ lw_tbl := by decide +kernel
theorem inJ0 : ∀ w ∈ wsJ00, w ∈ lw_tbl := by decide +kernel
end
section
theorem dX0_init_0 : decode cX0_init 0 = .ok (.aload_n 0, 1) := by decide +kernel
theorem dX0_init_1 : decode cX0_init 1 = .ok (.invokespecial 1, 3) := by decide +kernel
theorem dX0_init_4 : decode cX0_init 4 = .ok (.aload_n 0, 1) := by decide +kernel
theorem dX0_init_5 : decode cX0_init 5 = .ok (.iconst 4, 1) := by decide +kernel
theorem dX0_init_6 : decode cX0_init 6 = .ok (.newarray .int, 2) := by decide +kernel
theorem dX0_init_8 : decode cX0_init 8 = .ok (.putfield 9, 3) := by decide +kernel
theorem dX0_init_11 : decode cX0_init 11 = .ok (.aload_n 0, 1) := by decide +kernel
theorem dX0_init_12 : decode cX0_init 12 = .ok (.bipush 8, 2) := by decide +kernel
theorem dX0_init_14 : decode cX0_init 14 = .ok (.newarray .int, 2) := by decide +kernel
theorem dX0_init_16 : decode cX0_init 16 = .ok (.putfield 13, 3) := by decide +kernel
theorem dX0_init_19 : decode cX0_init 19 = .ok (.aload_n 0, 1) := by decide +kernel
theorem dX0_init_20 : decode cX0_init 20 = .ok (.bipush 8, 2) := by decide +kernel
theorem dX0_init_22 : decode cX0_init 22 = .ok (.newarray .int, 2) := by decide +kernel
theorem dX0_init_24 : decode cX0_init 24 = .ok (.putfield 16, 3) := by decide +kernel
theorem dX0_init_27 : decode cX0_init 27 = .ok (.aload_n 0, 1) := by decide +kernel
theorem dX0_init_28 : decode cX0_init 28 = .ok (.sipush 360, 3) := by decide +kernel
theorem dX0_init_31 : decode cX0_init 31 = .ok (.newarray .int, 2) := by decide +kernel
theorem dX0_init_33 : decode cX0_init 33 = .ok (.putfield 19, 3) := by decide +kernel
theorem dX0_init_36 : decode cX0_init 36 = .ok (.aload_n 0, 1) := by decide +kernel
theorem dX0_init_37 : decode cX0_init 37 = .ok (.bipush 6, 2) := by decide +kernel
theorem dX0_init_39 : decode cX0_init 39 = .ok (.newarray .int, 2) := by decide +kernel
theorem dX0_init_41 : decode cX0_init 41 = .ok (.putfield 22, 3) := by decide +kernel
theorem dX0_init_44 : decode cX0_init 44 = .ok (.aload_n 0, 1) := by decide +kernel
theorem dX0_init_45 : decode cX0_init 45 = .ok (.bipush 6, 2) := by decide +kernel
theorem dX0_init_47 : decode cX0_init 47 = .ok (.newarray .int, 2) := by decide +kernel
theorem dX0_init_49 : decode cX0_init 49 = .ok (.putfield 25, 3) := by decide +kernel
theorem dX0_init_52 : decode cX0_init 52 = .ok (.aload_n 0, 1) := by decide +kernel
theorem dX0_init_53 : decode cX0_init 53 = .ok (.sipush 360, 3) := by decide +kernel
theorem dX0_init_56 : decode cX0_init 56 = .ok (.newarray .int, 2) := by decide +kernel
theorem dX0_init_58 : decode cX0_init 58 = .ok (.putfield 28, 3) := by decide +kernel
theorem dX0_init_61 : decode cX0_init 61 = .ok (.aload_n 0, 1) := by decide +kernel
theorem dX0_init_62 : decode cX0_init 62 = .ok (.bipush 20, 2) := by decide +kernel
theorem dX0_init_64 : decode cX0_init 64 = .ok (.putfield 31, 3) := by decide +kernel
theorem dX0_init_67 : decode cX0_init 67 = .ok (.aload_n 0, 1) := by decide +kernel
theorem dX0_init_68 : decode cX0_init 68 = .ok (.iconst 1, 1) := by decide +kernel
theorem dX0_init_69 : decode cX0_init 69 = .ok (.putfield 35, 3) := by decide +kernel
theorem dX0_init_72 : decode cX0_init 72 = .ok (.aload_n 0, 1) := by decide +kernel
theorem dX0_init_73 : decode cX0_init 73 = .ok (.iconst 3, 1) := by decide +kernel
theorem dX0_init_74 : decode cX0_init 74 = .ok (.putfield 38, 3) := by decide +kernel
theorem dX0_init_77 : decode cX0_init 77 = .ok (.return_, 1) := by decide +kernel
theorem dX0_addStick_0 : decode cX0_addStick 0 = .ok (.iload_n 1, 1) := by decide +kernel
theorem dX0_addStick_1 : decode cX0_addStick 1 = .ok (.iconst 1, 1) := by decide +kernel
theorem dX0_addStick_2 : decode cX0_addStick 2 = .ok (.if_icmp .lt 9, 3) := by decide +kernel
theorem dX0_addStick_5 : decode cX0_addStick 5 = .ok (.iload_n 1, 1) := by decide +kernel
theorem dX0_addStick_6 : decode cX0_addStick 6 = .ok (.bipush 30, 2) := by decide +kernel
theorem dX0_addStick_8 : decode cX0_addStick 8 = .ok (.if_icmp .le 13, 3) := by decide +kernel
theorem dX0_addStick_11 : decode cX0_addStick 11 = .ok (.new 41, 3) := by decide +kernel
theorem dX0_addStick_14 : decode cX0_addStick 14 = .ok (.dup, 1) := by decide +kernel
theorem dX0_addStick_15 : decode cX0_addStick 15 = .ok (.ldc 43, 2) := by decide +kernel
theorem dX0_addStick_17 : decode cX0_addStick 17 = .ok (.invokespecial 45, 3) := by decide +kernel
theorem dX0_addStick_20 : decode cX0_addStick 20 = .ok (.athrow, 1) := by decide +kernel
theorem dX0_addStick_21 : decode cX0_addStick 21 = .ok (.aload_n 0, 1) := by decide +kernel
theorem dX0_addStick_22 : decode cX0_addStick 22 = .ok (.getfield 48, 3) := by decide +kernel
theorem dX0_addStick_25 : decode cX0_addStick 25 = .ok (.iconst 4, 1) := by decide +kernel
theorem dX0_addStick_26 : decode cX0_addStick 26 = .ok (.if_icmp .lt 13, 3) := by decide +kernel
theorem dX0_addStick_29 : decode cX0_addStick 29 = .ok (.new 51, 3) := by decide +kernel
theorem dX0_addStick_32 : decode cX0_addStick 32 = .ok (.dup, 1) := by decide +kernel
theorem dX0_addStick_33 : decode cX0_addStick 33 = .ok (.ldc 53, 2) := by decide +kernel
theorem dX0_addStick_35 : decode cX0_addStick 35 = .ok (.invokespecial 55, 3) := by decide +kernel
theorem dX0_addStick_38 : decode cX0_addStick 38 = .ok (.athrow, 1) := by decide +kernel
theorem dX0_addStick_39 : decode cX0_addStick 39 = .ok (.aload_n 0, 1) := by decide +kernel
theorem dX0_addStick_40 : decode cX0_addStick 40 = .ok (.getfield 48, 3) := by decide +kernel
theorem dX0_addStick_43 : decode cX0_addStick 43 = .ok (.istore_n 2, 1) := by decide +kernel
theorem dX0_addStick_44 : decode cX0_addStick 44 = .ok (.aload_n 0, 1) := by decide +kernel
theorem dX0_addStick_45 : decode cX0_addStick 45 = .ok (.getfield 9, 3) := by decide +kernel
theorem dX0_addStick_48 : decode cX0_addStick 48 = .ok (.iload_n 2, 1) := by decide +kernel
theorem dX0_addStick_49 : decode cX0_addStick 49 = .ok (.iload_n 1, 1) := by decide +kernel
theorem dX0_addStick_50 : decode cX0_addStick 50 = .ok (.iastore, 1) := by decide +kernel
theorem dX0_addStick_51 : decode cX0_addStick 51 = .ok (.aload_n 0, 1) := by decide +kernel
theorem dX0_addStick_52 : decode cX0_addStick 52 = .ok (.dup, 1) := by decide +kernel
theorem dX0_addStick_53 : decode cX0_addStick 53 = .ok (.getfield 48, 3) := by decide +kernel
theorem dX0_addStick_56 : decode cX0_addStick 56 = .ok (.iconst 1, 1) := by decide +kernel
theorem dX0_addStick_57 : decode cX0_addStick 57 = .ok (.iadd, 1) := by decide +kernel
theorem dX0_addStick_58 : decode cX0_addStick 58 = .ok (.putfield 48, 3) := by decide +kernel
theorem dX0_addStick_61 : decode cX0_addStick 61 = .ok (.iload_n 2, 1) := by decide +kernel
theorem dX0_addStick_62 : decode cX0_addStick 62 = .ok (.ireturn, 1) := by decide +kernel
set_option maxRecDepth 20000 in
theorem ggX0_addNap_X0_changeCover : GoodIn wsX0_addNap wsX0_changeCover := goodIn_r _ [12, 13, 14, 15, 16, 11, 17, 6, 7, 18, 19, 20, 21, 22, 23, 24, 25, 26, 27, 28, 29, 30, 31, 32, 33, 34] (by decide +kernel) (by decide +kernel)
set_option maxRecDepth 20000 in
theorem gX0_addNap_X0_changeCover : GoodIn wsX0_addNap (wsV RX0 63 RX0 yX0_changeCover wsX0_changeCover) := goodIn_app (goodIn_of _ (by decide +kernel)) ggX0_addNap_X0_changeCover
theorem dX0_addNap_0 : decode cX0_addNap 0 = .ok (.iload_n 1, 1) := by decide +kernel
theorem dX0_addNap_1 : decode cX0_addNap 1 = .ok (.ifCond .lt 15, 3) := by decide +kernel
theorem dX0_addNap_4 : decode cX0_addNap 4 = .ok (.iload_n 2, 1) := by decide +kernel
theorem dX0_addNap_5 : decode cX0_addNap 5 = .ok (.sipush 360, 3) := by decide +kernel
theorem dX0_addNap_8 : decode cX0_addNap 8 = .ok (.if_icmp .gt 8, 3) := by decide +kernel
theorem dX0_addNap_11 : decode cX0_addNap 11 = .ok (.iload_n 2, 1) := by decide +kernel
theorem dX0_addNap_12 : decode cX0_addNap 12 = .ok (.iload_n 1, 1) := by decide +kernel
theorem dX0_addNap_13 : decode cX0_addNap 13 = .ok (.if_icmp .gt 13, 3) := by decide +kernel
theorem dX0_addNap_16 : decode cX0_addNap 16 = .ok (.new 41, 3) := by decide +kernel
theorem dX0_addNap_19 : decode cX0_addNap 19 = .ok (.dup, 1) := by decide +kernel
theorem dX0_addNap_20 : decode cX0_addNap 20 = .ok (.ldc 56, 2) := by decide +kernel
theorem dX0_addNap_22 : decode cX0_addNap 22 = .ok (.invokespecial 45, 3) := by decide +kernel
theorem dX0_addNap_25 : decode cX0_addNap 25 = .ok (.athrow, 1) := by decide +kernel
theorem dX0_addNap_26 : decode cX0_addNap 26 = .ok (.aload_n 0, 1) := by decide +kernel
theorem dX0_addNap_27 : decode cX0_addNap 27 = .ok (.getfield 58, 3) := by decide +kernel
theorem dX0_addNap_30 : decode cX0_addNap 30 = .ok (.bipush 8, 2) := by decide +kernel
theorem dX0_addNap_32 : decode cX0_addNap 32 = .ok (.if_icmp .lt 13, 3) := by decide +kernel
theorem dX0_addNap_35 : decode cX0_addNap 35 = .ok (.new 51, 3) := by decide +kernel
theorem dX0_addNap_38 : decode cX0_addNap 38 = .ok (.dup, 1) := by decide +kernel
theorem dX0_addNap_39 : decode cX0_addNap 39 = .ok (.ldc 61, 2) := by decide +kernel
theorem dX0_addNap_41 : decode cX0_addNap 41 = .ok (.invokespecial 55, 3) := by decide +kernel
theorem dX0_addNap_44 : decode cX0_addNap 44 = .ok (.athrow, 1) := by decide +kernel
theorem dX0_addNap_45 : decode cX0_addNap 45 = .ok (.aload_n 0, 1) := by decide +kernel
theorem dX0_addNap_46 : decode cX0_addNap 46 = .ok (.getfield 58, 3) := by decide +kernel
theorem dX0_addNap_49 : decode cX0_addNap 49 = .ok (.istore_n 3, 1) := by decide +kernel
theorem dX0_addNap_50 : decode cX0_addNap 50 = .ok (.aload_n 0, 1) := by decide +kernel
theorem dX0_addNap_51 : decode cX0_addNap 51 = .ok (.getfield 13, 3) := by decide +kernel
theorem dX0_addNap_54 : decode cX0_addNap 54 = .ok (.iload_n 3, 1) := by decide +kernel
theorem dX0_addNap_55 : decode cX0_addNap 55 = .ok (.iload_n 1, 1) := by decide +kernel
theorem dX0_addNap_56 : decode cX0_addNap 56 = .ok (.iastore, 1) := by decide +kernel
theorem dX0_addNap_57 : decode cX0_addNap 57 = .ok (.aload_n 0, 1) := by decide +kernel
theorem dX0_addNap_58 : decode cX0_addNap 58 = .ok (.getfield 16, 3) := by decide +kernel
theorem dX0_addNap_61 : decode cX0_addNap 61 = .ok (.iload_n 3, 1) := by decide +kernel
theorem dX0_addNap_62 : decode cX0_addNap 62 = .ok (.iload_n 2, 1) := by decide +kernel
theorem dX0_addNap_63 : decode cX0_addNap 63 = .ok (.iastore, 1) := by decide +kernel
theorem dX0_addNap_64 : decode cX0_addNap 64 = .ok (.aload_n 0, 1) := by decide +kernel
theorem dX0_addNap_65 : decode cX0_addNap 65 = .ok (.dup, 1) := by decide +kernel
theorem dX0_addNap_66 : decode cX0_addNap 66 = .ok (.getfield 58, 3) := by decide +kernel
theorem dX0_addNap_69 : decode cX0_addNap 69 = .ok (.iconst 1, 1) := by decide +kernel
theorem dX0_addNap_70 : decode cX0_addNap 70 = .ok (.iadd, 1) := by decide +kernel
theorem dX0_addNap_71 : decode cX0_addNap 71 = .ok (.putfield 58, 3) := by decide +kernel
theorem dX0_addNap_74 : decode cX0_addNap 74 = .ok (.aload_n 0, 1) := by decide +kernel
theorem dX0_addNap_75 : decode cX0_addNap 75 = .ok (.iload_n 3, 1) := by decide +kernel
theorem dX0_addNap_76 : decode cX0_addNap 76 = .ok (.iconst 1, 1) := by decide +kernel
theorem dX0_addNap_77 : decode cX0_addNap 77 = .ok (.invokevirtual 63, 3) := by decide +kernel
theorem dX0_addNap_80 : decode cX0_addNap 80 = .ok (.iload_n 3, 1) := by decide +kernel
theorem dX0_addNap_81 : decode cX0_addNap 81 = .ok (.ireturn, 1) := by decide +kernel
set_option maxRecDepth 20000 in
theorem ggX0_giveUp_X0_checkNap : GoodIn wsX0_giveUp wsX0_checkNap := goodIn_ca (goodIn_r _ [8, 9, 10, 1, 20, 21, 22, 23, 24, 25, 26, 27, 28, 29, 30, 31, 32, 33, 34, 35, 36] (by decide +kernel) (by decide +kernel)) (goodIn_sub (fun _ h => List.mem_cons_of_mem _ (List.mem_append_right _ h)) (by decide +kernel))
set_option maxRecDepth 20000 in
theorem gX0_giveUp_X0_checkNap : GoodIn wsX0_giveUp (wsV RX0 67 RX0 yX0_checkNap wsX0_checkNap) := goodIn_app (goodIn_of _ (by decide +kernel)) ggX0_giveUp_X0_checkNap
set_option maxRecDepth 20000 in
theorem ggX0_giveUp_X0_changeCover : GoodIn wsX0_giveUp wsX0_changeCover := goodIn_r _ [14, 15, 16, 17, 18, 7, 19, 2, 3, 20, 21, 22, 23, 24, 25, 26, 27, 28, 29, 30, 31, 32, 33, 34, 35, 36] (by decide +kernel) (by decide +kernel)
set_option maxRecDepth 20000 in
theorem gX0_giveUp_X0_changeCover : GoodIn wsX0_giveUp (wsV RX0 63 RX0 yX0_changeCover wsX0_changeCover) := goodIn_app (goodIn_of _ (by decide +kernel)) ggX0_giveUp_X0_changeCover
theorem dX0_giveUp_0 : decode cX0_giveUp 0 = .ok (.aload_n 0, 1) := by decide +kernel
theorem dX0_giveUp_1 : decode cX0_giveUp 1 = .ok (.iload_n 1, 1) := by decide +kernel
theorem dX0_giveUp_2 : decode cX0_giveUp 2 = .ok (.invokevirtual 67, 3) := by decide +kernel
theorem dX0_giveUp_5 : decode cX0_giveUp 5 = .ok (.aload_n 0, 1) := by decide +kernel
theorem dX0_giveUp_6 : decode cX0_giveUp 6 = .ok (.iload_n 1, 1) := by decide +kernel
theorem dX0_giveUp_7 : decode cX0_giveUp 7 = .ok (.iconst (-1), 1) := by decide +kernel
theorem dX0_giveUp_8 : decode cX0_giveUp 8 = .ok (.invokevirtual 63, 3) := by decide +kernel
theorem dX0_giveUp_11 : decode cX0_giveUp 11 = .ok (.aload_n 0, 1) := by decide +kernel
theorem dX0_giveUp_12 : decode cX0_giveUp 12 = .ok (.dup, 1) := by decide +kernel
theorem dX0_giveUp_13 : decode cX0_giveUp 13 = .ok (.getfield 58, 3) := by decide +kernel
theorem dX0_giveUp_16 : decode cX0_giveUp 16 = .ok (.iconst 1, 1) := by decide +kernel
theorem dX0_giveUp_17 : decode cX0_giveUp 17 = .ok (.isub, 1) := by decide +kernel
theorem dX0_giveUp_18 : decode cX0_giveUp 18 = .ok (.putfield 58, 3) := by decide +kernel
theorem dX0_giveUp_21 : decode cX0_giveUp 21 = .ok (.iload_n 1, 1) := by decide +kernel
theorem dX0_giveUp_22 : decode cX0_giveUp 22 = .ok (.istore_n 2, 1) := by decide +kernel
theorem dX0_giveUp_23 : decode cX0_giveUp 23 = .ok (.iload_n 2, 1) := by decide +kernel
theorem dX0_giveUp_24 : decode cX0_giveUp 24 = .ok (.aload_n 0, 1) := by decide +kernel
theorem dX0_giveUp_25 : decode cX0_giveUp 25 = .ok (.getfield 58, 3) := by decide +kernel
theorem dX0_giveUp_28 : decode cX0_giveUp 28 = .ok (.if_icmp .ge 37, 3) := by decide +kernel
theorem dX0_giveUp_31 : decode cX0_giveUp 31 = .ok (.aload_n 0, 1) := by decide +kernel
theorem dX0_giveUp_32 : decode cX0_giveUp 32 = .ok (.getfield 13, 3) := by decide +kernel
theorem dX0_giveUp_35 : decode cX0_giveUp 35 = .ok (.iload_n 2, 1) := by decide +kernel
theorem dX0_giveUp_36 : decode cX0_giveUp 36 = .ok (.aload_n 0, 1) := by decide +kernel
theorem dX0_giveUp_37 : decode cX0_giveUp 37 = .ok (.getfield 13, 3) := by decide +kernel
theorem dX0_giveUp_40 : decode cX0_giveUp 40 = .ok (.iload_n 2, 1) := by decide +kernel
theorem dX0_giveUp_41 : decode cX0_giveUp 41 = .ok (.iconst 1, 1) := by decide +kernel
theorem dX0_giveUp_42 : decode cX0_giveUp 42 = .ok (.iadd, 1) := by decide +kernel
theorem dX0_giveUp_43 : decode cX0_giveUp 43 = .ok (.iaload, 1) := by decide +kernel
theorem dX0_giveUp_44 : decode cX0_giveUp 44 = .ok (.iastore, 1) := by decide +kernel
theorem dX0_giveUp_45 : decode cX0_giveUp 45 = .ok (.aload_n 0, 1) := by decide +kernel
theorem dX0_giveUp_46 : decode cX0_giveUp 46 = .ok (.getfield 16, 3) := by decide +kernel
theorem dX0_giveUp_49 : decode cX0_giveUp 49 = .ok (.iload_n 2, 1) := by decide +kernel
theorem dX0_giveUp_50 : decode cX0_giveUp 50 = .ok (.aload_n 0, 1) := by decide +kernel
theorem dX0_giveUp_51 : decode cX0_giveUp 51 = .ok (.getfield 16, 3) := by decide +kernel
theorem dX0_giveUp_54 : decode cX0_giveUp 54 = .ok (.iload_n 2, 1) := by decide +kernel
theorem dX0_giveUp_55 : decode cX0_giveUp 55 = .ok (.iconst 1, 1) := by decide +kernel
theorem dX0_giveUp_56 : decode cX0_giveUp 56 = .ok (.iadd, 1) := by decide +kernel
theorem dX0_giveUp_57 : decode cX0_giveUp 57 = .ok (.iaload, 1) := by decide +kernel
theorem dX0_giveUp_58 : decode cX0_giveUp 58 = .ok (.iastore, 1) := by decide +kernel
theorem dX0_giveUp_59 : decode cX0_giveUp 59 = .ok (.iinc 2 1, 3) := by decide +kernel
theorem dX0_giveUp_62 : decode cX0_giveUp 62 = .ok (.goto (-39), 3) := by decide +kernel
theorem dX0_giveUp_65 : decode cX0_giveUp 65 = .ok (.aload_n 0, 1) := by decide +kernel
theorem dX0_giveUp_66 : decode cX0_giveUp 66 = .ok (.getfield 58, 3) := by decide +kernel
theorem dX0_giveUp_69 : decode cX0_giveUp 69 = .ok (.ireturn, 1) := by decide +kernel
set_option maxRecDepth 20000 in
theorem ggX0_addBee_X0_hasBeatIn : GoodIn wsX0_addBee wsX0_hasBeatIn := goodIn_r _ [13, 6, 7, 14, 15, 16, 17, 18, 19, 20, 21, 22, 23, 24, 25, 26, 27, 28, 29, 30] (by decide +kernel) (by decide +kernel)
set_option maxRecDepth 20000 in
theorem gX0_addBee_X0_hasBeatIn : GoodIn wsX0_addBee (wsV RX0 78 RX0 yX0_hasBeatIn wsX0_hasBeatIn) := goodIn_app (goodIn_of _ (by decide +kernel)) ggX0_addBee_X0_hasBeatIn
theorem dX0_addBee_0 : decode cX0_addBee 0 = .ok (.iload_n 1, 1) := by decide +kernel
theorem dX0_addBee_1 : decode cX0_addBee 1 = .ok (.iconst 2, 1) := by decide +kernel
theorem dX0_addBee_2 : decode cX0_addBee 2 = .ok (.if_icmp .lt 18, 3) := by decide +kernel
theorem dX0_addBee_5 : decode cX0_addBee 5 = .ok (.iload_n 1, 1) := by decide +kernel
theorem dX0_addBee_6 : decode cX0_addBee 6 = .ok (.bipush 30, 2) := by decide +kernel
theorem dX0_addBee_8 : decode cX0_addBee 8 = .ok (.if_icmp .gt 12, 3) := by decide +kernel
theorem dX0_addBee_11 : decode cX0_addBee 11 = .ok (.iload_n 2, 1) := by decide +kernel
theorem dX0_addBee_12 : decode cX0_addBee 12 = .ok (.ifCond .lt 8, 3) := by decide +kernel
theorem dX0_addBee_15 : decode cX0_addBee 15 = .ok (.iload_n 2, 1) := by decide +kernel
theorem dX0_addBee_16 : decode cX0_addBee 16 = .ok (.iload_n 1, 1) := by decide +kernel
theorem dX0_addBee_17 : decode cX0_addBee 17 = .ok (.if_icmp .lt 13, 3) := by decide +kernel
theorem dX0_addBee_20 : decode cX0_addBee 20 = .ok (.new 41, 3) := by decide +kernel
theorem dX0_addBee_23 : decode cX0_addBee 23 = .ok (.dup, 1) := by decide +kernel
theorem dX0_addBee_24 : decode cX0_addBee 24 = .ok (.ldc 71, 2) := by decide +kernel
theorem dX0_addBee_26 : decode cX0_addBee 26 = .ok (.invokespecial 45, 3) := by decide +kernel
theorem dX0_addBee_29 : decode cX0_addBee 29 = .ok (.athrow, 1) := by decide +kernel
theorem dX0_addBee_30 : decode cX0_addBee 30 = .ok (.aload_n 0, 1) := by decide +kernel
theorem dX0_addBee_31 : decode cX0_addBee 31 = .ok (.getfield 73, 3) := by decide +kernel
theorem dX0_addBee_34 : decode cX0_addBee 34 = .ok (.bipush 6, 2) := by decide +kernel
theorem dX0_addBee_36 : decode cX0_addBee 36 = .ok (.if_icmp .lt 13, 3) := by decide +kernel
theorem dX0_addBee_39 : decode cX0_addBee 39 = .ok (.new 51, 3) := by decide +kernel
theorem dX0_addBee_42 : decode cX0_addBee 42 = .ok (.dup, 1) := by decide +kernel
theorem dX0_addBee_43 : decode cX0_addBee 43 = .ok (.ldc 76, 2) := by decide +kernel
theorem dX0_addBee_45 : decode cX0_addBee 45 = .ok (.invokespecial 55, 3) := by decide +kernel
theorem dX0_addBee_48 : decode cX0_addBee 48 = .ok (.athrow, 1) := by decide +kernel
theorem dX0_addBee_49 : decode cX0_addBee 49 = .ok (.aload_n 0, 1) := by decide +kernel
theorem dX0_addBee_50 : decode cX0_addBee 50 = .ok (.getfield 73, 3) := by decide +kernel
theorem dX0_addBee_53 : decode cX0_addBee 53 = .ok (.istore_n 3, 1) := by decide +kernel
theorem dX0_addBee_54 : decode cX0_addBee 54 = .ok (.aload_n 0, 1) := by decide +kernel
theorem dX0_addBee_55 : decode cX0_addBee 55 = .ok (.getfield 22, 3) := by decide +kernel
theorem dX0_addBee_58 : decode cX0_addBee 58 = .ok (.iload_n 3, 1) := by decide +kernel
theorem dX0_addBee_59 : decode cX0_addBee 59 = .ok (.iload_n 1, 1) := by decide +kernel
theorem dX0_addBee_60 : decode cX0_addBee 60 = .ok (.iastore, 1) := by decide +kernel
theorem dX0_addBee_61 : decode cX0_addBee 61 = .ok (.aload_n 0, 1) := by decide +kernel
theorem dX0_addBee_62 : decode cX0_addBee 62 = .ok (.getfield 25, 3) := by decide +kernel
theorem dX0_addBee_65 : decode cX0_addBee 65 = .ok (.iload_n 3, 1) := by decide +kernel
theorem dX0_addBee_66 : decode cX0_addBee 66 = .ok (.iload_n 2, 1) := by decide +kernel
theorem dX0_addBee_67 : decode cX0_addBee 67 = .ok (.iastore, 1) := by decide +kernel
theorem dX0_addBee_68 : decode cX0_addBee 68 = .ok (.aload_n 0, 1) := by decide +kernel
theorem dX0_addBee_69 : decode cX0_addBee 69 = .ok (.dup, 1) := by decide +kernel
theorem dX0_addBee_70 : decode cX0_addBee 70 = .ok (.getfield 73, 3) := by decide +kernel
theorem dX0_addBee_73 : decode cX0_addBee 73 = .ok (.iconst 1, 1) := by decide +kernel
theorem dX0_addBee_74 : decode cX0_addBee 74 = .ok (.iadd, 1) := by decide +kernel
theorem dX0_addBee_75 : decode cX0_addBee 75 = .ok (.putfield 73, 3) := by decide +kernel
theorem dX0_addBee_78 : decode cX0_addBee 78 = .ok (.iconst 0, 1) := by decide +kernel
theorem dX0_addBee_79 : decode cX0_addBee 79 = .ok (.istore 4, 2) := by decide +kernel
theorem dX0_addBee_81 : decode cX0_addBee 81 = .ok (.iload 4, 2) := by decide +kernel
theorem dX0_addBee_83 : decode cX0_addBee 83 = .ok (.sipush 360, 3) := by decide +kernel
theorem dX0_addBee_86 : decode cX0_addBee 86 = .ok (.if_icmp .ge 30, 3) := by decide +kernel
theorem dX0_addBee_89 : decode cX0_addBee 89 = .ok (.aload_n 0, 1) := by decide +kernel
theorem dX0_addBee_90 : decode cX0_addBee 90 = .ok (.iload_n 3, 1) := by decide +kernel
theorem dX0_addBee_91 : decode cX0_addBee 91 = .ok (.iload 4, 2) := by decide +kernel
theorem dX0_addBee_93 : decode cX0_addBee 93 = .ok (.invokevirtual 78, 3) := by decide +kernel
theorem dX0_addBee_96 : decode cX0_addBee 96 = .ok (.ifCond .eq 14, 3) := by decide +kernel
theorem dX0_addBee_99 : decode cX0_addBee 99 = .ok (.aload_n 0, 1) := by decide +kernel
theorem dX0_addBee_100 : decode cX0_addBee 100 = .ok (.getfield 28, 3) := by decide +kernel
theorem dX0_addBee_103 : decode cX0_addBee 103 = .ok (.iload 4, 2) := by decide +kernel
theorem dX0_addBee_105 : decode cX0_addBee 105 = .ok (.dup2, 1) := by decide +kernel
theorem dX0_addBee_106 : decode cX0_addBee 106 = .ok (.iaload, 1) := by decide +kernel
theorem dX0_addBee_107 : decode cX0_addBee 107 = .ok (.iconst 1, 1) := by decide +kernel
theorem dX0_addBee_108 : decode cX0_addBee 108 = .ok (.iadd, 1) := by decide +kernel
theorem dX0_addBee_109 : decode cX0_addBee 109 = .ok (.iastore, 1) := by decide +kernel
theorem dX0_addBee_110 : decode cX0_addBee 110 = .ok (.iinc 4 1, 3) := by decide +kernel
theorem dX0_addBee_113 : decode cX0_addBee 113 = .ok (.goto (-32), 3) := by decide +kernel
theorem dX0_addBee_116 : decode cX0_addBee 116 = .ok (.iload_n 3, 1) := by decide +kernel
theorem dX0_addBee_117 : decode cX0_addBee 117 = .ok (.ireturn, 1) := by decide +kernel
set_option maxRecDepth 20000 in
theorem ggX0_setTea_X0_pourInto : GoodIn wsX0_setTea wsX0_pourInto := goodIn_r _ [11, 6, 12, 13, 14, 15, 10, 16, 3, 17, 18, 19, 20, 21, 22, 23, 24, 25, 26, 27, 28, 29, 30, 31, 32, 33, 34, 35, 36, 37] (by decide +kernel) (by decide +kernel)
set_option maxRecDepth 20000 in
theorem gX0_setTea_X0_pourInto : GoodIn wsX0_setTea (wsV RX0 91 RX0 yX0_pourInto wsX0_pourInto) := goodIn_app (goodIn_of _ (by decide +kernel)) ggX0_setTea_X0_pourInto
theorem dX0_setTea_0 : decode cX0_setTea 0 = .ok (.iload_n 1, 1) := by decide +kernel
theorem dX0_setTea_1 : decode cX0_setTea 1 = .ok (.iconst 1, 1) := by decide +kernel
theorem dX0_setTea_2 : decode cX0_setTea 2 = .ok (.if_icmp .lt 9, 3) := by decide +kernel
theorem dX0_setTea_5 : decode cX0_setTea 5 = .ok (.iload_n 1, 1) := by decide +kernel
theorem dX0_setTea_6 : decode cX0_setTea 6 = .ok (.bipush 50, 2) := by decide +kernel
theorem dX0_setTea_8 : decode cX0_setTea 8 = .ok (.if_icmp .le 13, 3) := by decide +kernel
theorem dX0_setTea_11 : decode cX0_setTea 11 = .ok (.new 41, 3) := by decide +kernel
theorem dX0_setTea_14 : decode cX0_setTea 14 = .ok (.dup, 1) := by decide +kernel
theorem dX0_setTea_15 : decode cX0_setTea 15 = .ok (.ldc 82, 2) := by decide +kernel
theorem dX0_setTea_17 : decode cX0_setTea 17 = .ok (.invokespecial 45, 3) := by decide +kernel
theorem dX0_setTea_20 : decode cX0_setTea 20 = .ok (.athrow, 1) := by decide +kernel
theorem dX0_setTea_21 : decode cX0_setTea 21 = .ok (.iload_n 2, 1) := by decide +kernel
theorem dX0_setTea_22 : decode cX0_setTea 22 = .ok (.ifCond .lt 9, 3) := by decide +kernel
theorem dX0_setTea_25 : decode cX0_setTea 25 = .ok (.iload_n 2, 1) := by decide +kernel
theorem dX0_setTea_26 : decode cX0_setTea 26 = .ok (.bipush 9, 2) := by decide +kernel
theorem dX0_setTea_28 : decode cX0_setTea 28 = .ok (.if_icmp .le 13, 3) := by decide +kernel
theorem dX0_setTea_31 : decode cX0_setTea 31 = .ok (.new 41, 3) := by decide +kernel
theorem dX0_setTea_34 : decode cX0_setTea 34 = .ok (.dup, 1) := by decide +kernel
theorem dX0_setTea_35 : decode cX0_setTea 35 = .ok (.ldc 84, 2) := by decide +kernel
theorem dX0_setTea_37 : decode cX0_setTea 37 = .ok (.invokespecial 45, 3) := by decide +kernel
theorem dX0_setTea_40 : decode cX0_setTea 40 = .ok (.athrow, 1) := by decide +kernel
theorem dX0_setTea_41 : decode cX0_setTea 41 = .ok (.iload_n 3, 1) := by decide +kernel
theorem dX0_setTea_42 : decode cX0_setTea 42 = .ok (.ifCond .lt 9, 3) := by decide +kernel
theorem dX0_setTea_45 : decode cX0_setTea 45 = .ok (.iload_n 3, 1) := by decide +kernel
theorem dX0_setTea_46 : decode cX0_setTea 46 = .ok (.bipush 9, 2) := by decide +kernel
theorem dX0_setTea_48 : decode cX0_setTea 48 = .ok (.if_icmp .le 13, 3) := by decide +kernel
theorem dX0_setTea_51 : decode cX0_setTea 51 = .ok (.new 41, 3) := by decide +kernel
theorem dX0_setTea_54 : decode cX0_setTea 54 = .ok (.dup, 1) := by decide +kernel
theorem dX0_setTea_55 : decode cX0_setTea 55 = .ok (.ldc 86, 2) := by decide +kernel
theorem dX0_setTea_57 : decode cX0_setTea 57 = .ok (.invokespecial 45, 3) := by decide +kernel
theorem dX0_setTea_60 : decode cX0_setTea 60 = .ok (.athrow, 1) := by decide +kernel
theorem dX0_setTea_61 : decode cX0_setTea 61 = .ok (.aload_n 0, 1) := by decide +kernel
theorem dX0_setTea_62 : decode cX0_setTea 62 = .ok (.iload_n 1, 1) := by decide +kernel
theorem dX0_setTea_63 : decode cX0_setTea 63 = .ok (.putfield 31, 3) := by decide +kernel
theorem dX0_setTea_66 : decode cX0_setTea 66 = .ok (.aload_n 0, 1) := by decide +kernel
theorem dX0_setTea_67 : decode cX0_setTea 67 = .ok (.iload_n 2, 1) := by decide +kernel
theorem dX0_setTea_68 : decode cX0_setTea 68 = .ok (.putfield 35, 3) := by decide +kernel
theorem dX0_setTea_71 : decode cX0_setTea 71 = .ok (.aload_n 0, 1) := by decide +kernel
theorem dX0_setTea_72 : decode cX0_setTea 72 = .ok (.iload_n 3, 1) := by decide +kernel
theorem dX0_setTea_73 : decode cX0_setTea 73 = .ok (.putfield 38, 3) := by decide +kernel
theorem dX0_setTea_76 : decode cX0_setTea 76 = .ok (.aload_n 0, 1) := by decide +kernel
theorem dX0_setTea_77 : decode cX0_setTea 77 = .ok (.aload_n 0, 1) := by decide +kernel
theorem dX0_setTea_78 : decode cX0_setTea 78 = .ok (.getfield 88, 3) := by decide +kernel
theorem dX0_setTea_81 : decode cX0_setTea 81 = .ok (.invokevirtual 91, 3) := by decide +kernel
theorem dX0_setTea_84 : decode cX0_setTea 84 = .ok (.ireturn, 1) := by decide +kernel
set_option maxRecDepth 20000 in
theorem ggX0_pass_X0_contentAfter : GoodIn wsX0_pass wsX0_contentAfter := goodIn_r _ [12, 13, 14, 15, 16, 17, 18, 19, 30, 31, 32, 33, 34, 35, 36, 37, 38, 39, 40, 41, 42, 43, 44, 45, 46] (by decide +kernel) (by decide +kernel)
set_option maxRecDepth 20000 in
theorem gX0_pass_X0_contentAfter : GoodIn wsX0_pass (wsV RX0 102 RX0 yX0_contentAfter wsX0_contentAfter) := goodIn_app (goodIn_of _ (by decide +kernel)) ggX0_pass_X0_contentAfter
set_option maxRecDepth 20000 in
theorem ggX0_pass_X0_pourInto : GoodIn wsX0_pass wsX0_pourInto := goodIn_r _ [23, 6, 24, 25, 26, 27, 11, 28, 29, 16, 17, 18, 19, 30, 31, 32, 33, 34, 35, 36, 37, 38, 39, 40, 41, 42, 43, 44, 45, 46] (by decide +kernel) (by decide +kernel)
set_option maxRecDepth 20000 in
theorem gX0_pass_X0_pourInto : GoodIn wsX0_pass (wsV RX0 91 RX0 yX0_pourInto wsX0_pourInto) := goodIn_app (goodIn_of _ (by decide +kernel)) ggX0_pass_X0_pourInto
theorem dX0_pass_0 : decode cX0_pass 0 = .ok (.iload_n 1, 1) := by decide +kernel
theorem dX0_pass_1 : decode cX0_pass 1 = .ok (.iconst 1, 1) := by decide +kernel
theorem dX0_pass_2 : decode cX0_pass 2 = .ok (.if_icmp .lt 10, 3) := by decide +kernel
theorem dX0_pass_5 : decode cX0_pass 5 = .ok (.iload_n 1, 1) := by decide +kernel
theorem dX0_pass_6 : decode cX0_pass 6 = .ok (.sipush 360, 3) := by decide +kernel
theorem dX0_pass_9 : decode cX0_pass 9 = .ok (.if_icmp .le 13, 3) := by decide +kernel
theorem dX0_pass_12 : decode cX0_pass 12 = .ok (.new 41, 3) := by decide +kernel
theorem dX0_pass_15 : decode cX0_pass 15 = .ok (.dup, 1) := by decide +kernel
theorem dX0_pass_16 : decode cX0_pass 16 = .ok (.ldc 95, 2) := by decide +kernel
theorem dX0_pass_18 : decode cX0_pass 18 = .ok (.invokespecial 45, 3) := by decide +kernel
theorem dX0_pass_21 : decode cX0_pass 21 = .ok (.athrow, 1) := by decide +kernel
theorem dX0_pass_22 : decode cX0_pass 22 = .ok (.iload_n 1, 1) := by decide +kernel
theorem dX0_pass_23 : decode cX0_pass 23 = .ok (.sipush 360, 3) := by decide +kernel
theorem dX0_pass_26 : decode cX0_pass 26 = .ok (.aload_n 0, 1) := by decide +kernel
theorem dX0_pass_27 : decode cX0_pass 27 = .ok (.getfield 97, 3) := by decide +kernel
theorem dX0_pass_30 : decode cX0_pass 30 = .ok (.isub, 1) := by decide +kernel
theorem dX0_pass_31 : decode cX0_pass 31 = .ok (.if_icmp .le 13, 3) := by decide +kernel
theorem dX0_pass_34 : decode cX0_pass 34 = .ok (.new 51, 3) := by decide +kernel
theorem dX0_pass_37 : decode cX0_pass 37 = .ok (.dup, 1) := by decide +kernel
theorem dX0_pass_38 : decode cX0_pass 38 = .ok (.ldc 100, 2) := by decide +kernel
theorem dX0_pass_40 : decode cX0_pass 40 = .ok (.invokespecial 55, 3) := by decide +kernel
theorem dX0_pass_43 : decode cX0_pass 43 = .ok (.athrow, 1) := by decide +kernel
theorem dX0_pass_44 : decode cX0_pass 44 = .ok (.iconst 0, 1) := by decide +kernel
theorem dX0_pass_45 : decode cX0_pass 45 = .ok (.istore_n 2, 1) := by decide +kernel
theorem dX0_pass_46 : decode cX0_pass 46 = .ok (.aload_n 0, 1) := by decide +kernel
theorem dX0_pass_47 : decode cX0_pass 47 = .ok (.getfield 97, 3) := by decide +kernel
theorem dX0_pass_50 : decode cX0_pass 50 = .ok (.iload_n 1, 1) := by decide +kernel
theorem dX0_pass_51 : decode cX0_pass 51 = .ok (.iadd, 1) := by decide +kernel
theorem dX0_pass_52 : decode cX0_pass 52 = .ok (.istore_n 3, 1) := by decide +kernel
theorem dX0_pass_53 : decode cX0_pass 53 = .ok (.aload_n 0, 1) := by decide +kernel
theorem dX0_pass_54 : decode cX0_pass 54 = .ok (.getfield 97, 3) := by decide +kernel
theorem dX0_pass_57 : decode cX0_pass 57 = .ok (.iload_n 3, 1) := by decide +kernel
theorem dX0_pass_58 : decode cX0_pass 58 = .ok (.if_icmp .ge 39, 3) := by decide +kernel
theorem dX0_pass_61 : decode cX0_pass 61 = .ok (.iload_n 2, 1) := by decide +kernel
theorem dX0_pass_62 : decode cX0_pass 62 = .ok (.aload_n 0, 1) := by decide +kernel
theorem dX0_pass_63 : decode cX0_pass 63 = .ok (.aload_n 0, 1) := by decide +kernel
theorem dX0_pass_64 : decode cX0_pass 64 = .ok (.aload_n 0, 1) := by decide +kernel
theorem dX0_pass_65 : decode cX0_pass 65 = .ok (.getfield 97, 3) := by decide +kernel
theorem dX0_pass_68 : decode cX0_pass 68 = .ok (.aload_n 0, 1) := by decide +kernel
theorem dX0_pass_69 : decode cX0_pass 69 = .ok (.getfield 88, 3) := by decide +kernel
theorem dX0_pass_72 : decode cX0_pass 72 = .ok (.aload_n 0, 1) := by decide +kernel
theorem dX0_pass_73 : decode cX0_pass 73 = .ok (.getfield 35, 3) := by decide +kernel
theorem dX0_pass_76 : decode cX0_pass 76 = .ok (.invokevirtual 102, 3) := by decide +kernel
theorem dX0_pass_79 : decode cX0_pass 79 = .ok (.invokevirtual 91, 3) := by decide +kernel
theorem dX0_pass_82 : decode cX0_pass 82 = .ok (.iadd, 1) := by decide +kernel
theorem dX0_pass_83 : decode cX0_pass 83 = .ok (.istore_n 2, 1) := by decide +kernel
theorem dX0_pass_84 : decode cX0_pass 84 = .ok (.aload_n 0, 1) := by decide +kernel
theorem dX0_pass_85 : decode cX0_pass 85 = .ok (.dup, 1) := by decide +kernel
theorem dX0_pass_86 : decode cX0_pass 86 = .ok (.getfield 97, 3) := by decide +kernel
theorem dX0_pass_89 : decode cX0_pass 89 = .ok (.iconst 1, 1) := by decide +kernel
theorem dX0_pass_90 : decode cX0_pass 90 = .ok (.iadd, 1) := by decide +kernel
theorem dX0_pass_91 : decode cX0_pass 91 = .ok (.putfield 97, 3) := by decide +kernel
theorem dX0_pass_94 : decode cX0_pass 94 = .ok (.goto (-41), 3) := by decide +kernel
theorem dX0_pass_97 : decode cX0_pass 97 = .ok (.iload_n 2, 1) := by decide +kernel
theorem dX0_pass_98 : decode cX0_pass 98 = .ok (.ireturn, 1) := by decide +kernel
theorem dX0_begin_0 : decode cX0_begin 0 = .ok (.aload_n 0, 1) := by decide +kernel
theorem dX0_begin_1 : decode cX0_begin 1 = .ok (.iconst 0, 1) := by decide +kernel
theorem dX0_begin_2 : decode cX0_begin 2 = .ok (.putfield 97, 3) := by decide +kernel
theorem dX0_begin_5 : decode cX0_begin 5 = .ok (.aload_n 0, 1) := by decide +kernel
theorem dX0_begin_6 : decode cX0_begin 6 = .ok (.iconst 0, 1) := by decide +kernel
theorem dX0_begin_7 : decode cX0_begin 7 = .ok (.putfield 88, 3) := by decide +kernel
theorem dX0_begin_10 : decode cX0_begin 10 = .ok (.aload_n 0, 1) := by decide +kernel
theorem dX0_begin_11 : decode cX0_begin 11 = .ok (.iconst 0, 1) := by decide +kernel
theorem dX0_begin_12 : decode cX0_begin 12 = .ok (.putfield 106, 3) := by decide +kernel
theorem dX0_begin_15 : decode cX0_begin 15 = .ok (.aload_n 0, 1) := by decide +kernel
theorem dX0_begin_16 : decode cX0_begin 16 = .ok (.dup, 1) := by decide +kernel
theorem dX0_begin_17 : decode cX0_begin 17 = .ok (.getfield 109, 3) := by decide +kernel
theorem dX0_begin_20 : decode cX0_begin 20 = .ok (.iconst 1, 1) := by decide +kernel
theorem dX0_begin_21 : decode cX0_begin 21 = .ok (.iadd, 1) := by decide +kernel
theorem dX0_begin_22 : decode cX0_begin 22 = .ok (.putfield 109, 3) := by decide +kernel
theorem dX0_begin_25 : decode cX0_begin 25 = .ok (.aload_n 0, 1) := by decide +kernel
theorem dX0_begin_26 : decode cX0_begin 26 = .ok (.getfield 109, 3) := by decide +kernel
theorem dX0_begin_29 : decode cX0_begin 29 = .ok (.ireturn, 1) := by decide +kernel
theorem dX0_afternoon_0 : decode cX0_afternoon 0 = .ok (.aload_n 0, 1) := by decide +kernel
theorem dX0_afternoon_1 : decode cX0_afternoon 1 = .ok (.getfield 109, 3) := by decide +kernel
theorem dX0_afternoon_4 : decode cX0_afternoon 4 = .ok (.ireturn, 1) := by decide +kernel
theorem dX0_minute_0 : decode cX0_minute 0 = .ok (.aload_n 0, 1) := by decide +kernel
theorem dX0_minute_1 : decode cX0_minute 1 = .ok (.getfield 97, 3) := by decide +kernel
theorem dX0_minute_4 : decode cX0_minute 4 = .ok (.ireturn, 1) := by decide +kernel
set_option maxRecDepth 20000 in
theorem ggX0_isAsleep_X0_checkMinute : GoodIn wsX0_isAsleep wsX0_checkMinute := goodIn_ca (goodIn_r _ [6, 7, 8] (by decide +kernel) (by decide +kernel)) (goodIn_sub (fun _ h => List.mem_cons_of_mem _ (List.mem_append_right _ h)) (by decide +kernel))
set_option maxRecDepth 20000 in
theorem gX0_isAsleep_X0_checkMinute : GoodIn wsX0_isAsleep (wsV RX0 112 RX0 yX0_checkMinute wsX0_checkMinute) := goodIn_app (goodIn_of _ (by decide +kernel)) ggX0_isAsleep_X0_checkMinute
theorem dX0_isAsleep_0 : decode cX0_isAsleep 0 = .ok (.aload_n 0, 1) := by decide +kernel
theorem dX0_isAsleep_1 : decode cX0_isAsleep 1 = .ok (.iload_n 1, 1) := by decide +kernel
theorem dX0_isAsleep_2 : decode cX0_isAsleep 2 = .ok (.invokevirtual 112, 3) := by decide +kernel
theorem dX0_isAsleep_5 : decode cX0_isAsleep 5 = .ok (.aload_n 0, 1) := by decide +kernel
theorem dX0_isAsleep_6 : decode cX0_isAsleep 6 = .ok (.getfield 19, 3) := by decide +kernel
theorem dX0_isAsleep_9 : decode cX0_isAsleep 9 = .ok (.iload_n 1, 1) := by decide +kernel
theorem dX0_isAsleep_10 : decode cX0_isAsleep 10 = .ok (.iaload, 1) := by decide +kernel
theorem dX0_isAsleep_11 : decode cX0_isAsleep 11 = .ok (.ifCond .le 7, 3) := by decide +kernel
theorem dX0_isAsleep_14 : decode cX0_isAsleep 14 = .ok (.iconst 1, 1) := by decide +kernel
theorem dX0_isAsleep_15 : decode cX0_isAsleep 15 = .ok (.goto 4, 3) := by decide +kernel
theorem dX0_isAsleep_18 : decode cX0_isAsleep 18 = .ok (.iconst 0, 1) := by decide +kernel
theorem dX0_isAsleep_19 : decode cX0_isAsleep 19 = .ok (.ireturn, 1) := by decide +kernel
theorem dX0_awakeMinutes_0 : decode cX0_awakeMinutes 0 = .ok (.iconst 0, 1) := by decide +kernel
theorem dX0_awakeMinutes_1 : decode cX0_awakeMinutes 1 = .ok (.istore_n 1, 1) := by decide +kernel
theorem dX0_awakeMinutes_2 : decode cX0_awakeMinutes 2 = .ok (.iconst 0, 1) := by decide +kernel
theorem dX0_awakeMinutes_3 : decode cX0_awakeMinutes 3 = .ok (.istore_n 2, 1) := by decide +kernel
theorem dX0_awakeMinutes_4 : decode cX0_awakeMinutes 4 = .ok (.iload_n 2, 1) := by decide +kernel
theorem dX0_awakeMinutes_5 : decode cX0_awakeMinutes 5 = .ok (.aload_n 0, 1) := by decide +kernel
theorem dX0_awakeMinutes_6 : decode cX0_awakeMinutes 6 = .ok (.getfield 97, 3) := by decide +kernel
theorem dX0_awakeMinutes_9 : decode cX0_awakeMinutes 9 = .ok (.if_icmp .ge 21, 3) := by decide +kernel
theorem dX0_awakeMinutes_12 : decode cX0_awakeMinutes 12 = .ok (.aload_n 0, 1) := by decide +kernel
theorem dX0_awakeMinutes_13 : decode cX0_awakeMinutes 13 = .ok (.getfield 19, 3) := by decide +kernel
theorem dX0_awakeMinutes_16 : decode cX0_awakeMinutes 16 = .ok (.iload_n 2, 1) := by decide +kernel
theorem dX0_awakeMinutes_17 : decode cX0_awakeMinutes 17 = .ok (.iaload, 1) := by decide +kernel
theorem dX0_awakeMinutes_18 : decode cX0_awakeMinutes 18 = .ok (.ifCond .ne 6, 3) := by decide +kernel
theorem dX0_awakeMinutes_21 : decode cX0_awakeMinutes 21 = .ok (.iinc 1 1, 3) := by decide +kernel
theorem dX0_awakeMinutes_24 : decode cX0_awakeMinutes 24 = .ok (.iinc 2 1, 3) := by decide +kernel
theorem dX0_awakeMinutes_27 : decode cX0_awakeMinutes 27 = .ok (.goto (-23), 3) := by decide +kernel
theorem dX0_awakeMinutes_30 : decode cX0_awakeMinutes 30 = .ok (.iload_n 1, 1) := by decide +kernel
theorem dX0_awakeMinutes_31 : decode cX0_awakeMinutes 31 = .ok (.ireturn, 1) := by decide +kernel
set_option maxRecDepth 20000 in
theorem ggX0_sleptMinutes_X0_awakeMinutes : GoodIn wsX0_sleptMinutes wsX0_awakeMinutes := goodIn_r _ [6, 1, 7, 8, 9, 10, 11, 12, 13, 14, 15, 16, 17, 18, 19, 20, 21, 22, 23, 24] (by decide +kernel) (by decide +kernel)
set_option maxRecDepth 20000 in
theorem gX0_sleptMinutes_X0_awakeMinutes : GoodIn wsX0_sleptMinutes (wsV RX0 115 RX0 yX0_awakeMinutes wsX0_awakeMinutes) := goodIn_app (goodIn_of _ (by decide +kernel)) ggX0_sleptMinutes_X0_awakeMinutes
theorem dX0_sleptMinutes_0 : decode cX0_sleptMinutes 0 = .ok (.aload_n 0, 1) := by decide +kernel
theorem dX0_sleptMinutes_1 : decode cX0_sleptMinutes 1 = .ok (.getfield 97, 3) := by decide +kernel
theorem dX0_sleptMinutes_4 : decode cX0_sleptMinutes 4 = .ok (.aload_n 0, 1) := by decide +kernel
theorem dX0_sleptMinutes_5 : decode cX0_sleptMinutes 5 = .ok (.invokevirtual 115, 3) := by decide +kernel
theorem dX0_sleptMinutes_8 : decode cX0_sleptMinutes 8 = .ok (.isub, 1) := by decide +kernel
theorem dX0_sleptMinutes_9 : decode cX0_sleptMinutes 9 = .ok (.ireturn, 1) := by decide +kernel
theorem dX0_longestAwake_0 : decode cX0_longestAwake 0 = .ok (.iconst 0, 1) := by decide +kernel
theorem dX0_longestAwake_1 : decode cX0_longestAwake 1 = .ok (.istore_n 1, 1) := by decide +kernel
theorem dX0_longestAwake_2 : decode cX0_longestAwake 2 = .ok (.iconst 0, 1) := by decide +kernel
theorem dX0_longestAwake_3 : decode cX0_longestAwake 3 = .ok (.istore_n 2, 1) := by decide +kernel
theorem dX0_longestAwake_4 : decode cX0_longestAwake 4 = .ok (.iconst 0, 1) := by decide +kernel
theorem dX0_longestAwake_5 : decode cX0_longestAwake 5 = .ok (.istore_n 3, 1) := by decide +kernel
theorem dX0_longestAwake_6 : decode cX0_longestAwake 6 = .ok (.iload_n 3, 1) := by decide +kernel
theorem dX0_longestAwake_7 : decode cX0_longestAwake 7 = .ok (.sipush 360, 3) := by decide +kernel
theorem dX0_longestAwake_10 : decode cX0_longestAwake 10 = .ok (.if_icmp .ge 32, 3) := by decide +kernel
theorem dX0_longestAwake_13 : decode cX0_longestAwake 13 = .ok (.aload_n 0, 1) := by decide +kernel
theorem dX0_longestAwake_14 : decode cX0_longestAwake 14 = .ok (.getfield 19, 3) := by decide +kernel
theorem dX0_longestAwake_17 : decode cX0_longestAwake 17 = .ok (.iload_n 3, 1) := by decide +kernel
theorem dX0_longestAwake_18 : decode cX0_longestAwake 18 = .ok (.iaload, 1) := by decide +kernel
theorem dX0_longestAwake_19 : decode cX0_longestAwake 19 = .ok (.ifCond .ne 9, 3) := by decide +kernel
theorem dX0_longestAwake_22 : decode cX0_longestAwake 22 = .ok (.iload_n 2, 1) := by decide +kernel
theorem dX0_longestAwake_23 : decode cX0_longestAwake 23 = .ok (.iconst 1, 1) := by decide +kernel
theorem dX0_longestAwake_24 : decode cX0_longestAwake 24 = .ok (.iadd, 1) := by decide +kernel
theorem dX0_longestAwake_25 : decode cX0_longestAwake 25 = .ok (.goto 4, 3) := by decide +kernel
theorem dX0_longestAwake_28 : decode cX0_longestAwake 28 = .ok (.iconst 0, 1) := by decide +kernel
theorem dX0_longestAwake_29 : decode cX0_longestAwake 29 = .ok (.istore_n 2, 1) := by decide +kernel
theorem dX0_longestAwake_30 : decode cX0_longestAwake 30 = .ok (.iload_n 1, 1) := by decide +kernel
theorem dX0_longestAwake_31 : decode cX0_longestAwake 31 = .ok (.iload_n 2, 1) := by decide +kernel
theorem dX0_longestAwake_32 : decode cX0_longestAwake 32 = .ok (.invokestatic 119, 3) := by decide +kernel
theorem dX0_longestAwake_35 : decode cX0_longestAwake 35 = .ok (.istore_n 1, 1) := by decide +kernel
theorem dX0_longestAwake_36 : decode cX0_longestAwake 36 = .ok (.iinc 3 1, 3) := by decide +kernel
theorem dX0_longestAwake_39 : decode cX0_longestAwake 39 = .ok (.goto (-33), 3) := by decide +kernel
theorem dX0_longestAwake_42 : decode cX0_longestAwake 42 = .ok (.iload_n 1, 1) := by decide +kernel
theorem dX0_longestAwake_43 : decode cX0_longestAwake 43 = .ok (.ireturn, 1) := by decide +kernel
theorem dX0_sticks_0 : decode cX0_sticks 0 = .ok (.aload_n 0, 1) := by decide +kernel
theorem dX0_sticks_1 : decode cX0_sticks 1 = .ok (.getfield 48, 3) := by decide +kernel
theorem dX0_sticks_4 : decode cX0_sticks 4 = .ok (.ireturn, 1) := by decide +kernel
set_option maxRecDepth 20000 in
theorem ggX0_shadowAt_X0_checkStick : GoodIn wsX0_shadowAt wsX0_checkStick := goodIn_ca (goodIn_r _ [5, 6, 7, 8, 20, 21, 22, 23, 24, 25, 26, 27, 28, 29, 30, 31, 32, 33, 34, 35, 36] (by decide +kernel) (by decide +kernel)) (goodIn_sub (fun _ h => List.mem_cons_of_mem _ (List.mem_append_left _ (List.mem_append_right _ h))) (by decide +kernel))
set_option maxRecDepth 20000 in
theorem gX0_shadowAt_X0_checkStick : GoodIn wsX0_shadowAt (wsV RX0 125 RX0 yX0_checkStick wsX0_checkStick) := goodIn_app (goodIn_of _ (by decide +kernel)) ggX0_shadowAt_X0_checkStick
set_option maxRecDepth 20000 in
theorem ggX0_shadowAt_X0_checkMinute : GoodIn wsX0_shadowAt wsX0_checkMinute := goodIn_ca (goodIn_r _ [12, 13, 14] (by decide +kernel) (by decide +kernel)) (goodIn_sub (fun _ h => List.mem_cons_of_mem _ (List.mem_append_right _ h)) (by decide +kernel))
set_option maxRecDepth 20000 in
theorem gX0_shadowAt_X0_checkMinute : GoodIn wsX0_shadowAt (wsV RX0 112 RX0 yX0_checkMinute wsX0_checkMinute) := goodIn_app (goodIn_of _ (by decide +kernel)) ggX0_shadowAt_X0_checkMinute
set_option maxRecDepth 20000 in
theorem ggX0_shadowAt_X0_shadowOf : GoodIn wsX0_shadowAt wsX0_shadowOf := goodIn_r _ [18, 19, 20, 21, 22, 23, 24, 25, 26, 27, 28, 29, 30, 31, 32, 33, 34, 35, 36] (by decide +kernel) (by decide +kernel)
set_option maxRecDepth 20000 in
theorem gX0_shadowAt_X0_shadowOf : GoodIn wsX0_shadowAt (wsV RX0 128 RX0 yX0_shadowOf wsX0_shadowOf) := goodIn_app (goodIn_of _ (by decide +kernel)) ggX0_shadowAt_X0_shadowOf
theorem dX0_shadowAt_0 : decode cX0_shadowAt 0 = .ok (.aload_n 0, 1) := by decide +kernel
theorem dX0_shadowAt_1 : decode cX0_shadowAt 1 = .ok (.iload_n 1, 1) := by decide +kernel
theorem dX0_shadowAt_2 : decode cX0_shadowAt 2 = .ok (.invokevirtual 125, 3) := by decide +kernel
theorem dX0_shadowAt_5 : decode cX0_shadowAt 5 = .ok (.aload_n 0, 1) := by decide +kernel
theorem dX0_shadowAt_6 : decode cX0_shadowAt 6 = .ok (.iload_n 2, 1) := by decide +kernel
theorem dX0_shadowAt_7 : decode cX0_shadowAt 7 = .ok (.invokevirtual 112, 3) := by decide +kernel
theorem dX0_shadowAt_10 : decode cX0_shadowAt 10 = .ok (.aload_n 0, 1) := by decide +kernel
theorem dX0_shadowAt_11 : decode cX0_shadowAt 11 = .ok (.iload_n 1, 1) := by decide +kernel
theorem dX0_shadowAt_12 : decode cX0_shadowAt 12 = .ok (.iload_n 2, 1) := by decide +kernel
theorem dX0_shadowAt_13 : decode cX0_shadowAt 13 = .ok (.invokevirtual 128, 3) := by decide +kernel
theorem dX0_shadowAt_16 : decode cX0_shadowAt 16 = .ok (.ireturn, 1) := by decide +kernel
set_option maxRecDepth 20000 in
theorem ggX0_minuteOfShadow_X0_checkStick : GoodIn wsX0_minuteOfShadow wsX0_checkStick := goodIn_ca (goodIn_r _ [5, 6, 7, 8, 14, 15, 16, 17, 18, 19, 20, 21, 22, 23, 24, 25, 26, 27, 28, 29, 30] (by decide +kernel) (by decide +kernel)) (goodIn_sub (fun _ h => List.mem_cons_of_mem _ (List.mem_append_right _ h)) (by decide +kernel))
set_option maxRecDepth 20000 in
theorem gX0_minuteOfShadow_X0_checkStick : GoodIn wsX0_minuteOfShadow (wsV RX0 125 RX0 yX0_checkStick wsX0_checkStick) := goodIn_app (goodIn_of _ (by decide +kernel)) ggX0_minuteOfShadow_X0_checkStick
set_option maxRecDepth 20000 in
theorem ggX0_minuteOfShadow_X0_shadowOf : GoodIn wsX0_minuteOfShadow wsX0_shadowOf := goodIn_r _ [12, 13, 14, 15, 16, 17, 18, 19, 20, 21, 22, 23, 24, 25, 26, 27, 28, 29, 30] (by decide +kernel) (by decide +kernel)
set_option maxRecDepth 20000 in
theorem gX0_minuteOfShadow_X0_shadowOf : GoodIn wsX0_minuteOfShadow (wsV RX0 128 RX0 yX0_shadowOf wsX0_shadowOf) := goodIn_app (goodIn_of _ (by decide +kernel)) ggX0_minuteOfShadow_X0_shadowOf
theorem dX0_minuteOfShadow_0 : decode cX0_minuteOfShadow 0 = .ok (.aload_n 0, 1) := by decide +kernel
theorem dX0_minuteOfShadow_1 : decode cX0_minuteOfShadow 1 = .ok (.iload_n 1, 1) := by decide +kernel
theorem dX0_minuteOfShadow_2 : decode cX0_minuteOfShadow 2 = .ok (.invokevirtual 125, 3) := by decide +kernel
theorem dX0_minuteOfShadow_5 : decode cX0_minuteOfShadow 5 = .ok (.iconst 0, 1) := by decide +kernel
theorem dX0_minuteOfShadow_6 : decode cX0_minuteOfShadow 6 = .ok (.istore_n 3, 1) := by decide +kernel
theorem dX0_minuteOfShadow_7 : decode cX0_minuteOfShadow 7 = .ok (.iload_n 3, 1) := by decide +kernel
theorem dX0_minuteOfShadow_8 : decode cX0_minuteOfShadow 8 = .ok (.sipush 360, 3) := by decide +kernel
theorem dX0_minuteOfShadow_11 : decode cX0_minuteOfShadow 11 = .ok (.if_icmp .ge 21, 3) := by decide +kernel
theorem dX0_minuteOfShadow_14 : decode cX0_minuteOfShadow 14 = .ok (.aload_n 0, 1) := by decide +kernel
theorem dX0_minuteOfShadow_15 : decode cX0_minuteOfShadow 15 = .ok (.iload_n 1, 1) := by decide +kernel
theorem dX0_minuteOfShadow_16 : decode cX0_minuteOfShadow 16 = .ok (.iload_n 3, 1) := by decide +kernel
theorem dX0_minuteOfShadow_17 : decode cX0_minuteOfShadow 17 = .ok (.invokevirtual 128, 3) := by decide +kernel
theorem dX0_minuteOfShadow_20 : decode cX0_minuteOfShadow 20 = .ok (.iload_n 2, 1) := by decide +kernel
theorem dX0_minuteOfShadow_21 : decode cX0_minuteOfShadow 21 = .ok (.if_icmp .lt 5, 3) := by decide +kernel
theorem dX0_minuteOfShadow_24 : decode cX0_minuteOfShadow 24 = .ok (.iload_n 3, 1) := by decide +kernel
theorem dX0_minuteOfShadow_25 : decode cX0_minuteOfShadow 25 = .ok (.ireturn, 1) := by decide +kernel
theorem dX0_minuteOfShadow_26 : decode cX0_minuteOfShadow 26 = .ok (.iinc 3 1, 3) := by decide +kernel
theorem dX0_minuteOfShadow_29 : decode cX0_minuteOfShadow 29 = .ok (.goto (-22), 3) := by decide +kernel
theorem dX0_minuteOfShadow_32 : decode cX0_minuteOfShadow 32 = .ok (.iconst (-1), 1) := by decide +kernel
theorem dX0_minuteOfShadow_33 : decode cX0_minuteOfShadow 33 = .ok (.ireturn, 1) := by decide +kernel
set_option maxRecDepth 20000 in
theorem ggX0_allShadows_X0_checkMinute : GoodIn wsX0_allShadows wsX0_checkMinute := goodIn_ca (goodIn_r _ [5, 6, 7] (by decide +kernel) (by decide +kernel)) (goodIn_sub (fun _ h => List.mem_cons_of_mem _ (List.mem_append_right _ h)) (by decide +kernel))
set_option maxRecDepth 20000 in
theorem gX0_allShadows_X0_checkMinute : GoodIn wsX0_allShadows (wsV RX0 112 RX0 yX0_checkMinute wsX0_checkMinute) := goodIn_app (goodIn_of _ (by decide +kernel)) ggX0_allShadows_X0_checkMinute
set_option maxRecDepth 20000 in
theorem ggX0_allShadows_X0_sumOfShadows : GoodIn wsX0_allShadows wsX0_sumOfShadows := goodIn_r _ [11, 12, 13, 14, 15, 4, 16, 17, 18, 19, 20, 21, 22, 23, 24, 25, 26, 27, 28, 29, 30, 31, 32, 33, 34] (by decide +kernel) (by decide +kernel)
set_option maxRecDepth 20000 in
theorem gX0_allShadows_X0_sumOfShadows : GoodIn wsX0_allShadows (wsV RX0 131 RX0 yX0_sumOfShadows wsX0_sumOfShadows) := goodIn_app (goodIn_of _ (by decide +kernel)) ggX0_allShadows_X0_sumOfShadows
theorem dX0_allShadows_0 : decode cX0_allShadows 0 = .ok (.aload_n 0, 1) := by decide +kernel
theorem dX0_allShadows_1 : decode cX0_allShadows 1 = .ok (.iload_n 1, 1) := by decide +kernel
theorem dX0_allShadows_2 : decode cX0_allShadows 2 = .ok (.invokevirtual 112, 3) := by decide +kernel
theorem dX0_allShadows_5 : decode cX0_allShadows 5 = .ok (.aload_n 0, 1) := by decide +kernel
theorem dX0_allShadows_6 : decode cX0_allShadows 6 = .ok (.iload_n 1, 1) := by decide +kernel
theorem dX0_allShadows_7 : decode cX0_allShadows 7 = .ok (.invokevirtual 131, 3) := by decide +kernel
theorem dX0_allShadows_10 : decode cX0_allShadows 10 = .ok (.ireturn, 1) := by decide +kernel
theorem dX0_naps_0 : decode cX0_naps 0 = .ok (.aload_n 0, 1) := by decide +kernel
theorem dX0_naps_1 : decode cX0_naps 1 = .ok (.getfield 58, 3) := by decide +kernel
theorem dX0_naps_4 : decode cX0_naps 4 = .ok (.ireturn, 1) := by decide +kernel
set_option maxRecDepth 20000 in
theorem ggX0_startOf_X0_checkNap : GoodIn wsX0_startOf wsX0_checkNap := goodIn_ca (goodIn_r _ [6, 7, 8, 9, 10, 11, 12, 13, 14, 15, 16, 17, 18, 19, 20, 21, 22, 23, 24, 25, 26] (by decide +kernel) (by decide +kernel)) (goodIn_sub (fun _ h => List.mem_cons_of_mem _ (List.mem_append_right _ h)) (by decide +kernel))
set_option maxRecDepth 20000 in
theorem gX0_startOf_X0_checkNap : GoodIn wsX0_startOf (wsV RX0 67 RX0 yX0_checkNap wsX0_checkNap) := goodIn_app (goodIn_of _ (by decide +kernel)) ggX0_startOf_X0_checkNap
theorem dX0_startOf_0 : decode cX0_startOf 0 = .ok (.aload_n 0, 1) := by decide +kernel
theorem dX0_startOf_1 : decode cX0_startOf 1 = .ok (.iload_n 1, 1) := by decide +kernel
theorem dX0_startOf_2 : decode cX0_startOf 2 = .ok (.invokevirtual 67, 3) := by decide +kernel
theorem dX0_startOf_5 : decode cX0_startOf 5 = .ok (.aload_n 0, 1) := by decide +kernel
theorem dX0_startOf_6 : decode cX0_startOf 6 = .ok (.getfield 13, 3) := by decide +kernel
theorem dX0_startOf_9 : decode cX0_startOf 9 = .ok (.iload_n 1, 1) := by decide +kernel
theorem dX0_startOf_10 : decode cX0_startOf 10 = .ok (.iaload, 1) := by decide +kernel
theorem dX0_startOf_11 : decode cX0_startOf 11 = .ok (.ireturn, 1) := by decide +kernel
set_option maxRecDepth 20000 in
theorem ggX0_lengthOf_X0_checkNap : GoodIn wsX0_lengthOf wsX0_checkNap := goodIn_ca (goodIn_r _ [7, 8, 9, 10, 11, 12, 13, 14, 15, 16, 17, 18, 19, 20, 21, 22, 23, 24, 25, 26, 27] (by decide +kernel) (by decide +kernel)) (goodIn_sub (fun _ h => List.mem_cons_of_mem _ (List.mem_append_right _ h)) (by decide +kernel))
set_option maxRecDepth 20000 in
theorem gX0_lengthOf_X0_checkNap : GoodIn wsX0_lengthOf (wsV RX0 67 RX0 yX0_checkNap wsX0_checkNap) := goodIn_app (goodIn_of _ (by decide +kernel)) ggX0_lengthOf_X0_checkNap
theorem dX0_lengthOf_0 : decode cX0_lengthOf 0 = .ok (.aload_n 0, 1) := by decide +kernel
theorem dX0_lengthOf_1 : decode cX0_lengthOf 1 = .ok (.iload_n 1, 1) := by decide +kernel
theorem dX0_lengthOf_2 : decode cX0_lengthOf 2 = .ok (.invokevirtual 67, 3) := by decide +kernel
theorem dX0_lengthOf_5 : decode cX0_lengthOf 5 = .ok (.aload_n 0, 1) := by decide +kernel
theorem dX0_lengthOf_6 : decode cX0_lengthOf 6 = .ok (.getfield 16, 3) := by decide +kernel
theorem dX0_lengthOf_9 : decode cX0_lengthOf 9 = .ok (.iload_n 1, 1) := by decide +kernel
theorem dX0_lengthOf_10 : decode cX0_lengthOf 10 = .ok (.iaload, 1) := by decide +kernel
theorem dX0_lengthOf_11 : decode cX0_lengthOf 11 = .ok (.aload_n 0, 1) := by decide +kernel
theorem dX0_lengthOf_12 : decode cX0_lengthOf 12 = .ok (.getfield 13, 3) := by decide +kernel
theorem dX0_lengthOf_15 : decode cX0_lengthOf 15 = .ok (.iload_n 1, 1) := by decide +kernel
theorem dX0_lengthOf_16 : decode cX0_lengthOf 16 = .ok (.iaload, 1) := by decide +kernel
theorem dX0_lengthOf_17 : decode cX0_lengthOf 17 = .ok (.isub, 1) := by decide +kernel
theorem dX0_lengthOf_18 : decode cX0_lengthOf 18 = .ok (.ireturn, 1) := by decide +kernel
set_option maxRecDepth 20000 in
theorem ggX0_napsAt_X0_checkMinute : GoodIn wsX0_napsAt wsX0_checkMinute := goodIn_ca (goodIn_r _ [6, 7, 8] (by decide +kernel) (by decide +kernel)) (goodIn_sub (fun _ h => List.mem_cons_of_mem _ (List.mem_append_right _ h)) (by decide +kernel))
set_option maxRecDepth 20000 in
theorem gX0_napsAt_X0_checkMinute : GoodIn wsX0_napsAt (wsV RX0 112 RX0 yX0_checkMinute wsX0_checkMinute) := goodIn_app (goodIn_of _ (by decide +kernel)) ggX0_napsAt_X0_checkMinute
theorem dX0_napsAt_0 : decode cX0_napsAt 0 = .ok (.aload_n 0, 1) := by decide +kernel
theorem dX0_napsAt_1 : decode cX0_napsAt 1 = .ok (.iload_n 1, 1) := by decide +kernel
theorem dX0_napsAt_2 : decode cX0_napsAt 2 = .ok (.invokevirtual 112, 3) := by decide +kernel
theorem dX0_napsAt_5 : decode cX0_napsAt 5 = .ok (.aload_n 0, 1) := by decide +kernel
theorem dX0_napsAt_6 : decode cX0_napsAt 6 = .ok (.getfield 19, 3) := by decide +kernel
theorem dX0_napsAt_9 : decode cX0_napsAt 9 = .ok (.iload_n 1, 1) := by decide +kernel
theorem dX0_napsAt_10 : decode cX0_napsAt 10 = .ok (.iaload, 1) := by decide +kernel
theorem dX0_napsAt_11 : decode cX0_napsAt 11 = .ok (.ireturn, 1) := by decide +kernel
set_option maxRecDepth 20000 in
theorem ggX0_minutesAlone_X0_checkNap : GoodIn wsX0_minutesAlone wsX0_checkNap := goodIn_ca (goodIn_r _ [5, 6, 7, 8, 20, 21, 22, 23, 24, 25, 26, 27, 28, 29, 30, 31, 32, 33, 34, 35, 36] (by decide +kernel) (by decide +kernel)) (goodIn_sub (fun _ h => List.mem_cons_of_mem _ (List.mem_append_right _ h)) (by decide +kernel))
set_option maxRecDepth 20000 in
theorem gX0_minutesAlone_X0_checkNap : GoodIn wsX0_minutesAlone (wsV RX0 67 RX0 yX0_checkNap wsX0_checkNap) := goodIn_app (goodIn_of _ (by decide +kernel)) ggX0_minutesAlone_X0_checkNap
set_option maxRecDepth 20000 in
theorem ggX0_minutesAlone_X0_countAlone : GoodIn wsX0_minutesAlone wsX0_countAlone := goodIn_r _ [12, 13, 14, 15, 16, 4, 17, 18, 19, 20, 21, 22, 23, 24, 25, 26, 27, 28, 29, 30, 31, 32, 33, 34, 35, 36] (by decide +kernel) (by decide +kernel)
set_option maxRecDepth 20000 in
theorem gX0_minutesAlone_X0_countAlone : GoodIn wsX0_minutesAlone (wsV RX0 134 RX0 yX0_countAlone wsX0_countAlone) := goodIn_app (goodIn_of _ (by decide +kernel)) ggX0_minutesAlone_X0_countAlone
theorem dX0_minutesAlone_0 : decode cX0_minutesAlone 0 = .ok (.aload_n 0, 1) := by decide +kernel
theorem dX0_minutesAlone_1 : decode cX0_minutesAlone 1 = .ok (.iload_n 1, 1) := by decide +kernel
theorem dX0_minutesAlone_2 : decode cX0_minutesAlone 2 = .ok (.invokevirtual 67, 3) := by decide +kernel
theorem dX0_minutesAlone_5 : decode cX0_minutesAlone 5 = .ok (.aload_n 0, 1) := by decide +kernel
theorem dX0_minutesAlone_6 : decode cX0_minutesAlone 6 = .ok (.iload_n 1, 1) := by decide +kernel
theorem dX0_minutesAlone_7 : decode cX0_minutesAlone 7 = .ok (.invokevirtual 134, 3) := by decide +kernel
theorem dX0_minutesAlone_10 : decode cX0_minutesAlone 10 = .ok (.ireturn, 1) := by decide +kernel
theorem dX0_bees_0 : decode cX0_bees 0 = .ok (.aload_n 0, 1) := by decide +kernel
theorem dX0_bees_1 : decode cX0_bees 1 = .ok (.getfield 73, 3) := by decide +kernel
theorem dX0_bees_4 : decode cX0_bees 4 = .ok (.ireturn, 1) := by decide +kernel
set_option maxRecDepth 20000 in
theorem ggX0_ticksOf_X0_checkBee : GoodIn wsX0_ticksOf wsX0_checkBee := goodIn_ca (goodIn_r _ [5, 6, 7, 8, 25, 26, 27, 28, 29, 30, 31, 32, 33, 34, 35, 36, 37, 38, 39, 40, 41] (by decide +kernel) (by decide +kernel)) (goodIn_sub (fun _ h => List.mem_cons_of_mem _ (List.mem_append_right _ h)) (by decide +kernel))
set_option maxRecDepth 20000 in
theorem gX0_ticksOf_X0_checkBee : GoodIn wsX0_ticksOf (wsV RX0 137 RX0 yX0_checkBee wsX0_checkBee) := goodIn_app (goodIn_of _ (by decide +kernel)) ggX0_ticksOf_X0_checkBee
set_option maxRecDepth 20000 in
theorem ggX0_ticksOf_X0_countTicks : GoodIn wsX0_ticksOf wsX0_countTicks := goodIn_r _ [12, 13, 14, 15, 16, 4, 17, 18, 19, 20, 21, 22, 23, 24, 25, 26, 27, 28, 29, 30, 31, 32, 33, 34, 35, 36, 37, 38, 39, 40, 41] (by decide +kernel) (by decide +kernel)
set_option maxRecDepth 20000 in
theorem gX0_ticksOf_X0_countTicks : GoodIn wsX0_ticksOf (wsV RX0 140 RX0 yX0_countTicks wsX0_countTicks) := goodIn_app (goodIn_of _ (by decide +kernel)) ggX0_ticksOf_X0_countTicks
theorem dX0_ticksOf_0 : decode cX0_ticksOf 0 = .ok (.aload_n 0, 1) := by decide +kernel
theorem dX0_ticksOf_1 : decode cX0_ticksOf 1 = .ok (.iload_n 1, 1) := by decide +kernel
theorem dX0_ticksOf_2 : decode cX0_ticksOf 2 = .ok (.invokevirtual 137, 3) := by decide +kernel
theorem dX0_ticksOf_5 : decode cX0_ticksOf 5 = .ok (.aload_n 0, 1) := by decide +kernel
theorem dX0_ticksOf_6 : decode cX0_ticksOf 6 = .ok (.iload_n 1, 1) := by decide +kernel
theorem dX0_ticksOf_7 : decode cX0_ticksOf 7 = .ok (.invokevirtual 140, 3) := by decide +kernel
theorem dX0_ticksOf_10 : decode cX0_ticksOf 10 = .ok (.ireturn, 1) := by decide +kernel
set_option maxRecDepth 20000 in
theorem ggX0_measuredBy_X0_checkBee : GoodIn wsX0_measuredBy wsX0_checkBee := goodIn_ca (goodIn_r _ [6, 7, 8, 9, 25, 26, 27, 28, 29, 30, 31, 32, 33, 34, 35, 36, 37, 38, 39, 40, 41] (by decide +kernel) (by decide +kernel)) (goodIn_sub (fun _ h => List.mem_cons_of_mem _ (List.mem_append_right _ h)) (by decide +kernel))
set_option maxRecDepth 20000 in
theorem gX0_measuredBy_X0_checkBee : GoodIn wsX0_measuredBy (wsV RX0 137 RX0 yX0_checkBee wsX0_checkBee) := goodIn_app (goodIn_of _ (by decide +kernel)) ggX0_measuredBy_X0_checkBee
set_option maxRecDepth 20000 in
theorem ggX0_measuredBy_X0_countTicks : GoodIn wsX0_measuredBy wsX0_countTicks := goodIn_r _ [13, 14, 15, 16, 17, 5, 18, 19, 20, 21, 22, 23, 1, 24, 25, 26, 27, 28, 29, 30, 31, 32, 33, 34, 35, 36, 37, 38, 39, 40, 41] (by decide +kernel) (by decide +kernel)
set_option maxRecDepth 20000 in
theorem gX0_measuredBy_X0_countTicks : GoodIn wsX0_measuredBy (wsV RX0 140 RX0 yX0_countTicks wsX0_countTicks) := goodIn_app (goodIn_of _ (by decide +kernel)) ggX0_measuredBy_X0_countTicks
theorem dX0_measuredBy_0 : decode cX0_measuredBy 0 = .ok (.aload_n 0, 1) := by decide +kernel
theorem dX0_measuredBy_1 : decode cX0_measuredBy 1 = .ok (.iload_n 1, 1) := by decide +kernel
theorem dX0_measuredBy_2 : decode cX0_measuredBy 2 = .ok (.invokevirtual 137, 3) := by decide +kernel
theorem dX0_measuredBy_5 : decode cX0_measuredBy 5 = .ok (.aload_n 0, 1) := by decide +kernel
theorem dX0_measuredBy_6 : decode cX0_measuredBy 6 = .ok (.iload_n 1, 1) := by decide +kernel
theorem dX0_measuredBy_7 : decode cX0_measuredBy 7 = .ok (.invokevirtual 140, 3) := by decide +kernel
theorem dX0_measuredBy_10 : decode cX0_measuredBy 10 = .ok (.aload_n 0, 1) := by decide +kernel
theorem dX0_measuredBy_11 : decode cX0_measuredBy 11 = .ok (.getfield 22, 3) := by decide +kernel
theorem dX0_measuredBy_14 : decode cX0_measuredBy 14 = .ok (.iload_n 1, 1) := by decide +kernel
theorem dX0_measuredBy_15 : decode cX0_measuredBy 15 = .ok (.iaload, 1) := by decide +kernel
theorem dX0_measuredBy_16 : decode cX0_measuredBy 16 = .ok (.imul, 1) := by decide +kernel
theorem dX0_measuredBy_17 : decode cX0_measuredBy 17 = .ok (.ireturn, 1) := by decide +kernel
set_option maxRecDepth 20000 in
theorem ggX0_errorOf_X0_measuredBy : GoodIn wsX0_errorOf wsX0_measuredBy := goodIn_ca (goodIn_r _ [5, 6, 7, 8, 9, 4, 10, 11, 12, 13, 14, 15, 16, 17, 18, 19, 20, 21, 22, 23, 24, 25, 26, 27, 28, 33, 34, 35, 36, 37, 38, 39, 40, 41, 42, 43, 44, 45, 46, 47, 48, 49] (by decide +kernel) (by decide +kernel)) (goodIn_sub (fun _ h => List.mem_cons_of_mem _ (List.mem_append_right _ h)) (by decide +kernel))
set_option maxRecDepth 20000 in
theorem gX0_errorOf_X0_measuredBy : GoodIn wsX0_errorOf (wsV RX0 143 RX0 yX0_measuredBy wsX0_measuredBy) := goodIn_app (goodIn_of _ (by decide +kernel)) ggX0_errorOf_X0_measuredBy
set_option maxRecDepth 20000 in
theorem ggX0_errorOf_X0_awakeMinutes : GoodIn wsX0_errorOf wsX0_awakeMinutes := goodIn_r _ [32, 18, 23, 33, 34, 35, 36, 37, 38, 39, 40, 41, 42, 43, 44, 45, 46, 47, 48, 49] (by decide +kernel) (by decide +kernel)
set_option maxRecDepth 20000 in
theorem gX0_errorOf_X0_awakeMinutes : GoodIn wsX0_errorOf (wsV RX0 115 RX0 yX0_awakeMinutes wsX0_awakeMinutes) := goodIn_app (goodIn_of _ (by decide +kernel)) ggX0_errorOf_X0_awakeMinutes
theorem dX0_errorOf_0 : decode cX0_errorOf 0 = .ok (.aload_n 0, 1) := by decide +kernel
theorem dX0_errorOf_1 : decode cX0_errorOf 1 = .ok (.iload_n 1, 1) := by decide +kernel
theorem dX0_errorOf_2 : decode cX0_errorOf 2 = .ok (.invokevirtual 143, 3) := by decide +kernel
theorem dX0_errorOf_5 : decode cX0_errorOf 5 = .ok (.aload_n 0, 1) := by decide +kernel
theorem dX0_errorOf_6 : decode cX0_errorOf 6 = .ok (.invokevirtual 115, 3) := by decide +kernel
theorem dX0_errorOf_9 : decode cX0_errorOf 9 = .ok (.isub, 1) := by decide +kernel
theorem dX0_errorOf_10 : decode cX0_errorOf 10 = .ok (.ireturn, 1) := by decide +kernel
set_option maxRecDepth 20000 in
theorem ggX0_bestBee_X0_errorOf : GoodIn wsX0_bestBee wsX0_errorOf := goodIn_ca (goodIn_r _ [10, 11, 12, 13, 9, 14, 15, 16, 17, 18, 19, 20, 21, 1, 22, 23, 24, 25, 26, 27, 28, 29, 30, 31, 32, 33, 34, 35, 36, 37, 38, 39, 40, 41, 42, 43, 44, 45, 46, 47, 48, 49, 50, 51, 52, 53, 54, 55, 56, 57] (by decide +kernel) (by decide +kernel)) (goodIn_sub (fun _ h => List.mem_cons_of_mem _ (List.mem_append_right _ h)) (by decide +kernel))
set_option maxRecDepth 20000 in
theorem gX0_bestBee_X0_errorOf : GoodIn wsX0_bestBee (wsV RX0 146 RX0 yX0_errorOf wsX0_errorOf) := goodIn_app (goodIn_of _ (by decide +kernel)) ggX0_bestBee_X0_errorOf
theorem dX0_bestBee_0 : decode cX0_bestBee 0 = .ok (.iconst (-1), 1) := by decide +kernel
theorem dX0_bestBee_1 : decode cX0_bestBee 1 = .ok (.istore_n 1, 1) := by decide +kernel
theorem dX0_bestBee_2 : decode cX0_bestBee 2 = .ok (.iconst 0, 1) := by decide +kernel
theorem dX0_bestBee_3 : decode cX0_bestBee 3 = .ok (.istore_n 2, 1) := by decide +kernel
theorem dX0_bestBee_4 : decode cX0_bestBee 4 = .ok (.iconst 0, 1) := by decide +kernel
theorem dX0_bestBee_5 : decode cX0_bestBee 5 = .ok (.istore_n 3, 1) := by decide +kernel
theorem dX0_bestBee_6 : decode cX0_bestBee 6 = .ok (.iload_n 3, 1) := by decide +kernel
theorem dX0_bestBee_7 : decode cX0_bestBee 7 = .ok (.aload_n 0, 1) := by decide +kernel
theorem dX0_bestBee_8 : decode cX0_bestBee 8 = .ok (.getfield 73, 3) := by decide +kernel
theorem dX0_bestBee_11 : decode cX0_bestBee 11 = .ok (.if_icmp .ge 35, 3) := by decide +kernel
theorem dX0_bestBee_14 : decode cX0_bestBee 14 = .ok (.aload_n 0, 1) := by decide +kernel
theorem dX0_bestBee_15 : decode cX0_bestBee 15 = .ok (.iload_n 3, 1) := by decide +kernel
theorem dX0_bestBee_16 : decode cX0_bestBee 16 = .ok (.invokevirtual 146, 3) := by decide +kernel
theorem dX0_bestBee_19 : decode cX0_bestBee 19 = .ok (.invokestatic 149, 3) := by decide +kernel
theorem dX0_bestBee_22 : decode cX0_bestBee 22 = .ok (.istore 4, 2) := by decide +kernel
theorem dX0_bestBee_24 : decode cX0_bestBee 24 = .ok (.iload_n 1, 1) := by decide +kernel
theorem dX0_bestBee_25 : decode cX0_bestBee 25 = .ok (.iconst (-1), 1) := by decide +kernel
theorem dX0_bestBee_26 : decode cX0_bestBee 26 = .ok (.if_icmp .eq 9, 3) := by decide +kernel
theorem dX0_bestBee_29 : decode cX0_bestBee 29 = .ok (.iload 4, 2) := by decide +kernel
theorem dX0_bestBee_31 : decode cX0_bestBee 31 = .ok (.iload_n 2, 1) := by decide +kernel
theorem dX0_bestBee_32 : decode cX0_bestBee 32 = .ok (.if_icmp .ge 8, 3) := by decide +kernel
theorem dX0_bestBee_35 : decode cX0_bestBee 35 = .ok (.iload_n 3, 1) := by decide +kernel
theorem dX0_bestBee_36 : decode cX0_bestBee 36 = .ok (.istore_n 1, 1) := by decide +kernel
theorem dX0_bestBee_37 : decode cX0_bestBee 37 = .ok (.iload 4, 2) := by decide +kernel
theorem dX0_bestBee_39 : decode cX0_bestBee 39 = .ok (.istore_n 2, 1) := by decide +kernel
theorem dX0_bestBee_40 : decode cX0_bestBee 40 = .ok (.iinc 3 1, 3) := by decide +kernel
theorem dX0_bestBee_43 : decode cX0_bestBee 43 = .ok (.goto (-37), 3) := by decide +kernel
theorem dX0_bestBee_46 : decode cX0_bestBee 46 = .ok (.iload_n 1, 1) := by decide +kernel
theorem dX0_bestBee_47 : decode cX0_bestBee 47 = .ok (.ireturn, 1) := by decide +kernel
set_option maxRecDepth 20000 in
theorem ggX0_nextTick_X0_checkBee : GoodIn wsX0_nextTick wsX0_checkBee := goodIn_ca (goodIn_r _ [6, 7, 8, 9, 21, 22, 23, 24, 25, 26, 27, 28, 29, 30, 31, 32, 33, 34, 35, 36, 37] (by decide +kernel) (by decide +kernel)) (goodIn_sub (fun _ h => List.mem_cons_of_mem _ (List.mem_append_right _ h)) (by decide +kernel))
set_option maxRecDepth 20000 in
theorem gX0_nextTick_X0_checkBee : GoodIn wsX0_nextTick (wsV RX0 137 RX0 yX0_checkBee wsX0_checkBee) := goodIn_app (goodIn_of _ (by decide +kernel)) ggX0_nextTick_X0_checkBee
set_option maxRecDepth 20000 in
theorem ggX0_nextTick_X0_ticksIn : GoodIn wsX0_nextTick wsX0_ticksIn := goodIn_r _ [13, 14, 15, 16, 17, 5, 18, 19, 20, 21, 22, 23, 24, 25, 26, 27, 28, 29, 30, 31, 32, 33, 34, 35, 36, 37] (by decide +kernel) (by decide +kernel)
set_option maxRecDepth 20000 in
theorem gX0_nextTick_X0_ticksIn : GoodIn wsX0_nextTick (wsV RX0 152 RX0 yX0_ticksIn wsX0_ticksIn) := goodIn_app (goodIn_of _ (by decide +kernel)) ggX0_nextTick_X0_ticksIn
theorem dX0_nextTick_0 : decode cX0_nextTick 0 = .ok (.aload_n 0, 1) := by decide +kernel
theorem dX0_nextTick_1 : decode cX0_nextTick 1 = .ok (.iload_n 1, 1) := by decide +kernel
theorem dX0_nextTick_2 : decode cX0_nextTick 2 = .ok (.invokevirtual 137, 3) := by decide +kernel
theorem dX0_nextTick_5 : decode cX0_nextTick 5 = .ok (.aload_n 0, 1) := by decide +kernel
theorem dX0_nextTick_6 : decode cX0_nextTick 6 = .ok (.getfield 97, 3) := by decide +kernel
theorem dX0_nextTick_9 : decode cX0_nextTick 9 = .ok (.istore_n 2, 1) := by decide +kernel
theorem dX0_nextTick_10 : decode cX0_nextTick 10 = .ok (.iload_n 2, 1) := by decide +kernel
theorem dX0_nextTick_11 : decode cX0_nextTick 11 = .ok (.sipush 360, 3) := by decide +kernel
theorem dX0_nextTick_14 : decode cX0_nextTick 14 = .ok (.if_icmp .ge 20, 3) := by decide +kernel
theorem dX0_nextTick_17 : decode cX0_nextTick 17 = .ok (.aload_n 0, 1) := by decide +kernel
theorem dX0_nextTick_18 : decode cX0_nextTick 18 = .ok (.iload_n 1, 1) := by decide +kernel
theorem dX0_nextTick_19 : decode cX0_nextTick 19 = .ok (.iload_n 2, 1) := by decide +kernel
theorem dX0_nextTick_20 : decode cX0_nextTick 20 = .ok (.invokevirtual 152, 3) := by decide +kernel
theorem dX0_nextTick_23 : decode cX0_nextTick 23 = .ok (.ifCond .eq 5, 3) := by decide +kernel
theorem dX0_nextTick_26 : decode cX0_nextTick 26 = .ok (.iload_n 2, 1) := by decide +kernel
theorem dX0_nextTick_27 : decode cX0_nextTick 27 = .ok (.ireturn, 1) := by decide +kernel
theorem dX0_nextTick_28 : decode cX0_nextTick 28 = .ok (.iinc 2 1, 3) := by decide +kernel
theorem dX0_nextTick_31 : decode cX0_nextTick 31 = .ok (.goto (-21), 3) := by decide +kernel
theorem dX0_nextTick_34 : decode cX0_nextTick 34 = .ok (.iconst (-1), 1) := by decide +kernel
theorem dX0_nextTick_35 : decode cX0_nextTick 35 = .ok (.ireturn, 1) := by decide +kernel
theorem dX0_tea_0 : decode cX0_tea 0 = .ok (.aload_n 0, 1) := by decide +kernel
theorem dX0_tea_1 : decode cX0_tea 1 = .ok (.getfield 88, 3) := by decide +kernel
theorem dX0_tea_4 : decode cX0_tea 4 = .ok (.ireturn, 1) := by decide +kernel
theorem dX0_spilt_0 : decode cX0_spilt 0 = .ok (.aload_n 0, 1) := by decide +kernel
theorem dX0_spilt_1 : decode cX0_spilt 1 = .ok (.getfield 106, 3) := by decide +kernel
theorem dX0_spilt_4 : decode cX0_spilt 4 = .ok (.ireturn, 1) := by decide +kernel
set_option maxRecDepth 20000 in
theorem ggX0_spiltAtEnd_X0_contentAfter : GoodIn wsX0_spiltAtEnd wsX0_contentAfter := goodIn_r _ [9, 10, 11, 12, 13, 14, 15, 16, 22, 23, 24, 25, 26, 27, 28, 29, 30, 31, 32, 33, 34, 35, 36, 37, 38] (by decide +kernel) (by decide +kernel)
set_option maxRecDepth 20000 in
theorem gX0_spiltAtEnd_X0_contentAfter : GoodIn wsX0_spiltAtEnd (wsV RX0 102 RX0 yX0_contentAfter wsX0_contentAfter) := goodIn_app (goodIn_of _ (by decide +kernel)) ggX0_spiltAtEnd_X0_contentAfter
set_option maxRecDepth 20000 in
theorem ggX0_spiltAtEnd_X0_excess : GoodIn wsX0_spiltAtEnd wsX0_excess := goodIn_r _ [20, 21, 13, 14, 15, 16, 22, 23, 24, 25, 26, 27, 28, 29, 30, 31, 32, 33, 34, 35, 36, 37, 38] (by decide +kernel) (by decide +kernel)
set_option maxRecDepth 20000 in
theorem gX0_spiltAtEnd_X0_excess : GoodIn wsX0_spiltAtEnd (wsV RX0 155 RX0 yX0_excess wsX0_excess) := goodIn_app (goodIn_of _ (by decide +kernel)) ggX0_spiltAtEnd_X0_excess
theorem dX0_spiltAtEnd_0 : decode cX0_spiltAtEnd 0 = .ok (.aload_n 0, 1) := by decide +kernel
theorem dX0_spiltAtEnd_1 : decode cX0_spiltAtEnd 1 = .ok (.getfield 106, 3) := by decide +kernel
theorem dX0_spiltAtEnd_4 : decode cX0_spiltAtEnd 4 = .ok (.istore_n 1, 1) := by decide +kernel
theorem dX0_spiltAtEnd_5 : decode cX0_spiltAtEnd 5 = .ok (.aload_n 0, 1) := by decide +kernel
theorem dX0_spiltAtEnd_6 : decode cX0_spiltAtEnd 6 = .ok (.getfield 88, 3) := by decide +kernel
theorem dX0_spiltAtEnd_9 : decode cX0_spiltAtEnd 9 = .ok (.istore_n 2, 1) := by decide +kernel
theorem dX0_spiltAtEnd_10 : decode cX0_spiltAtEnd 10 = .ok (.aload_n 0, 1) := by decide +kernel
theorem dX0_spiltAtEnd_11 : decode cX0_spiltAtEnd 11 = .ok (.getfield 97, 3) := by decide +kernel
theorem dX0_spiltAtEnd_14 : decode cX0_spiltAtEnd 14 = .ok (.istore_n 3, 1) := by decide +kernel
theorem dX0_spiltAtEnd_15 : decode cX0_spiltAtEnd 15 = .ok (.iload_n 3, 1) := by decide +kernel
theorem dX0_spiltAtEnd_16 : decode cX0_spiltAtEnd 16 = .ok (.sipush 360, 3) := by decide +kernel
theorem dX0_spiltAtEnd_19 : decode cX0_spiltAtEnd 19 = .ok (.if_icmp .ge 37, 3) := by decide +kernel
theorem dX0_spiltAtEnd_22 : decode cX0_spiltAtEnd 22 = .ok (.aload_n 0, 1) := by decide +kernel
theorem dX0_spiltAtEnd_23 : decode cX0_spiltAtEnd 23 = .ok (.iload_n 3, 1) := by decide +kernel
theorem dX0_spiltAtEnd_24 : decode cX0_spiltAtEnd 24 = .ok (.iload_n 2, 1) := by decide +kernel
theorem dX0_spiltAtEnd_25 : decode cX0_spiltAtEnd 25 = .ok (.aload_n 0, 1) := by decide +kernel
theorem dX0_spiltAtEnd_26 : decode cX0_spiltAtEnd 26 = .ok (.getfield 35, 3) := by decide +kernel
theorem dX0_spiltAtEnd_29 : decode cX0_spiltAtEnd 29 = .ok (.invokevirtual 102, 3) := by decide +kernel
theorem dX0_spiltAtEnd_32 : decode cX0_spiltAtEnd 32 = .ok (.istore_n 2, 1) := by decide +kernel
theorem dX0_spiltAtEnd_33 : decode cX0_spiltAtEnd 33 = .ok (.aload_n 0, 1) := by decide +kernel
theorem dX0_spiltAtEnd_34 : decode cX0_spiltAtEnd 34 = .ok (.iload_n 2, 1) := by decide +kernel
theorem dX0_spiltAtEnd_35 : decode cX0_spiltAtEnd 35 = .ok (.invokevirtual 155, 3) := by decide +kernel
theorem dX0_spiltAtEnd_38 : decode cX0_spiltAtEnd 38 = .ok (.istore 4, 2) := by decide +kernel
theorem dX0_spiltAtEnd_40 : decode cX0_spiltAtEnd 40 = .ok (.iload_n 1, 1) := by decide +kernel
theorem dX0_spiltAtEnd_41 : decode cX0_spiltAtEnd 41 = .ok (.iload 4, 2) := by decide +kernel
theorem dX0_spiltAtEnd_43 : decode cX0_spiltAtEnd 43 = .ok (.iadd, 1) := by decide +kernel
theorem dX0_spiltAtEnd_44 : decode cX0_spiltAtEnd 44 = .ok (.istore_n 1, 1) := by decide +kernel
theorem dX0_spiltAtEnd_45 : decode cX0_spiltAtEnd 45 = .ok (.iload_n 2, 1) := by decide +kernel
theorem dX0_spiltAtEnd_46 : decode cX0_spiltAtEnd 46 = .ok (.iload 4, 2) := by decide +kernel
theorem dX0_spiltAtEnd_48 : decode cX0_spiltAtEnd 48 = .ok (.isub, 1) := by decide +kernel
theorem dX0_spiltAtEnd_49 : decode cX0_spiltAtEnd 49 = .ok (.istore_n 2, 1) := by decide +kernel
theorem dX0_spiltAtEnd_50 : decode cX0_spiltAtEnd 50 = .ok (.iinc 3 1, 3) := by decide +kernel
theorem dX0_spiltAtEnd_53 : decode cX0_spiltAtEnd 53 = .ok (.goto (-38), 3) := by decide +kernel
theorem dX0_spiltAtEnd_56 : decode cX0_spiltAtEnd 56 = .ok (.iload_n 1, 1) := by decide +kernel
theorem dX0_spiltAtEnd_57 : decode cX0_spiltAtEnd 57 = .ok (.ireturn, 1) := by decide +kernel
set_option maxRecDepth 20000 in
theorem ggX0_minuteOfSpill_X0_firstSpillWith : GoodIn wsX0_minuteOfSpill wsX0_firstSpillWith := goodIn_r _ [6, 7, 8, 9, 10, 11, 5, 12, 13, 14, 15, 16, 17, 18, 19, 20, 21, 22, 23, 24, 25, 26, 27, 28, 29, 30, 31, 32, 33, 34, 35, 36, 37, 38, 39, 40, 41] (by decide +kernel) (by decide +kernel)
set_option maxRecDepth 20000 in
theorem gX0_minuteOfSpill_X0_firstSpillWith : GoodIn wsX0_minuteOfSpill (wsV RX0 158 RX0 yX0_firstSpillWith wsX0_firstSpillWith) := goodIn_app (goodIn_of _ (by decide +kernel)) ggX0_minuteOfSpill_X0_firstSpillWith
theorem dX0_minuteOfSpill_0 : decode cX0_minuteOfSpill 0 = .ok (.aload_n 0, 1) := by decide +kernel
theorem dX0_minuteOfSpill_1 : decode cX0_minuteOfSpill 1 = .ok (.aload_n 0, 1) := by decide +kernel
theorem dX0_minuteOfSpill_2 : decode cX0_minuteOfSpill 2 = .ok (.getfield 35, 3) := by decide +kernel
theorem dX0_minuteOfSpill_5 : decode cX0_minuteOfSpill 5 = .ok (.invokevirtual 158, 3) := by decide +kernel
theorem dX0_minuteOfSpill_8 : decode cX0_minuteOfSpill 8 = .ok (.ireturn, 1) := by decide +kernel
set_option maxRecDepth 20000 in
theorem ggX0_safeRate_X0_firstSpillWith : GoodIn wsX0_safeRate wsX0_firstSpillWith := goodIn_r _ [5, 6, 7, 8, 9, 10, 4, 11, 12, 13, 14, 15, 16, 17, 18, 19, 20, 21, 22, 23, 24, 25, 26, 27, 28, 29, 30, 31, 32, 33, 34, 35, 36, 37, 38, 39, 40] (by decide +kernel) (by decide +kernel)
set_option maxRecDepth 20000 in
theorem gX0_safeRate_X0_firstSpillWith : GoodIn wsX0_safeRate (wsV RX0 158 RX0 yX0_firstSpillWith wsX0_firstSpillWith) := goodIn_app (goodIn_of _ (by decide +kernel)) ggX0_safeRate_X0_firstSpillWith
theorem dX0_safeRate_0 : decode cX0_safeRate 0 = .ok (.bipush 9, 2) := by decide +kernel
theorem dX0_safeRate_2 : decode cX0_safeRate 2 = .ok (.istore_n 1, 1) := by decide +kernel
theorem dX0_safeRate_3 : decode cX0_safeRate 3 = .ok (.iload_n 1, 1) := by decide +kernel
theorem dX0_safeRate_4 : decode cX0_safeRate 4 = .ok (.ifCond .le 18, 3) := by decide +kernel
theorem dX0_safeRate_7 : decode cX0_safeRate 7 = .ok (.aload_n 0, 1) := by decide +kernel
theorem dX0_safeRate_8 : decode cX0_safeRate 8 = .ok (.iload_n 1, 1) := by decide +kernel
theorem dX0_safeRate_9 : decode cX0_safeRate 9 = .ok (.invokevirtual 158, 3) := by decide +kernel
theorem dX0_safeRate_12 : decode cX0_safeRate 12 = .ok (.iconst (-1), 1) := by decide +kernel
theorem dX0_safeRate_13 : decode cX0_safeRate 13 = .ok (.if_icmp .eq 9, 3) := by decide +kernel
theorem dX0_safeRate_16 : decode cX0_safeRate 16 = .ok (.iinc 1 (-1), 3) := by decide +kernel
theorem dX0_safeRate_19 : decode cX0_safeRate 19 = .ok (.goto (-16), 3) := by decide +kernel
theorem dX0_safeRate_22 : decode cX0_safeRate 22 = .ok (.iload_n 1, 1) := by decide +kernel
theorem dX0_safeRate_23 : decode cX0_safeRate 23 = .ok (.ireturn, 1) := by decide +kernel
set_option maxRecDepth 20000 in
theorem ggX0_bestToGiveUp_X0_countAlone : GoodIn wsX0_bestToGiveUp wsX0_countAlone := goodIn_r _ [6, 7, 8, 9, 10, 5, 11, 12, 13, 14, 15, 16, 17, 18, 19, 20, 21, 22, 23, 24, 25, 26, 27, 28, 29, 30] (by decide +kernel) (by decide +kernel)
set_option maxRecDepth 20000 in
theorem gX0_bestToGiveUp_X0_countAlone : GoodIn wsX0_bestToGiveUp (wsV RX0 134 RX0 yX0_countAlone wsX0_countAlone) := goodIn_app (goodIn_of _ (by decide +kernel)) ggX0_bestToGiveUp_X0_countAlone
theorem dX0_bestToGiveUp_0 : decode cX0_bestToGiveUp 0 = .ok (.iconst (-1), 1) := by decide +kernel
theorem dX0_bestToGiveUp_1 : decode cX0_bestToGiveUp 1 = .ok (.istore_n 1, 1) := by decide +kernel
theorem dX0_bestToGiveUp_2 : decode cX0_bestToGiveUp 2 = .ok (.iconst 0, 1) := by decide +kernel
theorem dX0_bestToGiveUp_3 : decode cX0_bestToGiveUp 3 = .ok (.istore_n 2, 1) := by decide +kernel
theorem dX0_bestToGiveUp_4 : decode cX0_bestToGiveUp 4 = .ok (.iconst 0, 1) := by decide +kernel
theorem dX0_bestToGiveUp_5 : decode cX0_bestToGiveUp 5 = .ok (.istore_n 3, 1) := by decide +kernel
theorem dX0_bestToGiveUp_6 : decode cX0_bestToGiveUp 6 = .ok (.iload_n 3, 1) := by decide +kernel
theorem dX0_bestToGiveUp_7 : decode cX0_bestToGiveUp 7 = .ok (.aload_n 0, 1) := by decide +kernel
theorem dX0_bestToGiveUp_8 : decode cX0_bestToGiveUp 8 = .ok (.getfield 58, 3) := by decide +kernel
theorem dX0_bestToGiveUp_11 : decode cX0_bestToGiveUp 11 = .ok (.if_icmp .ge 32, 3) := by decide +kernel
theorem dX0_bestToGiveUp_14 : decode cX0_bestToGiveUp 14 = .ok (.aload_n 0, 1) := by decide +kernel
theorem dX0_bestToGiveUp_15 : decode cX0_bestToGiveUp 15 = .ok (.iload_n 3, 1) := by decide +kernel
theorem dX0_bestToGiveUp_16 : decode cX0_bestToGiveUp 16 = .ok (.invokevirtual 134, 3) := by decide +kernel
theorem dX0_bestToGiveUp_19 : decode cX0_bestToGiveUp 19 = .ok (.istore 4, 2) := by decide +kernel
theorem dX0_bestToGiveUp_21 : decode cX0_bestToGiveUp 21 = .ok (.iload_n 1, 1) := by decide +kernel
theorem dX0_bestToGiveUp_22 : decode cX0_bestToGiveUp 22 = .ok (.iconst (-1), 1) := by decide +kernel
theorem dX0_bestToGiveUp_23 : decode cX0_bestToGiveUp 23 = .ok (.if_icmp .eq 9, 3) := by decide +kernel
theorem dX0_bestToGiveUp_26 : decode cX0_bestToGiveUp 26 = .ok (.iload 4, 2) := by decide +kernel
theorem dX0_bestToGiveUp_28 : decode cX0_bestToGiveUp 28 = .ok (.iload_n 2, 1) := by decide +kernel
theorem dX0_bestToGiveUp_29 : decode cX0_bestToGiveUp 29 = .ok (.if_icmp .le 8, 3) := by decide +kernel
theorem dX0_bestToGiveUp_32 : decode cX0_bestToGiveUp 32 = .ok (.iload_n 3, 1) := by decide +kernel
theorem dX0_bestToGiveUp_33 : decode cX0_bestToGiveUp 33 = .ok (.istore_n 1, 1) := by decide +kernel
theorem dX0_bestToGiveUp_34 : decode cX0_bestToGiveUp 34 = .ok (.iload 4, 2) := by decide +kernel
theorem dX0_bestToGiveUp_36 : decode cX0_bestToGiveUp 36 = .ok (.istore_n 2, 1) := by decide +kernel
theorem dX0_bestToGiveUp_37 : decode cX0_bestToGiveUp 37 = .ok (.iinc 3 1, 3) := by decide +kernel
theorem dX0_bestToGiveUp_40 : decode cX0_bestToGiveUp 40 = .ok (.goto (-34), 3) := by decide +kernel
theorem dX0_bestToGiveUp_43 : decode cX0_bestToGiveUp 43 = .ok (.iload_n 1, 1) := by decide +kernel
theorem dX0_bestToGiveUp_44 : decode cX0_bestToGiveUp 44 = .ok (.ireturn, 1) := by decide +kernel
set_option maxRecDepth 20000 in
theorem ggX0_meanLastShadow_X0_sumOfShadows : GoodIn wsX0_meanLastShadow wsX0_sumOfShadows := goodIn_r _ [6, 1, 7, 8, 9, 5, 10, 11, 12, 13, 14, 15, 16, 17, 18, 19, 20, 21, 22, 23, 24, 25, 26, 27, 28] (by decide +kernel) (by decide +kernel)
set_option maxRecDepth 20000 in
theorem gX0_meanLastShadow_X0_sumOfShadows : GoodIn wsX0_meanLastShadow (wsV RX0 131 RX0 yX0_sumOfShadows wsX0_sumOfShadows) := goodIn_app (goodIn_of _ (by decide +kernel)) ggX0_meanLastShadow_X0_sumOfShadows
theorem dX0_meanLastShadow_0 : decode cX0_meanLastShadow 0 = .ok (.aload_n 0, 1) := by decide +kernel
theorem dX0_meanLastShadow_1 : decode cX0_meanLastShadow 1 = .ok (.getfield 48, 3) := by decide +kernel
theorem dX0_meanLastShadow_4 : decode cX0_meanLastShadow 4 = .ok (.ifCond .ne 5, 3) := by decide +kernel
theorem dX0_meanLastShadow_7 : decode cX0_meanLastShadow 7 = .ok (.dconst 0, 1) := by decide +kernel
theorem dX0_meanLastShadow_8 : decode cX0_meanLastShadow 8 = .ok (.dreturn, 1) := by decide +kernel
theorem dX0_meanLastShadow_9 : decode cX0_meanLastShadow 9 = .ok (.aload_n 0, 1) := by decide +kernel
theorem dX0_meanLastShadow_10 : decode cX0_meanLastShadow 10 = .ok (.sipush 359, 3) := by decide +kernel
theorem dX0_meanLastShadow_13 : decode cX0_meanLastShadow 13 = .ok (.invokevirtual 131, 3) := by decide +kernel
theorem dX0_meanLastShadow_16 : decode cX0_meanLastShadow 16 = .ok (.i2d, 1) := by decide +kernel
theorem dX0_meanLastShadow_17 : decode cX0_meanLastShadow 17 = .ok (.aload_n 0, 1) := by decide +kernel
theorem dX0_meanLastShadow_18 : decode cX0_meanLastShadow 18 = .ok (.getfield 48, 3) := by decide +kernel
theorem dX0_meanLastShadow_21 : decode cX0_meanLastShadow 21 = .ok (.i2d, 1) := by decide +kernel
theorem dX0_meanLastShadow_22 : decode cX0_meanLastShadow 22 = .ok (.ddiv, 1) := by decide +kernel
theorem dX0_meanLastShadow_23 : decode cX0_meanLastShadow 23 = .ok (.dreturn, 1) := by decide +kernel
set_option maxRecDepth 20000 in
theorem ggX0_digest_X0_awakeMinutes : GoodIn wsX0_digest wsX0_awakeMinutes := goodIn_r _ [14, 4, 15, 118, 119, 120, 121, 122, 123, 124, 125, 126, 127, 128, 129, 130, 131, 132, 133, 134] (by decide +kernel) (by decide +kernel)
set_option maxRecDepth 20000 in
theorem gX0_digest_X0_awakeMinutes : GoodIn wsX0_digest (wsV RX0 115 RX0 yX0_awakeMinutes wsX0_awakeMinutes) := goodIn_app (goodIn_of _ (by decide +kernel)) ggX0_digest_X0_awakeMinutes
set_option maxRecDepth 20000 in
theorem ggX0_digest_X0_longestAwake : GoodIn wsX0_digest wsX0_longestAwake := goodIn_r _ [19, 15, 20, 21, 22, 23, 118, 119, 120, 121, 122, 123, 124, 125, 126, 127, 128, 129, 130, 131, 132, 133, 134] (by decide +kernel) (by decide +kernel)
set_option maxRecDepth 20000 in
theorem gX0_digest_X0_longestAwake : GoodIn wsX0_digest (wsV RX0 165 RX0 yX0_longestAwake wsX0_longestAwake) := goodIn_app (goodIn_of _ (by decide +kernel)) ggX0_digest_X0_longestAwake
set_option maxRecDepth 20000 in
theorem ggX0_digest_X0_spiltAtEnd : GoodIn wsX0_digest wsX0_spiltAtEnd := goodIn_r _ [27, 9, 8, 4, 28, 29, 30, 31, 13, 32, 15, 33, 34, 20, 21, 22, 23, 35, 36, 37, 38, 39, 118, 119, 120, 121, 122, 123, 124, 125, 126, 127, 128, 129, 130, 131, 132, 133, 134] (by decide +kernel) (by decide +kernel)
set_option maxRecDepth 20000 in
theorem gX0_digest_X0_spiltAtEnd : GoodIn wsX0_digest (wsV RX0 168 RX0 yX0_spiltAtEnd wsX0_spiltAtEnd) := goodIn_app (goodIn_of _ (by decide +kernel)) ggX0_digest_X0_spiltAtEnd
set_option maxRecDepth 20000 in
theorem ggX0_digest_X0_safeRate : GoodIn wsX0_digest wsX0_safeRate := goodIn_r _ [43, 44, 45, 46, 13, 47, 8, 4, 29, 30, 31, 32, 15, 33, 34, 20, 21, 22, 23, 35, 36, 37, 38, 39, 118, 119, 120, 121, 122, 123, 124, 125, 126, 127, 128, 129, 130, 131, 132, 133, 134] (by decide +kernel) (by decide +kernel)
set_option maxRecDepth 20000 in
theorem gX0_digest_X0_safeRate : GoodIn wsX0_digest (wsV RX0 171 RX0 yX0_safeRate wsX0_safeRate) := goodIn_app (goodIn_of _ (by decide +kernel)) ggX0_digest_X0_safeRate
set_option maxRecDepth 20000 in
theorem ggX0_digest_X0_bestToGiveUp : GoodIn wsX0_digest wsX0_bestToGiveUp := goodIn_r _ [51, 6, 52, 53, 54, 13, 55, 15, 56, 57, 58, 59, 60, 61, 118, 119, 120, 121, 122, 123, 124, 125, 126, 127, 128, 129, 130, 131, 132, 133, 134] (by decide +kernel) (by decide +kernel)
set_option maxRecDepth 20000 in
theorem gX0_digest_X0_bestToGiveUp : GoodIn wsX0_digest (wsV RX0 174 RX0 yX0_bestToGiveUp wsX0_bestToGiveUp) := goodIn_app (goodIn_of _ (by decide +kernel)) ggX0_digest_X0_bestToGiveUp
set_option maxRecDepth 20000 in
theorem ggX0_digest_X0_bestBee : GoodIn wsX0_digest wsX0_bestBee := goodIn_ca (goodIn_r _ [65, 7, 66, 67, 22, 68, 69, 70, 71, 13, 72, 73, 74, 75, 76, 77, 78, 79, 80, 81, 82, 83, 84, 85, 86, 87, 4, 88, 89, 90, 91, 15, 92, 93, 94, 95, 96, 10, 11, 12, 14, 118, 119, 120, 121, 122, 123, 124, 125, 126, 127, 128, 129, 130, 131, 132, 133, 134] (by decide +kernel) (by decide +kernel)) (goodIn_sub (fun _ h => List.mem_cons_of_mem _ (List.mem_append_right _ h)) (by decide +kernel))
set_option maxRecDepth 20000 in
theorem gX0_digest_X0_bestBee : GoodIn wsX0_digest (wsV RX0 177 RX0 yX0_bestBee wsX0_bestBee) := goodIn_app (goodIn_of _ (by decide +kernel)) ggX0_digest_X0_bestBee
set_option maxRecDepth 20000 in
theorem ggX0_digest_X0_withSticks : GoodIn wsX0_digest wsX0_withSticks := goodIn_r _ [100, 5, 2, 101, 102, 103, 13, 104, 105, 118, 119, 120, 121, 122, 123, 124, 125, 126, 127, 128, 129, 130, 131, 132, 133, 134] (by decide +kernel) (by decide +kernel)
set_option maxRecDepth 20000 in
theorem gX0_digest_X0_withSticks : GoodIn wsX0_digest (wsV RX0 180 RX0 yX0_withSticks wsX0_withSticks) := goodIn_app (goodIn_of _ (by decide +kernel)) ggX0_digest_X0_withSticks
set_option maxRecDepth 20000 in
theorem ggX0_digest_X0_withNaps : GoodIn wsX0_digest wsX0_withNaps := goodIn_r _ [109, 6, 2, 60, 61, 52, 53, 54, 13, 55, 15, 56, 57, 58, 59, 118, 119, 120, 121, 122, 123, 124, 125, 126, 127, 128, 129, 130, 131, 132, 133, 134] (by decide +kernel) (by decide +kernel)
set_option maxRecDepth 20000 in
theorem gX0_digest_X0_withNaps : GoodIn wsX0_digest (wsV RX0 184 RX0 yX0_withNaps wsX0_withNaps) := goodIn_app (goodIn_of _ (by decide +kernel)) ggX0_digest_X0_withNaps
set_option maxRecDepth 20000 in
theorem ggX0_digest_X0_withBees : GoodIn wsX0_digest wsX0_withBees := goodIn_ca (goodIn_r _ [113, 7, 2, 84, 85, 86, 13, 87, 4, 88, 89, 90, 91, 15, 92, 93, 94, 95, 77, 96, 73, 74, 75, 76, 78, 79, 80, 81, 82, 83, 114, 115, 116, 117, 118, 119, 120, 121, 122, 123, 124, 125, 126, 127, 128, 129, 130, 131, 132, 133, 134] (by decide +kernel) (by decide +kernel)) (goodIn_sub (fun _ h => List.mem_cons_of_mem _ (List.mem_append_right _ h)) (by decide +kernel))
set_option maxRecDepth 20000 in
theorem gX0_digest_X0_withBees : GoodIn wsX0_digest (wsV RX0 187 RX0 yX0_withBees wsX0_withBees) := goodIn_app (goodIn_of _ (by decide +kernel)) ggX0_digest_X0_withBees
theorem dX0_digest_0 : decode cX0_digest 0 = .ok (.ldc2_w 161, 3) := by decide +kernel
theorem dX0_digest_3 : decode cX0_digest 3 = .ok (.lstore_n 1, 1) := by decide +kernel
theorem dX0_digest_4 : decode cX0_digest 4 = .ok (.lload_n 1, 1) := by decide +kernel
theorem dX0_digest_5 : decode cX0_digest 5 = .ok (.ldc2_w 163, 3) := by decide +kernel
theorem dX0_digest_8 : decode cX0_digest 8 = .ok (.lmul, 1) := by decide +kernel
theorem dX0_digest_9 : decode cX0_digest 9 = .ok (.aload_n 0, 1) := by decide +kernel
theorem dX0_digest_10 : decode cX0_digest 10 = .ok (.getfield 109, 3) := by decide +kernel
theorem dX0_digest_13 : decode cX0_digest 13 = .ok (.i2l, 1) := by decide +kernel
theorem dX0_digest_14 : decode cX0_digest 14 = .ok (.ladd, 1) := by decide +kernel
theorem dX0_digest_15 : decode cX0_digest 15 = .ok (.lstore_n 1, 1) := by decide +kernel
theorem dX0_digest_16 : decode cX0_digest 16 = .ok (.lload_n 1, 1) := by decide +kernel
theorem dX0_digest_17 : decode cX0_digest 17 = .ok (.ldc2_w 163, 3) := by decide +kernel
theorem dX0_digest_20 : decode cX0_digest 20 = .ok (.lmul, 1) := by decide +kernel
theorem dX0_digest_21 : decode cX0_digest 21 = .ok (.aload_n 0, 1) := by decide +kernel
theorem dX0_digest_22 : decode cX0_digest 22 = .ok (.getfield 97, 3) := by decide +kernel
theorem dX0_digest_25 : decode cX0_digest 25 = .ok (.i2l, 1) := by decide +kernel
theorem dX0_digest_26 : decode cX0_digest 26 = .ok (.ladd, 1) := by decide +kernel
theorem dX0_digest_27 : decode cX0_digest 27 = .ok (.lstore_n 1, 1) := by decide +kernel
theorem dX0_digest_28 : decode cX0_digest 28 = .ok (.lload_n 1, 1) := by decide +kernel
theorem dX0_digest_29 : decode cX0_digest 29 = .ok (.ldc2_w 163, 3) := by decide +kernel
theorem dX0_digest_32 : decode cX0_digest 32 = .ok (.lmul, 1) := by decide +kernel
theorem dX0_digest_33 : decode cX0_digest 33 = .ok (.aload_n 0, 1) := by decide +kernel
theorem dX0_digest_34 : decode cX0_digest 34 = .ok (.invokevirtual 115, 3) := by decide +kernel
theorem dX0_digest_37 : decode cX0_digest 37 = .ok (.i2l, 1) := by decide +kernel
theorem dX0_digest_38 : decode cX0_digest 38 = .ok (.ladd, 1) := by decide +kernel
theorem dX0_digest_39 : decode cX0_digest 39 = .ok (.lstore_n 1, 1) := by decide +kernel
theorem dX0_digest_40 : decode cX0_digest 40 = .ok (.lload_n 1, 1) := by decide +kernel
theorem dX0_digest_41 : decode cX0_digest 41 = .ok (.ldc2_w 163, 3) := by decide +kernel
theorem dX0_digest_44 : decode cX0_digest 44 = .ok (.lmul, 1) := by decide +kernel
theorem dX0_digest_45 : decode cX0_digest 45 = .ok (.aload_n 0, 1) := by decide +kernel
theorem dX0_digest_46 : decode cX0_digest 46 = .ok (.invokevirtual 165, 3) := by decide +kernel
theorem dX0_digest_49 : decode cX0_digest 49 = .ok (.i2l, 1) := by decide +kernel
theorem dX0_digest_50 : decode cX0_digest 50 = .ok (.ladd, 1) := by decide +kernel
theorem dX0_digest_51 : decode cX0_digest 51 = .ok (.lstore_n 1, 1) := by decide +kernel
theorem dX0_digest_52 : decode cX0_digest 52 = .ok (.lload_n 1, 1) := by decide +kernel
theorem dX0_digest_53 : decode cX0_digest 53 = .ok (.ldc2_w 163, 3) := by decide +kernel
theorem dX0_digest_56 : decode cX0_digest 56 = .ok (.lmul, 1) := by decide +kernel
theorem dX0_digest_57 : decode cX0_digest 57 = .ok (.aload_n 0, 1) := by decide +kernel
theorem dX0_digest_58 : decode cX0_digest 58 = .ok (.getfield 48, 3) := by decide +kernel
theorem dX0_digest_61 : decode cX0_digest 61 = .ok (.i2l, 1) := by decide +kernel
theorem dX0_digest_62 : decode cX0_digest 62 = .ok (.ladd, 1) := by decide +kernel
theorem dX0_digest_63 : decode cX0_digest 63 = .ok (.lstore_n 1, 1) := by decide +kernel
theorem dX0_digest_64 : decode cX0_digest 64 = .ok (.lload_n 1, 1) := by decide +kernel
theorem dX0_digest_65 : decode cX0_digest 65 = .ok (.ldc2_w 163, 3) := by decide +kernel
theorem dX0_digest_68 : decode cX0_digest 68 = .ok (.lmul, 1) := by decide +kernel
theorem dX0_digest_69 : decode cX0_digest 69 = .ok (.aload_n 0, 1) := by decide +kernel
theorem dX0_digest_70 : decode cX0_digest 70 = .ok (.getfield 58, 3) := by decide +kernel
theorem dX0_digest_73 : decode cX0_digest 73 = .ok (.i2l, 1) := by decide +kernel
theorem dX0_digest_74 : decode cX0_digest 74 = .ok (.ladd, 1) := by decide +kernel
theorem dX0_digest_75 : decode cX0_digest 75 = .ok (.lstore_n 1, 1) := by decide +kernel
theorem dX0_digest_76 : decode cX0_digest 76 = .ok (.lload_n 1, 1) := by decide +kernel
theorem dX0_digest_77 : decode cX0_digest 77 = .ok (.ldc2_w 163, 3) := by decide +kernel
theorem dX0_digest_80 : decode cX0_digest 80 = .ok (.lmul, 1) := by decide +kernel
theorem dX0_digest_81 : decode cX0_digest 81 = .ok (.aload_n 0, 1) := by decide +kernel
theorem dX0_digest_82 : decode cX0_digest 82 = .ok (.getfield 73, 3) := by decide +kernel
theorem dX0_digest_85 : decode cX0_digest 85 = .ok (.i2l, 1) := by decide +kernel
theorem dX0_digest_86 : decode cX0_digest 86 = .ok (.ladd, 1) := by decide +kernel
theorem dX0_digest_87 : decode cX0_digest 87 = .ok (.lstore_n 1, 1) := by decide +kernel
theorem dX0_digest_88 : decode cX0_digest 88 = .ok (.lload_n 1, 1) := by decide +kernel
theorem dX0_digest_89 : decode cX0_digest 89 = .ok (.ldc2_w 163, 3) := by decide +kernel
theorem dX0_digest_92 : decode cX0_digest 92 = .ok (.lmul, 1) := by decide +kernel
theorem dX0_digest_93 : decode cX0_digest 93 = .ok (.aload_n 0, 1) := by decide +kernel
theorem dX0_digest_94 : decode cX0_digest 94 = .ok (.getfield 88, 3) := by decide +kernel
theorem dX0_digest_97 : decode cX0_digest 97 = .ok (.i2l, 1) := by decide +kernel
theorem dX0_digest_98 : decode cX0_digest 98 = .ok (.ladd, 1) := by decide +kernel
theorem dX0_digest_99 : decode cX0_digest 99 = .ok (.lstore_n 1, 1) := by decide +kernel
theorem dX0_digest_100 : decode cX0_digest 100 = .ok (.lload_n 1, 1) := by decide +kernel
theorem dX0_digest_101 : decode cX0_digest 101 = .ok (.ldc2_w 163, 3) := by decide +kernel
theorem dX0_digest_104 : decode cX0_digest 104 = .ok (.lmul, 1) := by decide +kernel
theorem dX0_digest_105 : decode cX0_digest 105 = .ok (.aload_n 0, 1) := by decide +kernel
theorem dX0_digest_106 : decode cX0_digest 106 = .ok (.getfield 106, 3) := by decide +kernel
theorem dX0_digest_109 : decode cX0_digest 109 = .ok (.i2l, 1) := by decide +kernel
theorem dX0_digest_110 : decode cX0_digest 110 = .ok (.ladd, 1) := by decide +kernel
theorem dX0_digest_111 : decode cX0_digest 111 = .ok (.lstore_n 1, 1) := by decide +kernel
theorem dX0_digest_112 : decode cX0_digest 112 = .ok (.lload_n 1, 1) := by decide +kernel
theorem dX0_digest_113 : decode cX0_digest 113 = .ok (.ldc2_w 163, 3) := by decide +kernel
theorem dX0_digest_116 : decode cX0_digest 116 = .ok (.lmul, 1) := by decide +kernel
theorem dX0_digest_117 : decode cX0_digest 117 = .ok (.aload_n 0, 1) := by decide +kernel
theorem dX0_digest_118 : decode cX0_digest 118 = .ok (.invokevirtual 168, 3) := by decide +kernel
theorem dX0_digest_121 : decode cX0_digest 121 = .ok (.i2l, 1) := by decide +kernel
theorem dX0_digest_122 : decode cX0_digest 122 = .ok (.ladd, 1) := by decide +kernel
theorem dX0_digest_123 : decode cX0_digest 123 = .ok (.lstore_n 1, 1) := by decide +kernel
theorem dX0_digest_124 : decode cX0_digest 124 = .ok (.lload_n 1, 1) := by decide +kernel
theorem dX0_digest_125 : decode cX0_digest 125 = .ok (.ldc2_w 163, 3) := by decide +kernel
theorem dX0_digest_128 : decode cX0_digest 128 = .ok (.lmul, 1) := by decide +kernel
theorem dX0_digest_129 : decode cX0_digest 129 = .ok (.aload_n 0, 1) := by decide +kernel
theorem dX0_digest_130 : decode cX0_digest 130 = .ok (.invokevirtual 171, 3) := by decide +kernel
theorem dX0_digest_133 : decode cX0_digest 133 = .ok (.i2l, 1) := by decide +kernel
theorem dX0_digest_134 : decode cX0_digest 134 = .ok (.ladd, 1) := by decide +kernel
theorem dX0_digest_135 : decode cX0_digest 135 = .ok (.lstore_n 1, 1) := by decide +kernel
theorem dX0_digest_136 : decode cX0_digest 136 = .ok (.lload_n 1, 1) := by decide +kernel
theorem dX0_digest_137 : decode cX0_digest 137 = .ok (.ldc2_w 163, 3) := by decide +kernel
theorem dX0_digest_140 : decode cX0_digest 140 = .ok (.lmul, 1) := by decide +kernel
theorem dX0_digest_141 : decode cX0_digest 141 = .ok (.aload_n 0, 1) := by decide +kernel
theorem dX0_digest_142 : decode cX0_digest 142 = .ok (.invokevirtual 174, 3) := by decide +kernel
theorem dX0_digest_145 : decode cX0_digest 145 = .ok (.i2l, 1) := by decide +kernel
theorem dX0_digest_146 : decode cX0_digest 146 = .ok (.ladd, 1) := by decide +kernel
theorem dX0_digest_147 : decode cX0_digest 147 = .ok (.lstore_n 1, 1) := by decide +kernel
theorem dX0_digest_148 : decode cX0_digest 148 = .ok (.lload_n 1, 1) := by decide +kernel
theorem dX0_digest_149 : decode cX0_digest 149 = .ok (.ldc2_w 163, 3) := by decide +kernel
theorem dX0_digest_152 : decode cX0_digest 152 = .ok (.lmul, 1) := by decide +kernel
theorem dX0_digest_153 : decode cX0_digest 153 = .ok (.aload_n 0, 1) := by decide +kernel
theorem dX0_digest_154 : decode cX0_digest 154 = .ok (.invokevirtual 177, 3) := by decide +kernel
theorem dX0_digest_157 : decode cX0_digest 157 = .ok (.i2l, 1) := by decide +kernel
theorem dX0_digest_158 : decode cX0_digest 158 = .ok (.ladd, 1) := by decide +kernel
theorem dX0_digest_159 : decode cX0_digest 159 = .ok (.lstore_n 1, 1) := by decide +kernel
theorem dX0_digest_160 : decode cX0_digest 160 = .ok (.aload_n 0, 1) := by decide +kernel
theorem dX0_digest_161 : decode cX0_digest 161 = .ok (.aload_n 0, 1) := by decide +kernel
theorem dX0_digest_162 : decode cX0_digest 162 = .ok (.aload_n 0, 1) := by decide +kernel
theorem dX0_digest_163 : decode cX0_digest 163 = .ok (.lload_n 1, 1) := by decide +kernel
theorem dX0_digest_164 : decode cX0_digest 164 = .ok (.invokevirtual 180, 3) := by decide +kernel
theorem dX0_digest_167 : decode cX0_digest 167 = .ok (.invokevirtual 184, 3) := by decide +kernel
theorem dX0_digest_170 : decode cX0_digest 170 = .ok (.invokevirtual 187, 3) := by decide +kernel
theorem dX0_digest_173 : decode cX0_digest 173 = .ok (.lreturn, 1) := by decide +kernel
theorem dX0_checkMinute_0 : decode cX0_checkMinute 0 = .ok (.iload_n 1, 1) := by decide +kernel
theorem dX0_checkMinute_1 : decode cX0_checkMinute 1 = .ok (.ifCond .lt 10, 3) := by decide +kernel
theorem dX0_checkMinute_4 : decode cX0_checkMinute 4 = .ok (.iload_n 1, 1) := by decide +kernel
theorem dX0_checkMinute_5 : decode cX0_checkMinute 5 = .ok (.sipush 360, 3) := by decide +kernel
theorem dX0_checkMinute_8 : decode cX0_checkMinute 8 = .ok (.if_icmp .lt 13, 3) := by decide +kernel
theorem dX0_checkMinute_11 : decode cX0_checkMinute 11 = .ok (.new 41, 3) := by decide +kernel
theorem dX0_checkMinute_14 : decode cX0_checkMinute 14 = .ok (.dup, 1) := by decide +kernel
theorem dX0_checkMinute_15 : decode cX0_checkMinute 15 = .ok (.ldc 190, 2) := by decide +kernel
theorem dX0_checkMinute_17 : decode cX0_checkMinute 17 = .ok (.invokespecial 45, 3) := by decide +kernel
theorem dX0_checkMinute_20 : decode cX0_checkMinute 20 = .ok (.athrow, 1) := by decide +kernel
theorem dX0_checkMinute_21 : decode cX0_checkMinute 21 = .ok (.return_, 1) := by decide +kernel
theorem dX0_checkStick_0 : decode cX0_checkStick 0 = .ok (.iload_n 1, 1) := by decide +kernel
theorem dX0_checkStick_1 : decode cX0_checkStick 1 = .ok (.ifCond .lt 11, 3) := by decide +kernel
theorem dX0_checkStick_4 : decode cX0_checkStick 4 = .ok (.iload_n 1, 1) := by decide +kernel
theorem dX0_checkStick_5 : decode cX0_checkStick 5 = .ok (.aload_n 0, 1) := by decide +kernel
theorem dX0_checkStick_6 : decode cX0_checkStick 6 = .ok (.getfield 48, 3) := by decide +kernel
theorem dX0_checkStick_9 : decode cX0_checkStick 9 = .ok (.if_icmp .lt 13, 3) := by decide +kernel
theorem dX0_checkStick_12 : decode cX0_checkStick 12 = .ok (.new 192, 3) := by decide +kernel
theorem dX0_checkStick_15 : decode cX0_checkStick 15 = .ok (.dup, 1) := by decide +kernel
theorem dX0_checkStick_16 : decode cX0_checkStick 16 = .ok (.ldc 194, 2) := by decide +kernel
theorem dX0_checkStick_18 : decode cX0_checkStick 18 = .ok (.invokespecial 196, 3) := by decide +kernel
theorem dX0_checkStick_21 : decode cX0_checkStick 21 = .ok (.athrow, 1) := by decide +kernel
theorem dX0_checkStick_22 : decode cX0_checkStick 22 = .ok (.return_, 1) := by decide +kernel
theorem dX0_checkNap_0 : decode cX0_checkNap 0 = .ok (.iload_n 1, 1) := by decide +kernel
theorem dX0_checkNap_1 : decode cX0_checkNap 1 = .ok (.ifCond .lt 11, 3) := by decide +kernel
theorem dX0_checkNap_4 : decode cX0_checkNap 4 = .ok (.iload_n 1, 1) := by decide +kernel
theorem dX0_checkNap_5 : decode cX0_checkNap 5 = .ok (.aload_n 0, 1) := by decide +kernel
theorem dX0_checkNap_6 : decode cX0_checkNap 6 = .ok (.getfield 58, 3) := by decide +kernel
theorem dX0_checkNap_9 : decode cX0_checkNap 9 = .ok (.if_icmp .lt 13, 3) := by decide +kernel
theorem dX0_checkNap_12 : decode cX0_checkNap 12 = .ok (.new 192, 3) := by decide +kernel
theorem dX0_checkNap_15 : decode cX0_checkNap 15 = .ok (.dup, 1) := by decide +kernel
theorem dX0_checkNap_16 : decode cX0_checkNap 16 = .ok (.ldc 197, 2) := by decide +kernel
theorem dX0_checkNap_18 : decode cX0_checkNap 18 = .ok (.invokespecial 196, 3) := by decide +kernel
theorem dX0_checkNap_21 : decode cX0_checkNap 21 = .ok (.athrow, 1) := by decide +kernel
theorem dX0_checkNap_22 : decode cX0_checkNap 22 = .ok (.return_, 1) := by decide +kernel
theorem dX0_checkBee_0 : decode cX0_checkBee 0 = .ok (.iload_n 1, 1) := by decide +kernel
theorem dX0_checkBee_1 : decode cX0_checkBee 1 = .ok (.ifCond .lt 11, 3) := by decide +kernel
theorem dX0_checkBee_4 : decode cX0_checkBee 4 = .ok (.iload_n 1, 1) := by decide +kernel
theorem dX0_checkBee_5 : decode cX0_checkBee 5 = .ok (.aload_n 0, 1) := by decide +kernel
theorem dX0_checkBee_6 : decode cX0_checkBee 6 = .ok (.getfield 73, 3) := by decide +kernel
theorem dX0_checkBee_9 : decode cX0_checkBee 9 = .ok (.if_icmp .lt 13, 3) := by decide +kernel
theorem dX0_checkBee_12 : decode cX0_checkBee 12 = .ok (.new 192, 3) := by decide +kernel
theorem dX0_checkBee_15 : decode cX0_checkBee 15 = .ok (.dup, 1) := by decide +kernel
theorem dX0_checkBee_16 : decode cX0_checkBee 16 = .ok (.ldc 199, 2) := by decide +kernel
theorem dX0_checkBee_18 : decode cX0_checkBee 18 = .ok (.invokespecial 196, 3) := by decide +kernel
theorem dX0_checkBee_21 : decode cX0_checkBee 21 = .ok (.athrow, 1) := by decide +kernel
theorem dX0_checkBee_22 : decode cX0_checkBee 22 = .ok (.return_, 1) := by decide +kernel
theorem dX0_covers_0 : decode cX0_covers 0 = .ok (.aload_n 0, 1) := by decide +kernel
theorem dX0_covers_1 : decode cX0_covers 1 = .ok (.getfield 13, 3) := by decide +kernel
theorem dX0_covers_4 : decode cX0_covers 4 = .ok (.iload_n 1, 1) := by decide +kernel
theorem dX0_covers_5 : decode cX0_covers 5 = .ok (.iaload, 1) := by decide +kernel
theorem dX0_covers_6 : decode cX0_covers 6 = .ok (.iload_n 2, 1) := by decide +kernel
theorem dX0_covers_7 : decode cX0_covers 7 = .ok (.if_icmp .gt 17, 3) := by decide +kernel
theorem dX0_covers_10 : decode cX0_covers 10 = .ok (.iload_n 2, 1) := by decide +kernel
theorem dX0_covers_11 : decode cX0_covers 11 = .ok (.aload_n 0, 1) := by decide +kernel
theorem dX0_covers_12 : decode cX0_covers 12 = .ok (.getfield 16, 3) := by decide +kernel
theorem dX0_covers_15 : decode cX0_covers 15 = .ok (.iload_n 1, 1) := by decide +kernel
theorem dX0_covers_16 : decode cX0_covers 16 = .ok (.iaload, 1) := by decide +kernel
theorem dX0_covers_17 : decode cX0_covers 17 = .ok (.if_icmp .ge 7, 3) := by decide +kernel
theorem dX0_covers_20 : decode cX0_covers 20 = .ok (.iconst 1, 1) := by decide +kernel
theorem dX0_covers_21 : decode cX0_covers 21 = .ok (.goto 4, 3) := by decide +kernel
theorem dX0_covers_24 : decode cX0_covers 24 = .ok (.iconst 0, 1) := by decide +kernel
theorem dX0_covers_25 : decode cX0_covers 25 = .ok (.ireturn, 1) := by decide +kernel
set_option maxRecDepth 20000 in
theorem ggX0_changeCover_X0_covers : GoodIn wsX0_changeCover wsX0_covers := goodIn_r _ [6, 7, 8, 9, 10, 11, 12, 13, 14, 15, 16, 17, 18, 19, 20, 21, 22, 23, 24, 25] (by decide +kernel) (by decide +kernel)
set_option maxRecDepth 20000 in
theorem gX0_changeCover_X0_covers : GoodIn wsX0_changeCover (wsV RX0 201 RX0 yX0_covers wsX0_covers) := goodIn_app (goodIn_of _ (by decide +kernel)) ggX0_changeCover_X0_covers
theorem dX0_changeCover_0 : decode cX0_changeCover 0 = .ok (.iconst 0, 1) := by decide +kernel
theorem dX0_changeCover_1 : decode cX0_changeCover 1 = .ok (.istore_n 3, 1) := by decide +kernel
theorem dX0_changeCover_2 : decode cX0_changeCover 2 = .ok (.iload_n 3, 1) := by decide +kernel
theorem dX0_changeCover_3 : decode cX0_changeCover 3 = .ok (.sipush 360, 3) := by decide +kernel
theorem dX0_changeCover_6 : decode cX0_changeCover 6 = .ok (.if_icmp .ge 28, 3) := by decide +kernel
theorem dX0_changeCover_9 : decode cX0_changeCover 9 = .ok (.aload_n 0, 1) := by decide +kernel
theorem dX0_changeCover_10 : decode cX0_changeCover 10 = .ok (.iload_n 1, 1) := by decide +kernel
theorem dX0_changeCover_11 : decode cX0_changeCover 11 = .ok (.iload_n 3, 1) := by decide +kernel
theorem dX0_changeCover_12 : decode cX0_changeCover 12 = .ok (.invokevirtual 201, 3) := by decide +kernel
theorem dX0_changeCover_15 : decode cX0_changeCover 15 = .ok (.ifCond .eq 13, 3) := by decide +kernel
theorem dX0_changeCover_18 : decode cX0_changeCover 18 = .ok (.aload_n 0, 1) := by decide +kernel
theorem dX0_changeCover_19 : decode cX0_changeCover 19 = .ok (.getfield 19, 3) := by decide +kernel
theorem dX0_changeCover_22 : decode cX0_changeCover 22 = .ok (.iload_n 3, 1) := by decide +kernel
theorem dX0_changeCover_23 : decode cX0_changeCover 23 = .ok (.dup2, 1) := by decide +kernel
theorem dX0_changeCover_24 : decode cX0_changeCover 24 = .ok (.iaload, 1) := by decide +kernel
theorem dX0_changeCover_25 : decode cX0_changeCover 25 = .ok (.iload_n 2, 1) := by decide +kernel
theorem dX0_changeCover_26 : decode cX0_changeCover 26 = .ok (.iadd, 1) := by decide +kernel
theorem dX0_changeCover_27 : decode cX0_changeCover 27 = .ok (.iastore, 1) := by decide +kernel
theorem dX0_changeCover_28 : decode cX0_changeCover 28 = .ok (.iinc 3 1, 3) := by decide +kernel
theorem dX0_changeCover_31 : decode cX0_changeCover 31 = .ok (.goto (-29), 3) := by decide +kernel
theorem dX0_changeCover_34 : decode cX0_changeCover 34 = .ok (.return_, 1) := by decide +kernel
set_option maxRecDepth 20000 in
theorem ggX0_countAlone_X0_covers : GoodIn wsX0_countAlone wsX0_covers := goodIn_r _ [6, 7, 8, 9, 10, 11, 12, 13, 14, 15, 16, 17, 18, 19, 20, 21, 22, 23, 24, 25] (by decide +kernel) (by decide +kernel)
set_option maxRecDepth 20000 in
theorem gX0_countAlone_X0_covers : GoodIn wsX0_countAlone (wsV RX0 201 RX0 yX0_covers wsX0_covers) := goodIn_app (goodIn_of _ (by decide +kernel)) ggX0_countAlone_X0_covers
theorem dX0_countAlone_0 : decode cX0_countAlone 0 = .ok (.iconst 0, 1) := by decide +kernel
theorem dX0_countAlone_1 : decode cX0_countAlone 1 = .ok (.istore_n 2, 1) := by decide +kernel
theorem dX0_countAlone_2 : decode cX0_countAlone 2 = .ok (.iconst 0, 1) := by decide +kernel
theorem dX0_countAlone_3 : decode cX0_countAlone 3 = .ok (.istore_n 3, 1) := by decide +kernel
theorem dX0_countAlone_4 : decode cX0_countAlone 4 = .ok (.iload_n 3, 1) := by decide +kernel
theorem dX0_countAlone_5 : decode cX0_countAlone 5 = .ok (.sipush 360, 3) := by decide +kernel
theorem dX0_countAlone_8 : decode cX0_countAlone 8 = .ok (.if_icmp .ge 31, 3) := by decide +kernel
theorem dX0_countAlone_11 : decode cX0_countAlone 11 = .ok (.aload_n 0, 1) := by decide +kernel
theorem dX0_countAlone_12 : decode cX0_countAlone 12 = .ok (.getfield 19, 3) := by decide +kernel
theorem dX0_countAlone_15 : decode cX0_countAlone 15 = .ok (.iload_n 3, 1) := by decide +kernel
theorem dX0_countAlone_16 : decode cX0_countAlone 16 = .ok (.iaload, 1) := by decide +kernel
theorem dX0_countAlone_17 : decode cX0_countAlone 17 = .ok (.iconst 1, 1) := by decide +kernel
theorem dX0_countAlone_18 : decode cX0_countAlone 18 = .ok (.if_icmp .ne 15, 3) := by decide +kernel
theorem dX0_countAlone_21 : decode cX0_countAlone 21 = .ok (.aload_n 0, 1) := by decide +kernel
theorem dX0_countAlone_22 : decode cX0_countAlone 22 = .ok (.iload_n 1, 1) := by decide +kernel
theorem dX0_countAlone_23 : decode cX0_countAlone 23 = .ok (.iload_n 3, 1) := by decide +kernel
theorem dX0_countAlone_24 : decode cX0_countAlone 24 = .ok (.invokevirtual 201, 3) := by decide +kernel
theorem dX0_countAlone_27 : decode cX0_countAlone 27 = .ok (.ifCond .eq 6, 3) := by decide +kernel
theorem dX0_countAlone_30 : decode cX0_countAlone 30 = .ok (.iinc 2 1, 3) := by decide +kernel
theorem dX0_countAlone_33 : decode cX0_countAlone 33 = .ok (.iinc 3 1, 3) := by decide +kernel
theorem dX0_countAlone_36 : decode cX0_countAlone 36 = .ok (.goto (-32), 3) := by decide +kernel
theorem dX0_countAlone_39 : decode cX0_countAlone 39 = .ok (.iload_n 2, 1) := by decide +kernel
theorem dX0_countAlone_40 : decode cX0_countAlone 40 = .ok (.ireturn, 1) := by decide +kernel
theorem dX0_shadowOf_0 : decode cX0_shadowOf 0 = .ok (.aload_n 0, 1) := by decide +kernel
theorem dX0_shadowOf_1 : decode cX0_shadowOf 1 = .ok (.getfield 9, 3) := by decide +kernel
theorem dX0_shadowOf_4 : decode cX0_shadowOf 4 = .ok (.iload_n 1, 1) := by decide +kernel
theorem dX0_shadowOf_5 : decode cX0_shadowOf 5 = .ok (.iaload, 1) := by decide +kernel
theorem dX0_shadowOf_6 : decode cX0_shadowOf 6 = .ok (.bipush 60, 2) := by decide +kernel
theorem dX0_shadowOf_8 : decode cX0_shadowOf 8 = .ok (.iload_n 2, 1) := by decide +kernel
theorem dX0_shadowOf_9 : decode cX0_shadowOf 9 = .ok (.iadd, 1) := by decide +kernel
theorem dX0_shadowOf_10 : decode cX0_shadowOf 10 = .ok (.imul, 1) := by decide +kernel
theorem dX0_shadowOf_11 : decode cX0_shadowOf 11 = .ok (.bipush 120, 2) := by decide +kernel
theorem dX0_shadowOf_13 : decode cX0_shadowOf 13 = .ok (.idiv, 1) := by decide +kernel
theorem dX0_shadowOf_14 : decode cX0_shadowOf 14 = .ok (.ireturn, 1) := by decide +kernel
set_option maxRecDepth 20000 in
theorem ggX0_sumOfShadows_X0_shadowOf : GoodIn wsX0_sumOfShadows wsX0_shadowOf := goodIn_r _ [6, 7, 8, 9, 10, 11, 12, 13, 14, 15, 16, 17, 18, 19, 20, 21, 22, 23, 24] (by decide +kernel) (by decide +kernel)
set_option maxRecDepth 20000 in
theorem gX0_sumOfShadows_X0_shadowOf : GoodIn wsX0_sumOfShadows (wsV RX0 128 RX0 yX0_shadowOf wsX0_shadowOf) := goodIn_app (goodIn_of _ (by decide +kernel)) ggX0_sumOfShadows_X0_shadowOf
theorem dX0_sumOfShadows_0 : decode cX0_sumOfShadows 0 = .ok (.iconst 0, 1) := by decide +kernel
theorem dX0_sumOfShadows_1 : decode cX0_sumOfShadows 1 = .ok (.istore_n 2, 1) := by decide +kernel
theorem dX0_sumOfShadows_2 : decode cX0_sumOfShadows 2 = .ok (.iconst 0, 1) := by decide +kernel
theorem dX0_sumOfShadows_3 : decode cX0_sumOfShadows 3 = .ok (.istore_n 3, 1) := by decide +kernel
theorem dX0_sumOfShadows_4 : decode cX0_sumOfShadows 4 = .ok (.iload_n 3, 1) := by decide +kernel
theorem dX0_sumOfShadows_5 : decode cX0_sumOfShadows 5 = .ok (.aload_n 0, 1) := by decide +kernel
theorem dX0_sumOfShadows_6 : decode cX0_sumOfShadows 6 = .ok (.getfield 48, 3) := by decide +kernel
theorem dX0_sumOfShadows_9 : decode cX0_sumOfShadows 9 = .ok (.if_icmp .ge 18, 3) := by decide +kernel
theorem dX0_sumOfShadows_12 : decode cX0_sumOfShadows 12 = .ok (.iload_n 2, 1) := by decide +kernel
theorem dX0_sumOfShadows_13 : decode cX0_sumOfShadows 13 = .ok (.aload_n 0, 1) := by decide +kernel
theorem dX0_sumOfShadows_14 : decode cX0_sumOfShadows 14 = .ok (.iload_n 3, 1) := by decide +kernel
theorem dX0_sumOfShadows_15 : decode cX0_sumOfShadows 15 = .ok (.iload_n 1, 1) := by decide +kernel
theorem dX0_sumOfShadows_16 : decode cX0_sumOfShadows 16 = .ok (.invokevirtual 128, 3) := by decide +kernel
theorem dX0_sumOfShadows_19 : decode cX0_sumOfShadows 19 = .ok (.iadd, 1) := by decide +kernel
theorem dX0_sumOfShadows_20 : decode cX0_sumOfShadows 20 = .ok (.istore_n 2, 1) := by decide +kernel
theorem dX0_sumOfShadows_21 : decode cX0_sumOfShadows 21 = .ok (.iinc 3 1, 3) := by decide +kernel
theorem dX0_sumOfShadows_24 : decode cX0_sumOfShadows 24 = .ok (.goto (-20), 3) := by decide +kernel
theorem dX0_sumOfShadows_27 : decode cX0_sumOfShadows 27 = .ok (.iload_n 2, 1) := by decide +kernel
theorem dX0_sumOfShadows_28 : decode cX0_sumOfShadows 28 = .ok (.ireturn, 1) := by decide +kernel
theorem dX0_hasBeatIn_0 : decode cX0_hasBeatIn 0 = .ok (.aload_n 0, 1) := by decide +kernel
theorem dX0_hasBeatIn_1 : decode cX0_hasBeatIn 1 = .ok (.getfield 22, 3) := by decide +kernel
theorem dX0_hasBeatIn_4 : decode cX0_hasBeatIn 4 = .ok (.iload_n 1, 1) := by decide +kernel
theorem dX0_hasBeatIn_5 : decode cX0_hasBeatIn 5 = .ok (.iaload, 1) := by decide +kernel
theorem dX0_hasBeatIn_6 : decode cX0_hasBeatIn 6 = .ok (.istore_n 3, 1) := by decide +kernel
theorem dX0_hasBeatIn_7 : decode cX0_hasBeatIn 7 = .ok (.iload_n 3, 1) := by decide +kernel
theorem dX0_hasBeatIn_8 : decode cX0_hasBeatIn 8 = .ok (.ifCond .le 19, 3) := by decide +kernel
theorem dX0_hasBeatIn_11 : decode cX0_hasBeatIn 11 = .ok (.iload_n 2, 1) := by decide +kernel
theorem dX0_hasBeatIn_12 : decode cX0_hasBeatIn 12 = .ok (.iload_n 3, 1) := by decide +kernel
theorem dX0_hasBeatIn_13 : decode cX0_hasBeatIn 13 = .ok (.irem, 1) := by decide +kernel
theorem dX0_hasBeatIn_14 : decode cX0_hasBeatIn 14 = .ok (.aload_n 0, 1) := by decide +kernel
theorem dX0_hasBeatIn_15 : decode cX0_hasBeatIn 15 = .ok (.getfield 25, 3) := by decide +kernel
theorem dX0_hasBeatIn_18 : decode cX0_hasBeatIn 18 = .ok (.iload_n 1, 1) := by decide +kernel
theorem dX0_hasBeatIn_19 : decode cX0_hasBeatIn 19 = .ok (.iaload, 1) := by decide +kernel
theorem dX0_hasBeatIn_20 : decode cX0_hasBeatIn 20 = .ok (.if_icmp .ne 7, 3) := by decide +kernel
theorem dX0_hasBeatIn_23 : decode cX0_hasBeatIn 23 = .ok (.iconst 1, 1) := by decide +kernel
theorem dX0_hasBeatIn_24 : decode cX0_hasBeatIn 24 = .ok (.goto 4, 3) := by decide +kernel
theorem dX0_hasBeatIn_27 : decode cX0_hasBeatIn 27 = .ok (.iconst 0, 1) := by decide +kernel
theorem dX0_hasBeatIn_28 : decode cX0_hasBeatIn 28 = .ok (.ireturn, 1) := by decide +kernel
set_option maxRecDepth 20000 in
theorem ggX0_ticksIn_X0_hasBeatIn : GoodIn wsX0_ticksIn wsX0_hasBeatIn := goodIn_r _ [6, 7, 8, 9, 10, 11, 12, 13, 14, 15, 16, 17, 18, 19, 20, 21, 22, 23, 24, 25] (by decide +kernel) (by decide +kernel)
set_option maxRecDepth 20000 in
theorem gX0_ticksIn_X0_hasBeatIn : GoodIn wsX0_ticksIn (wsV RX0 78 RX0 yX0_hasBeatIn wsX0_hasBeatIn) := goodIn_app (goodIn_of _ (by decide +kernel)) ggX0_ticksIn_X0_hasBeatIn
theorem dX0_ticksIn_0 : decode cX0_ticksIn 0 = .ok (.aload_n 0, 1) := by decide +kernel
theorem dX0_ticksIn_1 : decode cX0_ticksIn 1 = .ok (.getfield 19, 3) := by decide +kernel
theorem dX0_ticksIn_4 : decode cX0_ticksIn 4 = .ok (.iload_n 2, 1) := by decide +kernel
theorem dX0_ticksIn_5 : decode cX0_ticksIn 5 = .ok (.iaload, 1) := by decide +kernel
theorem dX0_ticksIn_6 : decode cX0_ticksIn 6 = .ok (.ifCond .ne 16, 3) := by decide +kernel
theorem dX0_ticksIn_9 : decode cX0_ticksIn 9 = .ok (.aload_n 0, 1) := by decide +kernel
theorem dX0_ticksIn_10 : decode cX0_ticksIn 10 = .ok (.iload_n 1, 1) := by decide +kernel
theorem dX0_ticksIn_11 : decode cX0_ticksIn 11 = .ok (.iload_n 2, 1) := by decide +kernel
theorem dX0_ticksIn_12 : decode cX0_ticksIn 12 = .ok (.invokevirtual 78, 3) := by decide +kernel
theorem dX0_ticksIn_15 : decode cX0_ticksIn 15 = .ok (.ifCond .eq 7, 3) := by decide +kernel
theorem dX0_ticksIn_18 : decode cX0_ticksIn 18 = .ok (.iconst 1, 1) := by decide +kernel
theorem dX0_ticksIn_19 : decode cX0_ticksIn 19 = .ok (.goto 4, 3) := by decide +kernel
theorem dX0_ticksIn_22 : decode cX0_ticksIn 22 = .ok (.iconst 0, 1) := by decide +kernel
theorem dX0_ticksIn_23 : decode cX0_ticksIn 23 = .ok (.ireturn, 1) := by decide +kernel
set_option maxRecDepth 20000 in
theorem ggX0_countTicks_X0_ticksIn : GoodIn wsX0_countTicks wsX0_ticksIn := goodIn_r _ [6, 7, 8, 9, 10, 5, 11, 12, 13, 14, 15, 16, 17, 18, 19, 20, 21, 22, 23, 24, 25, 26, 27, 28, 29, 30] (by decide +kernel) (by decide +kernel)
set_option maxRecDepth 20000 in
theorem gX0_countTicks_X0_ticksIn : GoodIn wsX0_countTicks (wsV RX0 152 RX0 yX0_ticksIn wsX0_ticksIn) := goodIn_app (goodIn_of _ (by decide +kernel)) ggX0_countTicks_X0_ticksIn
theorem dX0_countTicks_0 : decode cX0_countTicks 0 = .ok (.iconst 0, 1) := by decide +kernel
theorem dX0_countTicks_1 : decode cX0_countTicks 1 = .ok (.istore_n 2, 1) := by decide +kernel
theorem dX0_countTicks_2 : decode cX0_countTicks 2 = .ok (.iconst 0, 1) := by decide +kernel
theorem dX0_countTicks_3 : decode cX0_countTicks 3 = .ok (.istore_n 3, 1) := by decide +kernel
theorem dX0_countTicks_4 : decode cX0_countTicks 4 = .ok (.iload_n 3, 1) := by decide +kernel
theorem dX0_countTicks_5 : decode cX0_countTicks 5 = .ok (.aload_n 0, 1) := by decide +kernel
theorem dX0_countTicks_6 : decode cX0_countTicks 6 = .ok (.getfield 97, 3) := by decide +kernel
theorem dX0_countTicks_9 : decode cX0_countTicks 9 = .ok (.if_icmp .ge 21, 3) := by decide +kernel
theorem dX0_countTicks_12 : decode cX0_countTicks 12 = .ok (.aload_n 0, 1) := by decide +kernel
theorem dX0_countTicks_13 : decode cX0_countTicks 13 = .ok (.iload_n 1, 1) := by decide +kernel
theorem dX0_countTicks_14 : decode cX0_countTicks 14 = .ok (.iload_n 3, 1) := by decide +kernel
theorem dX0_countTicks_15 : decode cX0_countTicks 15 = .ok (.invokevirtual 152, 3) := by decide +kernel
theorem dX0_countTicks_18 : decode cX0_countTicks 18 = .ok (.ifCond .eq 6, 3) := by decide +kernel
theorem dX0_countTicks_21 : decode cX0_countTicks 21 = .ok (.iinc 2 1, 3) := by decide +kernel
theorem dX0_countTicks_24 : decode cX0_countTicks 24 = .ok (.iinc 3 1, 3) := by decide +kernel
theorem dX0_countTicks_27 : decode cX0_countTicks 27 = .ok (.goto (-23), 3) := by decide +kernel
theorem dX0_countTicks_30 : decode cX0_countTicks 30 = .ok (.iload_n 2, 1) := by decide +kernel
theorem dX0_countTicks_31 : decode cX0_countTicks 31 = .ok (.ireturn, 1) := by decide +kernel
theorem dX0_contentAfter_0 : decode cX0_contentAfter 0 = .ok (.aload_n 0, 1) := by decide +kernel
theorem dX0_contentAfter_1 : decode cX0_contentAfter 1 = .ok (.getfield 19, 3) := by decide +kernel
theorem dX0_contentAfter_4 : decode cX0_contentAfter 4 = .ok (.iload_n 1, 1) := by decide +kernel
theorem dX0_contentAfter_5 : decode cX0_contentAfter 5 = .ok (.iaload, 1) := by decide +kernel
theorem dX0_contentAfter_6 : decode cX0_contentAfter 6 = .ok (.ifCond .le 5, 3) := by decide +kernel
theorem dX0_contentAfter_9 : decode cX0_contentAfter 9 = .ok (.iload_n 2, 1) := by decide +kernel
theorem dX0_contentAfter_10 : decode cX0_contentAfter 10 = .ok (.ireturn, 1) := by decide +kernel
theorem dX0_contentAfter_11 : decode cX0_contentAfter 11 = .ok (.iconst 0, 1) := by decide +kernel
theorem dX0_contentAfter_12 : decode cX0_contentAfter 12 = .ok (.iload_n 2, 1) := by decide +kernel
theorem dX0_contentAfter_13 : decode cX0_contentAfter 13 = .ok (.iload_n 3, 1) := by decide +kernel
theorem dX0_contentAfter_14 : decode cX0_contentAfter 14 = .ok (.iadd, 1) := by decide +kernel
theorem dX0_contentAfter_15 : decode cX0_contentAfter 15 = .ok (.aload_n 0, 1) := by decide +kernel
theorem dX0_contentAfter_16 : decode cX0_contentAfter 16 = .ok (.getfield 38, 3) := by decide +kernel
theorem dX0_contentAfter_19 : decode cX0_contentAfter 19 = .ok (.aload_n 0, 1) := by decide +kernel
theorem dX0_contentAfter_20 : decode cX0_contentAfter 20 = .ok (.getfield 28, 3) := by decide +kernel
theorem dX0_contentAfter_23 : decode cX0_contentAfter 23 = .ok (.iload_n 1, 1) := by decide +kernel
theorem dX0_contentAfter_24 : decode cX0_contentAfter 24 = .ok (.iaload, 1) := by decide +kernel
theorem dX0_contentAfter_25 : decode cX0_contentAfter 25 = .ok (.imul, 1) := by decide +kernel
theorem dX0_contentAfter_26 : decode cX0_contentAfter 26 = .ok (.isub, 1) := by decide +kernel
theorem dX0_contentAfter_27 : decode cX0_contentAfter 27 = .ok (.invokestatic 119, 3) := by decide +kernel
theorem dX0_contentAfter_30 : decode cX0_contentAfter 30 = .ok (.ireturn, 1) := by decide +kernel
theorem dX0_excess_0 : decode cX0_excess 0 = .ok (.iconst 0, 1) := by decide +kernel
theorem dX0_excess_1 : decode cX0_excess 1 = .ok (.iload_n 1, 1) := by decide +kernel
theorem dX0_excess_2 : decode cX0_excess 2 = .ok (.aload_n 0, 1) := by decide +kernel
theorem dX0_excess_3 : decode cX0_excess 3 = .ok (.getfield 31, 3) := by decide +kernel
theorem dX0_excess_6 : decode cX0_excess 6 = .ok (.isub, 1) := by decide +kernel
theorem dX0_excess_7 : decode cX0_excess 7 = .ok (.invokestatic 119, 3) := by decide +kernel
theorem dX0_excess_10 : decode cX0_excess 10 = .ok (.ireturn, 1) := by decide +kernel
set_option maxRecDepth 20000 in
theorem ggX0_pourInto_X0_excess : GoodIn wsX0_pourInto wsX0_excess := goodIn_r _ [7, 8, 9, 10, 11, 12, 13, 14, 15, 16, 17, 18, 19, 20, 21, 22, 23, 24, 25, 26, 27, 28, 29] (by decide +kernel) (by decide +kernel)
set_option maxRecDepth 20000 in
theorem gX0_pourInto_X0_excess : GoodIn wsX0_pourInto (wsV RX0 155 RX0 yX0_excess wsX0_excess) := goodIn_app (goodIn_of _ (by decide +kernel)) ggX0_pourInto_X0_excess
theorem dX0_pourInto_0 : decode cX0_pourInto 0 = .ok (.aload_n 0, 1) := by decide +kernel
theorem dX0_pourInto_1 : decode cX0_pourInto 1 = .ok (.iload_n 1, 1) := by decide +kernel
theorem dX0_pourInto_2 : decode cX0_pourInto 2 = .ok (.invokevirtual 155, 3) := by decide +kernel
theorem dX0_pourInto_5 : decode cX0_pourInto 5 = .ok (.istore_n 2, 1) := by decide +kernel
theorem dX0_pourInto_6 : decode cX0_pourInto 6 = .ok (.aload_n 0, 1) := by decide +kernel
theorem dX0_pourInto_7 : decode cX0_pourInto 7 = .ok (.iload_n 1, 1) := by decide +kernel
theorem dX0_pourInto_8 : decode cX0_pourInto 8 = .ok (.iload_n 2, 1) := by decide +kernel
theorem dX0_pourInto_9 : decode cX0_pourInto 9 = .ok (.isub, 1) := by decide +kernel
theorem dX0_pourInto_10 : decode cX0_pourInto 10 = .ok (.putfield 88, 3) := by decide +kernel
theorem dX0_pourInto_13 : decode cX0_pourInto 13 = .ok (.aload_n 0, 1) := by decide +kernel
theorem dX0_pourInto_14 : decode cX0_pourInto 14 = .ok (.dup, 1) := by decide +kernel
theorem dX0_pourInto_15 : decode cX0_pourInto 15 = .ok (.getfield 106, 3) := by decide +kernel
theorem dX0_pourInto_18 : decode cX0_pourInto 18 = .ok (.iload_n 2, 1) := by decide +kernel
theorem dX0_pourInto_19 : decode cX0_pourInto 19 = .ok (.iadd, 1) := by decide +kernel
theorem dX0_pourInto_20 : decode cX0_pourInto 20 = .ok (.putfield 106, 3) := by decide +kernel
theorem dX0_pourInto_23 : decode cX0_pourInto 23 = .ok (.iload_n 2, 1) := by decide +kernel
theorem dX0_pourInto_24 : decode cX0_pourInto 24 = .ok (.ireturn, 1) := by decide +kernel
set_option maxRecDepth 20000 in
theorem ggX0_firstSpillWith_X0_contentAfter : GoodIn wsX0_firstSpillWith wsX0_contentAfter := goodIn_r _ [7, 8, 9, 10, 11, 12, 13, 14, 20, 21, 22, 23, 24, 25, 26, 27, 28, 29, 30, 31, 32, 33, 34, 35, 36] (by decide +kernel) (by decide +kernel)
set_option maxRecDepth 20000 in
theorem gX0_firstSpillWith_X0_contentAfter : GoodIn wsX0_firstSpillWith (wsV RX0 102 RX0 yX0_contentAfter wsX0_contentAfter) := goodIn_app (goodIn_of _ (by decide +kernel)) ggX0_firstSpillWith_X0_contentAfter
set_option maxRecDepth 20000 in
theorem ggX0_firstSpillWith_X0_excess : GoodIn wsX0_firstSpillWith wsX0_excess := goodIn_r _ [18, 19, 11, 12, 13, 14, 20, 21, 22, 23, 24, 25, 26, 27, 28, 29, 30, 31, 32, 33, 34, 35, 36] (by decide +kernel) (by decide +kernel)
set_option maxRecDepth 20000 in
theorem gX0_firstSpillWith_X0_excess : GoodIn wsX0_firstSpillWith (wsV RX0 155 RX0 yX0_excess wsX0_excess) := goodIn_app (goodIn_of _ (by decide +kernel)) ggX0_firstSpillWith_X0_excess
theorem dX0_firstSpillWith_0 : decode cX0_firstSpillWith 0 = .ok (.aload_n 0, 1) := by decide +kernel
theorem dX0_firstSpillWith_1 : decode cX0_firstSpillWith 1 = .ok (.getfield 88, 3) := by decide +kernel
theorem dX0_firstSpillWith_4 : decode cX0_firstSpillWith 4 = .ok (.istore_n 2, 1) := by decide +kernel
theorem dX0_firstSpillWith_5 : decode cX0_firstSpillWith 5 = .ok (.aload_n 0, 1) := by decide +kernel
theorem dX0_firstSpillWith_6 : decode cX0_firstSpillWith 6 = .ok (.getfield 97, 3) := by decide +kernel
theorem dX0_firstSpillWith_9 : decode cX0_firstSpillWith 9 = .ok (.istore_n 3, 1) := by decide +kernel
theorem dX0_firstSpillWith_10 : decode cX0_firstSpillWith 10 = .ok (.iload_n 3, 1) := by decide +kernel
theorem dX0_firstSpillWith_11 : decode cX0_firstSpillWith 11 = .ok (.sipush 360, 3) := by decide +kernel
theorem dX0_firstSpillWith_14 : decode cX0_firstSpillWith 14 = .ok (.if_icmp .ge 27, 3) := by decide +kernel
theorem dX0_firstSpillWith_17 : decode cX0_firstSpillWith 17 = .ok (.aload_n 0, 1) := by decide +kernel
theorem dX0_firstSpillWith_18 : decode cX0_firstSpillWith 18 = .ok (.iload_n 3, 1) := by decide +kernel
theorem dX0_firstSpillWith_19 : decode cX0_firstSpillWith 19 = .ok (.iload_n 2, 1) := by decide +kernel
theorem dX0_firstSpillWith_20 : decode cX0_firstSpillWith 20 = .ok (.iload_n 1, 1) := by decide +kernel
theorem dX0_firstSpillWith_21 : decode cX0_firstSpillWith 21 = .ok (.invokevirtual 102, 3) := by decide +kernel
theorem dX0_firstSpillWith_24 : decode cX0_firstSpillWith 24 = .ok (.istore_n 2, 1) := by decide +kernel
theorem dX0_firstSpillWith_25 : decode cX0_firstSpillWith 25 = .ok (.aload_n 0, 1) := by decide +kernel
theorem dX0_firstSpillWith_26 : decode cX0_firstSpillWith 26 = .ok (.iload_n 2, 1) := by decide +kernel
theorem dX0_firstSpillWith_27 : decode cX0_firstSpillWith 27 = .ok (.invokevirtual 155, 3) := by decide +kernel
theorem dX0_firstSpillWith_30 : decode cX0_firstSpillWith 30 = .ok (.ifCond .le 5, 3) := by decide +kernel
theorem dX0_firstSpillWith_33 : decode cX0_firstSpillWith 33 = .ok (.iload_n 3, 1) := by decide +kernel
theorem dX0_firstSpillWith_34 : decode cX0_firstSpillWith 34 = .ok (.ireturn, 1) := by decide +kernel
theorem dX0_firstSpillWith_35 : decode cX0_firstSpillWith 35 = .ok (.iinc 3 1, 3) := by decide +kernel
theorem dX0_firstSpillWith_38 : decode cX0_firstSpillWith 38 = .ok (.goto (-28), 3) := by decide +kernel
theorem dX0_firstSpillWith_41 : decode cX0_firstSpillWith 41 = .ok (.iconst (-1), 1) := by decide +kernel
theorem dX0_firstSpillWith_42 : decode cX0_firstSpillWith 42 = .ok (.ireturn, 1) := by decide +kernel
set_option maxRecDepth 20000 in
theorem ggX0_withSticks_X0_shadowOf : GoodIn wsX0_withSticks wsX0_shadowOf := goodIn_r _ [7, 8, 9, 10, 11, 12, 13, 14, 15, 16, 17, 18, 19, 20, 21, 22, 23, 24, 25] (by decide +kernel) (by decide +kernel)
set_option maxRecDepth 20000 in
theorem gX0_withSticks_X0_shadowOf : GoodIn wsX0_withSticks (wsV RX0 128 RX0 yX0_shadowOf wsX0_shadowOf) := goodIn_app (goodIn_of _ (by decide +kernel)) ggX0_withSticks_X0_shadowOf
theorem dX0_withSticks_0 : decode cX0_withSticks 0 = .ok (.lload_n 1, 1) := by decide +kernel
theorem dX0_withSticks_1 : decode cX0_withSticks 1 = .ok (.lstore_n 3, 1) := by decide +kernel
theorem dX0_withSticks_2 : decode cX0_withSticks 2 = .ok (.iconst 0, 1) := by decide +kernel
theorem dX0_withSticks_3 : decode cX0_withSticks 3 = .ok (.istore 5, 2) := by decide +kernel
theorem dX0_withSticks_5 : decode cX0_withSticks 5 = .ok (.iload 5, 2) := by decide +kernel
theorem dX0_withSticks_7 : decode cX0_withSticks 7 = .ok (.aload_n 0, 1) := by decide +kernel
theorem dX0_withSticks_8 : decode cX0_withSticks 8 = .ok (.getfield 48, 3) := by decide +kernel
theorem dX0_withSticks_11 : decode cX0_withSticks 11 = .ok (.if_icmp .ge 25, 3) := by decide +kernel
theorem dX0_withSticks_14 : decode cX0_withSticks 14 = .ok (.lload_n 3, 1) := by decide +kernel
theorem dX0_withSticks_15 : decode cX0_withSticks 15 = .ok (.ldc2_w 163, 3) := by decide +kernel
theorem dX0_withSticks_18 : decode cX0_withSticks 18 = .ok (.lmul, 1) := by decide +kernel
theorem dX0_withSticks_19 : decode cX0_withSticks 19 = .ok (.aload_n 0, 1) := by decide +kernel
theorem dX0_withSticks_20 : decode cX0_withSticks 20 = .ok (.iload 5, 2) := by decide +kernel
theorem dX0_withSticks_22 : decode cX0_withSticks 22 = .ok (.bipush 100, 2) := by decide +kernel
theorem dX0_withSticks_24 : decode cX0_withSticks 24 = .ok (.invokevirtual 128, 3) := by decide +kernel
theorem dX0_withSticks_27 : decode cX0_withSticks 27 = .ok (.i2l, 1) := by decide +kernel
theorem dX0_withSticks_28 : decode cX0_withSticks 28 = .ok (.ladd, 1) := by decide +kernel
theorem dX0_withSticks_29 : decode cX0_withSticks 29 = .ok (.lstore_n 3, 1) := by decide +kernel
theorem dX0_withSticks_30 : decode cX0_withSticks 30 = .ok (.iinc 5 1, 3) := by decide +kernel
theorem dX0_withSticks_33 : decode cX0_withSticks 33 = .ok (.goto (-28), 3) := by decide +kernel
theorem dX0_withSticks_36 : decode cX0_withSticks 36 = .ok (.lload_n 3, 1) := by decide +kernel
theorem dX0_withSticks_37 : decode cX0_withSticks 37 = .ok (.lreturn, 1) := by decide +kernel
set_option maxRecDepth 20000 in
theorem ggX0_withNaps_X0_countAlone : GoodIn wsX0_withNaps wsX0_countAlone := goodIn_r _ [9, 10, 11, 12, 13, 8, 14, 3, 4, 15, 16, 17, 18, 19, 20, 21, 22, 23, 24, 25, 26, 27, 28, 29, 30, 31] (by decide +kernel) (by decide +kernel)
set_option maxRecDepth 20000 in
theorem gX0_withNaps_X0_countAlone : GoodIn wsX0_withNaps (wsV RX0 134 RX0 yX0_countAlone wsX0_countAlone) := goodIn_app (goodIn_of _ (by decide +kernel)) ggX0_withNaps_X0_countAlone
theorem dX0_withNaps_0 : decode cX0_withNaps 0 = .ok (.lload_n 1, 1) := by decide +kernel
theorem dX0_withNaps_1 : decode cX0_withNaps 1 = .ok (.lstore_n 3, 1) := by decide +kernel
theorem dX0_withNaps_2 : decode cX0_withNaps 2 = .ok (.iconst 0, 1) := by decide +kernel
theorem dX0_withNaps_3 : decode cX0_withNaps 3 = .ok (.istore 5, 2) := by decide +kernel
theorem dX0_withNaps_5 : decode cX0_withNaps 5 = .ok (.iload 5, 2) := by decide +kernel
theorem dX0_withNaps_7 : decode cX0_withNaps 7 = .ok (.aload_n 0, 1) := by decide +kernel
theorem dX0_withNaps_8 : decode cX0_withNaps 8 = .ok (.getfield 58, 3) := by decide +kernel
theorem dX0_withNaps_11 : decode cX0_withNaps 11 = .ok (.if_icmp .ge 61, 3) := by decide +kernel
theorem dX0_withNaps_14 : decode cX0_withNaps 14 = .ok (.lload_n 3, 1) := by decide +kernel
theorem dX0_withNaps_15 : decode cX0_withNaps 15 = .ok (.ldc2_w 163, 3) := by decide +kernel
theorem dX0_withNaps_18 : decode cX0_withNaps 18 = .ok (.lmul, 1) := by decide +kernel
theorem dX0_withNaps_19 : decode cX0_withNaps 19 = .ok (.aload_n 0, 1) := by decide +kernel
theorem dX0_withNaps_20 : decode cX0_withNaps 20 = .ok (.getfield 13, 3) := by decide +kernel
theorem dX0_withNaps_23 : decode cX0_withNaps 23 = .ok (.iload 5, 2) := by decide +kernel
theorem dX0_withNaps_25 : decode cX0_withNaps 25 = .ok (.iaload, 1) := by decide +kernel
theorem dX0_withNaps_26 : decode cX0_withNaps 26 = .ok (.i2l, 1) := by decide +kernel
theorem dX0_withNaps_27 : decode cX0_withNaps 27 = .ok (.ladd, 1) := by decide +kernel
theorem dX0_withNaps_28 : decode cX0_withNaps 28 = .ok (.lstore_n 3, 1) := by decide +kernel
theorem dX0_withNaps_29 : decode cX0_withNaps 29 = .ok (.lload_n 3, 1) := by decide +kernel
theorem dX0_withNaps_30 : decode cX0_withNaps 30 = .ok (.ldc2_w 163, 3) := by decide +kernel
theorem dX0_withNaps_33 : decode cX0_withNaps 33 = .ok (.lmul, 1) := by decide +kernel
theorem dX0_withNaps_34 : decode cX0_withNaps 34 = .ok (.aload_n 0, 1) := by decide +kernel
theorem dX0_withNaps_35 : decode cX0_withNaps 35 = .ok (.getfield 16, 3) := by decide +kernel
theorem dX0_withNaps_38 : decode cX0_withNaps 38 = .ok (.iload 5, 2) := by decide +kernel
theorem dX0_withNaps_40 : decode cX0_withNaps 40 = .ok (.iaload, 1) := by decide +kernel
theorem dX0_withNaps_41 : decode cX0_withNaps 41 = .ok (.aload_n 0, 1) := by decide +kernel
theorem dX0_withNaps_42 : decode cX0_withNaps 42 = .ok (.getfield 13, 3) := by decide +kernel
theorem dX0_withNaps_45 : decode cX0_withNaps 45 = .ok (.iload 5, 2) := by decide +kernel
theorem dX0_withNaps_47 : decode cX0_withNaps 47 = .ok (.iaload, 1) := by decide +kernel
theorem dX0_withNaps_48 : decode cX0_withNaps 48 = .ok (.isub, 1) := by decide +kernel
theorem dX0_withNaps_49 : decode cX0_withNaps 49 = .ok (.i2l, 1) := by decide +kernel
theorem dX0_withNaps_50 : decode cX0_withNaps 50 = .ok (.ladd, 1) := by decide +kernel
theorem dX0_withNaps_51 : decode cX0_withNaps 51 = .ok (.lstore_n 3, 1) := by decide +kernel
theorem dX0_withNaps_52 : decode cX0_withNaps 52 = .ok (.lload_n 3, 1) := by decide +kernel
theorem dX0_withNaps_53 : decode cX0_withNaps 53 = .ok (.ldc2_w 163, 3) := by decide +kernel
theorem dX0_withNaps_56 : decode cX0_withNaps 56 = .ok (.lmul, 1) := by decide +kernel
theorem dX0_withNaps_57 : decode cX0_withNaps 57 = .ok (.aload_n 0, 1) := by decide +kernel
theorem dX0_withNaps_58 : decode cX0_withNaps 58 = .ok (.iload 5, 2) := by decide +kernel
theorem dX0_withNaps_60 : decode cX0_withNaps 60 = .ok (.invokevirtual 134, 3) := by decide +kernel
theorem dX0_withNaps_63 : decode cX0_withNaps 63 = .ok (.i2l, 1) := by decide +kernel
theorem dX0_withNaps_64 : decode cX0_withNaps 64 = .ok (.ladd, 1) := by decide +kernel
theorem dX0_withNaps_65 : decode cX0_withNaps 65 = .ok (.lstore_n 3, 1) := by decide +kernel
theorem dX0_withNaps_66 : decode cX0_withNaps 66 = .ok (.iinc 5 1, 3) := by decide +kernel
theorem dX0_withNaps_69 : decode cX0_withNaps 69 = .ok (.goto (-64), 3) := by decide +kernel
theorem dX0_withNaps_72 : decode cX0_withNaps 72 = .ok (.lload_n 3, 1) := by decide +kernel
theorem dX0_withNaps_73 : decode cX0_withNaps 73 = .ok (.lreturn, 1) := by decide +kernel
set_option maxRecDepth 20000 in
theorem ggX0_withBees_X0_countTicks : GoodIn wsX0_withBees wsX0_countTicks := goodIn_r _ [7, 8, 9, 10, 11, 6, 12, 13, 14, 15, 16, 17, 18, 19, 34, 35, 36, 37, 38, 39, 40, 41, 42, 43, 44, 45, 46, 47, 48, 49, 50] (by decide +kernel) (by decide +kernel)
set_option maxRecDepth 20000 in
theorem gX0_withBees_X0_countTicks : GoodIn wsX0_withBees (wsV RX0 140 RX0 yX0_countTicks wsX0_countTicks) := goodIn_app (goodIn_of _ (by decide +kernel)) ggX0_withBees_X0_countTicks
set_option maxRecDepth 20000 in
theorem ggX0_withBees_X0_measuredBy : GoodIn wsX0_withBees wsX0_measuredBy := goodIn_ca (goodIn_r _ [23, 18, 24, 25, 26, 6, 27, 28, 29, 1, 3, 4, 5, 7, 8, 9, 10, 11, 12, 13, 14, 15, 16, 17, 19, 34, 35, 36, 37, 38, 39, 40, 41, 42, 43, 44, 45, 46, 47, 48, 49, 50] (by decide +kernel) (by decide +kernel)) (goodIn_sub (fun _ h => List.mem_cons_of_mem _ (List.mem_append_right _ h)) (by decide +kernel))
set_option maxRecDepth 20000 in
theorem gX0_withBees_X0_measuredBy : GoodIn wsX0_withBees (wsV RX0 143 RX0 yX0_measuredBy wsX0_measuredBy) := goodIn_app (goodIn_of _ (by decide +kernel)) ggX0_withBees_X0_measuredBy
set_option maxRecDepth 20000 in
theorem ggX0_withBees_X0_nextTick : GoodIn wsX0_withBees wsX0_nextTick := goodIn_ca (goodIn_r _ [33, 8, 24, 25, 26, 6, 27, 28, 29, 1, 9, 10, 11, 12, 13, 14, 15, 16, 17, 18, 19, 34, 35, 36, 37, 38, 39, 40, 41, 42, 43, 44, 45, 46, 47, 48, 49, 50] (by decide +kernel) (by decide +kernel)) (goodIn_sub (fun _ h => List.mem_cons_of_mem _ (List.mem_append_right _ h)) (by decide +kernel))
set_option maxRecDepth 20000 in
theorem gX0_withBees_X0_nextTick : GoodIn wsX0_withBees (wsV RX0 204 RX0 yX0_nextTick wsX0_nextTick) := goodIn_app (goodIn_of _ (by decide +kernel)) ggX0_withBees_X0_nextTick
theorem dX0_withBees_0 : decode cX0_withBees 0 = .ok (.lload_n 1, 1) := by decide +kernel
theorem dX0_withBees_1 : decode cX0_withBees 1 = .ok (.lstore_n 3, 1) := by decide +kernel
theorem dX0_withBees_2 : decode cX0_withBees 2 = .ok (.iconst 0, 1) := by decide +kernel
theorem dX0_withBees_3 : decode cX0_withBees 3 = .ok (.istore 5, 2) := by decide +kernel
theorem dX0_withBees_5 : decode cX0_withBees 5 = .ok (.iload 5, 2) := by decide +kernel
theorem dX0_withBees_7 : decode cX0_withBees 7 = .ok (.aload_n 0, 1) := by decide +kernel
theorem dX0_withBees_8 : decode cX0_withBees 8 = .ok (.getfield 73, 3) := by decide +kernel
theorem dX0_withBees_11 : decode cX0_withBees 11 = .ok (.if_icmp .ge 51, 3) := by decide +kernel
theorem dX0_withBees_14 : decode cX0_withBees 14 = .ok (.lload_n 3, 1) := by decide +kernel
theorem dX0_withBees_15 : decode cX0_withBees 15 = .ok (.ldc2_w 163, 3) := by decide +kernel
theorem dX0_withBees_18 : decode cX0_withBees 18 = .ok (.lmul, 1) := by decide +kernel
theorem dX0_withBees_19 : decode cX0_withBees 19 = .ok (.aload_n 0, 1) := by decide +kernel
theorem dX0_withBees_20 : decode cX0_withBees 20 = .ok (.iload 5, 2) := by decide +kernel
theorem dX0_withBees_22 : decode cX0_withBees 22 = .ok (.invokevirtual 140, 3) := by decide +kernel
theorem dX0_withBees_25 : decode cX0_withBees 25 = .ok (.i2l, 1) := by decide +kernel
theorem dX0_withBees_26 : decode cX0_withBees 26 = .ok (.ladd, 1) := by decide +kernel
theorem dX0_withBees_27 : decode cX0_withBees 27 = .ok (.lstore_n 3, 1) := by decide +kernel
theorem dX0_withBees_28 : decode cX0_withBees 28 = .ok (.lload_n 3, 1) := by decide +kernel
theorem dX0_withBees_29 : decode cX0_withBees 29 = .ok (.ldc2_w 163, 3) := by decide +kernel
theorem dX0_withBees_32 : decode cX0_withBees 32 = .ok (.lmul, 1) := by decide +kernel
theorem dX0_withBees_33 : decode cX0_withBees 33 = .ok (.aload_n 0, 1) := by decide +kernel
theorem dX0_withBees_34 : decode cX0_withBees 34 = .ok (.iload 5, 2) := by decide +kernel
theorem dX0_withBees_36 : decode cX0_withBees 36 = .ok (.invokevirtual 143, 3) := by decide +kernel
theorem dX0_withBees_39 : decode cX0_withBees 39 = .ok (.i2l, 1) := by decide +kernel
theorem dX0_withBees_40 : decode cX0_withBees 40 = .ok (.ladd, 1) := by decide +kernel
theorem dX0_withBees_41 : decode cX0_withBees 41 = .ok (.lstore_n 3, 1) := by decide +kernel
theorem dX0_withBees_42 : decode cX0_withBees 42 = .ok (.lload_n 3, 1) := by decide +kernel
theorem dX0_withBees_43 : decode cX0_withBees 43 = .ok (.ldc2_w 163, 3) := by decide +kernel
theorem dX0_withBees_46 : decode cX0_withBees 46 = .ok (.lmul, 1) := by decide +kernel
theorem dX0_withBees_47 : decode cX0_withBees 47 = .ok (.aload_n 0, 1) := by decide +kernel
theorem dX0_withBees_48 : decode cX0_withBees 48 = .ok (.iload 5, 2) := by decide +kernel
theorem dX0_withBees_50 : decode cX0_withBees 50 = .ok (.invokevirtual 204, 3) := by decide +kernel
theorem dX0_withBees_53 : decode cX0_withBees 53 = .ok (.i2l, 1) := by decide +kernel
theorem dX0_withBees_54 : decode cX0_withBees 54 = .ok (.ladd, 1) := by decide +kernel
theorem dX0_withBees_55 : decode cX0_withBees 55 = .ok (.lstore_n 3, 1) := by decide +kernel
theorem dX0_withBees_56 : decode cX0_withBees 56 = .ok (.iinc 5 1, 3) := by decide +kernel
theorem dX0_withBees_59 : decode cX0_withBees 59 = .ok (.goto (-54), 3) := by decide +kernel
theorem dX0_withBees_62 : decode cX0_withBees 62 = .ok (.lload_n 3, 1) := by decide +kernel
theorem dX0_withBees_63 : decode cX0_withBees 63 = .ok (.lreturn, 1) := by decide +kernel
end
section
theorem dX1_init_0 : decode cX1_init 0 = .ok (.aload_n 0, 1) := by decide +kernel
theorem dX1_init_1 : decode cX1_init 1 = .ok (.invokespecial 1, 3) := by decide +kernel
theorem dX1_init_4 : decode cX1_init 4 = .ok (.aload_n 0, 1) := by decide +kernel
theorem dX1_init_5 : decode cX1_init 5 = .ok (.iconst 0, 1) := by decide +kernel
theorem dX1_init_6 : decode cX1_init 6 = .ok (.newarray .int, 2) := by decide +kernel
theorem dX1_init_8 : decode cX1_init 8 = .ok (.putfield 7, 3) := by decide +kernel
theorem dX1_init_11 : decode cX1_init 11 = .ok (.aload_n 0, 1) := by decide +kernel
theorem dX1_init_12 : decode cX1_init 12 = .ok (.iconst 0, 1) := by decide +kernel
theorem dX1_init_13 : decode cX1_init 13 = .ok (.anewarray 13, 3) := by decide +kernel
theorem dX1_init_16 : decode cX1_init 16 = .ok (.putfield 14, 3) := by decide +kernel
theorem dX1_init_19 : decode cX1_init 19 = .ok (.aload_n 0, 1) := by decide +kernel
theorem dX1_init_20 : decode cX1_init 20 = .ok (.iconst 0, 1) := by decide +kernel
theorem dX1_init_21 : decode cX1_init 21 = .ok (.anewarray 13, 3) := by decide +kernel
theorem dX1_init_24 : decode cX1_init 24 = .ok (.putfield 18, 3) := by decide +kernel
theorem dX1_init_27 : decode cX1_init 27 = .ok (.aload_n 0, 1) := by decide +kernel
theorem dX1_init_28 : decode cX1_init 28 = .ok (.bipush 20, 2) := by decide +kernel
theorem dX1_init_30 : decode cX1_init 30 = .ok (.putfield 21, 3) := by decide +kernel
theorem dX1_init_33 : decode cX1_init 33 = .ok (.aload_n 0, 1) := by decide +kernel
theorem dX1_init_34 : decode cX1_init 34 = .ok (.iconst 1, 1) := by decide +kernel
theorem dX1_init_35 : decode cX1_init 35 = .ok (.putfield 25, 3) := by decide +kernel
theorem dX1_init_38 : decode cX1_init 38 = .ok (.aload_n 0, 1) := by decide +kernel
theorem dX1_init_39 : decode cX1_init 39 = .ok (.iconst 3, 1) := by decide +kernel
theorem dX1_init_40 : decode cX1_init 40 = .ok (.putfield 28, 3) := by decide +kernel
theorem dX1_init_43 : decode cX1_init 43 = .ok (.return_, 1) := by decide +kernel
theorem dX1_with_0 : decode cX1_with 0 = .ok (.aload_n 0, 1) := by decide +kernel
theorem dX1_with_1 : decode cX1_with 1 = .ok (.arraylength, 1) := by decide +kernel
theorem dX1_with_2 : decode cX1_with 2 = .ok (.iconst 1, 1) := by decide +kernel
theorem dX1_with_3 : decode cX1_with 3 = .ok (.iadd, 1) := by decide +kernel
theorem dX1_with_4 : decode cX1_with 4 = .ok (.anewarray 13, 3) := by decide +kernel
theorem dX1_with_7 : decode cX1_with 7 = .ok (.astore_n 2, 1) := by decide +kernel
theorem dX1_with_8 : decode cX1_with 8 = .ok (.iconst 0, 1) := by decide +kernel
theorem dX1_with_9 : decode cX1_with 9 = .ok (.istore_n 3, 1) := by decide +kernel
theorem dX1_with_10 : decode cX1_with 10 = .ok (.iload_n 3, 1) := by decide +kernel
theorem dX1_with_11 : decode cX1_with 11 = .ok (.aload_n 0, 1) := by decide +kernel
theorem dX1_with_12 : decode cX1_with 12 = .ok (.arraylength, 1) := by decide +kernel
theorem dX1_with_13 : decode cX1_with 13 = .ok (.if_icmp .ge 15, 3) := by decide +kernel
theorem dX1_with_16 : decode cX1_with 16 = .ok (.aload_n 2, 1) := by decide +kernel
theorem dX1_with_17 : decode cX1_with 17 = .ok (.iload_n 3, 1) := by decide +kernel
theorem dX1_with_18 : decode cX1_with 18 = .ok (.aload_n 0, 1) := by decide +kernel
theorem dX1_with_19 : decode cX1_with 19 = .ok (.iload_n 3, 1) := by decide +kernel
theorem dX1_with_20 : decode cX1_with 20 = .ok (.aaload, 1) := by decide +kernel
theorem dX1_with_21 : decode cX1_with 21 = .ok (.aastore, 1) := by decide +kernel
theorem dX1_with_22 : decode cX1_with 22 = .ok (.iinc 3 1, 3) := by decide +kernel
theorem dX1_with_25 : decode cX1_with 25 = .ok (.goto (-15), 3) := by decide +kernel
theorem dX1_with_28 : decode cX1_with 28 = .ok (.aload_n 2, 1) := by decide +kernel
theorem dX1_with_29 : decode cX1_with 29 = .ok (.aload_n 0, 1) := by decide +kernel
theorem dX1_with_30 : decode cX1_with 30 = .ok (.arraylength, 1) := by decide +kernel
theorem dX1_with_31 : decode cX1_with 31 = .ok (.aload_n 1, 1) := by decide +kernel
theorem dX1_with_32 : decode cX1_with 32 = .ok (.aastore, 1) := by decide +kernel
theorem dX1_with_33 : decode cX1_with 33 = .ok (.aload_n 2, 1) := by decide +kernel
theorem dX1_with_34 : decode cX1_with 34 = .ok (.areturn, 1) := by decide +kernel
set_option maxRecDepth 20000 in
theorem ggX1_without_X1_with : GoodIn wsX1_without wsX1_with := goodIn_r _ [5, 1] (by decide +kernel) (by decide +kernel)
set_option maxRecDepth 20000 in
theorem gX1_without_X1_with : GoodIn wsX1_without (va_wsS RX1 31 yX1_with wsX1_with) := goodIn_app (goodIn_of _ (by decide +kernel)) ggX1_without_X1_with
theorem dX1_without_0 : decode cX1_without 0 = .ok (.iconst 0, 1) := by decide +kernel
theorem dX1_without_1 : decode cX1_without 1 = .ok (.anewarray 13, 3) := by decide +kernel
theorem dX1_without_4 : decode cX1_without 4 = .ok (.astore_n 2, 1) := by decide +kernel
theorem dX1_without_5 : decode cX1_without 5 = .ok (.iconst 0, 1) := by decide +kernel
theorem dX1_without_6 : decode cX1_without 6 = .ok (.istore_n 3, 1) := by decide +kernel
theorem dX1_without_7 : decode cX1_without 7 = .ok (.iload_n 3, 1) := by decide +kernel
theorem dX1_without_8 : decode cX1_without 8 = .ok (.aload_n 0, 1) := by decide +kernel
theorem dX1_without_9 : decode cX1_without 9 = .ok (.arraylength, 1) := by decide +kernel
theorem dX1_without_10 : decode cX1_without 10 = .ok (.if_icmp .ge 22, 3) := by decide +kernel
theorem dX1_without_13 : decode cX1_without 13 = .ok (.iload_n 3, 1) := by decide +kernel
theorem dX1_without_14 : decode cX1_without 14 = .ok (.iload_n 1, 1) := by decide +kernel
theorem dX1_without_15 : decode cX1_without 15 = .ok (.if_icmp .eq 11, 3) := by decide +kernel
theorem dX1_without_18 : decode cX1_without 18 = .ok (.aload_n 2, 1) := by decide +kernel
theorem dX1_without_19 : decode cX1_without 19 = .ok (.aload_n 0, 1) := by decide +kernel
theorem dX1_without_20 : decode cX1_without 20 = .ok (.iload_n 3, 1) := by decide +kernel
theorem dX1_without_21 : decode cX1_without 21 = .ok (.aaload, 1) := by decide +kernel
theorem dX1_without_22 : decode cX1_without 22 = .ok (.invokestatic 31, 3) := by decide +kernel
theorem dX1_without_25 : decode cX1_without 25 = .ok (.astore_n 2, 1) := by decide +kernel
theorem dX1_without_26 : decode cX1_without 26 = .ok (.iinc 3 1, 3) := by decide +kernel
theorem dX1_without_29 : decode cX1_without 29 = .ok (.goto (-22), 3) := by decide +kernel
theorem dX1_without_32 : decode cX1_without 32 = .ok (.aload_n 2, 1) := by decide +kernel
theorem dX1_without_33 : decode cX1_without 33 = .ok (.areturn, 1) := by decide +kernel
theorem dX1_addStick_0 : decode cX1_addStick 0 = .ok (.aload_n 0, 1) := by decide +kernel
theorem dX1_addStick_1 : decode cX1_addStick 1 = .ok (.getfield 7, 3) := by decide +kernel
theorem dX1_addStick_4 : decode cX1_addStick 4 = .ok (.arraylength, 1) := by decide +kernel
theorem dX1_addStick_5 : decode cX1_addStick 5 = .ok (.iconst 1, 1) := by decide +kernel
theorem dX1_addStick_6 : decode cX1_addStick 6 = .ok (.iadd, 1) := by decide +kernel
theorem dX1_addStick_7 : decode cX1_addStick 7 = .ok (.newarray .int, 2) := by decide +kernel
theorem dX1_addStick_9 : decode cX1_addStick 9 = .ok (.astore_n 2, 1) := by decide +kernel
theorem dX1_addStick_10 : decode cX1_addStick 10 = .ok (.iconst 0, 1) := by decide +kernel
theorem dX1_addStick_11 : decode cX1_addStick 11 = .ok (.istore_n 3, 1) := by decide +kernel
theorem dX1_addStick_12 : decode cX1_addStick 12 = .ok (.iload_n 3, 1) := by decide +kernel
theorem dX1_addStick_13 : decode cX1_addStick 13 = .ok (.aload_n 0, 1) := by decide +kernel
theorem dX1_addStick_14 : decode cX1_addStick 14 = .ok (.getfield 7, 3) := by decide +kernel
theorem dX1_addStick_17 : decode cX1_addStick 17 = .ok (.arraylength, 1) := by decide +kernel
theorem dX1_addStick_18 : decode cX1_addStick 18 = .ok (.if_icmp .ge 18, 3) := by decide +kernel
theorem dX1_addStick_21 : decode cX1_addStick 21 = .ok (.aload_n 2, 1) := by decide +kernel
theorem dX1_addStick_22 : decode cX1_addStick 22 = .ok (.iload_n 3, 1) := by decide +kernel
theorem dX1_addStick_23 : decode cX1_addStick 23 = .ok (.aload_n 0, 1) := by decide +kernel
theorem dX1_addStick_24 : decode cX1_addStick 24 = .ok (.getfield 7, 3) := by decide +kernel
theorem dX1_addStick_27 : decode cX1_addStick 27 = .ok (.iload_n 3, 1) := by decide +kernel
theorem dX1_addStick_28 : decode cX1_addStick 28 = .ok (.iaload, 1) := by decide +kernel
theorem dX1_addStick_29 : decode cX1_addStick 29 = .ok (.iastore, 1) := by decide +kernel
theorem dX1_addStick_30 : decode cX1_addStick 30 = .ok (.iinc 3 1, 3) := by decide +kernel
theorem dX1_addStick_33 : decode cX1_addStick 33 = .ok (.goto (-21), 3) := by decide +kernel
theorem dX1_addStick_36 : decode cX1_addStick 36 = .ok (.aload_n 2, 1) := by decide +kernel
theorem dX1_addStick_37 : decode cX1_addStick 37 = .ok (.aload_n 0, 1) := by decide +kernel
theorem dX1_addStick_38 : decode cX1_addStick 38 = .ok (.getfield 7, 3) := by decide +kernel
theorem dX1_addStick_41 : decode cX1_addStick 41 = .ok (.arraylength, 1) := by decide +kernel
theorem dX1_addStick_42 : decode cX1_addStick 42 = .ok (.iload_n 1, 1) := by decide +kernel
theorem dX1_addStick_43 : decode cX1_addStick 43 = .ok (.iastore, 1) := by decide +kernel
theorem dX1_addStick_44 : decode cX1_addStick 44 = .ok (.aload_n 0, 1) := by decide +kernel
theorem dX1_addStick_45 : decode cX1_addStick 45 = .ok (.aload_n 2, 1) := by decide +kernel
theorem dX1_addStick_46 : decode cX1_addStick 46 = .ok (.putfield 7, 3) := by decide +kernel
theorem dX1_addStick_49 : decode cX1_addStick 49 = .ok (.return_, 1) := by decide +kernel
theorem dX1_napsAt_0 : decode cX1_napsAt 0 = .ok (.iconst 0, 1) := by decide +kernel
theorem dX1_napsAt_1 : decode cX1_napsAt 1 = .ok (.istore_n 3, 1) := by decide +kernel
theorem dX1_napsAt_2 : decode cX1_napsAt 2 = .ok (.iconst 0, 1) := by decide +kernel
theorem dX1_napsAt_3 : decode cX1_napsAt 3 = .ok (.istore 4, 2) := by decide +kernel
theorem dX1_napsAt_5 : decode cX1_napsAt 5 = .ok (.iload 4, 2) := by decide +kernel
theorem dX1_napsAt_7 : decode cX1_napsAt 7 = .ok (.aload_n 0, 1) := by decide +kernel
theorem dX1_napsAt_8 : decode cX1_napsAt 8 = .ok (.getfield 14, 3) := by decide +kernel
theorem dX1_napsAt_11 : decode cX1_napsAt 11 = .ok (.arraylength, 1) := by decide +kernel
theorem dX1_napsAt_12 : decode cX1_napsAt 12 = .ok (.if_icmp .ge 49, 3) := by decide +kernel
theorem dX1_napsAt_15 : decode cX1_napsAt 15 = .ok (.iload_n 3, 1) := by decide +kernel
theorem dX1_napsAt_16 : decode cX1_napsAt 16 = .ok (.iload 4, 2) := by decide +kernel
theorem dX1_napsAt_18 : decode cX1_napsAt 18 = .ok (.iload_n 2, 1) := by decide +kernel
theorem dX1_napsAt_19 : decode cX1_napsAt 19 = .ok (.if_icmp .eq 33, 3) := by decide +kernel
theorem dX1_napsAt_22 : decode cX1_napsAt 22 = .ok (.iload_n 1, 1) := by decide +kernel
theorem dX1_napsAt_23 : decode cX1_napsAt 23 = .ok (.aload_n 0, 1) := by decide +kernel
theorem dX1_napsAt_24 : decode cX1_napsAt 24 = .ok (.getfield 14, 3) := by decide +kernel
theorem dX1_napsAt_27 : decode cX1_napsAt 27 = .ok (.iload 4, 2) := by decide +kernel
theorem dX1_napsAt_29 : decode cX1_napsAt 29 = .ok (.aaload, 1) := by decide +kernel
theorem dX1_napsAt_30 : decode cX1_napsAt 30 = .ok (.iconst 0, 1) := by decide +kernel
theorem dX1_napsAt_31 : decode cX1_napsAt 31 = .ok (.iaload, 1) := by decide +kernel
theorem dX1_napsAt_32 : decode cX1_napsAt 32 = .ok (.if_icmp .lt 20, 3) := by decide +kernel
theorem dX1_napsAt_35 : decode cX1_napsAt 35 = .ok (.iload_n 1, 1) := by decide +kernel
theorem dX1_napsAt_36 : decode cX1_napsAt 36 = .ok (.aload_n 0, 1) := by decide +kernel
theorem dX1_napsAt_37 : decode cX1_napsAt 37 = .ok (.getfield 14, 3) := by decide +kernel
theorem dX1_napsAt_40 : decode cX1_napsAt 40 = .ok (.iload 4, 2) := by decide +kernel
theorem dX1_napsAt_42 : decode cX1_napsAt 42 = .ok (.aaload, 1) := by decide +kernel
theorem dX1_napsAt_43 : decode cX1_napsAt 43 = .ok (.iconst 1, 1) := by decide +kernel
theorem dX1_napsAt_44 : decode cX1_napsAt 44 = .ok (.iaload, 1) := by decide +kernel
theorem dX1_napsAt_45 : decode cX1_napsAt 45 = .ok (.if_icmp .ge 7, 3) := by decide +kernel
theorem dX1_napsAt_48 : decode cX1_napsAt 48 = .ok (.iconst 1, 1) := by decide +kernel
theorem dX1_napsAt_49 : decode cX1_napsAt 49 = .ok (.goto 4, 3) := by decide +kernel
theorem dX1_napsAt_52 : decode cX1_napsAt 52 = .ok (.iconst 0, 1) := by decide +kernel
theorem dX1_napsAt_53 : decode cX1_napsAt 53 = .ok (.iadd, 1) := by decide +kernel
theorem dX1_napsAt_54 : decode cX1_napsAt 54 = .ok (.istore_n 3, 1) := by decide +kernel
theorem dX1_napsAt_55 : decode cX1_napsAt 55 = .ok (.iinc 4 1, 3) := by decide +kernel
theorem dX1_napsAt_58 : decode cX1_napsAt 58 = .ok (.goto (-53), 3) := by decide +kernel
theorem dX1_napsAt_61 : decode cX1_napsAt 61 = .ok (.iload_n 3, 1) := by decide +kernel
theorem dX1_napsAt_62 : decode cX1_napsAt 62 = .ok (.ireturn, 1) := by decide +kernel
set_option maxRecDepth 20000 in
theorem ggX1_awake_X1_napsAt : GoodIn wsX1_awake wsX1_napsAt := goodIn_r _ [5, 6, 7, 8, 9, 10, 11, 12, 13, 14, 15, 16] (by decide +kernel) (by decide +kernel)
set_option maxRecDepth 20000 in
theorem gX1_awake_X1_napsAt : GoodIn wsX1_awake (wsV RX1 48 RX1 yX1_napsAt wsX1_napsAt) := goodIn_app (goodIn_of _ (by decide +kernel)) ggX1_awake_X1_napsAt
theorem dX1_awake_0 : decode cX1_awake 0 = .ok (.iconst 0, 1) := by decide +kernel
theorem dX1_awake_1 : decode cX1_awake 1 = .ok (.istore_n 3, 1) := by decide +kernel
theorem dX1_awake_2 : decode cX1_awake 2 = .ok (.iconst 0, 1) := by decide +kernel
theorem dX1_awake_3 : decode cX1_awake 3 = .ok (.istore 4, 2) := by decide +kernel
theorem dX1_awake_5 : decode cX1_awake 5 = .ok (.iload 4, 2) := by decide +kernel
theorem dX1_awake_7 : decode cX1_awake 7 = .ok (.iload_n 1, 1) := by decide +kernel
theorem dX1_awake_8 : decode cX1_awake 8 = .ok (.if_icmp .ge 27, 3) := by decide +kernel
theorem dX1_awake_11 : decode cX1_awake 11 = .ok (.iload_n 3, 1) := by decide +kernel
theorem dX1_awake_12 : decode cX1_awake 12 = .ok (.aload_n 0, 1) := by decide +kernel
theorem dX1_awake_13 : decode cX1_awake 13 = .ok (.iload 4, 2) := by decide +kernel
theorem dX1_awake_15 : decode cX1_awake 15 = .ok (.iload_n 2, 1) := by decide +kernel
theorem dX1_awake_16 : decode cX1_awake 16 = .ok (.invokevirtual 48, 3) := by decide +kernel
theorem dX1_awake_19 : decode cX1_awake 19 = .ok (.ifCond .ne 7, 3) := by decide +kernel
theorem dX1_awake_22 : decode cX1_awake 22 = .ok (.iconst 1, 1) := by decide +kernel
theorem dX1_awake_23 : decode cX1_awake 23 = .ok (.goto 4, 3) := by decide +kernel
theorem dX1_awake_26 : decode cX1_awake 26 = .ok (.iconst 0, 1) := by decide +kernel
theorem dX1_awake_27 : decode cX1_awake 27 = .ok (.iadd, 1) := by decide +kernel
theorem dX1_awake_28 : decode cX1_awake 28 = .ok (.istore_n 3, 1) := by decide +kernel
theorem dX1_awake_29 : decode cX1_awake 29 = .ok (.iinc 4 1, 3) := by decide +kernel
theorem dX1_awake_32 : decode cX1_awake 32 = .ok (.goto (-27), 3) := by decide +kernel
theorem dX1_awake_35 : decode cX1_awake 35 = .ok (.iload_n 3, 1) := by decide +kernel
theorem dX1_awake_36 : decode cX1_awake 36 = .ok (.ireturn, 1) := by decide +kernel
set_option maxRecDepth 20000 in
theorem ggX1_ticks_X1_napsAt : GoodIn wsX1_ticks wsX1_napsAt := goodIn_r _ [6, 7, 8, 9, 10, 11, 12, 13, 14, 15, 16, 17] (by decide +kernel) (by decide +kernel)
set_option maxRecDepth 20000 in
theorem gX1_ticks_X1_napsAt : GoodIn wsX1_ticks (wsV RX1 48 RX1 yX1_napsAt wsX1_napsAt) := goodIn_app (goodIn_of _ (by decide +kernel)) ggX1_ticks_X1_napsAt
theorem dX1_ticks_0 : decode cX1_ticks 0 = .ok (.aload_n 0, 1) := by decide +kernel
theorem dX1_ticks_1 : decode cX1_ticks 1 = .ok (.iload_n 2, 1) := by decide +kernel
theorem dX1_ticks_2 : decode cX1_ticks 2 = .ok (.iconst (-1), 1) := by decide +kernel
theorem dX1_ticks_3 : decode cX1_ticks 3 = .ok (.invokevirtual 48, 3) := by decide +kernel
theorem dX1_ticks_6 : decode cX1_ticks 6 = .ok (.ifCond .ne 41, 3) := by decide +kernel
theorem dX1_ticks_9 : decode cX1_ticks 9 = .ok (.iload_n 2, 1) := by decide +kernel
theorem dX1_ticks_10 : decode cX1_ticks 10 = .ok (.aload_n 0, 1) := by decide +kernel
theorem dX1_ticks_11 : decode cX1_ticks 11 = .ok (.getfield 18, 3) := by decide +kernel
theorem dX1_ticks_14 : decode cX1_ticks 14 = .ok (.iload_n 1, 1) := by decide +kernel
theorem dX1_ticks_15 : decode cX1_ticks 15 = .ok (.aaload, 1) := by decide +kernel
theorem dX1_ticks_16 : decode cX1_ticks 16 = .ok (.iconst 1, 1) := by decide +kernel
theorem dX1_ticks_17 : decode cX1_ticks 17 = .ok (.iaload, 1) := by decide +kernel
theorem dX1_ticks_18 : decode cX1_ticks 18 = .ok (.isub, 1) := by decide +kernel
theorem dX1_ticks_19 : decode cX1_ticks 19 = .ok (.aload_n 0, 1) := by decide +kernel
theorem dX1_ticks_20 : decode cX1_ticks 20 = .ok (.getfield 18, 3) := by decide +kernel
theorem dX1_ticks_23 : decode cX1_ticks 23 = .ok (.iload_n 1, 1) := by decide +kernel
theorem dX1_ticks_24 : decode cX1_ticks 24 = .ok (.aaload, 1) := by decide +kernel
theorem dX1_ticks_25 : decode cX1_ticks 25 = .ok (.iconst 0, 1) := by decide +kernel
theorem dX1_ticks_26 : decode cX1_ticks 26 = .ok (.iaload, 1) := by decide +kernel
theorem dX1_ticks_27 : decode cX1_ticks 27 = .ok (.irem, 1) := by decide +kernel
theorem dX1_ticks_28 : decode cX1_ticks 28 = .ok (.ifCond .ne 19, 3) := by decide +kernel
theorem dX1_ticks_31 : decode cX1_ticks 31 = .ok (.iload_n 2, 1) := by decide +kernel
theorem dX1_ticks_32 : decode cX1_ticks 32 = .ok (.aload_n 0, 1) := by decide +kernel
theorem dX1_ticks_33 : decode cX1_ticks 33 = .ok (.getfield 18, 3) := by decide +kernel
theorem dX1_ticks_36 : decode cX1_ticks 36 = .ok (.iload_n 1, 1) := by decide +kernel
theorem dX1_ticks_37 : decode cX1_ticks 37 = .ok (.aaload, 1) := by decide +kernel
theorem dX1_ticks_38 : decode cX1_ticks 38 = .ok (.iconst 1, 1) := by decide +kernel
theorem dX1_ticks_39 : decode cX1_ticks 39 = .ok (.iaload, 1) := by decide +kernel
theorem dX1_ticks_40 : decode cX1_ticks 40 = .ok (.if_icmp .lt 7, 3) := by decide +kernel
theorem dX1_ticks_43 : decode cX1_ticks 43 = .ok (.iconst 1, 1) := by decide +kernel
theorem dX1_ticks_44 : decode cX1_ticks 44 = .ok (.goto 4, 3) := by decide +kernel
theorem dX1_ticks_47 : decode cX1_ticks 47 = .ok (.iconst 0, 1) := by decide +kernel
theorem dX1_ticks_48 : decode cX1_ticks 48 = .ok (.ireturn, 1) := by decide +kernel
set_option maxRecDepth 20000 in
theorem ggX1_ticked_X1_napsAt : GoodIn wsX1_ticked wsX1_napsAt := goodIn_r _ [7, 8, 9, 10, 11, 12, 13, 14, 15, 16, 17, 18] (by decide +kernel) (by decide +kernel)
set_option maxRecDepth 20000 in
theorem gX1_ticked_X1_napsAt : GoodIn wsX1_ticked (wsV RX1 48 RX1 yX1_napsAt wsX1_napsAt) := goodIn_app (goodIn_of _ (by decide +kernel)) ggX1_ticked_X1_napsAt
theorem dX1_ticked_0 : decode cX1_ticked 0 = .ok (.iconst 0, 1) := by decide +kernel
theorem dX1_ticked_1 : decode cX1_ticked 1 = .ok (.istore_n 2, 1) := by decide +kernel
theorem dX1_ticked_2 : decode cX1_ticked 2 = .ok (.aload_n 0, 1) := by decide +kernel
theorem dX1_ticked_3 : decode cX1_ticked 3 = .ok (.getfield 18, 3) := by decide +kernel
theorem dX1_ticked_6 : decode cX1_ticked 6 = .ok (.iload_n 1, 1) := by decide +kernel
theorem dX1_ticked_7 : decode cX1_ticked 7 = .ok (.aaload, 1) := by decide +kernel
theorem dX1_ticked_8 : decode cX1_ticked 8 = .ok (.iconst 1, 1) := by decide +kernel
theorem dX1_ticked_9 : decode cX1_ticked 9 = .ok (.iaload, 1) := by decide +kernel
theorem dX1_ticked_10 : decode cX1_ticked 10 = .ok (.istore_n 3, 1) := by decide +kernel
theorem dX1_ticked_11 : decode cX1_ticked 11 = .ok (.iload_n 3, 1) := by decide +kernel
theorem dX1_ticked_12 : decode cX1_ticked 12 = .ok (.aload_n 0, 1) := by decide +kernel
theorem dX1_ticked_13 : decode cX1_ticked 13 = .ok (.getfield 39, 3) := by decide +kernel
theorem dX1_ticked_16 : decode cX1_ticked 16 = .ok (.if_icmp .ge 34, 3) := by decide +kernel
theorem dX1_ticked_19 : decode cX1_ticked 19 = .ok (.iload_n 2, 1) := by decide +kernel
theorem dX1_ticked_20 : decode cX1_ticked 20 = .ok (.aload_n 0, 1) := by decide +kernel
theorem dX1_ticked_21 : decode cX1_ticked 21 = .ok (.iload_n 3, 1) := by decide +kernel
theorem dX1_ticked_22 : decode cX1_ticked 22 = .ok (.iconst (-1), 1) := by decide +kernel
theorem dX1_ticked_23 : decode cX1_ticked 23 = .ok (.invokevirtual 48, 3) := by decide +kernel
theorem dX1_ticked_26 : decode cX1_ticked 26 = .ok (.ifCond .ne 7, 3) := by decide +kernel
theorem dX1_ticked_29 : decode cX1_ticked 29 = .ok (.iconst 1, 1) := by decide +kernel
theorem dX1_ticked_30 : decode cX1_ticked 30 = .ok (.goto 4, 3) := by decide +kernel
theorem dX1_ticked_33 : decode cX1_ticked 33 = .ok (.iconst 0, 1) := by decide +kernel
theorem dX1_ticked_34 : decode cX1_ticked 34 = .ok (.iadd, 1) := by decide +kernel
theorem dX1_ticked_35 : decode cX1_ticked 35 = .ok (.istore_n 2, 1) := by decide +kernel
theorem dX1_ticked_36 : decode cX1_ticked 36 = .ok (.iload_n 3, 1) := by decide +kernel
theorem dX1_ticked_37 : decode cX1_ticked 37 = .ok (.aload_n 0, 1) := by decide +kernel
theorem dX1_ticked_38 : decode cX1_ticked 38 = .ok (.getfield 18, 3) := by decide +kernel
theorem dX1_ticked_41 : decode cX1_ticked 41 = .ok (.iload_n 1, 1) := by decide +kernel
theorem dX1_ticked_42 : decode cX1_ticked 42 = .ok (.aaload, 1) := by decide +kernel
theorem dX1_ticked_43 : decode cX1_ticked 43 = .ok (.iconst 0, 1) := by decide +kernel
theorem dX1_ticked_44 : decode cX1_ticked 44 = .ok (.iaload, 1) := by decide +kernel
theorem dX1_ticked_45 : decode cX1_ticked 45 = .ok (.iadd, 1) := by decide +kernel
theorem dX1_ticked_46 : decode cX1_ticked 46 = .ok (.istore_n 3, 1) := by decide +kernel
theorem dX1_ticked_47 : decode cX1_ticked 47 = .ok (.goto (-36), 3) := by decide +kernel
theorem dX1_ticked_50 : decode cX1_ticked 50 = .ok (.iload_n 2, 1) := by decide +kernel
theorem dX1_ticked_51 : decode cX1_ticked 51 = .ok (.ireturn, 1) := by decide +kernel
set_option maxRecDepth 20000 in
theorem ggX1_pass_X1_napsAt : GoodIn wsX1_pass wsX1_napsAt := goodIn_r _ [12, 13, 18, 19, 20, 21, 22, 23, 24, 25, 26, 27] (by decide +kernel) (by decide +kernel)
set_option maxRecDepth 20000 in
theorem gX1_pass_X1_napsAt : GoodIn wsX1_pass (wsV RX1 48 RX1 yX1_napsAt wsX1_napsAt) := goodIn_app (goodIn_of _ (by decide +kernel)) ggX1_pass_X1_napsAt
set_option maxRecDepth 20000 in
theorem ggX1_pass_X1_ticks : GoodIn wsX1_pass wsX1_ticks := goodIn_r _ [17, 4, 8, 9, 10, 11, 12, 13, 18, 19, 20, 21, 22, 23, 24, 25, 26, 27] (by decide +kernel) (by decide +kernel)
set_option maxRecDepth 20000 in
theorem gX1_pass_X1_ticks : GoodIn wsX1_pass (wsV RX1 52 RX1 yX1_ticks wsX1_ticks) := goodIn_app (goodIn_of _ (by decide +kernel)) ggX1_pass_X1_ticks
theorem dX1_pass_0 : decode cX1_pass 0 = .ok (.iconst 0, 1) := by decide +kernel
theorem dX1_pass_1 : decode cX1_pass 1 = .ok (.istore_n 1, 1) := by decide +kernel
theorem dX1_pass_2 : decode cX1_pass 2 = .ok (.aload_n 0, 1) := by decide +kernel
theorem dX1_pass_3 : decode cX1_pass 3 = .ok (.aload_n 0, 1) := by decide +kernel
theorem dX1_pass_4 : decode cX1_pass 4 = .ok (.getfield 39, 3) := by decide +kernel
theorem dX1_pass_7 : decode cX1_pass 7 = .ok (.iconst (-1), 1) := by decide +kernel
theorem dX1_pass_8 : decode cX1_pass 8 = .ok (.invokevirtual 48, 3) := by decide +kernel
theorem dX1_pass_11 : decode cX1_pass 11 = .ok (.ifCond .ne 118, 3) := by decide +kernel
theorem dX1_pass_14 : decode cX1_pass 14 = .ok (.aload_n 0, 1) := by decide +kernel
theorem dX1_pass_15 : decode cX1_pass 15 = .ok (.dup, 1) := by decide +kernel
theorem dX1_pass_16 : decode cX1_pass 16 = .ok (.getfield 42, 3) := by decide +kernel
theorem dX1_pass_19 : decode cX1_pass 19 = .ok (.aload_n 0, 1) := by decide +kernel
theorem dX1_pass_20 : decode cX1_pass 20 = .ok (.getfield 25, 3) := by decide +kernel
theorem dX1_pass_23 : decode cX1_pass 23 = .ok (.iadd, 1) := by decide +kernel
theorem dX1_pass_24 : decode cX1_pass 24 = .ok (.putfield 42, 3) := by decide +kernel
theorem dX1_pass_27 : decode cX1_pass 27 = .ok (.iconst 0, 1) := by decide +kernel
theorem dX1_pass_28 : decode cX1_pass 28 = .ok (.istore_n 2, 1) := by decide +kernel
theorem dX1_pass_29 : decode cX1_pass 29 = .ok (.iload_n 2, 1) := by decide +kernel
theorem dX1_pass_30 : decode cX1_pass 30 = .ok (.aload_n 0, 1) := by decide +kernel
theorem dX1_pass_31 : decode cX1_pass 31 = .ok (.getfield 18, 3) := by decide +kernel
theorem dX1_pass_34 : decode cX1_pass 34 = .ok (.arraylength, 1) := by decide +kernel
theorem dX1_pass_35 : decode cX1_pass 35 = .ok (.if_icmp .ge 49, 3) := by decide +kernel
theorem dX1_pass_38 : decode cX1_pass 38 = .ok (.aload_n 0, 1) := by decide +kernel
theorem dX1_pass_39 : decode cX1_pass 39 = .ok (.iload_n 2, 1) := by decide +kernel
theorem dX1_pass_40 : decode cX1_pass 40 = .ok (.aload_n 0, 1) := by decide +kernel
theorem dX1_pass_41 : decode cX1_pass 41 = .ok (.getfield 39, 3) := by decide +kernel
theorem dX1_pass_44 : decode cX1_pass 44 = .ok (.invokevirtual 52, 3) := by decide +kernel
theorem dX1_pass_47 : decode cX1_pass 47 = .ok (.ifCond .eq 31, 3) := by decide +kernel
theorem dX1_pass_50 : decode cX1_pass 50 = .ok (.aload_n 0, 1) := by decide +kernel
theorem dX1_pass_51 : decode cX1_pass 51 = .ok (.aload_n 0, 1) := by decide +kernel
theorem dX1_pass_52 : decode cX1_pass 52 = .ok (.getfield 42, 3) := by decide +kernel
theorem dX1_pass_55 : decode cX1_pass 55 = .ok (.aload_n 0, 1) := by decide +kernel
theorem dX1_pass_56 : decode cX1_pass 56 = .ok (.getfield 28, 3) := by decide +kernel
theorem dX1_pass_59 : decode cX1_pass 59 = .ok (.if_icmp .ge 7, 3) := by decide +kernel
theorem dX1_pass_62 : decode cX1_pass 62 = .ok (.iconst 0, 1) := by decide +kernel
theorem dX1_pass_63 : decode cX1_pass 63 = .ok (.goto 12, 3) := by decide +kernel
theorem dX1_pass_66 : decode cX1_pass 66 = .ok (.aload_n 0, 1) := by decide +kernel
theorem dX1_pass_67 : decode cX1_pass 67 = .ok (.getfield 42, 3) := by decide +kernel
theorem dX1_pass_70 : decode cX1_pass 70 = .ok (.aload_n 0, 1) := by decide +kernel
theorem dX1_pass_71 : decode cX1_pass 71 = .ok (.getfield 28, 3) := by decide +kernel
theorem dX1_pass_74 : decode cX1_pass 74 = .ok (.isub, 1) := by decide +kernel
theorem dX1_pass_75 : decode cX1_pass 75 = .ok (.putfield 42, 3) := by decide +kernel
theorem dX1_pass_78 : decode cX1_pass 78 = .ok (.iinc 2 1, 3) := by decide +kernel
theorem dX1_pass_81 : decode cX1_pass 81 = .ok (.goto (-52), 3) := by decide +kernel
theorem dX1_pass_84 : decode cX1_pass 84 = .ok (.aload_n 0, 1) := by decide +kernel
theorem dX1_pass_85 : decode cX1_pass 85 = .ok (.getfield 42, 3) := by decide +kernel
theorem dX1_pass_88 : decode cX1_pass 88 = .ok (.aload_n 0, 1) := by decide +kernel
theorem dX1_pass_89 : decode cX1_pass 89 = .ok (.getfield 21, 3) := by decide +kernel
theorem dX1_pass_92 : decode cX1_pass 92 = .ok (.if_icmp .le 15, 3) := by decide +kernel
theorem dX1_pass_95 : decode cX1_pass 95 = .ok (.aload_n 0, 1) := by decide +kernel
theorem dX1_pass_96 : decode cX1_pass 96 = .ok (.getfield 42, 3) := by decide +kernel
theorem dX1_pass_99 : decode cX1_pass 99 = .ok (.aload_n 0, 1) := by decide +kernel
theorem dX1_pass_100 : decode cX1_pass 100 = .ok (.getfield 21, 3) := by decide +kernel
theorem dX1_pass_103 : decode cX1_pass 103 = .ok (.isub, 1) := by decide +kernel
theorem dX1_pass_104 : decode cX1_pass 104 = .ok (.goto 4, 3) := by decide +kernel
theorem dX1_pass_107 : decode cX1_pass 107 = .ok (.iconst 0, 1) := by decide +kernel
theorem dX1_pass_108 : decode cX1_pass 108 = .ok (.istore_n 1, 1) := by decide +kernel
theorem dX1_pass_109 : decode cX1_pass 109 = .ok (.aload_n 0, 1) := by decide +kernel
theorem dX1_pass_110 : decode cX1_pass 110 = .ok (.dup, 1) := by decide +kernel
theorem dX1_pass_111 : decode cX1_pass 111 = .ok (.getfield 42, 3) := by decide +kernel
theorem dX1_pass_114 : decode cX1_pass 114 = .ok (.iload_n 1, 1) := by decide +kernel
theorem dX1_pass_115 : decode cX1_pass 115 = .ok (.isub, 1) := by decide +kernel
theorem dX1_pass_116 : decode cX1_pass 116 = .ok (.putfield 42, 3) := by decide +kernel
theorem dX1_pass_119 : decode cX1_pass 119 = .ok (.aload_n 0, 1) := by decide +kernel
theorem dX1_pass_120 : decode cX1_pass 120 = .ok (.dup, 1) := by decide +kernel
theorem dX1_pass_121 : decode cX1_pass 121 = .ok (.getfield 45, 3) := by decide +kernel
theorem dX1_pass_124 : decode cX1_pass 124 = .ok (.iload_n 1, 1) := by decide +kernel
theorem dX1_pass_125 : decode cX1_pass 125 = .ok (.iadd, 1) := by decide +kernel
theorem dX1_pass_126 : decode cX1_pass 126 = .ok (.putfield 45, 3) := by decide +kernel
theorem dX1_pass_129 : decode cX1_pass 129 = .ok (.aload_n 0, 1) := by decide +kernel
theorem dX1_pass_130 : decode cX1_pass 130 = .ok (.dup, 1) := by decide +kernel
theorem dX1_pass_131 : decode cX1_pass 131 = .ok (.getfield 39, 3) := by decide +kernel
theorem dX1_pass_134 : decode cX1_pass 134 = .ok (.iconst 1, 1) := by decide +kernel
theorem dX1_pass_135 : decode cX1_pass 135 = .ok (.iadd, 1) := by decide +kernel
theorem dX1_pass_136 : decode cX1_pass 136 = .ok (.putfield 39, 3) := by decide +kernel
theorem dX1_pass_139 : decode cX1_pass 139 = .ok (.iload_n 1, 1) := by decide +kernel
theorem dX1_pass_140 : decode cX1_pass 140 = .ok (.ireturn, 1) := by decide +kernel
set_option maxRecDepth 20000 in
theorem ggX1_pass__X1_pass : GoodIn wsX1_pass_ wsX1_pass := goodIn_r _ [5, 6, 7, 8, 9, 10, 11, 12, 13, 14, 15, 4, 16, 17, 18, 19, 20, 21, 22, 23, 24, 25, 26, 27, 28, 29, 30, 31] (by decide +kernel) (by decide +kernel)
set_option maxRecDepth 20000 in
theorem gX1_pass__X1_pass : GoodIn wsX1_pass_ (wsV RX1 56 RX1 yX1_pass wsX1_pass) := goodIn_app (goodIn_of _ (by decide +kernel)) ggX1_pass__X1_pass
theorem dX1_pass__0 : decode cX1_pass_ 0 = .ok (.iconst 0, 1) := by decide +kernel
theorem dX1_pass__1 : decode cX1_pass_ 1 = .ok (.istore_n 2, 1) := by decide +kernel
theorem dX1_pass__2 : decode cX1_pass_ 2 = .ok (.iconst 0, 1) := by decide +kernel
theorem dX1_pass__3 : decode cX1_pass_ 3 = .ok (.istore_n 3, 1) := by decide +kernel
theorem dX1_pass__4 : decode cX1_pass_ 4 = .ok (.iload_n 3, 1) := by decide +kernel
theorem dX1_pass__5 : decode cX1_pass_ 5 = .ok (.iload_n 1, 1) := by decide +kernel
theorem dX1_pass__6 : decode cX1_pass_ 6 = .ok (.if_icmp .ge 16, 3) := by decide +kernel
theorem dX1_pass__9 : decode cX1_pass_ 9 = .ok (.iload_n 2, 1) := by decide +kernel
theorem dX1_pass__10 : decode cX1_pass_ 10 = .ok (.aload_n 0, 1) := by decide +kernel
theorem dX1_pass__11 : decode cX1_pass_ 11 = .ok (.invokevirtual 56, 3) := by decide +kernel
theorem dX1_pass__14 : decode cX1_pass_ 14 = .ok (.iadd, 1) := by decide +kernel
theorem dX1_pass__15 : decode cX1_pass_ 15 = .ok (.istore_n 2, 1) := by decide +kernel
theorem dX1_pass__16 : decode cX1_pass_ 16 = .ok (.iinc 3 1, 3) := by decide +kernel
theorem dX1_pass__19 : decode cX1_pass_ 19 = .ok (.goto (-15), 3) := by decide +kernel
theorem dX1_pass__22 : decode cX1_pass_ 22 = .ok (.iload_n 2, 1) := by decide +kernel
theorem dX1_pass__23 : decode cX1_pass_ 23 = .ok (.ireturn, 1) := by decide +kernel
set_option maxRecDepth 20000 in
theorem ggX1_isSame_X0_afternoon : GoodIn wsX1_isSame wsX0_afternoon := goodIn_r _ [16, 17, 196, 197, 198, 199, 200, 201, 202, 203, 204, 205, 206, 207, 208, 209, 210, 211, 212] (by decide +kernel) (by decide +kernel)
set_option maxRecDepth 20000 in
theorem gX1_isSame_X0_afternoon : GoodIn wsX1_isSame (wsV RX1 60 RX0 yX0_afternoon wsX0_afternoon) := goodIn_app (goodIn_of _ (by decide +kernel)) ggX1_isSame_X0_afternoon
set_option maxRecDepth 20000 in
theorem ggX1_isSame_X0_minute : GoodIn wsX1_isSame wsX0_minute := goodIn_r _ [21, 22, 196, 197, 198, 199, 200, 201, 202, 203, 204, 205, 206, 207, 208, 209, 210, 211, 212] (by decide +kernel) (by decide +kernel)
set_option maxRecDepth 20000 in
theorem gX1_isSame_X0_minute : GoodIn wsX1_isSame (wsV RX1 64 RX0 yX0_minute wsX0_minute) := goodIn_app (goodIn_of _ (by decide +kernel)) ggX1_isSame_X0_minute
set_option maxRecDepth 20000 in
theorem ggX1_isSame_X0_awakeMinutes : GoodIn wsX1_isSame wsX0_awakeMinutes := goodIn_r _ [26, 22, 27, 196, 197, 198, 199, 200, 201, 202, 203, 204, 205, 206, 207, 208, 209, 210, 211, 212] (by decide +kernel) (by decide +kernel)
set_option maxRecDepth 20000 in
theorem gX1_isSame_X0_awakeMinutes : GoodIn wsX1_isSame (wsV RX1 66 RX0 yX0_awakeMinutes wsX0_awakeMinutes) := goodIn_app (goodIn_of _ (by decide +kernel)) ggX1_isSame_X0_awakeMinutes
set_option maxRecDepth 20000 in
theorem ggX1_isSame_X1_awake : GoodIn wsX1_isSame wsX1_awake := goodIn_r _ [32, 33, 34, 35, 31, 36, 4, 186, 187, 188, 189, 190, 191, 192, 193, 194, 195] (by decide +kernel) (by decide +kernel)
set_option maxRecDepth 20000 in
theorem gX1_isSame_X1_awake : GoodIn wsX1_isSame (wsV RX1 69 RX1 yX1_awake wsX1_awake) := goodIn_app (goodIn_of _ (by decide +kernel)) ggX1_isSame_X1_awake
set_option maxRecDepth 20000 in
theorem ggX1_isSame_X0_sleptMinutes : GoodIn wsX1_isSame wsX0_sleptMinutes := goodIn_r _ [40, 22, 41, 24, 25, 15, 26, 27, 196, 197, 198, 199, 200, 201, 202, 203, 204, 205, 206, 207, 208, 209, 210, 211, 212] (by decide +kernel) (by decide +kernel)
set_option maxRecDepth 20000 in
theorem gX1_isSame_X0_sleptMinutes : GoodIn wsX1_isSame (wsV RX1 72 RX0 yX0_sleptMinutes wsX0_sleptMinutes) := goodIn_app (goodIn_of _ (by decide +kernel)) ggX1_isSame_X0_sleptMinutes
set_option maxRecDepth 20000 in
theorem ggX1_isSame_X0_sticks : GoodIn wsX1_isSame wsX0_sticks := goodIn_r _ [45, 46, 196, 197, 198, 199, 200, 201, 202, 203, 204, 205, 206, 207, 208, 209, 210, 211, 212] (by decide +kernel) (by decide +kernel)
set_option maxRecDepth 20000 in
theorem gX1_isSame_X0_sticks : GoodIn wsX1_isSame (wsV RX1 75 RX0 yX0_sticks wsX0_sticks) := goodIn_app (goodIn_of _ (by decide +kernel)) ggX1_isSame_X0_sticks
set_option maxRecDepth 20000 in
theorem ggX1_isSame_X0_naps : GoodIn wsX1_isSame wsX0_naps := goodIn_r _ [50, 51, 196, 197, 198, 199, 200, 201, 202, 203, 204, 205, 206, 207, 208, 209, 210, 211, 212] (by decide +kernel) (by decide +kernel)
set_option maxRecDepth 20000 in
theorem gX1_isSame_X0_naps : GoodIn wsX1_isSame (wsV RX1 77 RX0 yX0_naps wsX0_naps) := goodIn_app (goodIn_of _ (by decide +kernel)) ggX1_isSame_X0_naps
set_option maxRecDepth 20000 in
theorem ggX1_isSame_X0_bees : GoodIn wsX1_isSame wsX0_bees := goodIn_r _ [55, 56, 196, 197, 198, 199, 200, 201, 202, 203, 204, 205, 206, 207, 208, 209, 210, 211, 212] (by decide +kernel) (by decide +kernel)
set_option maxRecDepth 20000 in
theorem gX1_isSame_X0_bees : GoodIn wsX1_isSame (wsV RX1 79 RX0 yX0_bees wsX0_bees) := goodIn_app (goodIn_of _ (by decide +kernel)) ggX1_isSame_X0_bees
set_option maxRecDepth 20000 in
theorem ggX1_isSame_X0_tea : GoodIn wsX1_isSame wsX0_tea := goodIn_r _ [60, 61, 196, 197, 198, 199, 200, 201, 202, 203, 204, 205, 206, 207, 208, 209, 210, 211, 212] (by decide +kernel) (by decide +kernel)
set_option maxRecDepth 20000 in
theorem gX1_isSame_X0_tea : GoodIn wsX1_isSame (wsV RX1 81 RX0 yX0_tea wsX0_tea) := goodIn_app (goodIn_of _ (by decide +kernel)) ggX1_isSame_X0_tea
set_option maxRecDepth 20000 in
theorem ggX1_isSame_X0_spilt : GoodIn wsX1_isSame wsX0_spilt := goodIn_r _ [65, 66, 196, 197, 198, 199, 200, 201, 202, 203, 204, 205, 206, 207, 208, 209, 210, 211, 212] (by decide +kernel) (by decide +kernel)
set_option maxRecDepth 20000 in
theorem gX1_isSame_X0_spilt : GoodIn wsX1_isSame (wsV RX1 83 RX0 yX0_spilt wsX0_spilt) := goodIn_app (goodIn_of _ (by decide +kernel)) ggX1_isSame_X0_spilt
set_option maxRecDepth 20000 in
theorem ggX1_isSame_X1_napsAt : GoodIn wsX1_isSame wsX1_napsAt := goodIn_r _ [36, 4, 186, 187, 188, 189, 190, 191, 192, 193, 194, 195] (by decide +kernel) (by decide +kernel)
set_option maxRecDepth 20000 in
theorem gX1_isSame_X1_napsAt : GoodIn wsX1_isSame (wsV RX1 48 RX1 yX1_napsAt wsX1_napsAt) := goodIn_app (goodIn_of _ (by decide +kernel)) ggX1_isSame_X1_napsAt
set_option maxRecDepth 20000 in
theorem ggX1_isSame_X0_longestAwake : GoodIn wsX1_isSame wsX0_longestAwake := goodIn_r _ [70, 27, 71, 72, 10, 73, 196, 197, 198, 199, 200, 201, 202, 203, 204, 205, 206, 207, 208, 209, 210, 211, 212] (by decide +kernel) (by decide +kernel)
set_option maxRecDepth 20000 in
theorem gX1_isSame_X0_longestAwake : GoodIn wsX1_isSame (wsV RX1 85 RX0 yX0_longestAwake wsX0_longestAwake) := goodIn_app (goodIn_of _ (by decide +kernel)) ggX1_isSame_X0_longestAwake
set_option maxRecDepth 20000 in
theorem ggX1_isSame_X0_napsAt : GoodIn wsX1_isSame wsX0_napsAt := goodIn_ca (goodIn_r _ [77, 27, 78, 79, 80, 15, 81, 82, 83, 196, 197, 198, 199, 200, 201, 202, 203, 204, 205, 206, 207, 208, 209, 210, 211, 212] (by decide +kernel) (by decide +kernel)) (goodIn_sub (fun _ h => List.mem_cons_of_mem _ (List.mem_append_left _ (List.mem_append_right _ h))) (by decide +kernel))
set_option maxRecDepth 20000 in
theorem gX1_isSame_X0_napsAt : GoodIn wsX1_isSame (wsV RX1 88 RX0 yX0_napsAt wsX0_napsAt) := goodIn_app (goodIn_of _ (by decide +kernel)) ggX1_isSame_X0_napsAt
set_option maxRecDepth 20000 in
theorem ggX1_isSame_X0_isAsleep : GoodIn wsX1_isSame wsX0_isAsleep := goodIn_ca (goodIn_r _ [87, 27, 78, 79, 80, 15, 81, 82, 83, 196, 197, 198, 199, 200, 201, 202, 203, 204, 205, 206, 207, 208, 209, 210, 211, 212] (by decide +kernel) (by decide +kernel)) (goodIn_sub (fun _ h => List.mem_cons_of_mem _ (List.mem_append_left _ (List.mem_append_right _ h))) (by decide +kernel))
set_option maxRecDepth 20000 in
theorem gX1_isSame_X0_isAsleep : GoodIn wsX1_isSame (wsV RX1 91 RX0 yX0_isAsleep wsX0_isAsleep) := goodIn_app (goodIn_of _ (by decide +kernel)) ggX1_isSame_X0_isAsleep
set_option maxRecDepth 20000 in
theorem ggX1_isSame_X0_shadowAt : GoodIn wsX1_isSame wsX0_shadowAt := goodIn_ca (goodIn_ca (goodIn_r _ [91, 92, 93, 94, 15, 95, 96, 97, 46, 78, 79, 80, 81, 82, 83, 98, 99, 100, 101, 102, 196, 197, 198, 199, 200, 201, 202, 203, 204, 205, 206, 207, 208, 209, 210, 211, 212] (by decide +kernel) (by decide +kernel)) (goodIn_sub (fun _ h => List.mem_cons_of_mem _ (List.mem_append_right _ h)) (by decide +kernel))) (goodIn_sub (fun _ h => List.mem_cons_of_mem _ (List.mem_append_left _ (List.mem_append_right _ h))) (by decide +kernel))
set_option maxRecDepth 20000 in
theorem gX1_isSame_X0_shadowAt : GoodIn wsX1_isSame (wsV RX1 95 RX0 yX0_shadowAt wsX0_shadowAt) := goodIn_app (goodIn_of _ (by decide +kernel)) ggX1_isSame_X0_shadowAt
set_option maxRecDepth 20000 in
theorem ggX1_isSame_X0_allShadows : GoodIn wsX1_isSame wsX0_allShadows := goodIn_ca (goodIn_r _ [106, 78, 79, 80, 15, 81, 82, 83, 107, 108, 109, 110, 46, 98, 99, 100, 101, 102, 196, 197, 198, 199, 200, 201, 202, 203, 204, 205, 206, 207, 208, 209, 210, 211, 212] (by decide +kernel) (by decide +kernel)) (goodIn_sub (fun _ h => List.mem_cons_of_mem _ (List.mem_append_left _ (List.mem_append_right _ h))) (by decide +kernel))
set_option maxRecDepth 20000 in
theorem gX1_isSame_X0_allShadows : GoodIn wsX1_isSame (wsV RX1 98 RX0 yX0_allShadows wsX0_allShadows) := goodIn_app (goodIn_of _ (by decide +kernel)) ggX1_isSame_X0_allShadows
set_option maxRecDepth 20000 in
theorem ggX1_isSame_X0_meanLastShadow : GoodIn wsX1_isSame wsX0_meanLastShadow := goodIn_r _ [114, 46, 107, 108, 109, 15, 110, 98, 99, 100, 101, 102, 196, 197, 198, 199, 200, 201, 202, 203, 204, 205, 206, 207, 208, 209, 210, 211, 212] (by decide +kernel) (by decide +kernel)
set_option maxRecDepth 20000 in
theorem gX1_isSame_X0_meanLastShadow : GoodIn wsX1_isSame (wsV RX1 101 RX0 yX0_meanLastShadow wsX0_meanLastShadow) := goodIn_app (goodIn_of _ (by decide +kernel)) ggX1_isSame_X0_meanLastShadow
set_option maxRecDepth 20000 in
theorem ggX1_isSame_X0_startOf : GoodIn wsX1_isSame wsX0_startOf := goodIn_ca (goodIn_r _ [118, 119, 120, 121, 122, 15, 123, 96, 97, 51, 196, 197, 198, 199, 200, 201, 202, 203, 204, 205, 206, 207, 208, 209, 210, 211, 212] (by decide +kernel) (by decide +kernel)) (goodIn_sub (fun _ h => List.mem_cons_of_mem _ (List.mem_append_right _ h)) (by decide +kernel))
set_option maxRecDepth 20000 in
theorem gX1_isSame_X0_startOf : GoodIn wsX1_isSame (wsV RX1 105 RX0 yX0_startOf wsX0_startOf) := goodIn_app (goodIn_of _ (by decide +kernel)) ggX1_isSame_X0_startOf
set_option maxRecDepth 20000 in
theorem ggX1_isSame_X0_lengthOf : GoodIn wsX1_isSame wsX0_lengthOf := goodIn_ca (goodIn_r _ [127, 128, 119, 120, 121, 122, 15, 123, 96, 97, 51, 196, 197, 198, 199, 200, 201, 202, 203, 204, 205, 206, 207, 208, 209, 210, 211, 212] (by decide +kernel) (by decide +kernel)) (goodIn_sub (fun _ h => List.mem_cons_of_mem _ (List.mem_append_right _ h)) (by decide +kernel))
set_option maxRecDepth 20000 in
theorem gX1_isSame_X0_lengthOf : GoodIn wsX1_isSame (wsV RX1 108 RX0 yX0_lengthOf wsX0_lengthOf) := goodIn_app (goodIn_of _ (by decide +kernel)) ggX1_isSame_X0_lengthOf
set_option maxRecDepth 20000 in
theorem ggX1_isSame_X0_minutesAlone : GoodIn wsX1_isSame wsX0_minutesAlone := goodIn_ca (goodIn_r _ [132, 120, 121, 122, 15, 123, 96, 97, 51, 133, 134, 135, 136, 27, 137, 138, 139, 140, 119, 128, 196, 197, 198, 199, 200, 201, 202, 203, 204, 205, 206, 207, 208, 209, 210, 211, 212] (by decide +kernel) (by decide +kernel)) (goodIn_sub (fun _ h => List.mem_cons_of_mem _ (List.mem_append_right _ h)) (by decide +kernel))
set_option maxRecDepth 20000 in
theorem gX1_isSame_X0_minutesAlone : GoodIn wsX1_isSame (wsV RX1 111 RX0 yX0_minutesAlone wsX0_minutesAlone) := goodIn_app (goodIn_of _ (by decide +kernel)) ggX1_isSame_X0_minutesAlone
set_option maxRecDepth 20000 in
theorem ggX1_isSame_X1_ticked : GoodIn wsX1_isSame wsX1_ticked := goodIn_r _ [144, 5, 2, 33, 34, 35, 31, 36, 4, 186, 187, 188, 189, 190, 191, 192, 193, 194, 195] (by decide +kernel) (by decide +kernel)
set_option maxRecDepth 20000 in
theorem gX1_isSame_X1_ticked : GoodIn wsX1_isSame (wsV RX1 114 RX1 yX1_ticked wsX1_ticked) := goodIn_app (goodIn_of _ (by decide +kernel)) ggX1_isSame_X1_ticked
set_option maxRecDepth 20000 in
theorem ggX1_isSame_X0_ticksOf : GoodIn wsX1_isSame wsX0_ticksOf := goodIn_ca (goodIn_r _ [148, 149, 150, 151, 15, 152, 96, 97, 56, 153, 154, 155, 156, 22, 157, 158, 159, 160, 27, 161, 162, 163, 164, 165, 166, 196, 197, 198, 199, 200, 201, 202, 203, 204, 205, 206, 207, 208, 209, 210, 211, 212] (by decide +kernel) (by decide +kernel)) (goodIn_sub (fun _ h => List.mem_cons_of_mem _ (List.mem_append_right _ h)) (by decide +kernel))
set_option maxRecDepth 20000 in
theorem gX1_isSame_X0_ticksOf : GoodIn wsX1_isSame (wsV RX1 117 RX0 yX0_ticksOf wsX0_ticksOf) := goodIn_app (goodIn_of _ (by decide +kernel)) ggX1_isSame_X0_ticksOf
set_option maxRecDepth 20000 in
theorem ggX1_isSame_X0_measuredBy : GoodIn wsX1_isSame wsX0_measuredBy := goodIn_ca (goodIn_r _ [170, 165, 149, 150, 151, 15, 152, 96, 97, 56, 153, 154, 155, 156, 22, 157, 158, 159, 160, 27, 161, 162, 163, 164, 166, 196, 197, 198, 199, 200, 201, 202, 203, 204, 205, 206, 207, 208, 209, 210, 211, 212] (by decide +kernel) (by decide +kernel)) (goodIn_sub (fun _ h => List.mem_cons_of_mem _ (List.mem_append_right _ h)) (by decide +kernel))
set_option maxRecDepth 20000 in
theorem gX1_isSame_X0_measuredBy : GoodIn wsX1_isSame (wsV RX1 120 RX0 yX0_measuredBy wsX0_measuredBy) := goodIn_app (goodIn_of _ (by decide +kernel)) ggX1_isSame_X0_measuredBy
set_option maxRecDepth 20000 in
theorem ggX1_isSame_X0_errorOf : GoodIn wsX1_isSame wsX0_errorOf := goodIn_ca (goodIn_r _ [174, 175, 168, 169, 15, 170, 165, 149, 150, 151, 152, 96, 97, 56, 153, 154, 155, 156, 22, 157, 158, 159, 160, 27, 161, 162, 163, 164, 166, 41, 24, 25, 26, 196, 197, 198, 199, 200, 201, 202, 203, 204, 205, 206, 207, 208, 209, 210, 211, 212] (by decide +kernel) (by decide +kernel)) (goodIn_sub (fun _ h => List.mem_cons_of_mem _ (List.mem_append_right _ h)) (by decide +kernel))
set_option maxRecDepth 20000 in
theorem gX1_isSame_X0_errorOf : GoodIn wsX1_isSame (wsV RX1 123 RX0 yX0_errorOf wsX0_errorOf) := goodIn_app (goodIn_of _ (by decide +kernel)) ggX1_isSame_X0_errorOf
set_option maxRecDepth 20000 in
theorem ggX1_isSame_X0_bestToGiveUp : GoodIn wsX1_isSame wsX0_bestToGiveUp := goodIn_r _ [179, 51, 133, 134, 135, 15, 136, 27, 137, 138, 139, 140, 119, 128, 196, 197, 198, 199, 200, 201, 202, 203, 204, 205, 206, 207, 208, 209, 210, 211, 212] (by decide +kernel) (by decide +kernel)
set_option maxRecDepth 20000 in
theorem gX1_isSame_X0_bestToGiveUp : GoodIn wsX1_isSame (wsV RX1 131 RX0 yX0_bestToGiveUp wsX0_bestToGiveUp) := goodIn_app (goodIn_of _ (by decide +kernel)) ggX1_isSame_X0_bestToGiveUp
set_option maxRecDepth 20000 in
theorem ggX1_isSame_X0_bestBee : GoodIn wsX1_isSame wsX0_bestBee := goodIn_ca (goodIn_r _ [183, 56, 184, 9, 10, 11, 185, 172, 173, 15, 174, 175, 168, 169, 170, 165, 149, 150, 151, 152, 96, 97, 153, 154, 155, 156, 22, 157, 158, 159, 160, 27, 161, 162, 163, 164, 166, 41, 24, 25, 26, 196, 197, 198, 199, 200, 201, 202, 203, 204, 205, 206, 207, 208, 209, 210, 211, 212] (by decide +kernel) (by decide +kernel)) (goodIn_sub (fun _ h => List.mem_cons_of_mem _ (List.mem_append_right _ h)) (by decide +kernel))
set_option maxRecDepth 20000 in
theorem gX1_isSame_X0_bestBee : GoodIn wsX1_isSame (wsV RX1 134 RX0 yX0_bestBee wsX0_bestBee) := goodIn_app (goodIn_of _ (by decide +kernel)) ggX1_isSame_X0_bestBee
theorem dX1_isSame_0 : decode cX1_isSame 0 = .ok (.aload_n 1, 1) := by decide +kernel
theorem dX1_isSame_1 : decode cX1_isSame 1 = .ok (.invokevirtual 60, 3) := by decide +kernel
theorem dX1_isSame_4 : decode cX1_isSame 4 = .ok (.aload_n 0, 1) := by decide +kernel
theorem dX1_isSame_5 : decode cX1_isSame 5 = .ok (.getfield 36, 3) := by decide +kernel
theorem dX1_isSame_8 : decode cX1_isSame 8 = .ok (.if_icmp .ne 104, 3) := by decide +kernel
theorem dX1_isSame_11 : decode cX1_isSame 11 = .ok (.aload_n 1, 1) := by decide +kernel
theorem dX1_isSame_12 : decode cX1_isSame 12 = .ok (.invokevirtual 64, 3) := by decide +kernel
theorem dX1_isSame_15 : decode cX1_isSame 15 = .ok (.aload_n 0, 1) := by decide +kernel
theorem dX1_isSame_16 : decode cX1_isSame 16 = .ok (.getfield 39, 3) := by decide +kernel
theorem dX1_isSame_19 : decode cX1_isSame 19 = .ok (.if_icmp .ne 93, 3) := by decide +kernel
theorem dX1_isSame_22 : decode cX1_isSame 22 = .ok (.aload_n 1, 1) := by decide +kernel
theorem dX1_isSame_23 : decode cX1_isSame 23 = .ok (.invokevirtual 66, 3) := by decide +kernel
theorem dX1_isSame_26 : decode cX1_isSame 26 = .ok (.aload_n 0, 1) := by decide +kernel
theorem dX1_isSame_27 : decode cX1_isSame 27 = .ok (.aload_n 0, 1) := by decide +kernel
theorem dX1_isSame_28 : decode cX1_isSame 28 = .ok (.getfield 39, 3) := by decide +kernel
theorem dX1_isSame_31 : decode cX1_isSame 31 = .ok (.iconst (-1), 1) := by decide +kernel
theorem dX1_isSame_32 : decode cX1_isSame 32 = .ok (.invokevirtual 69, 3) := by decide +kernel
theorem dX1_isSame_35 : decode cX1_isSame 35 = .ok (.if_icmp .ne 77, 3) := by decide +kernel
theorem dX1_isSame_38 : decode cX1_isSame 38 = .ok (.aload_n 1, 1) := by decide +kernel
theorem dX1_isSame_39 : decode cX1_isSame 39 = .ok (.invokevirtual 72, 3) := by decide +kernel
theorem dX1_isSame_42 : decode cX1_isSame 42 = .ok (.aload_n 0, 1) := by decide +kernel
theorem dX1_isSame_43 : decode cX1_isSame 43 = .ok (.getfield 39, 3) := by decide +kernel
theorem dX1_isSame_46 : decode cX1_isSame 46 = .ok (.aload_n 1, 1) := by decide +kernel
theorem dX1_isSame_47 : decode cX1_isSame 47 = .ok (.invokevirtual 66, 3) := by decide +kernel
theorem dX1_isSame_50 : decode cX1_isSame 50 = .ok (.isub, 1) := by decide +kernel
theorem dX1_isSame_51 : decode cX1_isSame 51 = .ok (.if_icmp .ne 61, 3) := by decide +kernel
theorem dX1_isSame_54 : decode cX1_isSame 54 = .ok (.aload_n 1, 1) := by decide +kernel
theorem dX1_isSame_55 : decode cX1_isSame 55 = .ok (.invokevirtual 75, 3) := by decide +kernel
theorem dX1_isSame_58 : decode cX1_isSame 58 = .ok (.aload_n 0, 1) := by decide +kernel
theorem dX1_isSame_59 : decode cX1_isSame 59 = .ok (.getfield 7, 3) := by decide +kernel
theorem dX1_isSame_62 : decode cX1_isSame 62 = .ok (.arraylength, 1) := by decide +kernel
theorem dX1_isSame_63 : decode cX1_isSame 63 = .ok (.if_icmp .ne 49, 3) := by decide +kernel
theorem dX1_isSame_66 : decode cX1_isSame 66 = .ok (.aload_n 1, 1) := by decide +kernel
theorem dX1_isSame_67 : decode cX1_isSame 67 = .ok (.invokevirtual 77, 3) := by decide +kernel
theorem dX1_isSame_70 : decode cX1_isSame 70 = .ok (.aload_n 0, 1) := by decide +kernel
theorem dX1_isSame_71 : decode cX1_isSame 71 = .ok (.getfield 14, 3) := by decide +kernel
theorem dX1_isSame_74 : decode cX1_isSame 74 = .ok (.arraylength, 1) := by decide +kernel
theorem dX1_isSame_75 : decode cX1_isSame 75 = .ok (.if_icmp .ne 37, 3) := by decide +kernel
theorem dX1_isSame_78 : decode cX1_isSame 78 = .ok (.aload_n 1, 1) := by decide +kernel
theorem dX1_isSame_79 : decode cX1_isSame 79 = .ok (.invokevirtual 79, 3) := by decide +kernel
theorem dX1_isSame_82 : decode cX1_isSame 82 = .ok (.aload_n 0, 1) := by decide +kernel
theorem dX1_isSame_83 : decode cX1_isSame 83 = .ok (.getfield 18, 3) := by decide +kernel
theorem dX1_isSame_86 : decode cX1_isSame 86 = .ok (.arraylength, 1) := by decide +kernel
theorem dX1_isSame_87 : decode cX1_isSame 87 = .ok (.if_icmp .ne 25, 3) := by decide +kernel
theorem dX1_isSame_90 : decode cX1_isSame 90 = .ok (.aload_n 1, 1) := by decide +kernel
theorem dX1_isSame_91 : decode cX1_isSame 91 = .ok (.invokevirtual 81, 3) := by decide +kernel
theorem dX1_isSame_94 : decode cX1_isSame 94 = .ok (.aload_n 0, 1) := by decide +kernel
theorem dX1_isSame_95 : decode cX1_isSame 95 = .ok (.getfield 42, 3) := by decide +kernel
theorem dX1_isSame_98 : decode cX1_isSame 98 = .ok (.if_icmp .ne 14, 3) := by decide +kernel
theorem dX1_isSame_101 : decode cX1_isSame 101 = .ok (.aload_n 1, 1) := by decide +kernel
theorem dX1_isSame_102 : decode cX1_isSame 102 = .ok (.invokevirtual 83, 3) := by decide +kernel
theorem dX1_isSame_105 : decode cX1_isSame 105 = .ok (.aload_n 0, 1) := by decide +kernel
theorem dX1_isSame_106 : decode cX1_isSame 106 = .ok (.getfield 45, 3) := by decide +kernel
theorem dX1_isSame_109 : decode cX1_isSame 109 = .ok (.if_icmp .eq 5, 3) := by decide +kernel
theorem dX1_isSame_112 : decode cX1_isSame 112 = .ok (.iconst 0, 1) := by decide +kernel
theorem dX1_isSame_113 : decode cX1_isSame 113 = .ok (.ireturn, 1) := by decide +kernel
theorem dX1_isSame_114 : decode cX1_isSame 114 = .ok (.iconst 0, 1) := by decide +kernel
theorem dX1_isSame_115 : decode cX1_isSame 115 = .ok (.istore_n 2, 1) := by decide +kernel
theorem dX1_isSame_116 : decode cX1_isSame 116 = .ok (.iconst (-1), 1) := by decide +kernel
theorem dX1_isSame_117 : decode cX1_isSame 117 = .ok (.istore_n 3, 1) := by decide +kernel
theorem dX1_isSame_118 : decode cX1_isSame 118 = .ok (.iconst 0, 1) := by decide +kernel
theorem dX1_isSame_119 : decode cX1_isSame 119 = .ok (.istore 4, 2) := by decide +kernel
theorem dX1_isSame_121 : decode cX1_isSame 121 = .ok (.iload 4, 2) := by decide +kernel
theorem dX1_isSame_123 : decode cX1_isSame 123 = .ok (.sipush 360, 3) := by decide +kernel
theorem dX1_isSame_126 : decode cX1_isSame 126 = .ok (.if_icmp .gt 54, 3) := by decide +kernel
theorem dX1_isSame_129 : decode cX1_isSame 129 = .ok (.iload 4, 2) := by decide +kernel
theorem dX1_isSame_131 : decode cX1_isSame 131 = .ok (.sipush 360, 3) := by decide +kernel
theorem dX1_isSame_134 : decode cX1_isSame 134 = .ok (.if_icmp .ge 16, 3) := by decide +kernel
theorem dX1_isSame_137 : decode cX1_isSame 137 = .ok (.aload_n 0, 1) := by decide +kernel
theorem dX1_isSame_138 : decode cX1_isSame 138 = .ok (.iload 4, 2) := by decide +kernel
theorem dX1_isSame_140 : decode cX1_isSame 140 = .ok (.iconst (-1), 1) := by decide +kernel
theorem dX1_isSame_141 : decode cX1_isSame 141 = .ok (.invokevirtual 48, 3) := by decide +kernel
theorem dX1_isSame_144 : decode cX1_isSame 144 = .ok (.ifCond .ne 6, 3) := by decide +kernel
theorem dX1_isSame_147 : decode cX1_isSame 147 = .ok (.goto 27, 3) := by decide +kernel
theorem dX1_isSame_150 : decode cX1_isSame 150 = .ok (.iload 4, 2) := by decide +kernel
theorem dX1_isSame_152 : decode cX1_isSame 152 = .ok (.iload_n 3, 1) := by decide +kernel
theorem dX1_isSame_153 : decode cX1_isSame 153 = .ok (.isub, 1) := by decide +kernel
theorem dX1_isSame_154 : decode cX1_isSame 154 = .ok (.iconst 1, 1) := by decide +kernel
theorem dX1_isSame_155 : decode cX1_isSame 155 = .ok (.isub, 1) := by decide +kernel
theorem dX1_isSame_156 : decode cX1_isSame 156 = .ok (.iload_n 2, 1) := by decide +kernel
theorem dX1_isSame_157 : decode cX1_isSame 157 = .ok (.if_icmp .le 12, 3) := by decide +kernel
theorem dX1_isSame_160 : decode cX1_isSame 160 = .ok (.iload 4, 2) := by decide +kernel
theorem dX1_isSame_162 : decode cX1_isSame 162 = .ok (.iload_n 3, 1) := by decide +kernel
theorem dX1_isSame_163 : decode cX1_isSame 163 = .ok (.isub, 1) := by decide +kernel
theorem dX1_isSame_164 : decode cX1_isSame 164 = .ok (.iconst 1, 1) := by decide +kernel
theorem dX1_isSame_165 : decode cX1_isSame 165 = .ok (.isub, 1) := by decide +kernel
theorem dX1_isSame_166 : decode cX1_isSame 166 = .ok (.goto 4, 3) := by decide +kernel
theorem dX1_isSame_169 : decode cX1_isSame 169 = .ok (.iload_n 2, 1) := by decide +kernel
theorem dX1_isSame_170 : decode cX1_isSame 170 = .ok (.istore_n 2, 1) := by decide +kernel
theorem dX1_isSame_171 : decode cX1_isSame 171 = .ok (.iload 4, 2) := by decide +kernel
theorem dX1_isSame_173 : decode cX1_isSame 173 = .ok (.istore_n 3, 1) := by decide +kernel
theorem dX1_isSame_174 : decode cX1_isSame 174 = .ok (.iinc 4 1, 3) := by decide +kernel
theorem dX1_isSame_177 : decode cX1_isSame 177 = .ok (.goto (-56), 3) := by decide +kernel
theorem dX1_isSame_180 : decode cX1_isSame 180 = .ok (.aload_n 1, 1) := by decide +kernel
theorem dX1_isSame_181 : decode cX1_isSame 181 = .ok (.invokevirtual 85, 3) := by decide +kernel
theorem dX1_isSame_184 : decode cX1_isSame 184 = .ok (.iload_n 2, 1) := by decide +kernel
theorem dX1_isSame_185 : decode cX1_isSame 185 = .ok (.if_icmp .eq 5, 3) := by decide +kernel
theorem dX1_isSame_188 : decode cX1_isSame 188 = .ok (.iconst 0, 1) := by decide +kernel
theorem dX1_isSame_189 : decode cX1_isSame 189 = .ok (.ireturn, 1) := by decide +kernel
theorem dX1_isSame_190 : decode cX1_isSame 190 = .ok (.aload_n 0, 1) := by decide +kernel
theorem dX1_isSame_191 : decode cX1_isSame 191 = .ok (.getfield 39, 3) := by decide +kernel
theorem dX1_isSame_194 : decode cX1_isSame 194 = .ok (.bipush 7, 2) := by decide +kernel
theorem dX1_isSame_196 : decode cX1_isSame 196 = .ok (.irem, 1) := by decide +kernel
theorem dX1_isSame_197 : decode cX1_isSame 197 = .ok (.istore 4, 2) := by decide +kernel
theorem dX1_isSame_199 : decode cX1_isSame 199 = .ok (.iload 4, 2) := by decide +kernel
theorem dX1_isSame_201 : decode cX1_isSame 201 = .ok (.sipush 360, 3) := by decide +kernel
theorem dX1_isSame_204 : decode cX1_isSame 204 = .ok (.if_icmp .ge 51, 3) := by decide +kernel
theorem dX1_isSame_207 : decode cX1_isSame 207 = .ok (.aload_n 1, 1) := by decide +kernel
theorem dX1_isSame_208 : decode cX1_isSame 208 = .ok (.iload 4, 2) := by decide +kernel
theorem dX1_isSame_210 : decode cX1_isSame 210 = .ok (.invokevirtual 88, 3) := by decide +kernel
theorem dX1_isSame_213 : decode cX1_isSame 213 = .ok (.aload_n 0, 1) := by decide +kernel
theorem dX1_isSame_214 : decode cX1_isSame 214 = .ok (.iload 4, 2) := by decide +kernel
theorem dX1_isSame_216 : decode cX1_isSame 216 = .ok (.iconst (-1), 1) := by decide +kernel
theorem dX1_isSame_217 : decode cX1_isSame 217 = .ok (.invokevirtual 48, 3) := by decide +kernel
theorem dX1_isSame_220 : decode cX1_isSame 220 = .ok (.if_icmp .ne 27, 3) := by decide +kernel
theorem dX1_isSame_223 : decode cX1_isSame 223 = .ok (.aload_n 1, 1) := by decide +kernel
theorem dX1_isSame_224 : decode cX1_isSame 224 = .ok (.iload 4, 2) := by decide +kernel
theorem dX1_isSame_226 : decode cX1_isSame 226 = .ok (.invokevirtual 91, 3) := by decide +kernel
theorem dX1_isSame_229 : decode cX1_isSame 229 = .ok (.aload_n 0, 1) := by decide +kernel
theorem dX1_isSame_230 : decode cX1_isSame 230 = .ok (.iload 4, 2) := by decide +kernel
theorem dX1_isSame_232 : decode cX1_isSame 232 = .ok (.iconst (-1), 1) := by decide +kernel
theorem dX1_isSame_233 : decode cX1_isSame 233 = .ok (.invokevirtual 48, 3) := by decide +kernel
theorem dX1_isSame_236 : decode cX1_isSame 236 = .ok (.ifCond .le 7, 3) := by decide +kernel
theorem dX1_isSame_239 : decode cX1_isSame 239 = .ok (.iconst 1, 1) := by decide +kernel
theorem dX1_isSame_240 : decode cX1_isSame 240 = .ok (.goto 4, 3) := by decide +kernel
theorem dX1_isSame_243 : decode cX1_isSame 243 = .ok (.iconst 0, 1) := by decide +kernel
theorem dX1_isSame_244 : decode cX1_isSame 244 = .ok (.if_icmp .eq 5, 3) := by decide +kernel
theorem dX1_isSame_247 : decode cX1_isSame 247 = .ok (.iconst 0, 1) := by decide +kernel
theorem dX1_isSame_248 : decode cX1_isSame 248 = .ok (.ireturn, 1) := by decide +kernel
theorem dX1_isSame_249 : decode cX1_isSame 249 = .ok (.iinc 4 7, 3) := by decide +kernel
theorem dX1_isSame_252 : decode cX1_isSame 252 = .ok (.goto (-53), 3) := by decide +kernel
theorem dX1_isSame_255 : decode cX1_isSame 255 = .ok (.iconst 0, 1) := by decide +kernel
theorem dX1_isSame_256 : decode cX1_isSame 256 = .ok (.istore 4, 2) := by decide +kernel
theorem dX1_isSame_258 : decode cX1_isSame 258 = .ok (.iconst 0, 1) := by decide +kernel
theorem dX1_isSame_259 : decode cX1_isSame 259 = .ok (.istore 5, 2) := by decide +kernel
theorem dX1_isSame_261 : decode cX1_isSame 261 = .ok (.iload 5, 2) := by decide +kernel
theorem dX1_isSame_263 : decode cX1_isSame 263 = .ok (.aload_n 0, 1) := by decide +kernel
theorem dX1_isSame_264 : decode cX1_isSame 264 = .ok (.getfield 7, 3) := by decide +kernel
theorem dX1_isSame_267 : decode cX1_isSame 267 = .ok (.arraylength, 1) := by decide +kernel
theorem dX1_isSame_268 : decode cX1_isSame 268 = .ok (.if_icmp .ge 88, 3) := by decide +kernel
theorem dX1_isSame_271 : decode cX1_isSame 271 = .ok (.iload 4, 2) := by decide +kernel
theorem dX1_isSame_273 : decode cX1_isSame 273 = .ok (.aload_n 0, 1) := by decide +kernel
theorem dX1_isSame_274 : decode cX1_isSame 274 = .ok (.getfield 7, 3) := by decide +kernel
theorem dX1_isSame_277 : decode cX1_isSame 277 = .ok (.iload 5, 2) := by decide +kernel
theorem dX1_isSame_279 : decode cX1_isSame 279 = .ok (.iaload, 1) := by decide +kernel
theorem dX1_isSame_280 : decode cX1_isSame 280 = .ok (.sipush 419, 3) := by decide +kernel
theorem dX1_isSame_283 : decode cX1_isSame 283 = .ok (.imul, 1) := by decide +kernel
theorem dX1_isSame_284 : decode cX1_isSame 284 = .ok (.bipush 120, 2) := by decide +kernel
theorem dX1_isSame_286 : decode cX1_isSame 286 = .ok (.idiv, 1) := by decide +kernel
theorem dX1_isSame_287 : decode cX1_isSame 287 = .ok (.iadd, 1) := by decide +kernel
theorem dX1_isSame_288 : decode cX1_isSame 288 = .ok (.istore 4, 2) := by decide +kernel
theorem dX1_isSame_290 : decode cX1_isSame 290 = .ok (.aload_n 1, 1) := by decide +kernel
theorem dX1_isSame_291 : decode cX1_isSame 291 = .ok (.iload 5, 2) := by decide +kernel
theorem dX1_isSame_293 : decode cX1_isSame 293 = .ok (.iconst 0, 1) := by decide +kernel
theorem dX1_isSame_294 : decode cX1_isSame 294 = .ok (.invokevirtual 95, 3) := by decide +kernel
theorem dX1_isSame_297 : decode cX1_isSame 297 = .ok (.aload_n 0, 1) := by decide +kernel
theorem dX1_isSame_298 : decode cX1_isSame 298 = .ok (.getfield 7, 3) := by decide +kernel
theorem dX1_isSame_301 : decode cX1_isSame 301 = .ok (.iload 5, 2) := by decide +kernel
theorem dX1_isSame_303 : decode cX1_isSame 303 = .ok (.iaload, 1) := by decide +kernel
theorem dX1_isSame_304 : decode cX1_isSame 304 = .ok (.iconst 2, 1) := by decide +kernel
theorem dX1_isSame_305 : decode cX1_isSame 305 = .ok (.idiv, 1) := by decide +kernel
theorem dX1_isSame_306 : decode cX1_isSame 306 = .ok (.if_icmp .ne 42, 3) := by decide +kernel
theorem dX1_isSame_309 : decode cX1_isSame 309 = .ok (.aload_n 1, 1) := by decide +kernel
theorem dX1_isSame_310 : decode cX1_isSame 310 = .ok (.iload 5, 2) := by decide +kernel
theorem dX1_isSame_312 : decode cX1_isSame 312 = .ok (.aload_n 0, 1) := by decide +kernel
theorem dX1_isSame_313 : decode cX1_isSame 313 = .ok (.getfield 39, 3) := by decide +kernel
theorem dX1_isSame_316 : decode cX1_isSame 316 = .ok (.sipush 360, 3) := by decide +kernel
theorem dX1_isSame_319 : decode cX1_isSame 319 = .ok (.irem, 1) := by decide +kernel
theorem dX1_isSame_320 : decode cX1_isSame 320 = .ok (.invokevirtual 95, 3) := by decide +kernel
theorem dX1_isSame_323 : decode cX1_isSame 323 = .ok (.aload_n 0, 1) := by decide +kernel
theorem dX1_isSame_324 : decode cX1_isSame 324 = .ok (.getfield 7, 3) := by decide +kernel
theorem dX1_isSame_327 : decode cX1_isSame 327 = .ok (.iload 5, 2) := by decide +kernel
theorem dX1_isSame_329 : decode cX1_isSame 329 = .ok (.iaload, 1) := by decide +kernel
theorem dX1_isSame_330 : decode cX1_isSame 330 = .ok (.bipush 60, 2) := by decide +kernel
theorem dX1_isSame_332 : decode cX1_isSame 332 = .ok (.aload_n 0, 1) := by decide +kernel
theorem dX1_isSame_333 : decode cX1_isSame 333 = .ok (.getfield 39, 3) := by decide +kernel
theorem dX1_isSame_336 : decode cX1_isSame 336 = .ok (.sipush 360, 3) := by decide +kernel
theorem dX1_isSame_339 : decode cX1_isSame 339 = .ok (.irem, 1) := by decide +kernel
theorem dX1_isSame_340 : decode cX1_isSame 340 = .ok (.iadd, 1) := by decide +kernel
theorem dX1_isSame_341 : decode cX1_isSame 341 = .ok (.imul, 1) := by decide +kernel
theorem dX1_isSame_342 : decode cX1_isSame 342 = .ok (.bipush 120, 2) := by decide +kernel
theorem dX1_isSame_344 : decode cX1_isSame 344 = .ok (.idiv, 1) := by decide +kernel
theorem dX1_isSame_345 : decode cX1_isSame 345 = .ok (.if_icmp .eq 5, 3) := by decide +kernel
theorem dX1_isSame_348 : decode cX1_isSame 348 = .ok (.iconst 0, 1) := by decide +kernel
theorem dX1_isSame_349 : decode cX1_isSame 349 = .ok (.ireturn, 1) := by decide +kernel
theorem dX1_isSame_350 : decode cX1_isSame 350 = .ok (.iinc 5 1, 3) := by decide +kernel
theorem dX1_isSame_353 : decode cX1_isSame 353 = .ok (.goto (-92), 3) := by decide +kernel
theorem dX1_isSame_356 : decode cX1_isSame 356 = .ok (.aload_n 1, 1) := by decide +kernel
theorem dX1_isSame_357 : decode cX1_isSame 357 = .ok (.sipush 359, 3) := by decide +kernel
theorem dX1_isSame_360 : decode cX1_isSame 360 = .ok (.invokevirtual 98, 3) := by decide +kernel
theorem dX1_isSame_363 : decode cX1_isSame 363 = .ok (.iload 4, 2) := by decide +kernel
theorem dX1_isSame_365 : decode cX1_isSame 365 = .ok (.if_icmp .ne 33, 3) := by decide +kernel
theorem dX1_isSame_368 : decode cX1_isSame 368 = .ok (.aload_n 1, 1) := by decide +kernel
theorem dX1_isSame_369 : decode cX1_isSame 369 = .ok (.invokevirtual 101, 3) := by decide +kernel
theorem dX1_isSame_372 : decode cX1_isSame 372 = .ok (.aload_n 0, 1) := by decide +kernel
theorem dX1_isSame_373 : decode cX1_isSame 373 = .ok (.getfield 7, 3) := by decide +kernel
theorem dX1_isSame_376 : decode cX1_isSame 376 = .ok (.arraylength, 1) := by decide +kernel
theorem dX1_isSame_377 : decode cX1_isSame 377 = .ok (.ifCond .ne 7, 3) := by decide +kernel
theorem dX1_isSame_380 : decode cX1_isSame 380 = .ok (.dconst 0, 1) := by decide +kernel
theorem dX1_isSame_381 : decode cX1_isSame 381 = .ok (.goto 13, 3) := by decide +kernel
theorem dX1_isSame_384 : decode cX1_isSame 384 = .ok (.iload 4, 2) := by decide +kernel
theorem dX1_isSame_386 : decode cX1_isSame 386 = .ok (.i2d, 1) := by decide +kernel
theorem dX1_isSame_387 : decode cX1_isSame 387 = .ok (.aload_n 0, 1) := by decide +kernel
theorem dX1_isSame_388 : decode cX1_isSame 388 = .ok (.getfield 7, 3) := by decide +kernel
theorem dX1_isSame_391 : decode cX1_isSame 391 = .ok (.arraylength, 1) := by decide +kernel
theorem dX1_isSame_392 : decode cX1_isSame 392 = .ok (.i2d, 1) := by decide +kernel
theorem dX1_isSame_393 : decode cX1_isSame 393 = .ok (.ddiv, 1) := by decide +kernel
theorem dX1_isSame_394 : decode cX1_isSame 394 = .ok (.dcmp .l, 1) := by decide +kernel
theorem dX1_isSame_395 : decode cX1_isSame 395 = .ok (.ifCond .eq 5, 3) := by decide +kernel
theorem dX1_isSame_398 : decode cX1_isSame 398 = .ok (.iconst 0, 1) := by decide +kernel
theorem dX1_isSame_399 : decode cX1_isSame 399 = .ok (.ireturn, 1) := by decide +kernel
theorem dX1_isSame_400 : decode cX1_isSame 400 = .ok (.iconst (-1), 1) := by decide +kernel
theorem dX1_isSame_401 : decode cX1_isSame 401 = .ok (.istore 5, 2) := by decide +kernel
theorem dX1_isSame_403 : decode cX1_isSame 403 = .ok (.iconst (-1), 1) := by decide +kernel
theorem dX1_isSame_404 : decode cX1_isSame 404 = .ok (.istore 6, 2) := by decide +kernel
theorem dX1_isSame_406 : decode cX1_isSame 406 = .ok (.aload_n 0, 1) := by decide +kernel
theorem dX1_isSame_407 : decode cX1_isSame 407 = .ok (.getfield 14, 3) := by decide +kernel
theorem dX1_isSame_410 : decode cX1_isSame 410 = .ok (.arraylength, 1) := by decide +kernel
theorem dX1_isSame_411 : decode cX1_isSame 411 = .ok (.iconst 1, 1) := by decide +kernel
theorem dX1_isSame_412 : decode cX1_isSame 412 = .ok (.isub, 1) := by decide +kernel
theorem dX1_isSame_413 : decode cX1_isSame 413 = .ok (.istore 7, 2) := by decide +kernel
theorem dX1_isSame_415 : decode cX1_isSame 415 = .ok (.iload 7, 2) := by decide +kernel
theorem dX1_isSame_417 : decode cX1_isSame 417 = .ok (.ifCond .lt 106, 3) := by decide +kernel
theorem dX1_isSame_420 : decode cX1_isSame 420 = .ok (.aload_n 0, 1) := by decide +kernel
theorem dX1_isSame_421 : decode cX1_isSame 421 = .ok (.sipush 360, 3) := by decide +kernel
theorem dX1_isSame_424 : decode cX1_isSame 424 = .ok (.iload 7, 2) := by decide +kernel
theorem dX1_isSame_426 : decode cX1_isSame 426 = .ok (.invokevirtual 69, 3) := by decide +kernel
theorem dX1_isSame_429 : decode cX1_isSame 429 = .ok (.aload_n 0, 1) := by decide +kernel
theorem dX1_isSame_430 : decode cX1_isSame 430 = .ok (.sipush 360, 3) := by decide +kernel
theorem dX1_isSame_433 : decode cX1_isSame 433 = .ok (.iconst (-1), 1) := by decide +kernel
theorem dX1_isSame_434 : decode cX1_isSame 434 = .ok (.invokevirtual 69, 3) := by decide +kernel
theorem dX1_isSame_437 : decode cX1_isSame 437 = .ok (.isub, 1) := by decide +kernel
theorem dX1_isSame_438 : decode cX1_isSame 438 = .ok (.istore 8, 2) := by decide +kernel
theorem dX1_isSame_440 : decode cX1_isSame 440 = .ok (.aload_n 1, 1) := by decide +kernel
theorem dX1_isSame_441 : decode cX1_isSame 441 = .ok (.iload 7, 2) := by decide +kernel
theorem dX1_isSame_443 : decode cX1_isSame 443 = .ok (.invokevirtual 105, 3) := by decide +kernel
theorem dX1_isSame_446 : decode cX1_isSame 446 = .ok (.aload_n 0, 1) := by decide +kernel
theorem dX1_isSame_447 : decode cX1_isSame 447 = .ok (.getfield 14, 3) := by decide +kernel
theorem dX1_isSame_450 : decode cX1_isSame 450 = .ok (.iload 7, 2) := by decide +kernel
theorem dX1_isSame_452 : decode cX1_isSame 452 = .ok (.aaload, 1) := by decide +kernel
theorem dX1_isSame_453 : decode cX1_isSame 453 = .ok (.iconst 0, 1) := by decide +kernel
theorem dX1_isSame_454 : decode cX1_isSame 454 = .ok (.iaload, 1) := by decide +kernel
theorem dX1_isSame_455 : decode cX1_isSame 455 = .ok (.if_icmp .ne 42, 3) := by decide +kernel
theorem dX1_isSame_458 : decode cX1_isSame 458 = .ok (.aload_n 1, 1) := by decide +kernel
theorem dX1_isSame_459 : decode cX1_isSame 459 = .ok (.iload 7, 2) := by decide +kernel
theorem dX1_isSame_461 : decode cX1_isSame 461 = .ok (.invokevirtual 108, 3) := by decide +kernel
theorem dX1_isSame_464 : decode cX1_isSame 464 = .ok (.aload_n 0, 1) := by decide +kernel
theorem dX1_isSame_465 : decode cX1_isSame 465 = .ok (.getfield 14, 3) := by decide +kernel
theorem dX1_isSame_468 : decode cX1_isSame 468 = .ok (.iload 7, 2) := by decide +kernel
theorem dX1_isSame_470 : decode cX1_isSame 470 = .ok (.aaload, 1) := by decide +kernel
theorem dX1_isSame_471 : decode cX1_isSame 471 = .ok (.iconst 1, 1) := by decide +kernel
theorem dX1_isSame_472 : decode cX1_isSame 472 = .ok (.iaload, 1) := by decide +kernel
theorem dX1_isSame_473 : decode cX1_isSame 473 = .ok (.aload_n 0, 1) := by decide +kernel
theorem dX1_isSame_474 : decode cX1_isSame 474 = .ok (.getfield 14, 3) := by decide +kernel
theorem dX1_isSame_477 : decode cX1_isSame 477 = .ok (.iload 7, 2) := by decide +kernel
theorem dX1_isSame_479 : decode cX1_isSame 479 = .ok (.aaload, 1) := by decide +kernel
theorem dX1_isSame_480 : decode cX1_isSame 480 = .ok (.iconst 0, 1) := by decide +kernel
theorem dX1_isSame_481 : decode cX1_isSame 481 = .ok (.iaload, 1) := by decide +kernel
theorem dX1_isSame_482 : decode cX1_isSame 482 = .ok (.isub, 1) := by decide +kernel
theorem dX1_isSame_483 : decode cX1_isSame 483 = .ok (.if_icmp .ne 14, 3) := by decide +kernel
theorem dX1_isSame_486 : decode cX1_isSame 486 = .ok (.aload_n 1, 1) := by decide +kernel
theorem dX1_isSame_487 : decode cX1_isSame 487 = .ok (.iload 7, 2) := by decide +kernel
theorem dX1_isSame_489 : decode cX1_isSame 489 = .ok (.invokevirtual 111, 3) := by decide +kernel
theorem dX1_isSame_492 : decode cX1_isSame 492 = .ok (.iload 8, 2) := by decide +kernel
theorem dX1_isSame_494 : decode cX1_isSame 494 = .ok (.if_icmp .eq 5, 3) := by decide +kernel
theorem dX1_isSame_497 : decode cX1_isSame 497 = .ok (.iconst 0, 1) := by decide +kernel
theorem dX1_isSame_498 : decode cX1_isSame 498 = .ok (.ireturn, 1) := by decide +kernel
theorem dX1_isSame_499 : decode cX1_isSame 499 = .ok (.iload 8, 2) := by decide +kernel
theorem dX1_isSame_501 : decode cX1_isSame 501 = .ok (.iload 6, 2) := by decide +kernel
theorem dX1_isSame_503 : decode cX1_isSame 503 = .ok (.if_icmp .ge 6, 3) := by decide +kernel
theorem dX1_isSame_506 : decode cX1_isSame 506 = .ok (.goto 11, 3) := by decide +kernel
theorem dX1_isSame_509 : decode cX1_isSame 509 = .ok (.iload 7, 2) := by decide +kernel
theorem dX1_isSame_511 : decode cX1_isSame 511 = .ok (.istore 5, 2) := by decide +kernel
theorem dX1_isSame_513 : decode cX1_isSame 513 = .ok (.iload 8, 2) := by decide +kernel
theorem dX1_isSame_515 : decode cX1_isSame 515 = .ok (.istore 6, 2) := by decide +kernel
theorem dX1_isSame_517 : decode cX1_isSame 517 = .ok (.iinc 7 (-1), 3) := by decide +kernel
theorem dX1_isSame_520 : decode cX1_isSame 520 = .ok (.goto (-105), 3) := by decide +kernel
theorem dX1_isSame_523 : decode cX1_isSame 523 = .ok (.iconst (-1), 1) := by decide +kernel
theorem dX1_isSame_524 : decode cX1_isSame 524 = .ok (.istore 7, 2) := by decide +kernel
theorem dX1_isSame_526 : decode cX1_isSame 526 = .ok (.aload_n 0, 1) := by decide +kernel
theorem dX1_isSame_527 : decode cX1_isSame 527 = .ok (.getfield 18, 3) := by decide +kernel
theorem dX1_isSame_530 : decode cX1_isSame 530 = .ok (.arraylength, 1) := by decide +kernel
theorem dX1_isSame_531 : decode cX1_isSame 531 = .ok (.iconst 1, 1) := by decide +kernel
theorem dX1_isSame_532 : decode cX1_isSame 532 = .ok (.isub, 1) := by decide +kernel
theorem dX1_isSame_533 : decode cX1_isSame 533 = .ok (.istore 8, 2) := by decide +kernel
theorem dX1_isSame_535 : decode cX1_isSame 535 = .ok (.iload 8, 2) := by decide +kernel
theorem dX1_isSame_537 : decode cX1_isSame 537 = .ok (.ifCond .lt 112, 3) := by decide +kernel
theorem dX1_isSame_540 : decode cX1_isSame 540 = .ok (.aload_n 0, 1) := by decide +kernel
theorem dX1_isSame_541 : decode cX1_isSame 541 = .ok (.iload 8, 2) := by decide +kernel
theorem dX1_isSame_543 : decode cX1_isSame 543 = .ok (.invokevirtual 114, 3) := by decide +kernel
theorem dX1_isSame_546 : decode cX1_isSame 546 = .ok (.istore 9, 2) := by decide +kernel
theorem dX1_isSame_548 : decode cX1_isSame 548 = .ok (.aload_n 1, 1) := by decide +kernel
theorem dX1_isSame_549 : decode cX1_isSame 549 = .ok (.iload 8, 2) := by decide +kernel
theorem dX1_isSame_551 : decode cX1_isSame 551 = .ok (.invokevirtual 117, 3) := by decide +kernel
theorem dX1_isSame_554 : decode cX1_isSame 554 = .ok (.iload 9, 2) := by decide +kernel
theorem dX1_isSame_556 : decode cX1_isSame 556 = .ok (.if_icmp .ne 55, 3) := by decide +kernel
theorem dX1_isSame_559 : decode cX1_isSame 559 = .ok (.aload_n 1, 1) := by decide +kernel
theorem dX1_isSame_560 : decode cX1_isSame 560 = .ok (.iload 8, 2) := by decide +kernel
theorem dX1_isSame_562 : decode cX1_isSame 562 = .ok (.invokevirtual 120, 3) := by decide +kernel
theorem dX1_isSame_565 : decode cX1_isSame 565 = .ok (.iload 9, 2) := by decide +kernel
theorem dX1_isSame_567 : decode cX1_isSame 567 = .ok (.aload_n 0, 1) := by decide +kernel
theorem dX1_isSame_568 : decode cX1_isSame 568 = .ok (.getfield 18, 3) := by decide +kernel
theorem dX1_isSame_571 : decode cX1_isSame 571 = .ok (.iload 8, 2) := by decide +kernel
theorem dX1_isSame_573 : decode cX1_isSame 573 = .ok (.aaload, 1) := by decide +kernel
theorem dX1_isSame_574 : decode cX1_isSame 574 = .ok (.iconst 0, 1) := by decide +kernel
theorem dX1_isSame_575 : decode cX1_isSame 575 = .ok (.iaload, 1) := by decide +kernel
theorem dX1_isSame_576 : decode cX1_isSame 576 = .ok (.imul, 1) := by decide +kernel
theorem dX1_isSame_577 : decode cX1_isSame 577 = .ok (.if_icmp .ne 34, 3) := by decide +kernel
theorem dX1_isSame_580 : decode cX1_isSame 580 = .ok (.aload_n 1, 1) := by decide +kernel
theorem dX1_isSame_581 : decode cX1_isSame 581 = .ok (.iload 8, 2) := by decide +kernel
theorem dX1_isSame_583 : decode cX1_isSame 583 = .ok (.invokevirtual 123, 3) := by decide +kernel
theorem dX1_isSame_586 : decode cX1_isSame 586 = .ok (.iload 9, 2) := by decide +kernel
theorem dX1_isSame_588 : decode cX1_isSame 588 = .ok (.aload_n 0, 1) := by decide +kernel
theorem dX1_isSame_589 : decode cX1_isSame 589 = .ok (.getfield 18, 3) := by decide +kernel
theorem dX1_isSame_592 : decode cX1_isSame 592 = .ok (.iload 8, 2) := by decide +kernel
theorem dX1_isSame_594 : decode cX1_isSame 594 = .ok (.aaload, 1) := by decide +kernel
theorem dX1_isSame_595 : decode cX1_isSame 595 = .ok (.iconst 0, 1) := by decide +kernel
theorem dX1_isSame_596 : decode cX1_isSame 596 = .ok (.iaload, 1) := by decide +kernel
theorem dX1_isSame_597 : decode cX1_isSame 597 = .ok (.imul, 1) := by decide +kernel
theorem dX1_isSame_598 : decode cX1_isSame 598 = .ok (.aload_n 0, 1) := by decide +kernel
theorem dX1_isSame_599 : decode cX1_isSame 599 = .ok (.aload_n 0, 1) := by decide +kernel
theorem dX1_isSame_600 : decode cX1_isSame 600 = .ok (.getfield 39, 3) := by decide +kernel
theorem dX1_isSame_603 : decode cX1_isSame 603 = .ok (.iconst (-1), 1) := by decide +kernel
theorem dX1_isSame_604 : decode cX1_isSame 604 = .ok (.invokevirtual 69, 3) := by decide +kernel
theorem dX1_isSame_607 : decode cX1_isSame 607 = .ok (.isub, 1) := by decide +kernel
theorem dX1_isSame_608 : decode cX1_isSame 608 = .ok (.if_icmp .eq 5, 3) := by decide +kernel
theorem dX1_isSame_611 : decode cX1_isSame 611 = .ok (.iconst 0, 1) := by decide +kernel
theorem dX1_isSame_612 : decode cX1_isSame 612 = .ok (.ireturn, 1) := by decide +kernel
theorem dX1_isSame_613 : decode cX1_isSame 613 = .ok (.iload 7, 2) := by decide +kernel
theorem dX1_isSame_615 : decode cX1_isSame 615 = .ok (.ifCond .lt 24, 3) := by decide +kernel
theorem dX1_isSame_618 : decode cX1_isSame 618 = .ok (.aload_n 1, 1) := by decide +kernel
theorem dX1_isSame_619 : decode cX1_isSame 619 = .ok (.iload 8, 2) := by decide +kernel
theorem dX1_isSame_621 : decode cX1_isSame 621 = .ok (.invokevirtual 123, 3) := by decide +kernel
theorem dX1_isSame_624 : decode cX1_isSame 624 = .ok (.invokestatic 126, 3) := by decide +kernel
theorem dX1_isSame_627 : decode cX1_isSame 627 = .ok (.aload_n 1, 1) := by decide +kernel
theorem dX1_isSame_628 : decode cX1_isSame 628 = .ok (.iload 7, 2) := by decide +kernel
theorem dX1_isSame_630 : decode cX1_isSame 630 = .ok (.invokevirtual 123, 3) := by decide +kernel
theorem dX1_isSame_633 : decode cX1_isSame 633 = .ok (.invokestatic 126, 3) := by decide +kernel
theorem dX1_isSame_636 : decode cX1_isSame 636 = .ok (.if_icmp .gt 7, 3) := by decide +kernel
theorem dX1_isSame_639 : decode cX1_isSame 639 = .ok (.iload 8, 2) := by decide +kernel
theorem dX1_isSame_641 : decode cX1_isSame 641 = .ok (.istore 7, 2) := by decide +kernel
theorem dX1_isSame_643 : decode cX1_isSame 643 = .ok (.iinc 8 (-1), 3) := by decide +kernel
theorem dX1_isSame_646 : decode cX1_isSame 646 = .ok (.goto (-111), 3) := by decide +kernel
theorem dX1_isSame_649 : decode cX1_isSame 649 = .ok (.aload_n 1, 1) := by decide +kernel
theorem dX1_isSame_650 : decode cX1_isSame 650 = .ok (.invokevirtual 131, 3) := by decide +kernel
theorem dX1_isSame_653 : decode cX1_isSame 653 = .ok (.iload 5, 2) := by decide +kernel
theorem dX1_isSame_655 : decode cX1_isSame 655 = .ok (.if_icmp .ne 16, 3) := by decide +kernel
theorem dX1_isSame_658 : decode cX1_isSame 658 = .ok (.aload_n 1, 1) := by decide +kernel
theorem dX1_isSame_659 : decode cX1_isSame 659 = .ok (.invokevirtual 134, 3) := by decide +kernel
theorem dX1_isSame_662 : decode cX1_isSame 662 = .ok (.iload 7, 2) := by decide +kernel
theorem dX1_isSame_664 : decode cX1_isSame 664 = .ok (.if_icmp .ne 7, 3) := by decide +kernel
theorem dX1_isSame_667 : decode cX1_isSame 667 = .ok (.iconst 1, 1) := by decide +kernel
theorem dX1_isSame_668 : decode cX1_isSame 668 = .ok (.goto 4, 3) := by decide +kernel
theorem dX1_isSame_671 : decode cX1_isSame 671 = .ok (.iconst 0, 1) := by decide +kernel
theorem dX1_isSame_672 : decode cX1_isSame 672 = .ok (.ireturn, 1) := by decide +kernel
theorem dJ9_abs_0f7a4_0 : decode cJ9_abs_0f7a4 0 = .ok (.iload_n 0, 1) := by decide +kernel
theorem dJ9_abs_0f7a4_1 : decode cJ9_abs_0f7a4 1 = .ok (.ifCond .ge 8, 3) := by decide +kernel
theorem dJ9_abs_0f7a4_4 : decode cJ9_abs_0f7a4 4 = .ok (.iload_n 0, 1) := by decide +kernel
theorem dJ9_abs_0f7a4_5 : decode cJ9_abs_0f7a4 5 = .ok (.ineg, 1) := by decide +kernel
theorem dJ9_abs_0f7a4_6 : decode cJ9_abs_0f7a4 6 = .ok (.goto 4, 3) := by decide +kernel
theorem dJ9_abs_0f7a4_9 : decode cJ9_abs_0f7a4 9 = .ok (.iload_n 0, 1) := by decide +kernel
theorem dJ9_abs_0f7a4_10 : decode cJ9_abs_0f7a4 10 = .ok (.ireturn, 1) := by decide +kernel
theorem dJ9_max_7cf53_0 : decode cJ9_max_7cf53 0 = .ok (.iload_n 0, 1) := by decide +kernel
theorem dJ9_max_7cf53_1 : decode cJ9_max_7cf53 1 = .ok (.iload_n 1, 1) := by decide +kernel
theorem dJ9_max_7cf53_2 : decode cJ9_max_7cf53 2 = .ok (.if_icmp .lt 7, 3) := by decide +kernel
theorem dJ9_max_7cf53_5 : decode cJ9_max_7cf53 5 = .ok (.iload_n 0, 1) := by decide +kernel
theorem dJ9_max_7cf53_6 : decode cJ9_max_7cf53 6 = .ok (.goto 4, 3) := by decide +kernel
theorem dJ9_max_7cf53_9 : decode cJ9_max_7cf53 9 = .ok (.iload_n 1, 1) := by decide +kernel
theorem dJ9_max_7cf53_10 : decode cJ9_max_7cf53 10 = .ok (.ireturn, 1) := by decide +kernel
theorem dJ9_min_7cf53_0 : decode cJ9_min_7cf53 0 = .ok (.iload_n 0, 1) := by decide +kernel
theorem dJ9_min_7cf53_1 : decode cJ9_min_7cf53 1 = .ok (.iload_n 1, 1) := by decide +kernel
theorem dJ9_min_7cf53_2 : decode cJ9_min_7cf53 2 = .ok (.if_icmp .gt 7, 3) := by decide +kernel
theorem dJ9_min_7cf53_5 : decode cJ9_min_7cf53 5 = .ok (.iload_n 0, 1) := by decide +kernel
theorem dJ9_min_7cf53_6 : decode cJ9_min_7cf53 6 = .ok (.goto 4, 3) := by decide +kernel
theorem dJ9_min_7cf53_9 : decode cJ9_min_7cf53 9 = .ok (.iload_n 1, 1) := by decide +kernel
theorem dJ9_min_7cf53_10 : decode cJ9_min_7cf53 10 = .ok (.ireturn, 1) := by decide +kernel
theorem dL_below_0 : decode cL_below 0 = .ok (.iload_n 0, 1) := by decide +kernel
theorem dL_below_1 : decode cL_below 1 = .ok (.ldc 7, 2) := by decide +kernel
theorem dL_below_3 : decode cL_below 3 = .ok (.iand, 1) := by decide +kernel
theorem dL_below_4 : decode cL_below 4 = .ok (.iload_n 1, 1) := by decide +kernel
theorem dL_below_5 : decode cL_below 5 = .ok (.irem, 1) := by decide +kernel
theorem dL_below_6 : decode cL_below 6 = .ok (.ireturn, 1) := by decide +kernel
theorem dL_cell_0 : decode cL_cell 0 = .ok (.iload_n 1, 1) := by decide +kernel
theorem dL_cell_1 : decode cL_cell 1 = .ok (.aload_n 0, 1) := by decide +kernel
theorem dL_cell_2 : decode cL_cell 2 = .ok (.arraylength, 1) := by decide +kernel
theorem dL_cell_3 : decode cL_cell 3 = .ok (.if_icmp .ge 9, 3) := by decide +kernel
theorem dL_cell_6 : decode cL_cell 6 = .ok (.aload_n 0, 1) := by decide +kernel
theorem dL_cell_7 : decode cL_cell 7 = .ok (.iload_n 1, 1) := by decide +kernel
theorem dL_cell_8 : decode cL_cell 8 = .ok (.iaload, 1) := by decide +kernel
theorem dL_cell_9 : decode cL_cell 9 = .ok (.goto 9, 3) := by decide +kernel
theorem dL_cell_12 : decode cL_cell 12 = .ok (.ldc 8, 2) := by decide +kernel
theorem dL_cell_14 : decode cL_cell 14 = .ok (.iload_n 1, 1) := by decide +kernel
theorem dL_cell_15 : decode cL_cell 15 = .ok (.iconst 3, 1) := by decide +kernel
theorem dL_cell_16 : decode cL_cell 16 = .ok (.iadd, 1) := by decide +kernel
theorem dL_cell_17 : decode cL_cell 17 = .ok (.imul, 1) := by decide +kernel
theorem dL_cell_18 : decode cL_cell 18 = .ok (.ireturn, 1) := by decide +kernel
end
section
set_option maxRecDepth 20000 in
theorem ggL_act_L_below : GoodIn wsL_act wsL_below := goodIn_r _ [19, 20] (by decide +kernel) (by decide +kernel)
set_option maxRecDepth 20000 in
theorem gL_act_L_below : GoodIn wsL_act (va_wsS RL 9 yL_below wsL_below) := goodIn_app (goodIn_of _ (by decide +kernel)) ggL_act_L_below
set_option maxRecDepth 20000 in
theorem ggL_act_X1_addStick : GoodIn wsL_act wsX1_addStick := goodIn_r _ [25, 26, 7, 142, 143, 144, 145, 146, 147, 148, 149, 150, 151] (by decide +kernel) (by decide +kernel)
set_option maxRecDepth 20000 in
theorem gL_act_X1_addStick : GoodIn wsL_act (wsV RL 21 RX1 yX1_addStick wsX1_addStick) := goodIn_app (goodIn_of _ (by decide +kernel)) ggL_act_X1_addStick
set_option maxRecDepth 20000 in
theorem ggL_act_X0_addStick : GoodIn wsL_act wsX0_addStick := goodIn_ca (goodIn_ca (goodIn_r _ [31, 32, 33, 34, 35, 36, 37, 152, 153, 154, 155, 156, 157, 158, 159, 160, 161, 162, 163, 164, 165, 166, 167, 168] (by decide +kernel) (by decide +kernel)) (goodIn_sub (fun _ h => List.mem_cons_of_mem _ (List.mem_append_left _ (List.mem_append_left _ (List.mem_append_right _ h)))) (by decide +kernel))) (goodIn_sub (fun _ h => List.mem_cons_of_mem _ (List.mem_append_left _ (List.mem_append_right _ h))) (by decide +kernel))
set_option maxRecDepth 20000 in
theorem gL_act_X0_addStick : GoodIn wsL_act (wsV RL 25 RX0 yX0_addStick wsX0_addStick) := goodIn_app (goodIn_of _ (by decide +kernel)) ggL_act_X0_addStick
set_option maxRecDepth 20000 in
theorem ggL_act_X1_with : GoodIn wsL_act wsX1_with := goodIn_r _ [40, 41] (by decide +kernel) (by decide +kernel)
set_option maxRecDepth 20000 in
theorem gL_act_X1_with : GoodIn wsL_act (va_wsS RL 39 yX1_with wsX1_with) := goodIn_app (goodIn_of _ (by decide +kernel)) ggL_act_X1_with
set_option maxRecDepth 20000 in
theorem ggL_act_X0_addNap : GoodIn wsL_act wsX0_addNap := goodIn_ca (goodIn_ca (goodIn_r _ [45, 32, 33, 34, 35, 46, 47, 48, 49, 50, 51, 30, 52, 53, 54, 55, 56, 57, 152, 153, 154, 155, 156, 157, 158, 159, 160, 161, 162, 163, 164, 165, 166, 167, 168] (by decide +kernel) (by decide +kernel)) (goodIn_sub (fun _ h => List.mem_cons_of_mem _ (List.mem_append_left _ (List.mem_append_left _ (List.mem_append_right _ h)))) (by decide +kernel))) (goodIn_sub (fun _ h => List.mem_cons_of_mem _ (List.mem_append_left _ (List.mem_append_right _ h))) (by decide +kernel))
set_option maxRecDepth 20000 in
theorem gL_act_X0_addNap : GoodIn wsL_act (wsV RL 43 RX0 yX0_addNap wsX0_addNap) := goodIn_app (goodIn_of _ (by decide +kernel)) ggL_act_X0_addNap
set_option maxRecDepth 20000 in
theorem ggL_act_X1_without : GoodIn wsL_act wsX1_without := goodIn_r _ [60, 41, 61, 39, 24, 40] (by decide +kernel) (by decide +kernel)
set_option maxRecDepth 20000 in
theorem gL_act_X1_without : GoodIn wsL_act (va_wsS RL 46 yX1_without wsX1_without) := goodIn_app (goodIn_of _ (by decide +kernel)) ggL_act_X1_without
set_option maxRecDepth 20000 in
theorem ggL_act_X0_giveUp : GoodIn wsL_act wsX0_giveUp := goodIn_ca (goodIn_r _ [65, 46, 47, 48, 66, 67, 68, 30, 69, 70, 71, 49, 50, 51, 52, 53, 54, 55, 56, 57, 152, 153, 154, 155, 156, 157, 158, 159, 160, 161, 162, 163, 164, 165, 166, 167, 168] (by decide +kernel) (by decide +kernel)) (goodIn_sub (fun _ h => List.mem_cons_of_mem _ (List.mem_append_right _ h)) (by decide +kernel))
set_option maxRecDepth 20000 in
theorem gL_act_X0_giveUp : GoodIn wsL_act (wsV RL 50 RX0 yX0_giveUp wsX0_giveUp) := goodIn_app (goodIn_of _ (by decide +kernel)) ggL_act_X0_giveUp
set_option maxRecDepth 20000 in
theorem ggL_act_X0_addBee : GoodIn wsL_act wsX0_addBee := goodIn_ca (goodIn_ca (goodIn_r _ [75, 32, 33, 34, 35, 76, 77, 78, 79, 80, 81, 82, 30, 83, 152, 153, 154, 155, 156, 157, 158, 159, 160, 161, 162, 163, 164, 165, 166, 167, 168] (by decide +kernel) (by decide +kernel)) (goodIn_sub (fun _ h => List.mem_cons_of_mem _ (List.mem_append_left _ (List.mem_append_left _ (List.mem_append_right _ h)))) (by decide +kernel))) (goodIn_sub (fun _ h => List.mem_cons_of_mem _ (List.mem_append_left _ (List.mem_append_right _ h))) (by decide +kernel))
set_option maxRecDepth 20000 in
theorem gL_act_X0_addBee : GoodIn wsL_act (wsV RL 56 RX0 yX0_addBee wsX0_addBee) := goodIn_app (goodIn_of _ (by decide +kernel)) ggL_act_X0_addBee
set_option maxRecDepth 20000 in
theorem ggL_act_X0_setTea : GoodIn wsL_act wsX0_setTea := goodIn_ca (goodIn_r _ [87, 32, 33, 88, 89, 90, 91, 92, 93, 94, 30, 95, 96, 97, 98, 99, 100, 101, 102, 4, 103, 152, 153, 154, 155, 156, 157, 158, 159, 160, 161, 162, 163, 164, 165, 166, 167, 168] (by decide +kernel) (by decide +kernel)) (goodIn_sub (fun _ h => List.mem_cons_of_mem _ (List.mem_append_left _ (List.mem_append_left _ (List.mem_append_right _ h)))) (by decide +kernel))
set_option maxRecDepth 20000 in
theorem gL_act_X0_setTea : GoodIn wsL_act (wsV RL 75 RX0 yX0_setTea wsX0_setTea) := goodIn_app (goodIn_of _ (by decide +kernel)) ggL_act_X0_setTea
set_option maxRecDepth 20000 in
theorem ggL_act_X0_begin : GoodIn wsL_act wsX0_begin := goodIn_r _ [107, 108, 91, 96, 109, 152, 153, 154, 155, 156, 157, 158, 159, 160, 161, 162, 163, 164, 165, 166, 167, 168] (by decide +kernel) (by decide +kernel)
set_option maxRecDepth 20000 in
theorem gL_act_X0_begin : GoodIn wsL_act (wsV RL 85 RX0 yX0_begin wsX0_begin) := goodIn_app (goodIn_of _ (by decide +kernel)) ggL_act_X0_begin
set_option maxRecDepth 20000 in
theorem ggL_act_X0_pass : GoodIn wsL_act wsX0_pass := goodIn_ca (goodIn_ca (goodIn_r _ [113, 32, 33, 34, 35, 108, 91, 89, 114, 115, 116, 30, 117, 53, 90, 79, 101, 102, 4, 103, 92, 93, 94, 95, 96, 97, 98, 99, 100, 88, 152, 153, 154, 155, 156, 157, 158, 159, 160, 161, 162, 163, 164, 165, 166, 167, 168] (by decide +kernel) (by decide +kernel)) (goodIn_sub (fun _ h => List.mem_cons_of_mem _ (List.mem_append_left _ (List.mem_append_left _ (List.mem_append_right _ h)))) (by decide +kernel))) (goodIn_sub (fun _ h => List.mem_cons_of_mem _ (List.mem_append_left _ (List.mem_append_right _ h))) (by decide +kernel))
set_option maxRecDepth 20000 in
theorem gL_act_X0_pass : GoodIn wsL_act (wsV RL 89 RX0 yX0_pass wsX0_pass) := goodIn_app (goodIn_of _ (by decide +kernel)) ggL_act_X0_pass
set_option maxRecDepth 20000 in
theorem ggL_act_X1_pass_ : GoodIn wsL_act wsX1_pass_ := goodIn_r _ [121, 122, 123, 124, 24, 125, 126, 127, 128, 129, 130, 131, 132, 133, 134, 135, 136, 137, 138, 139, 140, 141, 142, 143, 144, 145, 146, 147, 148, 149, 150, 151] (by decide +kernel) (by decide +kernel)
set_option maxRecDepth 20000 in
theorem gL_act_X1_pass_ : GoodIn wsL_act (wsV RL 92 RX1 yX1_pass_ wsX1_pass_) := goodIn_app (goodIn_of _ (by decide +kernel)) ggL_act_X1_pass_
theorem dL_act_0 : decode cL_act 0 = .ok (.iload_n 2, 1) := by decide +kernel
theorem dL_act_1 : decode cL_act 1 = .ok (.bipush 13, 2) := by decide +kernel
theorem dL_act_3 : decode cL_act 3 = .ok (.invokestatic 9, 3) := by decide +kernel
theorem dL_act_6 : decode cL_act 6 = .ok (.tableswitch 541 0 8 #[50, 98, 98, 208, 261, 261, 361, 361, 487], 50) := by decide +kernel
theorem dL_act_56 : decode cL_act 56 = .ok (.aload_n 1, 1) := by decide +kernel
theorem dL_act_57 : decode cL_act 57 = .ok (.getfield 15, 3) := by decide +kernel
theorem dL_act_60 : decode cL_act 60 = .ok (.arraylength, 1) := by decide +kernel
theorem dL_act_61 : decode cL_act 61 = .ok (.iconst 4, 1) := by decide +kernel
theorem dL_act_62 : decode cL_act 62 = .ok (.if_icmp .ne 5, 3) := by decide +kernel
theorem dL_act_65 : decode cL_act 65 = .ok (.iconst 1, 1) := by decide +kernel
theorem dL_act_66 : decode cL_act 66 = .ok (.ireturn, 1) := by decide +kernel
theorem dL_act_67 : decode cL_act 67 = .ok (.iconst 1, 1) := by decide +kernel
theorem dL_act_68 : decode cL_act 68 = .ok (.iload_n 2, 1) := by decide +kernel
theorem dL_act_69 : decode cL_act 69 = .ok (.iconst 4, 1) := by decide +kernel
theorem dL_act_70 : decode cL_act 70 = .ok (.ishr, 1) := by decide +kernel
theorem dL_act_71 : decode cL_act 71 = .ok (.bipush 30, 2) := by decide +kernel
theorem dL_act_73 : decode cL_act 73 = .ok (.invokestatic 9, 3) := by decide +kernel
theorem dL_act_76 : decode cL_act 76 = .ok (.iadd, 1) := by decide +kernel
theorem dL_act_77 : decode cL_act 77 = .ok (.istore_n 3, 1) := by decide +kernel
theorem dL_act_78 : decode cL_act 78 = .ok (.aload_n 1, 1) := by decide +kernel
theorem dL_act_79 : decode cL_act 79 = .ok (.iload_n 3, 1) := by decide +kernel
theorem dL_act_80 : decode cL_act 80 = .ok (.invokevirtual 21, 3) := by decide +kernel
theorem dL_act_83 : decode cL_act 83 = .ok (.aload_n 0, 1) := by decide +kernel
theorem dL_act_84 : decode cL_act 84 = .ok (.iload_n 3, 1) := by decide +kernel
theorem dL_act_85 : decode cL_act 85 = .ok (.invokevirtual 25, 3) := by decide +kernel
theorem dL_act_88 : decode cL_act 88 = .ok (.aload_n 1, 1) := by decide +kernel
theorem dL_act_89 : decode cL_act 89 = .ok (.getfield 15, 3) := by decide +kernel
theorem dL_act_92 : decode cL_act 92 = .ok (.arraylength, 1) := by decide +kernel
theorem dL_act_93 : decode cL_act 93 = .ok (.iconst 1, 1) := by decide +kernel
theorem dL_act_94 : decode cL_act 94 = .ok (.isub, 1) := by decide +kernel
theorem dL_act_95 : decode cL_act 95 = .ok (.if_icmp .ne 7, 3) := by decide +kernel
theorem dL_act_98 : decode cL_act 98 = .ok (.iconst 1, 1) := by decide +kernel
theorem dL_act_99 : decode cL_act 99 = .ok (.goto 4, 3) := by decide +kernel
theorem dL_act_102 : decode cL_act 102 = .ok (.iconst 0, 1) := by decide +kernel
theorem dL_act_103 : decode cL_act 103 = .ok (.ireturn, 1) := by decide +kernel
theorem dL_act_104 : decode cL_act 104 = .ok (.iload_n 2, 1) := by decide +kernel
theorem dL_act_105 : decode cL_act 105 = .ok (.iconst 4, 1) := by decide +kernel
theorem dL_act_106 : decode cL_act 106 = .ok (.ishr, 1) := by decide +kernel
theorem dL_act_107 : decode cL_act 107 = .ok (.sipush 360, 3) := by decide +kernel
theorem dL_act_110 : decode cL_act 110 = .ok (.invokestatic 9, 3) := by decide +kernel
theorem dL_act_113 : decode cL_act 113 = .ok (.istore_n 3, 1) := by decide +kernel
theorem dL_act_114 : decode cL_act 114 = .ok (.iload_n 3, 1) := by decide +kernel
theorem dL_act_115 : decode cL_act 115 = .ok (.iconst 1, 1) := by decide +kernel
theorem dL_act_116 : decode cL_act 116 = .ok (.iadd, 1) := by decide +kernel
theorem dL_act_117 : decode cL_act 117 = .ok (.iload_n 2, 1) := by decide +kernel
theorem dL_act_118 : decode cL_act 118 = .ok (.bipush 6, 2) := by decide +kernel
theorem dL_act_120 : decode cL_act 120 = .ok (.ishr, 1) := by decide +kernel
theorem dL_act_121 : decode cL_act 121 = .ok (.iload_n 2, 1) := by decide +kernel
theorem dL_act_122 : decode cL_act 122 = .ok (.bipush 8, 2) := by decide +kernel
theorem dL_act_124 : decode cL_act 124 = .ok (.ishr, 1) := by decide +kernel
theorem dL_act_125 : decode cL_act 125 = .ok (.iconst 2, 1) := by decide +kernel
theorem dL_act_126 : decode cL_act 126 = .ok (.invokestatic 9, 3) := by decide +kernel
theorem dL_act_129 : decode cL_act 129 = .ok (.ifCond .ne 11, 3) := by decide +kernel
theorem dL_act_132 : decode cL_act 132 = .ok (.sipush 360, 3) := by decide +kernel
theorem dL_act_135 : decode cL_act 135 = .ok (.iload_n 3, 1) := by decide +kernel
theorem dL_act_136 : decode cL_act 136 = .ok (.isub, 1) := by decide +kernel
theorem dL_act_137 : decode cL_act 137 = .ok (.goto 13, 3) := by decide +kernel
theorem dL_act_140 : decode cL_act 140 = .ok (.bipush 40, 2) := by decide +kernel
theorem dL_act_142 : decode cL_act 142 = .ok (.sipush 360, 3) := by decide +kernel
theorem dL_act_145 : decode cL_act 145 = .ok (.iload_n 3, 1) := by decide +kernel
theorem dL_act_146 : decode cL_act 146 = .ok (.isub, 1) := by decide +kernel
theorem dL_act_147 : decode cL_act 147 = .ok (.invokestatic 30, 3) := by decide +kernel
theorem dL_act_150 : decode cL_act 150 = .ok (.invokestatic 9, 3) := by decide +kernel
theorem dL_act_153 : decode cL_act 153 = .ok (.iadd, 1) := by decide +kernel
theorem dL_act_154 : decode cL_act 154 = .ok (.istore 4, 2) := by decide +kernel
theorem dL_act_156 : decode cL_act 156 = .ok (.aload_n 1, 1) := by decide +kernel
theorem dL_act_157 : decode cL_act 157 = .ok (.getfield 35, 3) := by decide +kernel
theorem dL_act_160 : decode cL_act 160 = .ok (.arraylength, 1) := by decide +kernel
theorem dL_act_161 : decode cL_act 161 = .ok (.bipush 8, 2) := by decide +kernel
theorem dL_act_163 : decode cL_act 163 = .ok (.if_icmp .ne 5, 3) := by decide +kernel
theorem dL_act_166 : decode cL_act 166 = .ok (.iconst 1, 1) := by decide +kernel
theorem dL_act_167 : decode cL_act 167 = .ok (.ireturn, 1) := by decide +kernel
theorem dL_act_168 : decode cL_act 168 = .ok (.aload_n 1, 1) := by decide +kernel
theorem dL_act_169 : decode cL_act 169 = .ok (.aload_n 1, 1) := by decide +kernel
theorem dL_act_170 : decode cL_act 170 = .ok (.getfield 35, 3) := by decide +kernel
theorem dL_act_173 : decode cL_act 173 = .ok (.iconst 2, 1) := by decide +kernel
theorem dL_act_174 : decode cL_act 174 = .ok (.newarray .int, 2) := by decide +kernel
theorem dL_act_176 : decode cL_act 176 = .ok (.dup, 1) := by decide +kernel
theorem dL_act_177 : decode cL_act 177 = .ok (.iconst 0, 1) := by decide +kernel
theorem dL_act_178 : decode cL_act 178 = .ok (.iload_n 3, 1) := by decide +kernel
theorem dL_act_179 : decode cL_act 179 = .ok (.iastore, 1) := by decide +kernel
theorem dL_act_180 : decode cL_act 180 = .ok (.dup, 1) := by decide +kernel
theorem dL_act_181 : decode cL_act 181 = .ok (.iconst 1, 1) := by decide +kernel
theorem dL_act_182 : decode cL_act 182 = .ok (.iload 4, 2) := by decide +kernel
theorem dL_act_184 : decode cL_act 184 = .ok (.iastore, 1) := by decide +kernel
theorem dL_act_185 : decode cL_act 185 = .ok (.invokestatic 39, 3) := by decide +kernel
theorem dL_act_188 : decode cL_act 188 = .ok (.putfield 35, 3) := by decide +kernel
theorem dL_act_191 : decode cL_act 191 = .ok (.aload_n 0, 1) := by decide +kernel
theorem dL_act_192 : decode cL_act 192 = .ok (.iload_n 3, 1) := by decide +kernel
theorem dL_act_193 : decode cL_act 193 = .ok (.iload 4, 2) := by decide +kernel
theorem dL_act_195 : decode cL_act 195 = .ok (.invokevirtual 43, 3) := by decide +kernel
theorem dL_act_198 : decode cL_act 198 = .ok (.aload_n 1, 1) := by decide +kernel
theorem dL_act_199 : decode cL_act 199 = .ok (.getfield 35, 3) := by decide +kernel
theorem dL_act_202 : decode cL_act 202 = .ok (.arraylength, 1) := by decide +kernel
theorem dL_act_203 : decode cL_act 203 = .ok (.iconst 1, 1) := by decide +kernel
theorem dL_act_204 : decode cL_act 204 = .ok (.isub, 1) := by decide +kernel
theorem dL_act_205 : decode cL_act 205 = .ok (.if_icmp .ne 7, 3) := by decide +kernel
theorem dL_act_208 : decode cL_act 208 = .ok (.iconst 1, 1) := by decide +kernel
theorem dL_act_209 : decode cL_act 209 = .ok (.goto 4, 3) := by decide +kernel
theorem dL_act_212 : decode cL_act 212 = .ok (.iconst 0, 1) := by decide +kernel
theorem dL_act_213 : decode cL_act 213 = .ok (.ireturn, 1) := by decide +kernel
theorem dL_act_214 : decode cL_act 214 = .ok (.aload_n 1, 1) := by decide +kernel
theorem dL_act_215 : decode cL_act 215 = .ok (.getfield 35, 3) := by decide +kernel
theorem dL_act_218 : decode cL_act 218 = .ok (.arraylength, 1) := by decide +kernel
theorem dL_act_219 : decode cL_act 219 = .ok (.ifCond .ne 5, 3) := by decide +kernel
theorem dL_act_222 : decode cL_act 222 = .ok (.iconst 1, 1) := by decide +kernel
theorem dL_act_223 : decode cL_act 223 = .ok (.ireturn, 1) := by decide +kernel
theorem dL_act_224 : decode cL_act 224 = .ok (.iload_n 2, 1) := by decide +kernel
theorem dL_act_225 : decode cL_act 225 = .ok (.iconst 5, 1) := by decide +kernel
theorem dL_act_226 : decode cL_act 226 = .ok (.ishr, 1) := by decide +kernel
theorem dL_act_227 : decode cL_act 227 = .ok (.aload_n 1, 1) := by decide +kernel
theorem dL_act_228 : decode cL_act 228 = .ok (.getfield 35, 3) := by decide +kernel
theorem dL_act_231 : decode cL_act 231 = .ok (.arraylength, 1) := by decide +kernel
theorem dL_act_232 : decode cL_act 232 = .ok (.invokestatic 9, 3) := by decide +kernel
theorem dL_act_235 : decode cL_act 235 = .ok (.istore_n 3, 1) := by decide +kernel
theorem dL_act_236 : decode cL_act 236 = .ok (.aload_n 1, 1) := by decide +kernel
theorem dL_act_237 : decode cL_act 237 = .ok (.aload_n 1, 1) := by decide +kernel
theorem dL_act_238 : decode cL_act 238 = .ok (.getfield 35, 3) := by decide +kernel
theorem dL_act_241 : decode cL_act 241 = .ok (.iload_n 3, 1) := by decide +kernel
theorem dL_act_242 : decode cL_act 242 = .ok (.invokestatic 46, 3) := by decide +kernel
theorem dL_act_245 : decode cL_act 245 = .ok (.putfield 35, 3) := by decide +kernel
theorem dL_act_248 : decode cL_act 248 = .ok (.aload_n 0, 1) := by decide +kernel
theorem dL_act_249 : decode cL_act 249 = .ok (.iload_n 3, 1) := by decide +kernel
theorem dL_act_250 : decode cL_act 250 = .ok (.invokevirtual 50, 3) := by decide +kernel
theorem dL_act_253 : decode cL_act 253 = .ok (.aload_n 1, 1) := by decide +kernel
theorem dL_act_254 : decode cL_act 254 = .ok (.getfield 35, 3) := by decide +kernel
theorem dL_act_257 : decode cL_act 257 = .ok (.arraylength, 1) := by decide +kernel
theorem dL_act_258 : decode cL_act 258 = .ok (.if_icmp .ne 7, 3) := by decide +kernel
theorem dL_act_261 : decode cL_act 261 = .ok (.iconst 1, 1) := by decide +kernel
theorem dL_act_262 : decode cL_act 262 = .ok (.goto 4, 3) := by decide +kernel
theorem dL_act_265 : decode cL_act 265 = .ok (.iconst 0, 1) := by decide +kernel
theorem dL_act_266 : decode cL_act 266 = .ok (.ireturn, 1) := by decide +kernel
theorem dL_act_267 : decode cL_act 267 = .ok (.aload_n 1, 1) := by decide +kernel
theorem dL_act_268 : decode cL_act 268 = .ok (.getfield 53, 3) := by decide +kernel
theorem dL_act_271 : decode cL_act 271 = .ok (.arraylength, 1) := by decide +kernel
theorem dL_act_272 : decode cL_act 272 = .ok (.bipush 6, 2) := by decide +kernel
theorem dL_act_274 : decode cL_act 274 = .ok (.if_icmp .ne 5, 3) := by decide +kernel
theorem dL_act_277 : decode cL_act 277 = .ok (.iconst 1, 1) := by decide +kernel
theorem dL_act_278 : decode cL_act 278 = .ok (.ireturn, 1) := by decide +kernel
theorem dL_act_279 : decode cL_act 279 = .ok (.iconst 2, 1) := by decide +kernel
theorem dL_act_280 : decode cL_act 280 = .ok (.iload_n 2, 1) := by decide +kernel
theorem dL_act_281 : decode cL_act 281 = .ok (.iconst 4, 1) := by decide +kernel
theorem dL_act_282 : decode cL_act 282 = .ok (.ishr, 1) := by decide +kernel
theorem dL_act_283 : decode cL_act 283 = .ok (.iload_n 2, 1) := by decide +kernel
theorem dL_act_284 : decode cL_act 284 = .ok (.bipush 8, 2) := by decide +kernel
theorem dL_act_286 : decode cL_act 286 = .ok (.ishr, 1) := by decide +kernel
theorem dL_act_287 : decode cL_act 287 = .ok (.iconst 2, 1) := by decide +kernel
theorem dL_act_288 : decode cL_act 288 = .ok (.invokestatic 9, 3) := by decide +kernel
theorem dL_act_291 : decode cL_act 291 = .ok (.ifCond .ne 8, 3) := by decide +kernel
theorem dL_act_294 : decode cL_act 294 = .ok (.bipush 29, 2) := by decide +kernel
theorem dL_act_296 : decode cL_act 296 = .ok (.goto 5, 3) := by decide +kernel
theorem dL_act_299 : decode cL_act 299 = .ok (.bipush 6, 2) := by decide +kernel
theorem dL_act_301 : decode cL_act 301 = .ok (.invokestatic 9, 3) := by decide +kernel
theorem dL_act_304 : decode cL_act 304 = .ok (.iadd, 1) := by decide +kernel
theorem dL_act_305 : decode cL_act 305 = .ok (.istore_n 3, 1) := by decide +kernel
theorem dL_act_306 : decode cL_act 306 = .ok (.iconst 2, 1) := by decide +kernel
theorem dL_act_307 : decode cL_act 307 = .ok (.newarray .int, 2) := by decide +kernel
theorem dL_act_309 : decode cL_act 309 = .ok (.dup, 1) := by decide +kernel
theorem dL_act_310 : decode cL_act 310 = .ok (.iconst 0, 1) := by decide +kernel
theorem dL_act_311 : decode cL_act 311 = .ok (.iload_n 3, 1) := by decide +kernel
theorem dL_act_312 : decode cL_act 312 = .ok (.iastore, 1) := by decide +kernel
theorem dL_act_313 : decode cL_act 313 = .ok (.dup, 1) := by decide +kernel
theorem dL_act_314 : decode cL_act 314 = .ok (.iconst 1, 1) := by decide +kernel
theorem dL_act_315 : decode cL_act 315 = .ok (.iload_n 2, 1) := by decide +kernel
theorem dL_act_316 : decode cL_act 316 = .ok (.bipush 6, 2) := by decide +kernel
theorem dL_act_318 : decode cL_act 318 = .ok (.ishr, 1) := by decide +kernel
theorem dL_act_319 : decode cL_act 319 = .ok (.iload_n 3, 1) := by decide +kernel
theorem dL_act_320 : decode cL_act 320 = .ok (.invokestatic 9, 3) := by decide +kernel
theorem dL_act_323 : decode cL_act 323 = .ok (.iastore, 1) := by decide +kernel
theorem dL_act_324 : decode cL_act 324 = .ok (.astore 4, 2) := by decide +kernel
theorem dL_act_326 : decode cL_act 326 = .ok (.aload_n 1, 1) := by decide +kernel
theorem dL_act_327 : decode cL_act 327 = .ok (.aload_n 1, 1) := by decide +kernel
theorem dL_act_328 : decode cL_act 328 = .ok (.getfield 53, 3) := by decide +kernel
theorem dL_act_331 : decode cL_act 331 = .ok (.aload 4, 2) := by decide +kernel
theorem dL_act_333 : decode cL_act 333 = .ok (.invokestatic 39, 3) := by decide +kernel
theorem dL_act_336 : decode cL_act 336 = .ok (.putfield 53, 3) := by decide +kernel
theorem dL_act_339 : decode cL_act 339 = .ok (.aload_n 0, 1) := by decide +kernel
theorem dL_act_340 : decode cL_act 340 = .ok (.aload 4, 2) := by decide +kernel
theorem dL_act_342 : decode cL_act 342 = .ok (.iconst 0, 1) := by decide +kernel
theorem dL_act_343 : decode cL_act 343 = .ok (.iaload, 1) := by decide +kernel
theorem dL_act_344 : decode cL_act 344 = .ok (.aload 4, 2) := by decide +kernel
theorem dL_act_346 : decode cL_act 346 = .ok (.iconst 1, 1) := by decide +kernel
theorem dL_act_347 : decode cL_act 347 = .ok (.iaload, 1) := by decide +kernel
theorem dL_act_348 : decode cL_act 348 = .ok (.invokevirtual 56, 3) := by decide +kernel
theorem dL_act_351 : decode cL_act 351 = .ok (.aload_n 1, 1) := by decide +kernel
theorem dL_act_352 : decode cL_act 352 = .ok (.getfield 53, 3) := by decide +kernel
theorem dL_act_355 : decode cL_act 355 = .ok (.arraylength, 1) := by decide +kernel
theorem dL_act_356 : decode cL_act 356 = .ok (.iconst 1, 1) := by decide +kernel
theorem dL_act_357 : decode cL_act 357 = .ok (.isub, 1) := by decide +kernel
theorem dL_act_358 : decode cL_act 358 = .ok (.if_icmp .ne 7, 3) := by decide +kernel
theorem dL_act_361 : decode cL_act 361 = .ok (.iconst 1, 1) := by decide +kernel
theorem dL_act_362 : decode cL_act 362 = .ok (.goto 4, 3) := by decide +kernel
theorem dL_act_365 : decode cL_act 365 = .ok (.iconst 0, 1) := by decide +kernel
theorem dL_act_366 : decode cL_act 366 = .ok (.ireturn, 1) := by decide +kernel
theorem dL_act_367 : decode cL_act 367 = .ok (.aload_n 1, 1) := by decide +kernel
theorem dL_act_368 : decode cL_act 368 = .ok (.iconst 1, 1) := by decide +kernel
theorem dL_act_369 : decode cL_act 369 = .ok (.iload_n 2, 1) := by decide +kernel
theorem dL_act_370 : decode cL_act 370 = .ok (.iconst 4, 1) := by decide +kernel
theorem dL_act_371 : decode cL_act 371 = .ok (.ishr, 1) := by decide +kernel
theorem dL_act_372 : decode cL_act 372 = .ok (.bipush 50, 2) := by decide +kernel
theorem dL_act_374 : decode cL_act 374 = .ok (.invokestatic 9, 3) := by decide +kernel
theorem dL_act_377 : decode cL_act 377 = .ok (.iadd, 1) := by decide +kernel
theorem dL_act_378 : decode cL_act 378 = .ok (.putfield 59, 3) := by decide +kernel
theorem dL_act_381 : decode cL_act 381 = .ok (.aload_n 1, 1) := by decide +kernel
theorem dL_act_382 : decode cL_act 382 = .ok (.iload_n 2, 1) := by decide +kernel
theorem dL_act_383 : decode cL_act 383 = .ok (.bipush 6, 2) := by decide +kernel
theorem dL_act_385 : decode cL_act 385 = .ok (.ishr, 1) := by decide +kernel
theorem dL_act_386 : decode cL_act 386 = .ok (.iload_n 2, 1) := by decide +kernel
theorem dL_act_387 : decode cL_act 387 = .ok (.bipush 9, 2) := by decide +kernel
theorem dL_act_389 : decode cL_act 389 = .ok (.ishr, 1) := by decide +kernel
theorem dL_act_390 : decode cL_act 390 = .ok (.iconst 2, 1) := by decide +kernel
theorem dL_act_391 : decode cL_act 391 = .ok (.invokestatic 9, 3) := by decide +kernel
theorem dL_act_394 : decode cL_act 394 = .ok (.ifCond .ne 8, 3) := by decide +kernel
theorem dL_act_397 : decode cL_act 397 = .ok (.bipush 10, 2) := by decide +kernel
theorem dL_act_399 : decode cL_act 399 = .ok (.goto 4, 3) := by decide +kernel
theorem dL_act_402 : decode cL_act 402 = .ok (.iconst 4, 1) := by decide +kernel
theorem dL_act_403 : decode cL_act 403 = .ok (.invokestatic 9, 3) := by decide +kernel
theorem dL_act_406 : decode cL_act 406 = .ok (.putfield 63, 3) := by decide +kernel
theorem dL_act_409 : decode cL_act 409 = .ok (.aload_n 1, 1) := by decide +kernel
theorem dL_act_410 : decode cL_act 410 = .ok (.iload_n 2, 1) := by decide +kernel
theorem dL_act_411 : decode cL_act 411 = .ok (.bipush 7, 2) := by decide +kernel
theorem dL_act_413 : decode cL_act 413 = .ok (.ishr, 1) := by decide +kernel
theorem dL_act_414 : decode cL_act 414 = .ok (.bipush 10, 2) := by decide +kernel
theorem dL_act_416 : decode cL_act 416 = .ok (.invokestatic 9, 3) := by decide +kernel
theorem dL_act_419 : decode cL_act 419 = .ok (.putfield 66, 3) := by decide +kernel
theorem dL_act_422 : decode cL_act 422 = .ok (.aload_n 1, 1) := by decide +kernel
theorem dL_act_423 : decode cL_act 423 = .ok (.getfield 69, 3) := by decide +kernel
theorem dL_act_426 : decode cL_act 426 = .ok (.aload_n 1, 1) := by decide +kernel
theorem dL_act_427 : decode cL_act 427 = .ok (.getfield 59, 3) := by decide +kernel
theorem dL_act_430 : decode cL_act 430 = .ok (.if_icmp .le 15, 3) := by decide +kernel
theorem dL_act_433 : decode cL_act 433 = .ok (.aload_n 1, 1) := by decide +kernel
theorem dL_act_434 : decode cL_act 434 = .ok (.getfield 69, 3) := by decide +kernel
theorem dL_act_437 : decode cL_act 437 = .ok (.aload_n 1, 1) := by decide +kernel
theorem dL_act_438 : decode cL_act 438 = .ok (.getfield 59, 3) := by decide +kernel
theorem dL_act_441 : decode cL_act 441 = .ok (.isub, 1) := by decide +kernel
theorem dL_act_442 : decode cL_act 442 = .ok (.goto 4, 3) := by decide +kernel
theorem dL_act_445 : decode cL_act 445 = .ok (.iconst 0, 1) := by decide +kernel
theorem dL_act_446 : decode cL_act 446 = .ok (.istore_n 3, 1) := by decide +kernel
theorem dL_act_447 : decode cL_act 447 = .ok (.aload_n 1, 1) := by decide +kernel
theorem dL_act_448 : decode cL_act 448 = .ok (.dup, 1) := by decide +kernel
theorem dL_act_449 : decode cL_act 449 = .ok (.getfield 69, 3) := by decide +kernel
theorem dL_act_452 : decode cL_act 452 = .ok (.iload_n 3, 1) := by decide +kernel
theorem dL_act_453 : decode cL_act 453 = .ok (.isub, 1) := by decide +kernel
theorem dL_act_454 : decode cL_act 454 = .ok (.putfield 69, 3) := by decide +kernel
theorem dL_act_457 : decode cL_act 457 = .ok (.aload_n 1, 1) := by decide +kernel
theorem dL_act_458 : decode cL_act 458 = .ok (.dup, 1) := by decide +kernel
theorem dL_act_459 : decode cL_act 459 = .ok (.getfield 72, 3) := by decide +kernel
theorem dL_act_462 : decode cL_act 462 = .ok (.iload_n 3, 1) := by decide +kernel
theorem dL_act_463 : decode cL_act 463 = .ok (.iadd, 1) := by decide +kernel
theorem dL_act_464 : decode cL_act 464 = .ok (.putfield 72, 3) := by decide +kernel
theorem dL_act_467 : decode cL_act 467 = .ok (.aload_n 0, 1) := by decide +kernel
theorem dL_act_468 : decode cL_act 468 = .ok (.aload_n 1, 1) := by decide +kernel
theorem dL_act_469 : decode cL_act 469 = .ok (.getfield 59, 3) := by decide +kernel
theorem dL_act_472 : decode cL_act 472 = .ok (.aload_n 1, 1) := by decide +kernel
theorem dL_act_473 : decode cL_act 473 = .ok (.getfield 63, 3) := by decide +kernel
theorem dL_act_476 : decode cL_act 476 = .ok (.aload_n 1, 1) := by decide +kernel
theorem dL_act_477 : decode cL_act 477 = .ok (.getfield 66, 3) := by decide +kernel
theorem dL_act_480 : decode cL_act 480 = .ok (.invokevirtual 75, 3) := by decide +kernel
theorem dL_act_483 : decode cL_act 483 = .ok (.iload_n 3, 1) := by decide +kernel
theorem dL_act_484 : decode cL_act 484 = .ok (.if_icmp .ne 7, 3) := by decide +kernel
theorem dL_act_487 : decode cL_act 487 = .ok (.iconst 1, 1) := by decide +kernel
theorem dL_act_488 : decode cL_act 488 = .ok (.goto 4, 3) := by decide +kernel
theorem dL_act_491 : decode cL_act 491 = .ok (.iconst 0, 1) := by decide +kernel
theorem dL_act_492 : decode cL_act 492 = .ok (.ireturn, 1) := by decide +kernel
theorem dL_act_493 : decode cL_act 493 = .ok (.iload_n 2, 1) := by decide +kernel
theorem dL_act_494 : decode cL_act 494 = .ok (.iconst 5, 1) := by decide +kernel
theorem dL_act_495 : decode cL_act 495 = .ok (.ishr, 1) := by decide +kernel
theorem dL_act_496 : decode cL_act 496 = .ok (.iconst 3, 1) := by decide +kernel
theorem dL_act_497 : decode cL_act 497 = .ok (.invokestatic 9, 3) := by decide +kernel
theorem dL_act_500 : decode cL_act 500 = .ok (.ifCond .le 5, 3) := by decide +kernel
theorem dL_act_503 : decode cL_act 503 = .ok (.iconst 1, 1) := by decide +kernel
theorem dL_act_504 : decode cL_act 504 = .ok (.ireturn, 1) := by decide +kernel
theorem dL_act_505 : decode cL_act 505 = .ok (.aload_n 1, 1) := by decide +kernel
theorem dL_act_506 : decode cL_act 506 = .ok (.dup, 1) := by decide +kernel
theorem dL_act_507 : decode cL_act 507 = .ok (.getfield 79, 3) := by decide +kernel
theorem dL_act_510 : decode cL_act 510 = .ok (.iconst 1, 1) := by decide +kernel
theorem dL_act_511 : decode cL_act 511 = .ok (.iadd, 1) := by decide +kernel
theorem dL_act_512 : decode cL_act 512 = .ok (.putfield 79, 3) := by decide +kernel
theorem dL_act_515 : decode cL_act 515 = .ok (.aload_n 1, 1) := by decide +kernel
theorem dL_act_516 : decode cL_act 516 = .ok (.iconst 0, 1) := by decide +kernel
theorem dL_act_517 : decode cL_act 517 = .ok (.putfield 82, 3) := by decide +kernel
theorem dL_act_520 : decode cL_act 520 = .ok (.aload_n 1, 1) := by decide +kernel
theorem dL_act_521 : decode cL_act 521 = .ok (.iconst 0, 1) := by decide +kernel
theorem dL_act_522 : decode cL_act 522 = .ok (.putfield 69, 3) := by decide +kernel
theorem dL_act_525 : decode cL_act 525 = .ok (.aload_n 1, 1) := by decide +kernel
theorem dL_act_526 : decode cL_act 526 = .ok (.iconst 0, 1) := by decide +kernel
theorem dL_act_527 : decode cL_act 527 = .ok (.putfield 72, 3) := by decide +kernel
theorem dL_act_530 : decode cL_act 530 = .ok (.aload_n 0, 1) := by decide +kernel
theorem dL_act_531 : decode cL_act 531 = .ok (.invokevirtual 85, 3) := by decide +kernel
theorem dL_act_534 : decode cL_act 534 = .ok (.aload_n 1, 1) := by decide +kernel
theorem dL_act_535 : decode cL_act 535 = .ok (.getfield 79, 3) := by decide +kernel
theorem dL_act_538 : decode cL_act 538 = .ok (.if_icmp .ne 7, 3) := by decide +kernel
theorem dL_act_541 : decode cL_act 541 = .ok (.iconst 1, 1) := by decide +kernel
theorem dL_act_542 : decode cL_act 542 = .ok (.goto 4, 3) := by decide +kernel
theorem dL_act_545 : decode cL_act 545 = .ok (.iconst 0, 1) := by decide +kernel
theorem dL_act_546 : decode cL_act 546 = .ok (.ireturn, 1) := by decide +kernel
theorem dL_act_547 : decode cL_act 547 = .ok (.iconst 1, 1) := by decide +kernel
theorem dL_act_548 : decode cL_act 548 = .ok (.iload_n 2, 1) := by decide +kernel
theorem dL_act_549 : decode cL_act 549 = .ok (.iconst 4, 1) := by decide +kernel
theorem dL_act_550 : decode cL_act 550 = .ok (.ishr, 1) := by decide +kernel
theorem dL_act_551 : decode cL_act 551 = .ok (.iload_n 2, 1) := by decide +kernel
theorem dL_act_552 : decode cL_act 552 = .ok (.bipush 8, 2) := by decide +kernel
theorem dL_act_554 : decode cL_act 554 = .ok (.ishr, 1) := by decide +kernel
theorem dL_act_555 : decode cL_act 555 = .ok (.iconst 4, 1) := by decide +kernel
theorem dL_act_556 : decode cL_act 556 = .ok (.invokestatic 9, 3) := by decide +kernel
theorem dL_act_559 : decode cL_act 559 = .ok (.ifCond .ne 9, 3) := by decide +kernel
theorem dL_act_562 : decode cL_act 562 = .ok (.sipush 360, 3) := by decide +kernel
theorem dL_act_565 : decode cL_act 565 = .ok (.goto 5, 3) := by decide +kernel
theorem dL_act_568 : decode cL_act 568 = .ok (.bipush 30, 2) := by decide +kernel
theorem dL_act_570 : decode cL_act 570 = .ok (.invokestatic 9, 3) := by decide +kernel
theorem dL_act_573 : decode cL_act 573 = .ok (.iadd, 1) := by decide +kernel
theorem dL_act_574 : decode cL_act 574 = .ok (.istore_n 3, 1) := by decide +kernel
theorem dL_act_575 : decode cL_act 575 = .ok (.aload_n 1, 1) := by decide +kernel
theorem dL_act_576 : decode cL_act 576 = .ok (.getfield 82, 3) := by decide +kernel
theorem dL_act_579 : decode cL_act 579 = .ok (.iload_n 3, 1) := by decide +kernel
theorem dL_act_580 : decode cL_act 580 = .ok (.iadd, 1) := by decide +kernel
theorem dL_act_581 : decode cL_act 581 = .ok (.sipush 360, 3) := by decide +kernel
theorem dL_act_584 : decode cL_act 584 = .ok (.if_icmp .le 5, 3) := by decide +kernel
theorem dL_act_587 : decode cL_act 587 = .ok (.iconst 1, 1) := by decide +kernel
theorem dL_act_588 : decode cL_act 588 = .ok (.ireturn, 1) := by decide +kernel
theorem dL_act_589 : decode cL_act 589 = .ok (.aload_n 0, 1) := by decide +kernel
theorem dL_act_590 : decode cL_act 590 = .ok (.iload_n 3, 1) := by decide +kernel
theorem dL_act_591 : decode cL_act 591 = .ok (.invokevirtual 89, 3) := by decide +kernel
theorem dL_act_594 : decode cL_act 594 = .ok (.aload_n 1, 1) := by decide +kernel
theorem dL_act_595 : decode cL_act 595 = .ok (.iload_n 3, 1) := by decide +kernel
theorem dL_act_596 : decode cL_act 596 = .ok (.invokevirtual 92, 3) := by decide +kernel
theorem dL_act_599 : decode cL_act 599 = .ok (.if_icmp .ne 7, 3) := by decide +kernel
theorem dL_act_602 : decode cL_act 602 = .ok (.iconst 1, 1) := by decide +kernel
theorem dL_act_603 : decode cL_act 603 = .ok (.goto 4, 3) := by decide +kernel
theorem dL_act_606 : decode cL_act 606 = .ok (.iconst 0, 1) := by decide +kernel
theorem dL_act_607 : decode cL_act 607 = .ok (.ireturn, 1) := by decide +kernel
set_option maxRecDepth 20000 in
theorem ggL_build_X1_init : GoodIn wsL_build wsX1_init := goodIn_r _ [5, 6, 7, 8, 9, 10, 11, 12, 13, 14, 15, 16, 156, 157, 158, 159, 160, 161, 162, 163, 164, 165] (by decide +kernel) (by decide +kernel)
set_option maxRecDepth 20000 in
theorem gL_build_X1_init_n93 : GoodIn wsL_build (wsX1_init) := ggL_build_X1_init
set_option maxRecDepth 20000 in
theorem ggL_build_L_cell : GoodIn wsL_build wsL_cell := goodIn_r _ [20, 21] (by decide +kernel) (by decide +kernel)
set_option maxRecDepth 20000 in
theorem gL_build_L_cell : GoodIn wsL_build (va_wsS RL 94 yL_cell wsL_cell) := goodIn_app (goodIn_of _ (by decide +kernel)) ggL_build_L_cell
set_option maxRecDepth 20000 in
theorem ggL_build_L_below : GoodIn wsL_build wsL_below := goodIn_r _ [24, 25] (by decide +kernel) (by decide +kernel)
set_option maxRecDepth 20000 in
theorem gL_build_L_below : GoodIn wsL_build (va_wsS RL 9 yL_below wsL_below) := goodIn_app (goodIn_of _ (by decide +kernel)) ggL_build_L_below
set_option maxRecDepth 20000 in
theorem ggL_build_L_act : GoodIn wsL_build wsL_act := goodIn_ca (goodIn_ca (goodIn_ca (goodIn_r _ [28, 29, 30, 31, 32, 33, 34, 9, 35, 36, 37, 38, 39, 40, 41, 42, 22, 23, 19, 24, 25, 43, 44, 45, 3, 46, 10, 47, 48, 49, 50, 51, 52, 53, 54, 55, 56, 57, 58, 59, 60, 11, 61, 62, 63, 64, 65, 66, 67, 68, 69, 70, 71, 72, 73, 74, 75, 76, 77, 78, 79, 80, 81, 82, 83, 84, 85, 86, 87, 88, 89, 90, 91, 92, 93, 94, 95, 96, 97, 98, 99, 100, 101, 102, 103, 104, 105, 106, 107, 108, 109, 110, 111, 112, 113, 114, 115, 116, 117, 118, 119, 120, 121, 122, 123, 124, 125, 126, 127, 128, 129, 130, 131, 132, 133, 134, 135, 136, 137, 138, 139, 140, 141, 142, 143, 144, 145, 146, 15, 13, 16, 14, 147, 148, 149, 150, 151, 12, 152, 153, 154, 155, 156, 157, 158, 159, 160, 161, 162, 163, 164, 165, 166, 167, 168, 169, 170, 171, 172, 173, 174, 175, 176, 177, 178, 179, 180, 181, 182] rfl (by decide +kernel)) (goodIn_sub (fun _ h => List.mem_cons_of_mem _ (List.mem_append_left _ (List.mem_append_left _ (List.mem_append_right _ h)))) (by decide +kernel))) (goodIn_sub (fun _ h => List.mem_cons_of_mem _ (List.mem_append_left _ (List.mem_append_right _ h))) (by decide +kernel))) (goodIn_sub (fun _ h => List.mem_cons_of_mem _ (List.mem_append_right _ h)) (by decide +kernel))
set_option maxRecDepth 20000 in
theorem gL_build_L_act : GoodIn wsL_build (va_wsS RL 98 yL_act wsL_act) := goodIn_app (goodIn_of _ (by decide +kernel)) ggL_build_L_act
theorem dL_build_0 : decode cL_build 0 = .ok (.new 16, 3) := by decide +kernel
theorem dL_build_3 : decode cL_build 3 = .ok (.dup, 1) := by decide +kernel
theorem dL_build_4 : decode cL_build 4 = .ok (.invokespecial 93, 3) := by decide +kernel
theorem dL_build_7 : decode cL_build 7 = .ok (.astore_n 2, 1) := by decide +kernel
theorem dL_build_8 : decode cL_build 8 = .ok (.iconst 4, 1) := by decide +kernel
theorem dL_build_9 : decode cL_build 9 = .ok (.aload_n 1, 1) := by decide +kernel
theorem dL_build_10 : decode cL_build 10 = .ok (.iconst 0, 1) := by decide +kernel
theorem dL_build_11 : decode cL_build 11 = .ok (.invokestatic 94, 3) := by decide +kernel
theorem dL_build_14 : decode cL_build 14 = .ok (.bipush 14, 2) := by decide +kernel
theorem dL_build_16 : decode cL_build 16 = .ok (.invokestatic 9, 3) := by decide +kernel
theorem dL_build_19 : decode cL_build 19 = .ok (.iadd, 1) := by decide +kernel
theorem dL_build_20 : decode cL_build 20 = .ok (.istore_n 3, 1) := by decide +kernel
theorem dL_build_21 : decode cL_build 21 = .ok (.iconst 0, 1) := by decide +kernel
theorem dL_build_22 : decode cL_build 22 = .ok (.istore 4, 2) := by decide +kernel
theorem dL_build_24 : decode cL_build 24 = .ok (.iload 4, 2) := by decide +kernel
theorem dL_build_26 : decode cL_build 26 = .ok (.iload_n 3, 1) := by decide +kernel
theorem dL_build_27 : decode cL_build 27 = .ok (.if_icmp .ge 44, 3) := by decide +kernel
theorem dL_build_30 : decode cL_build 30 = .ok (.aload_n 0, 1) := by decide +kernel
theorem dL_build_31 : decode cL_build 31 = .ok (.aload_n 2, 1) := by decide +kernel
theorem dL_build_32 : decode cL_build 32 = .ok (.aload_n 1, 1) := by decide +kernel
theorem dL_build_33 : decode cL_build 33 = .ok (.iconst 1, 1) := by decide +kernel
theorem dL_build_34 : decode cL_build 34 = .ok (.iload 4, 2) := by decide +kernel
theorem dL_build_36 : decode cL_build 36 = .ok (.bipush 15, 2) := by decide +kernel
theorem dL_build_38 : decode cL_build 38 = .ok (.irem, 1) := by decide +kernel
theorem dL_build_39 : decode cL_build 39 = .ok (.iadd, 1) := by decide +kernel
theorem dL_build_40 : decode cL_build 40 = .ok (.invokestatic 94, 3) := by decide +kernel
theorem dL_build_43 : decode cL_build 43 = .ok (.iload 4, 2) := by decide +kernel
theorem dL_build_45 : decode cL_build 45 = .ok (.bipush 15, 2) := by decide +kernel
theorem dL_build_47 : decode cL_build 47 = .ok (.idiv, 1) := by decide +kernel
theorem dL_build_48 : decode cL_build 48 = .ok (.iconst 3, 1) := by decide +kernel
theorem dL_build_49 : decode cL_build 49 = .ok (.imul, 1) := by decide +kernel
theorem dL_build_50 : decode cL_build 50 = .ok (.ishr, 1) := by decide +kernel
theorem dL_build_51 : decode cL_build 51 = .ok (.bipush 41, 2) := by decide +kernel
theorem dL_build_53 : decode cL_build 53 = .ok (.iload 4, 2) := by decide +kernel
theorem dL_build_55 : decode cL_build 55 = .ok (.imul, 1) := by decide +kernel
theorem dL_build_56 : decode cL_build 56 = .ok (.iadd, 1) := by decide +kernel
theorem dL_build_57 : decode cL_build 57 = .ok (.invokestatic 98, 3) := by decide +kernel
theorem dL_build_60 : decode cL_build 60 = .ok (.ifCond .ne 5, 3) := by decide +kernel
theorem dL_build_63 : decode cL_build 63 = .ok (.aconst_null, 1) := by decide +kernel
theorem dL_build_64 : decode cL_build 64 = .ok (.areturn, 1) := by decide +kernel
theorem dL_build_65 : decode cL_build 65 = .ok (.iinc 4 1, 3) := by decide +kernel
theorem dL_build_68 : decode cL_build 68 = .ok (.goto (-44), 3) := by decide +kernel
theorem dL_build_71 : decode cL_build 71 = .ok (.aload_n 2, 1) := by decide +kernel
theorem dL_build_72 : decode cL_build 72 = .ok (.areturn, 1) := by decide +kernel
end
section
set_option maxRecDepth 20000 in
theorem ggL_law_X0_init : GoodIn wsL_law wsX0_init := goodIn_r _ [17, 18, 19, 20, 21, 22, 23, 24, 25, 26, 27, 28, 29, 30, 31, 380, 381, 382, 383, 384, 385, 386, 387, 388, 389, 390, 391, 392, 393, 394, 395, 396] (by decide +kernel) (by decide +kernel)
set_option maxRecDepth 20000 in
theorem gL_law_X0_init : GoodIn wsL_law (wsX0_init) := ggL_law_X0_init
set_option maxRecDepth 20000 in
theorem ggL_law_L_build : GoodIn wsL_law wsL_build := goodIn_ca (goodIn_ca (goodIn_ca (goodIn_r _ [35, 36, 37, 38, 39, 40, 41, 19, 20, 21, 42, 43, 44, 45, 46, 47, 48, 49, 50, 34, 51, 52, 53, 54, 55, 56, 57, 58, 59, 60, 61, 62, 5, 63, 14, 7, 11, 12, 13, 64, 65, 66, 67, 68, 69, 70, 71, 72, 73, 74, 2, 75, 76, 77, 78, 79, 80, 22, 81, 82, 83, 84, 85, 86, 87, 88, 23, 24, 89, 90, 91, 92, 25, 93, 94, 95, 96, 97, 98, 99, 100, 101, 102, 103, 104, 105, 106, 107, 108, 109, 110, 111, 112, 113, 114, 115, 26, 27, 28, 116, 117, 118, 119, 120, 121, 122, 123, 29, 30, 31, 124, 125, 126, 127, 128, 129, 130, 131, 132, 133, 134, 4, 6, 135, 136, 137, 138, 139, 140, 141, 142, 143, 144, 145, 146, 147, 148, 149, 150, 151, 152, 153, 154, 155, 156, 157, 158, 159, 160, 161, 162, 163, 164, 165, 166, 167, 397, 398, 399, 400, 401, 402, 403, 404, 405, 406, 380, 381, 382, 383, 384, 385, 386, 387, 388, 389, 390, 391, 392, 393, 394, 395, 396] rfl (by decide +kernel)) (goodIn_sub (fun _ h => List.mem_append_left _ (List.mem_append_left _ (List.mem_append_right _ h))) (by decide +kernel))) (goodIn_sub (fun _ h => List.mem_append_left _ (List.mem_append_right _ h)) (by decide +kernel))) (goodIn_sub (fun _ h => List.mem_append_right _ h) (by decide +kernel))
set_option maxRecDepth 20000 in
theorem gL_law_L_build : GoodIn wsL_law (va_wsS RL 103 yL_build wsL_build) := goodIn_app (goodIn_of _ (by decide +kernel)) ggL_law_L_build
set_option maxRecDepth 20000 in
theorem ggL_law_L_cell : GoodIn wsL_law wsL_cell := goodIn_r _ [51, 52] (by decide +kernel) (by decide +kernel)
set_option maxRecDepth 20000 in
theorem gL_law_L_cell : GoodIn wsL_law (va_wsS RL 94 yL_cell wsL_cell) := goodIn_app (goodIn_of _ (by decide +kernel)) ggL_law_L_cell
set_option maxRecDepth 20000 in
theorem ggL_law_L_act : GoodIn wsL_law wsL_act := goodIn_ca (goodIn_ca (goodIn_ca (goodIn_r _ [59, 60, 61, 62, 5, 63, 14, 21, 7, 11, 12, 13, 64, 65, 66, 67, 53, 54, 34, 55, 56, 68, 69, 70, 38, 71, 42, 72, 73, 74, 2, 75, 76, 77, 78, 79, 80, 22, 81, 82, 83, 43, 84, 85, 86, 87, 88, 23, 24, 89, 90, 91, 92, 25, 93, 94, 95, 96, 97, 98, 99, 100, 101, 102, 103, 104, 105, 106, 107, 108, 109, 110, 111, 112, 113, 114, 115, 26, 27, 28, 116, 117, 118, 119, 120, 121, 122, 123, 29, 30, 31, 124, 125, 126, 127, 128, 129, 130, 131, 132, 133, 134, 4, 6, 135, 136, 137, 138, 139, 140, 141, 142, 143, 144, 145, 146, 147, 148, 149, 150, 151, 152, 153, 154, 155, 156, 157, 158, 47, 45, 48, 46, 159, 160, 161, 162, 163, 44, 164, 165, 166, 167, 397, 398, 399, 400, 401, 402, 403, 404, 405, 406, 380, 381, 382, 383, 384, 385, 386, 387, 388, 389, 390, 391, 392, 393, 394, 395, 396] rfl (by decide +kernel)) (goodIn_sub (fun _ h => List.mem_append_left _ (List.mem_append_left _ (List.mem_append_right _ h))) (by decide +kernel))) (goodIn_sub (fun _ h => List.mem_append_left _ (List.mem_append_right _ h)) (by decide +kernel))) (goodIn_sub (fun _ h => List.mem_append_right _ h) (by decide +kernel))
set_option maxRecDepth 20000 in
theorem gL_law_L_act : GoodIn wsL_law (va_wsS RL 98 yL_act wsL_act) := goodIn_app (goodIn_of _ (by decide +kernel)) ggL_law_L_act
set_option maxRecDepth 20000 in
theorem ggL_law_X0_digest : GoodIn wsL_law wsX0_digest := goodIn_ca (goodIn_r _ [171, 172, 173, 140, 139, 80, 88, 115, 124, 129, 174, 175, 176, 2, 177, 25, 178, 179, 180, 181, 134, 4, 5, 6, 182, 183, 184, 185, 30, 145, 146, 147, 148, 31, 28, 130, 131, 132, 133, 29, 186, 187, 188, 189, 190, 191, 192, 193, 194, 195, 196, 197, 198, 199, 200, 201, 93, 94, 95, 96, 23, 24, 202, 203, 204, 205, 206, 9, 10, 207, 208, 209, 210, 211, 212, 213, 214, 26, 215, 216, 217, 218, 109, 110, 219, 220, 221, 222, 223, 224, 225, 226, 116, 117, 118, 119, 27, 227, 228, 229, 230, 231, 232, 233, 234, 22, 235, 236, 237, 238, 239, 240, 241, 242, 243, 244, 245, 246, 380, 381, 382, 383, 384, 385, 386, 387, 388, 389, 390, 391, 392, 393, 394, 395, 396] (by decide +kernel) (by decide +kernel)) (goodIn_sub (fun _ h => List.mem_append_right _ h) (by decide +kernel))
set_option maxRecDepth 20000 in
theorem gL_law_X0_digest : GoodIn wsL_law (wsV RL 107 RX0 yX0_digest wsX0_digest) := goodIn_app (goodIn_of _ (by decide +kernel)) ggL_law_X0_digest
set_option maxRecDepth 20000 in
theorem ggL_law_X0_minute : GoodIn wsL_law wsX0_minute := goodIn_r _ [250, 139, 380, 381, 382, 383, 384, 385, 386, 387, 388, 389, 390, 391, 392, 393, 394, 395, 396] (by decide +kernel) (by decide +kernel)
set_option maxRecDepth 20000 in
theorem gL_law_X0_minute : GoodIn wsL_law (wsV RL 111 RX0 yX0_minute wsX0_minute) := goodIn_app (goodIn_of _ (by decide +kernel)) ggL_law_X0_minute
set_option maxRecDepth 20000 in
theorem ggL_law_X0_isAsleep : GoodIn wsL_law wsX0_isAsleep := goodIn_ca (goodIn_r _ [254, 25, 255, 256, 257, 2, 258, 76, 77, 380, 381, 382, 383, 384, 385, 386, 387, 388, 389, 390, 391, 392, 393, 394, 395, 396] (by decide +kernel) (by decide +kernel)) (goodIn_sub (fun _ h => List.mem_append_left _ (List.mem_append_left _ (List.mem_append_right _ h))) (by decide +kernel))
set_option maxRecDepth 20000 in
theorem gL_law_X0_isAsleep : GoodIn wsL_law (wsV RL 113 RX0 yX0_isAsleep wsX0_isAsleep) := goodIn_app (goodIn_of _ (by decide +kernel)) ggL_law_X0_isAsleep
set_option maxRecDepth 20000 in
theorem ggL_law_X0_naps : GoodIn wsL_law wsX0_naps := goodIn_r _ [262, 88, 380, 381, 382, 383, 384, 385, 386, 387, 388, 389, 390, 391, 392, 393, 394, 395, 396] (by decide +kernel) (by decide +kernel)
set_option maxRecDepth 20000 in
theorem gL_law_X0_naps : GoodIn wsL_law (wsV RL 117 RX0 yX0_naps wsX0_naps) := goodIn_app (goodIn_of _ (by decide +kernel)) ggL_law_X0_naps
set_option maxRecDepth 20000 in
theorem ggL_law_X0_startOf : GoodIn wsL_law wsX0_startOf := goodIn_ca (goodIn_r _ [266, 23, 105, 106, 107, 2, 108, 109, 110, 88, 380, 381, 382, 383, 384, 385, 386, 387, 388, 389, 390, 391, 392, 393, 394, 395, 396] (by decide +kernel) (by decide +kernel)) (goodIn_sub (fun _ h => List.mem_append_right _ h) (by decide +kernel))
set_option maxRecDepth 20000 in
theorem gL_law_X0_startOf : GoodIn wsL_law (wsV RL 119 RX0 yX0_startOf wsX0_startOf) := goodIn_app (goodIn_of _ (by decide +kernel)) ggL_law_X0_startOf
set_option maxRecDepth 20000 in
theorem ggL_law_X0_lengthOf : GoodIn wsL_law wsX0_lengthOf := goodIn_ca (goodIn_r _ [270, 24, 23, 105, 106, 107, 2, 108, 109, 110, 88, 380, 381, 382, 383, 384, 385, 386, 387, 388, 389, 390, 391, 392, 393, 394, 395, 396] (by decide +kernel) (by decide +kernel)) (goodIn_sub (fun _ h => List.mem_append_right _ h) (by decide +kernel))
set_option maxRecDepth 20000 in
theorem gL_law_X0_lengthOf : GoodIn wsL_law (wsV RL 122 RX0 yX0_lengthOf wsX0_lengthOf) := goodIn_app (goodIn_of _ (by decide +kernel)) ggL_law_X0_lengthOf
set_option maxRecDepth 20000 in
theorem ggL_law_X0_napsAt : GoodIn wsL_law wsX0_napsAt := goodIn_ca (goodIn_r _ [274, 25, 255, 256, 257, 2, 258, 76, 77, 380, 381, 382, 383, 384, 385, 386, 387, 388, 389, 390, 391, 392, 393, 394, 395, 396] (by decide +kernel) (by decide +kernel)) (goodIn_sub (fun _ h => List.mem_append_left _ (List.mem_append_left _ (List.mem_append_right _ h))) (by decide +kernel))
set_option maxRecDepth 20000 in
theorem gL_law_X0_napsAt : GoodIn wsL_law (wsV RL 125 RX0 yX0_napsAt wsX0_napsAt) := goodIn_app (goodIn_of _ (by decide +kernel)) ggL_law_X0_napsAt
set_option maxRecDepth 20000 in
theorem ggL_law_X0_sleptMinutes : GoodIn wsL_law wsX0_sleptMinutes := goodIn_r _ [278, 139, 174, 175, 176, 2, 177, 25, 380, 381, 382, 383, 384, 385, 386, 387, 388, 389, 390, 391, 392, 393, 394, 395, 396] (by decide +kernel) (by decide +kernel)
set_option maxRecDepth 20000 in
theorem gL_law_X0_sleptMinutes : GoodIn wsL_law (wsV RL 131 RX0 yX0_sleptMinutes wsX0_sleptMinutes) := goodIn_app (goodIn_of _ (by decide +kernel)) ggL_law_X0_sleptMinutes
set_option maxRecDepth 20000 in
theorem ggL_law_X0_awakeMinutes : GoodIn wsL_law wsX0_awakeMinutes := goodIn_r _ [177, 139, 25, 380, 381, 382, 383, 384, 385, 386, 387, 388, 389, 390, 391, 392, 393, 394, 395, 396] (by decide +kernel) (by decide +kernel)
set_option maxRecDepth 20000 in
theorem gL_law_X0_awakeMinutes : GoodIn wsL_law (wsV RL 134 RX0 yX0_awakeMinutes wsX0_awakeMinutes) := goodIn_app (goodIn_of _ (by decide +kernel)) ggL_law_X0_awakeMinutes
set_option maxRecDepth 20000 in
theorem ggL_law_X0_longestAwake : GoodIn wsL_law wsX0_longestAwake := goodIn_r _ [181, 25, 134, 4, 5, 6, 380, 381, 382, 383, 384, 385, 386, 387, 388, 389, 390, 391, 392, 393, 394, 395, 396] (by decide +kernel) (by decide +kernel)
set_option maxRecDepth 20000 in
theorem gL_law_X0_longestAwake : GoodIn wsL_law (wsV RL 137 RX0 yX0_longestAwake wsX0_longestAwake) := goodIn_app (goodIn_of _ (by decide +kernel)) ggL_law_X0_longestAwake
set_option maxRecDepth 20000 in
theorem ggL_law_X0_sticks : GoodIn wsL_law wsX0_sticks := goodIn_r _ [284, 80, 380, 381, 382, 383, 384, 385, 386, 387, 388, 389, 390, 391, 392, 393, 394, 395, 396] (by decide +kernel) (by decide +kernel)
set_option maxRecDepth 20000 in
theorem gL_law_X0_sticks : GoodIn wsL_law (wsV RL 140 RX0 yX0_sticks wsX0_sticks) := goodIn_app (goodIn_of _ (by decide +kernel)) ggL_law_X0_sticks
set_option maxRecDepth 20000 in
theorem ggL_law_L_below : GoodIn wsL_law wsL_below := goodIn_r _ [55, 56] (by decide +kernel) (by decide +kernel)
set_option maxRecDepth 20000 in
theorem gL_law_L_below : GoodIn wsL_law (va_wsS RL 9 yL_below wsL_below) := goodIn_app (goodIn_of _ (by decide +kernel)) ggL_law_L_below
set_option maxRecDepth 20000 in
theorem ggL_law_X0_shadowAt : GoodIn wsL_law wsX0_shadowAt := goodIn_ca (goodIn_ca (goodIn_r _ [288, 289, 290, 291, 2, 292, 109, 110, 80, 255, 256, 257, 258, 76, 77, 231, 232, 233, 234, 22, 380, 381, 382, 383, 384, 385, 386, 387, 388, 389, 390, 391, 392, 393, 394, 395, 396] (by decide +kernel) (by decide +kernel)) (goodIn_sub (fun _ h => List.mem_append_right _ h) (by decide +kernel))) (goodIn_sub (fun _ h => List.mem_append_left _ (List.mem_append_left _ (List.mem_append_right _ h))) (by decide +kernel))
set_option maxRecDepth 20000 in
theorem gL_law_X0_shadowAt : GoodIn wsL_law (wsV RL 142 RX0 yX0_shadowAt wsX0_shadowAt) := goodIn_app (goodIn_of _ (by decide +kernel)) ggL_law_X0_shadowAt
set_option maxRecDepth 20000 in
theorem ggL_law_X0_minuteOfShadow : GoodIn wsL_law wsX0_minuteOfShadow := goodIn_ca (goodIn_r _ [296, 289, 290, 291, 2, 292, 109, 110, 80, 231, 232, 233, 234, 22, 380, 381, 382, 383, 384, 385, 386, 387, 388, 389, 390, 391, 392, 393, 394, 395, 396] (by decide +kernel) (by decide +kernel)) (goodIn_sub (fun _ h => List.mem_append_right _ h) (by decide +kernel))
set_option maxRecDepth 20000 in
theorem gL_law_X0_minuteOfShadow : GoodIn wsL_law (wsV RL 145 RX0 yX0_minuteOfShadow wsX0_minuteOfShadow) := goodIn_app (goodIn_of _ (by decide +kernel)) ggL_law_X0_minuteOfShadow
set_option maxRecDepth 20000 in
theorem ggL_law_X0_allShadows : GoodIn wsL_law wsX0_allShadows := goodIn_ca (goodIn_r _ [300, 255, 256, 257, 2, 258, 76, 77, 301, 302, 303, 304, 80, 231, 232, 233, 234, 22, 380, 381, 382, 383, 384, 385, 386, 387, 388, 389, 390, 391, 392, 393, 394, 395, 396] (by decide +kernel) (by decide +kernel)) (goodIn_sub (fun _ h => List.mem_append_left _ (List.mem_append_left _ (List.mem_append_right _ h))) (by decide +kernel))
set_option maxRecDepth 20000 in
theorem gL_law_X0_allShadows : GoodIn wsL_law (wsV RL 148 RX0 yX0_allShadows wsX0_allShadows) := goodIn_app (goodIn_of _ (by decide +kernel)) ggL_law_X0_allShadows
set_option maxRecDepth 20000 in
theorem ggL_law_X0_bestToGiveUp : GoodIn wsL_law wsX0_bestToGiveUp := goodIn_r _ [197, 88, 198, 199, 200, 2, 201, 25, 93, 94, 95, 96, 23, 24, 380, 381, 382, 383, 384, 385, 386, 387, 388, 389, 390, 391, 392, 393, 394, 395, 396] (by decide +kernel) (by decide +kernel)
set_option maxRecDepth 20000 in
theorem gL_law_X0_bestToGiveUp : GoodIn wsL_law (wsV RL 151 RX0 yX0_bestToGiveUp wsX0_bestToGiveUp) := goodIn_app (goodIn_of _ (by decide +kernel)) ggL_law_X0_bestToGiveUp
set_option maxRecDepth 20000 in
theorem ggL_law_X0_minutesAlone : GoodIn wsL_law wsX0_minutesAlone := goodIn_ca (goodIn_r _ [309, 105, 106, 107, 2, 108, 109, 110, 88, 198, 199, 200, 201, 25, 93, 94, 95, 96, 23, 24, 380, 381, 382, 383, 384, 385, 386, 387, 388, 389, 390, 391, 392, 393, 394, 395, 396] (by decide +kernel) (by decide +kernel)) (goodIn_sub (fun _ h => List.mem_append_right _ h) (by decide +kernel))
set_option maxRecDepth 20000 in
theorem gL_law_X0_minutesAlone : GoodIn wsL_law (wsV RL 154 RX0 yX0_minutesAlone wsX0_minutesAlone) := goodIn_app (goodIn_of _ (by decide +kernel)) ggL_law_X0_minutesAlone
set_option maxRecDepth 20000 in
theorem ggL_law_X0_bestBee : GoodIn wsL_law wsX0_bestBee := goodIn_ca (goodIn_r _ [205, 115, 206, 9, 5, 10, 207, 208, 209, 2, 210, 211, 212, 213, 214, 26, 215, 216, 217, 218, 109, 110, 219, 220, 221, 222, 139, 223, 224, 225, 226, 25, 116, 117, 118, 119, 27, 174, 175, 176, 177, 380, 381, 382, 383, 384, 385, 386, 387, 388, 389, 390, 391, 392, 393, 394, 395, 396] (by decide +kernel) (by decide +kernel)) (goodIn_sub (fun _ h => List.mem_append_right _ h) (by decide +kernel))
set_option maxRecDepth 20000 in
theorem gL_law_X0_bestBee : GoodIn wsL_law (wsV RL 157 RX0 yX0_bestBee wsX0_bestBee) := goodIn_app (goodIn_of _ (by decide +kernel)) ggL_law_X0_bestBee
set_option maxRecDepth 20000 in
theorem ggL_law_X0_bees : GoodIn wsL_law wsX0_bees := goodIn_r _ [314, 115, 380, 381, 382, 383, 384, 385, 386, 387, 388, 389, 390, 391, 392, 393, 394, 395, 396] (by decide +kernel) (by decide +kernel)
set_option maxRecDepth 20000 in
theorem gL_law_X0_bees : GoodIn wsL_law (wsV RL 160 RX0 yX0_bees wsX0_bees) := goodIn_app (goodIn_of _ (by decide +kernel)) ggL_law_X0_bees
set_option maxRecDepth 20000 in
theorem ggL_law_X0_nextTick : GoodIn wsL_law wsX0_nextTick := goodIn_ca (goodIn_r _ [246, 139, 215, 216, 217, 2, 218, 109, 110, 115, 223, 224, 225, 226, 25, 116, 117, 118, 119, 26, 27, 380, 381, 382, 383, 384, 385, 386, 387, 388, 389, 390, 391, 392, 393, 394, 395, 396] (by decide +kernel) (by decide +kernel)) (goodIn_sub (fun _ h => List.mem_append_right _ h) (by decide +kernel))
set_option maxRecDepth 20000 in
theorem gL_law_X0_nextTick : GoodIn wsL_law (wsV RL 162 RX0 yX0_nextTick wsX0_nextTick) := goodIn_app (goodIn_of _ (by decide +kernel)) ggL_law_X0_nextTick
set_option maxRecDepth 20000 in
theorem ggL_law_X0_measuredBy : GoodIn wsL_law wsX0_measuredBy := goodIn_ca (goodIn_r _ [214, 26, 215, 216, 217, 2, 218, 109, 110, 115, 219, 220, 221, 222, 139, 223, 224, 225, 226, 25, 116, 117, 118, 119, 27, 380, 381, 382, 383, 384, 385, 386, 387, 388, 389, 390, 391, 392, 393, 394, 395, 396] (by decide +kernel) (by decide +kernel)) (goodIn_sub (fun _ h => List.mem_append_right _ h) (by decide +kernel))
set_option maxRecDepth 20000 in
theorem gL_law_X0_measuredBy : GoodIn wsL_law (wsV RL 165 RX0 yX0_measuredBy wsX0_measuredBy) := goodIn_app (goodIn_of _ (by decide +kernel)) ggL_law_X0_measuredBy
set_option maxRecDepth 20000 in
theorem ggL_law_X0_ticksOf : GoodIn wsL_law wsX0_ticksOf := goodIn_ca (goodIn_r _ [320, 215, 216, 217, 2, 218, 109, 110, 115, 219, 220, 221, 222, 139, 223, 224, 225, 226, 25, 116, 117, 118, 119, 26, 27, 380, 381, 382, 383, 384, 385, 386, 387, 388, 389, 390, 391, 392, 393, 394, 395, 396] (by decide +kernel) (by decide +kernel)) (goodIn_sub (fun _ h => List.mem_append_right _ h) (by decide +kernel))
set_option maxRecDepth 20000 in
theorem gL_law_X0_ticksOf : GoodIn wsL_law (wsV RL 168 RX0 yX0_ticksOf wsX0_ticksOf) := goodIn_app (goodIn_of _ (by decide +kernel)) ggL_law_X0_ticksOf
set_option maxRecDepth 20000 in
theorem ggL_law_X0_errorOf : GoodIn wsL_law wsX0_errorOf := goodIn_ca (goodIn_r _ [210, 211, 212, 213, 2, 214, 26, 215, 216, 217, 218, 109, 110, 115, 219, 220, 221, 222, 139, 223, 224, 225, 226, 25, 116, 117, 118, 119, 27, 174, 175, 176, 177, 380, 381, 382, 383, 384, 385, 386, 387, 388, 389, 390, 391, 392, 393, 394, 395, 396] (by decide +kernel) (by decide +kernel)) (goodIn_sub (fun _ h => List.mem_append_right _ h) (by decide +kernel))
set_option maxRecDepth 20000 in
theorem gL_law_X0_errorOf : GoodIn wsL_law (wsV RL 171 RX0 yX0_errorOf wsX0_errorOf) := goodIn_app (goodIn_of _ (by decide +kernel)) ggL_law_X0_errorOf
set_option maxRecDepth 20000 in
theorem ggL_law_X0_minuteOfSpill : GoodIn wsL_law wsX0_minuteOfSpill := goodIn_r _ [325, 30, 190, 191, 192, 2, 193, 124, 139, 145, 146, 147, 148, 25, 31, 28, 134, 4, 5, 6, 130, 131, 132, 133, 29, 380, 381, 382, 383, 384, 385, 386, 387, 388, 389, 390, 391, 392, 393, 394, 395, 396] (by decide +kernel) (by decide +kernel)
set_option maxRecDepth 20000 in
theorem gL_law_X0_minuteOfSpill : GoodIn wsL_law (wsV RL 177 RX0 yX0_minuteOfSpill wsX0_minuteOfSpill) := goodIn_app (goodIn_of _ (by decide +kernel)) ggL_law_X0_minuteOfSpill
set_option maxRecDepth 20000 in
theorem ggL_law_X0_spiltAtEnd : GoodIn wsL_law wsX0_spiltAtEnd := goodIn_r _ [185, 129, 124, 139, 30, 145, 146, 147, 2, 148, 25, 31, 28, 134, 4, 5, 6, 130, 131, 132, 133, 29, 380, 381, 382, 383, 384, 385, 386, 387, 388, 389, 390, 391, 392, 393, 394, 395, 396] (by decide +kernel) (by decide +kernel)
set_option maxRecDepth 20000 in
theorem gL_law_X0_spiltAtEnd : GoodIn wsL_law (wsV RL 180 RX0 yX0_spiltAtEnd wsX0_spiltAtEnd) := goodIn_app (goodIn_of _ (by decide +kernel)) ggL_law_X0_spiltAtEnd
set_option maxRecDepth 20000 in
theorem ggL_law_X0_safeRate : GoodIn wsL_law wsX0_safeRate := goodIn_r _ [189, 190, 191, 192, 2, 193, 124, 139, 145, 146, 147, 148, 25, 31, 28, 134, 4, 5, 6, 130, 131, 132, 133, 29, 380, 381, 382, 383, 384, 385, 386, 387, 388, 389, 390, 391, 392, 393, 394, 395, 396] (by decide +kernel) (by decide +kernel)
set_option maxRecDepth 20000 in
theorem gL_law_X0_safeRate : GoodIn wsL_law (wsV RL 183 RX0 yX0_safeRate wsX0_safeRate) := goodIn_app (goodIn_of _ (by decide +kernel)) ggL_law_X0_safeRate
set_option maxRecDepth 20000 in
theorem ggL_law_X0_tea : GoodIn wsL_law wsX0_tea := goodIn_r _ [331, 124, 380, 381, 382, 383, 384, 385, 386, 387, 388, 389, 390, 391, 392, 393, 394, 395, 396] (by decide +kernel) (by decide +kernel)
set_option maxRecDepth 20000 in
theorem gL_law_X0_tea : GoodIn wsL_law (wsV RL 186 RX0 yX0_tea wsX0_tea) := goodIn_app (goodIn_of _ (by decide +kernel)) ggL_law_X0_tea
set_option maxRecDepth 20000 in
theorem ggL_law_X0_spilt : GoodIn wsL_law wsX0_spilt := goodIn_r _ [335, 129, 380, 381, 382, 383, 384, 385, 386, 387, 388, 389, 390, 391, 392, 393, 394, 395, 396] (by decide +kernel) (by decide +kernel)
set_option maxRecDepth 20000 in
theorem gL_law_X0_spilt : GoodIn wsL_law (wsV RL 188 RX0 yX0_spilt wsX0_spilt) := goodIn_app (goodIn_of _ (by decide +kernel)) ggL_law_X0_spilt
set_option maxRecDepth 20000 in
theorem ggL_law_X0_setTea : GoodIn wsL_law wsX0_setTea := goodIn_ca (goodIn_r _ [123, 76, 77, 29, 30, 31, 124, 125, 126, 127, 2, 128, 129, 130, 131, 132, 133, 134, 4, 5, 6, 380, 381, 382, 383, 384, 385, 386, 387, 388, 389, 390, 391, 392, 393, 394, 395, 396] (by decide +kernel) (by decide +kernel)) (goodIn_sub (fun _ h => List.mem_append_left _ (List.mem_append_left _ (List.mem_append_right _ h))) (by decide +kernel))
set_option maxRecDepth 20000 in
theorem gL_law_X0_setTea : GoodIn wsL_law (wsV RL 75 RX0 yX0_setTea wsX0_setTea) := goodIn_app (goodIn_of _ (by decide +kernel)) ggL_law_X0_setTea
set_option maxRecDepth 20000 in
theorem ggL_law_X0_pass : GoodIn wsL_law wsX0_pass := goodIn_ca (goodIn_ca (goodIn_r _ [144, 76, 77, 78, 79, 139, 124, 30, 145, 146, 147, 2, 148, 25, 31, 28, 134, 4, 5, 6, 125, 126, 127, 128, 129, 130, 131, 132, 133, 29, 380, 381, 382, 383, 384, 385, 386, 387, 388, 389, 390, 391, 392, 393, 394, 395, 396] (by decide +kernel) (by decide +kernel)) (goodIn_sub (fun _ h => List.mem_append_left _ (List.mem_append_left _ (List.mem_append_right _ h))) (by decide +kernel))) (goodIn_sub (fun _ h => List.mem_append_left _ (List.mem_append_right _ h)) (by decide +kernel))
set_option maxRecDepth 20000 in
theorem gL_law_X0_pass : GoodIn wsL_law (wsV RL 89 RX0 yX0_pass wsX0_pass) := goodIn_app (goodIn_of _ (by decide +kernel)) ggL_law_X0_pass
set_option maxRecDepth 20000 in
theorem ggL_law_X1_pass : GoodIn wsL_law wsX1_pass := goodIn_r _ [156, 157, 158, 47, 45, 48, 46, 159, 160, 161, 162, 38, 163, 44, 164, 165, 166, 167, 397, 398, 399, 400, 401, 402, 403, 404, 405, 406] (by decide +kernel) (by decide +kernel)
set_option maxRecDepth 20000 in
theorem gL_law_X1_pass : GoodIn wsL_law (wsV RL 190 RX1 yX1_pass wsX1_pass) := goodIn_app (goodIn_of _ (by decide +kernel)) ggL_law_X1_pass
set_option maxRecDepth 20000 in
theorem ggL_law_X1_without : GoodIn wsL_law wsX1_without := goodIn_r _ [99, 43, 100, 82, 38, 83] (by decide +kernel) (by decide +kernel)
set_option maxRecDepth 20000 in
theorem gL_law_X1_without : GoodIn wsL_law (va_wsS RL 46 yX1_without wsX1_without) := goodIn_app (goodIn_of _ (by decide +kernel)) ggL_law_X1_without
set_option maxRecDepth 20000 in
theorem ggL_law_X0_giveUp : GoodIn wsL_law wsX0_giveUp := goodIn_ca (goodIn_r _ [104, 88, 23, 24, 105, 106, 107, 2, 108, 109, 110, 89, 90, 91, 92, 25, 93, 94, 95, 96, 380, 381, 382, 383, 384, 385, 386, 387, 388, 389, 390, 391, 392, 393, 394, 395, 396] (by decide +kernel) (by decide +kernel)) (goodIn_sub (fun _ h => List.mem_append_right _ h) (by decide +kernel))
set_option maxRecDepth 20000 in
theorem gL_law_X0_giveUp : GoodIn wsL_law (wsV RL 50 RX0 yX0_giveUp wsX0_giveUp) := goodIn_app (goodIn_of _ (by decide +kernel)) ggL_law_X0_giveUp
set_option maxRecDepth 20000 in
theorem ggL_law_X1_isSame : GoodIn wsL_law wsX1_isSame := goodIn_ca (goodIn_ca (goodIn_r _ [340, 341, 157, 42, 44, 45, 158, 159, 342, 9, 5, 10, 343, 344, 345, 2, 346, 140, 347, 248, 249, 250, 139, 348, 175, 176, 177, 25, 349, 350, 351, 38, 352, 160, 161, 162, 163, 353, 276, 277, 278, 174, 354, 282, 283, 284, 80, 355, 260, 261, 262, 88, 356, 312, 313, 314, 115, 357, 329, 330, 331, 124, 358, 333, 334, 335, 129, 359, 179, 180, 181, 134, 4, 6, 360, 272, 273, 274, 255, 256, 257, 258, 76, 77, 361, 252, 253, 254, 362, 286, 287, 288, 289, 290, 291, 292, 109, 110, 231, 232, 233, 234, 22, 363, 298, 299, 300, 301, 302, 303, 304, 364, 365, 366, 367, 368, 264, 265, 266, 23, 105, 106, 107, 108, 369, 268, 269, 270, 24, 370, 307, 308, 309, 198, 199, 200, 201, 93, 94, 95, 96, 371, 372, 373, 374, 375, 318, 319, 320, 215, 216, 217, 218, 219, 220, 221, 222, 223, 224, 225, 226, 116, 117, 118, 119, 26, 27, 376, 212, 213, 214, 377, 208, 209, 210, 211, 378, 195, 196, 197, 379, 203, 204, 205, 206, 207, 397, 398, 399, 400, 401, 402, 403, 404, 405, 406, 380, 381, 382, 383, 384, 385, 386, 387, 388, 389, 390, 391, 392, 393, 394, 395, 396] rfl (by decide +kernel)) (goodIn_sub (fun _ h => List.mem_append_left _ (List.mem_append_left _ (List.mem_append_right _ h))) (by decide +kernel))) (goodIn_sub (fun _ h => List.mem_append_right _ h) (by decide +kernel))
set_option maxRecDepth 20000 in
theorem gL_law_X1_isSame : GoodIn wsL_law (wsV RL 192 RX1 yX1_isSame wsX1_isSame) := goodIn_app (goodIn_of _ (by decide +kernel)) ggL_law_X1_isSame
end
section
theorem dL_law_0 : decode cL_law 0 = .ok (.new 26, 3) := by decide +kernel
theorem dL_law_3 : decode cL_law 3 = .ok (.dup, 1) := by decide +kernel
theorem dL_law_4 : decode cL_law 4 = .ok (.invokespecial 102, 3) := by decide +kernel
theorem dL_law_7 : decode cL_law 7 = .ok (.astore_n 1, 1) := by decide +kernel
theorem dL_law_8 : decode cL_law 8 = .ok (.aload_n 1, 1) := by decide +kernel
theorem dL_law_9 : decode cL_law 9 = .ok (.aload_n 0, 1) := by decide +kernel
theorem dL_law_10 : decode cL_law 10 = .ok (.invokestatic 103, 3) := by decide +kernel
theorem dL_law_13 : decode cL_law 13 = .ok (.astore_n 2, 1) := by decide +kernel
theorem dL_law_14 : decode cL_law 14 = .ok (.aload_n 2, 1) := by decide +kernel
theorem dL_law_15 : decode cL_law 15 = .ok (.ifnonnull 5, 3) := by decide +kernel
theorem dL_law_18 : decode cL_law 18 = .ok (.iconst 0, 1) := by decide +kernel
theorem dL_law_19 : decode cL_law 19 = .ok (.ireturn, 1) := by decide +kernel
theorem dL_law_20 : decode cL_law 20 = .ok (.iconst 0, 1) := by decide +kernel
theorem dL_law_21 : decode cL_law 21 = .ok (.istore_n 3, 1) := by decide +kernel
theorem dL_law_22 : decode cL_law 22 = .ok (.iload_n 3, 1) := by decide +kernel
theorem dL_law_23 : decode cL_law 23 = .ok (.bipush 7, 2) := by decide +kernel
theorem dL_law_25 : decode cL_law 25 = .ok (.if_icmp .ge 1102, 3) := by decide +kernel
theorem dL_law_28 : decode cL_law 28 = .ok (.aload_n 0, 1) := by decide +kernel
theorem dL_law_29 : decode cL_law 29 = .ok (.iload_n 3, 1) := by decide +kernel
theorem dL_law_30 : decode cL_law 30 = .ok (.iconst 1, 1) := by decide +kernel
theorem dL_law_31 : decode cL_law 31 = .ok (.iadd, 1) := by decide +kernel
theorem dL_law_32 : decode cL_law 32 = .ok (.invokestatic 94, 3) := by decide +kernel
theorem dL_law_35 : decode cL_law 35 = .ok (.iconst 2, 1) := by decide +kernel
theorem dL_law_36 : decode cL_law 36 = .ok (.ishr, 1) := by decide +kernel
theorem dL_law_37 : decode cL_law 37 = .ok (.bipush 53, 2) := by decide +kernel
theorem dL_law_39 : decode cL_law 39 = .ok (.iload_n 3, 1) := by decide +kernel
theorem dL_law_40 : decode cL_law 40 = .ok (.imul, 1) := by decide +kernel
theorem dL_law_41 : decode cL_law 41 = .ok (.iadd, 1) := by decide +kernel
theorem dL_law_42 : decode cL_law 42 = .ok (.istore 4, 2) := by decide +kernel
theorem dL_law_44 : decode cL_law 44 = .ok (.iconst 0, 1) := by decide +kernel
theorem dL_law_45 : decode cL_law 45 = .ok (.istore 5, 2) := by decide +kernel
theorem dL_law_47 : decode cL_law 47 = .ok (.iload 5, 2) := by decide +kernel
theorem dL_law_49 : decode cL_law 49 = .ok (.iconst 3, 1) := by decide +kernel
theorem dL_law_50 : decode cL_law 50 = .ok (.if_icmp .ge 32, 3) := by decide +kernel
theorem dL_law_53 : decode cL_law 53 = .ok (.aload_n 1, 1) := by decide +kernel
theorem dL_law_54 : decode cL_law 54 = .ok (.aload_n 2, 1) := by decide +kernel
theorem dL_law_55 : decode cL_law 55 = .ok (.iload 4, 2) := by decide +kernel
theorem dL_law_57 : decode cL_law 57 = .ok (.iconst 3, 1) := by decide +kernel
theorem dL_law_58 : decode cL_law 58 = .ok (.iload 5, 2) := by decide +kernel
theorem dL_law_60 : decode cL_law 60 = .ok (.imul, 1) := by decide +kernel
theorem dL_law_61 : decode cL_law 61 = .ok (.ishr, 1) := by decide +kernel
theorem dL_law_62 : decode cL_law 62 = .ok (.bipush 29, 2) := by decide +kernel
theorem dL_law_64 : decode cL_law 64 = .ok (.iload 5, 2) := by decide +kernel
theorem dL_law_66 : decode cL_law 66 = .ok (.imul, 1) := by decide +kernel
theorem dL_law_67 : decode cL_law 67 = .ok (.iadd, 1) := by decide +kernel
theorem dL_law_68 : decode cL_law 68 = .ok (.invokestatic 98, 3) := by decide +kernel
theorem dL_law_71 : decode cL_law 71 = .ok (.ifCond .ne 5, 3) := by decide +kernel
theorem dL_law_74 : decode cL_law 74 = .ok (.iconst 0, 1) := by decide +kernel
theorem dL_law_75 : decode cL_law 75 = .ok (.ireturn, 1) := by decide +kernel
theorem dL_law_76 : decode cL_law 76 = .ok (.iinc 5 1, 3) := by decide +kernel
theorem dL_law_79 : decode cL_law 79 = .ok (.goto (-32), 3) := by decide +kernel
theorem dL_law_82 : decode cL_law 82 = .ok (.aload_n 1, 1) := by decide +kernel
theorem dL_law_83 : decode cL_law 83 = .ok (.invokevirtual 107, 3) := by decide +kernel
theorem dL_law_86 : decode cL_law 86 = .ok (.lstore 5, 2) := by decide +kernel
theorem dL_law_88 : decode cL_law 88 = .ok (.aload_n 1, 1) := by decide +kernel
theorem dL_law_89 : decode cL_law 89 = .ok (.invokevirtual 111, 3) := by decide +kernel
theorem dL_law_92 : decode cL_law 92 = .ok (.istore 7, 2) := by decide +kernel
theorem dL_law_94 : decode cL_law 94 = .ok (.iconst 0, 1) := by decide +kernel
theorem dL_law_95 : decode cL_law 95 = .ok (.istore 8, 2) := by decide +kernel
theorem dL_law_97 : decode cL_law 97 = .ok (.iconst 0, 1) := by decide +kernel
theorem dL_law_98 : decode cL_law 98 = .ok (.istore 9, 2) := by decide +kernel
theorem dL_law_100 : decode cL_law 100 = .ok (.iconst 0, 1) := by decide +kernel
theorem dL_law_101 : decode cL_law 101 = .ok (.istore 10, 2) := by decide +kernel
theorem dL_law_103 : decode cL_law 103 = .ok (.iconst 0, 1) := by decide +kernel
theorem dL_law_104 : decode cL_law 104 = .ok (.istore 11, 2) := by decide +kernel
theorem dL_law_106 : decode cL_law 106 = .ok (.iconst 0, 1) := by decide +kernel
theorem dL_law_107 : decode cL_law 107 = .ok (.istore 12, 2) := by decide +kernel
theorem dL_law_109 : decode cL_law 109 = .ok (.iload 12, 2) := by decide +kernel
theorem dL_law_111 : decode cL_law 111 = .ok (.sipush 360, 3) := by decide +kernel
theorem dL_law_114 : decode cL_law 114 = .ok (.if_icmp .ge 166, 3) := by decide +kernel
theorem dL_law_117 : decode cL_law 117 = .ok (.aload_n 1, 1) := by decide +kernel
theorem dL_law_118 : decode cL_law 118 = .ok (.iload 12, 2) := by decide +kernel
theorem dL_law_120 : decode cL_law 120 = .ok (.invokevirtual 113, 3) := by decide +kernel
theorem dL_law_123 : decode cL_law 123 = .ok (.istore 13, 2) := by decide +kernel
theorem dL_law_125 : decode cL_law 125 = .ok (.iconst 0, 1) := by decide +kernel
theorem dL_law_126 : decode cL_law 126 = .ok (.istore 14, 2) := by decide +kernel
theorem dL_law_128 : decode cL_law 128 = .ok (.iconst 0, 1) := by decide +kernel
theorem dL_law_129 : decode cL_law 129 = .ok (.istore 15, 2) := by decide +kernel
theorem dL_law_131 : decode cL_law 131 = .ok (.iload 15, 2) := by decide +kernel
theorem dL_law_133 : decode cL_law 133 = .ok (.aload_n 1, 1) := by decide +kernel
theorem dL_law_134 : decode cL_law 134 = .ok (.invokevirtual 117, 3) := by decide +kernel
theorem dL_law_137 : decode cL_law 137 = .ok (.if_icmp .ge 48, 3) := by decide +kernel
theorem dL_law_140 : decode cL_law 140 = .ok (.iload 14, 2) := by decide +kernel
theorem dL_law_142 : decode cL_law 142 = .ok (.iload 12, 2) := by decide +kernel
theorem dL_law_144 : decode cL_law 144 = .ok (.aload_n 1, 1) := by decide +kernel
theorem dL_law_145 : decode cL_law 145 = .ok (.iload 15, 2) := by decide +kernel
theorem dL_law_147 : decode cL_law 147 = .ok (.invokevirtual 119, 3) := by decide +kernel
theorem dL_law_150 : decode cL_law 150 = .ok (.if_icmp .lt 25, 3) := by decide +kernel
theorem dL_law_153 : decode cL_law 153 = .ok (.iload 12, 2) := by decide +kernel
theorem dL_law_155 : decode cL_law 155 = .ok (.aload_n 1, 1) := by decide +kernel
theorem dL_law_156 : decode cL_law 156 = .ok (.iload 15, 2) := by decide +kernel
theorem dL_law_158 : decode cL_law 158 = .ok (.invokevirtual 119, 3) := by decide +kernel
theorem dL_law_161 : decode cL_law 161 = .ok (.aload_n 1, 1) := by decide +kernel
theorem dL_law_162 : decode cL_law 162 = .ok (.iload 15, 2) := by decide +kernel
theorem dL_law_164 : decode cL_law 164 = .ok (.invokevirtual 122, 3) := by decide +kernel
theorem dL_law_167 : decode cL_law 167 = .ok (.iadd, 1) := by decide +kernel
theorem dL_law_168 : decode cL_law 168 = .ok (.if_icmp .ge 7, 3) := by decide +kernel
theorem dL_law_171 : decode cL_law 171 = .ok (.iconst 1, 1) := by decide +kernel
theorem dL_law_172 : decode cL_law 172 = .ok (.goto 4, 3) := by decide +kernel
theorem dL_law_175 : decode cL_law 175 = .ok (.iconst 0, 1) := by decide +kernel
theorem dL_law_176 : decode cL_law 176 = .ok (.iadd, 1) := by decide +kernel
theorem dL_law_177 : decode cL_law 177 = .ok (.istore 14, 2) := by decide +kernel
theorem dL_law_179 : decode cL_law 179 = .ok (.iinc 15 1, 3) := by decide +kernel
theorem dL_law_182 : decode cL_law 182 = .ok (.goto (-51), 3) := by decide +kernel
theorem dL_law_185 : decode cL_law 185 = .ok (.aload_n 1, 1) := by decide +kernel
theorem dL_law_186 : decode cL_law 186 = .ok (.iload 12, 2) := by decide +kernel
theorem dL_law_188 : decode cL_law 188 = .ok (.invokevirtual 125, 3) := by decide +kernel
theorem dL_law_191 : decode cL_law 191 = .ok (.iload 14, 2) := by decide +kernel
theorem dL_law_193 : decode cL_law 193 = .ok (.if_icmp .ne 18, 3) := by decide +kernel
theorem dL_law_196 : decode cL_law 196 = .ok (.iload 13, 2) := by decide +kernel
theorem dL_law_198 : decode cL_law 198 = .ok (.iload 14, 2) := by decide +kernel
theorem dL_law_200 : decode cL_law 200 = .ok (.ifCond .le 7, 3) := by decide +kernel
theorem dL_law_203 : decode cL_law 203 = .ok (.iconst 1, 1) := by decide +kernel
theorem dL_law_204 : decode cL_law 204 = .ok (.goto 4, 3) := by decide +kernel
theorem dL_law_207 : decode cL_law 207 = .ok (.iconst 0, 1) := by decide +kernel
theorem dL_law_208 : decode cL_law 208 = .ok (.if_icmp .eq 5, 3) := by decide +kernel
theorem dL_law_211 : decode cL_law 211 = .ok (.iconst 0, 1) := by decide +kernel
theorem dL_law_212 : decode cL_law 212 = .ok (.ireturn, 1) := by decide +kernel
theorem dL_law_213 : decode cL_law 213 = .ok (.iload 8, 2) := by decide +kernel
theorem dL_law_215 : decode cL_law 215 = .ok (.iload 13, 2) := by decide +kernel
theorem dL_law_217 : decode cL_law 217 = .ok (.ifCond .eq 14, 3) := by decide +kernel
theorem dL_law_220 : decode cL_law 220 = .ok (.iload 12, 2) := by decide +kernel
theorem dL_law_222 : decode cL_law 222 = .ok (.iload 7, 2) := by decide +kernel
theorem dL_law_224 : decode cL_law 224 = .ok (.if_icmp .ge 7, 3) := by decide +kernel
theorem dL_law_227 : decode cL_law 227 = .ok (.iconst 1, 1) := by decide +kernel
theorem dL_law_228 : decode cL_law 228 = .ok (.goto 4, 3) := by decide +kernel
theorem dL_law_231 : decode cL_law 231 = .ok (.iconst 0, 1) := by decide +kernel
theorem dL_law_232 : decode cL_law 232 = .ok (.iadd, 1) := by decide +kernel
theorem dL_law_233 : decode cL_law 233 = .ok (.istore 8, 2) := by decide +kernel
theorem dL_law_235 : decode cL_law 235 = .ok (.iload 11, 2) := by decide +kernel
theorem dL_law_237 : decode cL_law 237 = .ok (.iload 13, 2) := by decide +kernel
theorem dL_law_239 : decode cL_law 239 = .ok (.ifCond .eq 7, 3) := by decide +kernel
theorem dL_law_242 : decode cL_law 242 = .ok (.iconst 0, 1) := by decide +kernel
theorem dL_law_243 : decode cL_law 243 = .ok (.goto 4, 3) := by decide +kernel
theorem dL_law_246 : decode cL_law 246 = .ok (.iconst 1, 1) := by decide +kernel
theorem dL_law_247 : decode cL_law 247 = .ok (.iadd, 1) := by decide +kernel
theorem dL_law_248 : decode cL_law 248 = .ok (.istore 11, 2) := by decide +kernel
theorem dL_law_250 : decode cL_law 250 = .ok (.iload 13, 2) := by decide +kernel
theorem dL_law_252 : decode cL_law 252 = .ok (.ifCond .eq 7, 3) := by decide +kernel
theorem dL_law_255 : decode cL_law 255 = .ok (.iconst 0, 1) := by decide +kernel
theorem dL_law_256 : decode cL_law 256 = .ok (.goto 7, 3) := by decide +kernel
theorem dL_law_259 : decode cL_law 259 = .ok (.iload 10, 2) := by decide +kernel
theorem dL_law_261 : decode cL_law 261 = .ok (.iconst 1, 1) := by decide +kernel
theorem dL_law_262 : decode cL_law 262 = .ok (.iadd, 1) := by decide +kernel
theorem dL_law_263 : decode cL_law 263 = .ok (.istore 10, 2) := by decide +kernel
theorem dL_law_265 : decode cL_law 265 = .ok (.iload 9, 2) := by decide +kernel
theorem dL_law_267 : decode cL_law 267 = .ok (.iload 10, 2) := by decide +kernel
theorem dL_law_269 : decode cL_law 269 = .ok (.invokestatic 128, 3) := by decide +kernel
theorem dL_law_272 : decode cL_law 272 = .ok (.istore 9, 2) := by decide +kernel
theorem dL_law_274 : decode cL_law 274 = .ok (.iinc 12 1, 3) := by decide +kernel
theorem dL_law_277 : decode cL_law 277 = .ok (.goto (-168), 3) := by decide +kernel
theorem dL_law_280 : decode cL_law 280 = .ok (.aload_n 1, 1) := by decide +kernel
theorem dL_law_281 : decode cL_law 281 = .ok (.invokevirtual 131, 3) := by decide +kernel
theorem dL_law_284 : decode cL_law 284 = .ok (.iload 8, 2) := by decide +kernel
theorem dL_law_286 : decode cL_law 286 = .ok (.if_icmp .ne 24, 3) := by decide +kernel
theorem dL_law_289 : decode cL_law 289 = .ok (.aload_n 1, 1) := by decide +kernel
theorem dL_law_290 : decode cL_law 290 = .ok (.invokevirtual 134, 3) := by decide +kernel
theorem dL_law_293 : decode cL_law 293 = .ok (.iload 8, 2) := by decide +kernel
theorem dL_law_295 : decode cL_law 295 = .ok (.iadd, 1) := by decide +kernel
theorem dL_law_296 : decode cL_law 296 = .ok (.iload 7, 2) := by decide +kernel
theorem dL_law_298 : decode cL_law 298 = .ok (.if_icmp .ne 12, 3) := by decide +kernel
theorem dL_law_301 : decode cL_law 301 = .ok (.aload_n 1, 1) := by decide +kernel
theorem dL_law_302 : decode cL_law 302 = .ok (.invokevirtual 137, 3) := by decide +kernel
theorem dL_law_305 : decode cL_law 305 = .ok (.iload 9, 2) := by decide +kernel
theorem dL_law_307 : decode cL_law 307 = .ok (.if_icmp .eq 5, 3) := by decide +kernel
theorem dL_law_310 : decode cL_law 310 = .ok (.iconst 0, 1) := by decide +kernel
theorem dL_law_311 : decode cL_law 311 = .ok (.ireturn, 1) := by decide +kernel
theorem dL_law_312 : decode cL_law 312 = .ok (.iconst 0, 1) := by decide +kernel
theorem dL_law_313 : decode cL_law 313 = .ok (.istore 12, 2) := by decide +kernel
theorem dL_law_315 : decode cL_law 315 = .ok (.iload 12, 2) := by decide +kernel
theorem dL_law_317 : decode cL_law 317 = .ok (.aload_n 1, 1) := by decide +kernel
theorem dL_law_318 : decode cL_law 318 = .ok (.invokevirtual 140, 3) := by decide +kernel
theorem dL_law_321 : decode cL_law 321 = .ok (.if_icmp .ge 109, 3) := by decide +kernel
theorem dL_law_324 : decode cL_law 324 = .ok (.iload 4, 2) := by decide +kernel
theorem dL_law_326 : decode cL_law 326 = .ok (.iconst 4, 1) := by decide +kernel
theorem dL_law_327 : decode cL_law 327 = .ok (.ishr, 1) := by decide +kernel
theorem dL_law_328 : decode cL_law 328 = .ok (.sipush 359, 3) := by decide +kernel
theorem dL_law_331 : decode cL_law 331 = .ok (.invokestatic 9, 3) := by decide +kernel
theorem dL_law_334 : decode cL_law 334 = .ok (.istore 13, 2) := by decide +kernel
theorem dL_law_336 : decode cL_law 336 = .ok (.aload_n 1, 1) := by decide +kernel
theorem dL_law_337 : decode cL_law 337 = .ok (.iload 12, 2) := by decide +kernel
theorem dL_law_339 : decode cL_law 339 = .ok (.iload 13, 2) := by decide +kernel
theorem dL_law_341 : decode cL_law 341 = .ok (.invokevirtual 142, 3) := by decide +kernel
theorem dL_law_344 : decode cL_law 344 = .ok (.istore 14, 2) := by decide +kernel
theorem dL_law_346 : decode cL_law 346 = .ok (.aload_n 1, 1) := by decide +kernel
theorem dL_law_347 : decode cL_law 347 = .ok (.iload 12, 2) := by decide +kernel
theorem dL_law_349 : decode cL_law 349 = .ok (.iload 14, 2) := by decide +kernel
theorem dL_law_351 : decode cL_law 351 = .ok (.invokevirtual 145, 3) := by decide +kernel
theorem dL_law_354 : decode cL_law 354 = .ok (.istore 15, 2) := by decide +kernel
theorem dL_law_356 : decode cL_law 356 = .ok (.aload_n 1, 1) := by decide +kernel
theorem dL_law_357 : decode cL_law 357 = .ok (.iload 12, 2) := by decide +kernel
theorem dL_law_359 : decode cL_law 359 = .ok (.iload 13, 2) := by decide +kernel
theorem dL_law_361 : decode cL_law 361 = .ok (.iconst 1, 1) := by decide +kernel
theorem dL_law_362 : decode cL_law 362 = .ok (.iadd, 1) := by decide +kernel
theorem dL_law_363 : decode cL_law 363 = .ok (.invokevirtual 142, 3) := by decide +kernel
theorem dL_law_366 : decode cL_law 366 = .ok (.iload 14, 2) := by decide +kernel
theorem dL_law_368 : decode cL_law 368 = .ok (.if_icmp .lt 54, 3) := by decide +kernel
theorem dL_law_371 : decode cL_law 371 = .ok (.iload 15, 2) := by decide +kernel
theorem dL_law_373 : decode cL_law 373 = .ok (.iload 13, 2) := by decide +kernel
theorem dL_law_375 : decode cL_law 375 = .ok (.if_icmp .gt 47, 3) := by decide +kernel
theorem dL_law_378 : decode cL_law 378 = .ok (.aload_n 1, 1) := by decide +kernel
theorem dL_law_379 : decode cL_law 379 = .ok (.iload 12, 2) := by decide +kernel
theorem dL_law_381 : decode cL_law 381 = .ok (.iload 15, 2) := by decide +kernel
theorem dL_law_383 : decode cL_law 383 = .ok (.invokevirtual 142, 3) := by decide +kernel
theorem dL_law_386 : decode cL_law 386 = .ok (.iload 14, 2) := by decide +kernel
theorem dL_law_388 : decode cL_law 388 = .ok (.if_icmp .ne 34, 3) := by decide +kernel
theorem dL_law_391 : decode cL_law 391 = .ok (.iload 15, 2) := by decide +kernel
theorem dL_law_393 : decode cL_law 393 = .ok (.ifCond .le 18, 3) := by decide +kernel
theorem dL_law_396 : decode cL_law 396 = .ok (.aload_n 1, 1) := by decide +kernel
theorem dL_law_397 : decode cL_law 397 = .ok (.iload 12, 2) := by decide +kernel
theorem dL_law_399 : decode cL_law 399 = .ok (.iload 15, 2) := by decide +kernel
theorem dL_law_401 : decode cL_law 401 = .ok (.iconst 1, 1) := by decide +kernel
theorem dL_law_402 : decode cL_law 402 = .ok (.isub, 1) := by decide +kernel
theorem dL_law_403 : decode cL_law 403 = .ok (.invokevirtual 142, 3) := by decide +kernel
theorem dL_law_406 : decode cL_law 406 = .ok (.iload 14, 2) := by decide +kernel
theorem dL_law_408 : decode cL_law 408 = .ok (.if_icmp .ge 14, 3) := by decide +kernel
theorem dL_law_411 : decode cL_law 411 = .ok (.aload_n 1, 1) := by decide +kernel
theorem dL_law_412 : decode cL_law 412 = .ok (.iload 13, 2) := by decide +kernel
theorem dL_law_414 : decode cL_law 414 = .ok (.invokevirtual 148, 3) := by decide +kernel
theorem dL_law_417 : decode cL_law 417 = .ok (.iload 14, 2) := by decide +kernel
theorem dL_law_419 : decode cL_law 419 = .ok (.if_icmp .ge 5, 3) := by decide +kernel
theorem dL_law_422 : decode cL_law 422 = .ok (.iconst 0, 1) := by decide +kernel
theorem dL_law_423 : decode cL_law 423 = .ok (.ireturn, 1) := by decide +kernel
theorem dL_law_424 : decode cL_law 424 = .ok (.iinc 12 1, 3) := by decide +kernel
theorem dL_law_427 : decode cL_law 427 = .ok (.goto (-112), 3) := by decide +kernel
theorem dL_law_430 : decode cL_law 430 = .ok (.aload_n 1, 1) := by decide +kernel
theorem dL_law_431 : decode cL_law 431 = .ok (.invokevirtual 151, 3) := by decide +kernel
theorem dL_law_434 : decode cL_law 434 = .ok (.istore 12, 2) := by decide +kernel
theorem dL_law_436 : decode cL_law 436 = .ok (.iconst 0, 1) := by decide +kernel
theorem dL_law_437 : decode cL_law 437 = .ok (.istore 13, 2) := by decide +kernel
theorem dL_law_439 : decode cL_law 439 = .ok (.iload 13, 2) := by decide +kernel
theorem dL_law_441 : decode cL_law 441 = .ok (.aload_n 1, 1) := by decide +kernel
theorem dL_law_442 : decode cL_law 442 = .ok (.invokevirtual 117, 3) := by decide +kernel
theorem dL_law_445 : decode cL_law 445 = .ok (.if_icmp .ge 50, 3) := by decide +kernel
theorem dL_law_448 : decode cL_law 448 = .ok (.aload_n 1, 1) := by decide +kernel
theorem dL_law_449 : decode cL_law 449 = .ok (.iload 13, 2) := by decide +kernel
theorem dL_law_451 : decode cL_law 451 = .ok (.invokevirtual 154, 3) := by decide +kernel
theorem dL_law_454 : decode cL_law 454 = .ok (.ifCond .lt 33, 3) := by decide +kernel
theorem dL_law_457 : decode cL_law 457 = .ok (.aload_n 1, 1) := by decide +kernel
theorem dL_law_458 : decode cL_law 458 = .ok (.iload 13, 2) := by decide +kernel
theorem dL_law_460 : decode cL_law 460 = .ok (.invokevirtual 154, 3) := by decide +kernel
theorem dL_law_463 : decode cL_law 463 = .ok (.aload_n 1, 1) := by decide +kernel
theorem dL_law_464 : decode cL_law 464 = .ok (.iload 13, 2) := by decide +kernel
theorem dL_law_466 : decode cL_law 466 = .ok (.invokevirtual 122, 3) := by decide +kernel
theorem dL_law_469 : decode cL_law 469 = .ok (.if_icmp .gt 18, 3) := by decide +kernel
theorem dL_law_472 : decode cL_law 472 = .ok (.aload_n 1, 1) := by decide +kernel
theorem dL_law_473 : decode cL_law 473 = .ok (.iload 13, 2) := by decide +kernel
theorem dL_law_475 : decode cL_law 475 = .ok (.invokevirtual 154, 3) := by decide +kernel
theorem dL_law_478 : decode cL_law 478 = .ok (.aload_n 1, 1) := by decide +kernel
theorem dL_law_479 : decode cL_law 479 = .ok (.iload 12, 2) := by decide +kernel
theorem dL_law_481 : decode cL_law 481 = .ok (.invokevirtual 154, 3) := by decide +kernel
theorem dL_law_484 : decode cL_law 484 = .ok (.if_icmp .le 5, 3) := by decide +kernel
theorem dL_law_487 : decode cL_law 487 = .ok (.iconst 0, 1) := by decide +kernel
theorem dL_law_488 : decode cL_law 488 = .ok (.ireturn, 1) := by decide +kernel
theorem dL_law_489 : decode cL_law 489 = .ok (.iinc 13 1, 3) := by decide +kernel
theorem dL_law_492 : decode cL_law 492 = .ok (.goto (-53), 3) := by decide +kernel
theorem dL_law_495 : decode cL_law 495 = .ok (.aload_n 1, 1) := by decide +kernel
theorem dL_law_496 : decode cL_law 496 = .ok (.invokevirtual 157, 3) := by decide +kernel
theorem dL_law_499 : decode cL_law 499 = .ok (.istore 13, 2) := by decide +kernel
theorem dL_law_501 : decode cL_law 501 = .ok (.iconst 0, 1) := by decide +kernel
theorem dL_law_502 : decode cL_law 502 = .ok (.istore 14, 2) := by decide +kernel
theorem dL_law_504 : decode cL_law 504 = .ok (.iload 14, 2) := by decide +kernel
theorem dL_law_506 : decode cL_law 506 = .ok (.aload_n 1, 1) := by decide +kernel
theorem dL_law_507 : decode cL_law 507 = .ok (.invokevirtual 160, 3) := by decide +kernel
theorem dL_law_510 : decode cL_law 510 = .ok (.if_icmp .ge 143, 3) := by decide +kernel
theorem dL_law_513 : decode cL_law 513 = .ok (.aload_n 1, 1) := by decide +kernel
theorem dL_law_514 : decode cL_law 514 = .ok (.iload 14, 2) := by decide +kernel
theorem dL_law_516 : decode cL_law 516 = .ok (.invokevirtual 162, 3) := by decide +kernel
theorem dL_law_519 : decode cL_law 519 = .ok (.istore 15, 2) := by decide +kernel
theorem dL_law_521 : decode cL_law 521 = .ok (.aload_n 2, 1) := by decide +kernel
theorem dL_law_522 : decode cL_law 522 = .ok (.getfield 53, 3) := by decide +kernel
theorem dL_law_525 : decode cL_law 525 = .ok (.iload 14, 2) := by decide +kernel
theorem dL_law_527 : decode cL_law 527 = .ok (.aaload, 1) := by decide +kernel
theorem dL_law_528 : decode cL_law 528 = .ok (.iconst 0, 1) := by decide +kernel
theorem dL_law_529 : decode cL_law 529 = .ok (.iaload, 1) := by decide +kernel
theorem dL_law_530 : decode cL_law 530 = .ok (.istore 16, 2) := by decide +kernel
theorem dL_law_532 : decode cL_law 532 = .ok (.aload_n 1, 1) := by decide +kernel
theorem dL_law_533 : decode cL_law 533 = .ok (.iload 14, 2) := by decide +kernel
theorem dL_law_535 : decode cL_law 535 = .ok (.invokevirtual 165, 3) := by decide +kernel
theorem dL_law_538 : decode cL_law 538 = .ok (.aload_n 1, 1) := by decide +kernel
theorem dL_law_539 : decode cL_law 539 = .ok (.iload 14, 2) := by decide +kernel
theorem dL_law_541 : decode cL_law 541 = .ok (.invokevirtual 168, 3) := by decide +kernel
theorem dL_law_544 : decode cL_law 544 = .ok (.iload 16, 2) := by decide +kernel
theorem dL_law_546 : decode cL_law 546 = .ok (.imul, 1) := by decide +kernel
end
section
theorem dL_law_547 : decode cL_law 547 = .ok (.if_icmp .ne 98, 3) := by decide +kernel
theorem dL_law_550 : decode cL_law 550 = .ok (.aload_n 1, 1) := by decide +kernel
theorem dL_law_551 : decode cL_law 551 = .ok (.iload 14, 2) := by decide +kernel
theorem dL_law_553 : decode cL_law 553 = .ok (.invokevirtual 171, 3) := by decide +kernel
theorem dL_law_556 : decode cL_law 556 = .ok (.aload_n 1, 1) := by decide +kernel
theorem dL_law_557 : decode cL_law 557 = .ok (.iload 14, 2) := by decide +kernel
theorem dL_law_559 : decode cL_law 559 = .ok (.invokevirtual 165, 3) := by decide +kernel
theorem dL_law_562 : decode cL_law 562 = .ok (.aload_n 1, 1) := by decide +kernel
theorem dL_law_563 : decode cL_law 563 = .ok (.invokevirtual 134, 3) := by decide +kernel
theorem dL_law_566 : decode cL_law 566 = .ok (.isub, 1) := by decide +kernel
theorem dL_law_567 : decode cL_law 567 = .ok (.if_icmp .ne 78, 3) := by decide +kernel
theorem dL_law_570 : decode cL_law 570 = .ok (.aload_n 1, 1) := by decide +kernel
theorem dL_law_571 : decode cL_law 571 = .ok (.iload 13, 2) := by decide +kernel
theorem dL_law_573 : decode cL_law 573 = .ok (.invokevirtual 171, 3) := by decide +kernel
theorem dL_law_576 : decode cL_law 576 = .ok (.invokestatic 174, 3) := by decide +kernel
theorem dL_law_579 : decode cL_law 579 = .ok (.aload_n 1, 1) := by decide +kernel
theorem dL_law_580 : decode cL_law 580 = .ok (.iload 14, 2) := by decide +kernel
theorem dL_law_582 : decode cL_law 582 = .ok (.invokevirtual 171, 3) := by decide +kernel
theorem dL_law_585 : decode cL_law 585 = .ok (.invokestatic 174, 3) := by decide +kernel
theorem dL_law_588 : decode cL_law 588 = .ok (.if_icmp .gt 57, 3) := by decide +kernel
theorem dL_law_591 : decode cL_law 591 = .ok (.iload 15, 2) := by decide +kernel
theorem dL_law_593 : decode cL_law 593 = .ok (.ifCond .lt 36, 3) := by decide +kernel
theorem dL_law_596 : decode cL_law 596 = .ok (.iload 15, 2) := by decide +kernel
theorem dL_law_598 : decode cL_law 598 = .ok (.iload 7, 2) := by decide +kernel
theorem dL_law_600 : decode cL_law 600 = .ok (.if_icmp .lt 45, 3) := by decide +kernel
theorem dL_law_603 : decode cL_law 603 = .ok (.aload_n 1, 1) := by decide +kernel
theorem dL_law_604 : decode cL_law 604 = .ok (.iload 15, 2) := by decide +kernel
theorem dL_law_606 : decode cL_law 606 = .ok (.invokevirtual 113, 3) := by decide +kernel
theorem dL_law_609 : decode cL_law 609 = .ok (.ifCond .ne 36, 3) := by decide +kernel
theorem dL_law_612 : decode cL_law 612 = .ok (.iload 15, 2) := by decide +kernel
theorem dL_law_614 : decode cL_law 614 = .ok (.iload 16, 2) := by decide +kernel
theorem dL_law_616 : decode cL_law 616 = .ok (.irem, 1) := by decide +kernel
theorem dL_law_617 : decode cL_law 617 = .ok (.aload_n 2, 1) := by decide +kernel
theorem dL_law_618 : decode cL_law 618 = .ok (.getfield 53, 3) := by decide +kernel
theorem dL_law_621 : decode cL_law 621 = .ok (.iload 14, 2) := by decide +kernel
theorem dL_law_623 : decode cL_law 623 = .ok (.aaload, 1) := by decide +kernel
theorem dL_law_624 : decode cL_law 624 = .ok (.iconst 1, 1) := by decide +kernel
theorem dL_law_625 : decode cL_law 625 = .ok (.iaload, 1) := by decide +kernel
theorem dL_law_626 : decode cL_law 626 = .ok (.if_icmp .ne 19, 3) := by decide +kernel
theorem dL_law_629 : decode cL_law 629 = .ok (.aload_n 1, 1) := by decide +kernel
theorem dL_law_630 : decode cL_law 630 = .ok (.iload 14, 2) := by decide +kernel
theorem dL_law_632 : decode cL_law 632 = .ok (.invokevirtual 168, 3) := by decide +kernel
theorem dL_law_635 : decode cL_law 635 = .ok (.iload 7, 2) := by decide +kernel
theorem dL_law_637 : decode cL_law 637 = .ok (.iload 16, 2) := by decide +kernel
theorem dL_law_639 : decode cL_law 639 = .ok (.idiv, 1) := by decide +kernel
theorem dL_law_640 : decode cL_law 640 = .ok (.iconst 1, 1) := by decide +kernel
theorem dL_law_641 : decode cL_law 641 = .ok (.iadd, 1) := by decide +kernel
theorem dL_law_642 : decode cL_law 642 = .ok (.if_icmp .le 5, 3) := by decide +kernel
theorem dL_law_645 : decode cL_law 645 = .ok (.iconst 0, 1) := by decide +kernel
theorem dL_law_646 : decode cL_law 646 = .ok (.ireturn, 1) := by decide +kernel
theorem dL_law_647 : decode cL_law 647 = .ok (.iinc 14 1, 3) := by decide +kernel
theorem dL_law_650 : decode cL_law 650 = .ok (.goto (-146), 3) := by decide +kernel
theorem dL_law_653 : decode cL_law 653 = .ok (.aload_n 1, 1) := by decide +kernel
theorem dL_law_654 : decode cL_law 654 = .ok (.invokevirtual 177, 3) := by decide +kernel
theorem dL_law_657 : decode cL_law 657 = .ok (.istore 14, 2) := by decide +kernel
theorem dL_law_659 : decode cL_law 659 = .ok (.aload_n 1, 1) := by decide +kernel
theorem dL_law_660 : decode cL_law 660 = .ok (.invokevirtual 180, 3) := by decide +kernel
theorem dL_law_663 : decode cL_law 663 = .ok (.istore 15, 2) := by decide +kernel
theorem dL_law_665 : decode cL_law 665 = .ok (.aload_n 1, 1) := by decide +kernel
theorem dL_law_666 : decode cL_law 666 = .ok (.invokevirtual 183, 3) := by decide +kernel
theorem dL_law_669 : decode cL_law 669 = .ok (.istore 16, 2) := by decide +kernel
theorem dL_law_671 : decode cL_law 671 = .ok (.iload 12, 2) := by decide +kernel
theorem dL_law_673 : decode cL_law 673 = .ok (.ifCond .ge 7, 3) := by decide +kernel
theorem dL_law_676 : decode cL_law 676 = .ok (.iconst 1, 1) := by decide +kernel
theorem dL_law_677 : decode cL_law 677 = .ok (.goto 4, 3) := by decide +kernel
theorem dL_law_680 : decode cL_law 680 = .ok (.iconst 0, 1) := by decide +kernel
theorem dL_law_681 : decode cL_law 681 = .ok (.aload_n 1, 1) := by decide +kernel
theorem dL_law_682 : decode cL_law 682 = .ok (.invokevirtual 117, 3) := by decide +kernel
theorem dL_law_685 : decode cL_law 685 = .ok (.ifCond .ne 7, 3) := by decide +kernel
theorem dL_law_688 : decode cL_law 688 = .ok (.iconst 1, 1) := by decide +kernel
theorem dL_law_689 : decode cL_law 689 = .ok (.goto 4, 3) := by decide +kernel
theorem dL_law_692 : decode cL_law 692 = .ok (.iconst 0, 1) := by decide +kernel
theorem dL_law_693 : decode cL_law 693 = .ok (.if_icmp .ne 127, 3) := by decide +kernel
theorem dL_law_696 : decode cL_law 696 = .ok (.aload_n 1, 1) := by decide +kernel
theorem dL_law_697 : decode cL_law 697 = .ok (.invokevirtual 186, 3) := by decide +kernel
theorem dL_law_700 : decode cL_law 700 = .ok (.aload_n 2, 1) := by decide +kernel
theorem dL_law_701 : decode cL_law 701 = .ok (.getfield 59, 3) := by decide +kernel
theorem dL_law_704 : decode cL_law 704 = .ok (.if_icmp .gt 116, 3) := by decide +kernel
theorem dL_law_707 : decode cL_law 707 = .ok (.aload_n 1, 1) := by decide +kernel
theorem dL_law_708 : decode cL_law 708 = .ok (.invokevirtual 186, 3) := by decide +kernel
theorem dL_law_711 : decode cL_law 711 = .ok (.ifCond .lt 109, 3) := by decide +kernel
theorem dL_law_714 : decode cL_law 714 = .ok (.iload 15, 2) := by decide +kernel
theorem dL_law_716 : decode cL_law 716 = .ok (.aload_n 1, 1) := by decide +kernel
theorem dL_law_717 : decode cL_law 717 = .ok (.invokevirtual 188, 3) := by decide +kernel
theorem dL_law_720 : decode cL_law 720 = .ok (.if_icmp .lt 100, 3) := by decide +kernel
theorem dL_law_723 : decode cL_law 723 = .ok (.iload 14, 2) := by decide +kernel
theorem dL_law_725 : decode cL_law 725 = .ok (.ifCond .ge 7, 3) := by decide +kernel
theorem dL_law_728 : decode cL_law 728 = .ok (.iconst 1, 1) := by decide +kernel
theorem dL_law_729 : decode cL_law 729 = .ok (.goto 4, 3) := by decide +kernel
theorem dL_law_732 : decode cL_law 732 = .ok (.iconst 0, 1) := by decide +kernel
theorem dL_law_733 : decode cL_law 733 = .ok (.iload 15, 2) := by decide +kernel
theorem dL_law_735 : decode cL_law 735 = .ok (.aload_n 1, 1) := by decide +kernel
theorem dL_law_736 : decode cL_law 736 = .ok (.invokevirtual 188, 3) := by decide +kernel
theorem dL_law_739 : decode cL_law 739 = .ok (.if_icmp .ne 7, 3) := by decide +kernel
theorem dL_law_742 : decode cL_law 742 = .ok (.iconst 1, 1) := by decide +kernel
theorem dL_law_743 : decode cL_law 743 = .ok (.goto 4, 3) := by decide +kernel
theorem dL_law_746 : decode cL_law 746 = .ok (.iconst 0, 1) := by decide +kernel
theorem dL_law_747 : decode cL_law 747 = .ok (.if_icmp .ne 73, 3) := by decide +kernel
theorem dL_law_750 : decode cL_law 750 = .ok (.iload 14, 2) := by decide +kernel
theorem dL_law_752 : decode cL_law 752 = .ok (.ifCond .lt 19, 3) := by decide +kernel
theorem dL_law_755 : decode cL_law 755 = .ok (.iload 14, 2) := by decide +kernel
theorem dL_law_757 : decode cL_law 757 = .ok (.iload 7, 2) := by decide +kernel
theorem dL_law_759 : decode cL_law 759 = .ok (.if_icmp .lt 61, 3) := by decide +kernel
theorem dL_law_762 : decode cL_law 762 = .ok (.aload_n 1, 1) := by decide +kernel
theorem dL_law_763 : decode cL_law 763 = .ok (.iload 14, 2) := by decide +kernel
theorem dL_law_765 : decode cL_law 765 = .ok (.invokevirtual 113, 3) := by decide +kernel
theorem dL_law_768 : decode cL_law 768 = .ok (.ifCond .ne 52, 3) := by decide +kernel
theorem dL_law_771 : decode cL_law 771 = .ok (.iload 16, 2) := by decide +kernel
theorem dL_law_773 : decode cL_law 773 = .ok (.ifCond .lt 47, 3) := by decide +kernel
theorem dL_law_776 : decode cL_law 776 = .ok (.iload 16, 2) := by decide +kernel
theorem dL_law_778 : decode cL_law 778 = .ok (.bipush 9, 2) := by decide +kernel
theorem dL_law_780 : decode cL_law 780 = .ok (.if_icmp .gt 40, 3) := by decide +kernel
theorem dL_law_783 : decode cL_law 783 = .ok (.aload_n 2, 1) := by decide +kernel
theorem dL_law_784 : decode cL_law 784 = .ok (.getfield 63, 3) := by decide +kernel
theorem dL_law_787 : decode cL_law 787 = .ok (.iload 16, 2) := by decide +kernel
theorem dL_law_789 : decode cL_law 789 = .ok (.if_icmp .gt 7, 3) := by decide +kernel
theorem dL_law_792 : decode cL_law 792 = .ok (.iconst 1, 1) := by decide +kernel
theorem dL_law_793 : decode cL_law 793 = .ok (.goto 4, 3) := by decide +kernel
theorem dL_law_796 : decode cL_law 796 = .ok (.iconst 0, 1) := by decide +kernel
theorem dL_law_797 : decode cL_law 797 = .ok (.iload 14, 2) := by decide +kernel
theorem dL_law_799 : decode cL_law 799 = .ok (.ifCond .ge 7, 3) := by decide +kernel
theorem dL_law_802 : decode cL_law 802 = .ok (.iconst 1, 1) := by decide +kernel
theorem dL_law_803 : decode cL_law 803 = .ok (.goto 4, 3) := by decide +kernel
theorem dL_law_806 : decode cL_law 806 = .ok (.iconst 0, 1) := by decide +kernel
theorem dL_law_807 : decode cL_law 807 = .ok (.if_icmp .ne 13, 3) := by decide +kernel
theorem dL_law_810 : decode cL_law 810 = .ok (.aload_n 1, 1) := by decide +kernel
theorem dL_law_811 : decode cL_law 811 = .ok (.invokevirtual 107, 3) := by decide +kernel
theorem dL_law_814 : decode cL_law 814 = .ok (.lload 5, 2) := by decide +kernel
theorem dL_law_816 : decode cL_law 816 = .ok (.lcmp, 1) := by decide +kernel
theorem dL_law_817 : decode cL_law 817 = .ok (.ifCond .eq 5, 3) := by decide +kernel
theorem dL_law_820 : decode cL_law 820 = .ok (.iconst 0, 1) := by decide +kernel
theorem dL_law_821 : decode cL_law 821 = .ok (.ireturn, 1) := by decide +kernel
theorem dL_law_822 : decode cL_law 822 = .ok (.aload_n 1, 1) := by decide +kernel
theorem dL_law_823 : decode cL_law 823 = .ok (.invokevirtual 188, 3) := by decide +kernel
theorem dL_law_826 : decode cL_law 826 = .ok (.istore 17, 2) := by decide +kernel
theorem dL_law_828 : decode cL_law 828 = .ok (.aload_n 1, 1) := by decide +kernel
theorem dL_law_829 : decode cL_law 829 = .ok (.aload_n 2, 1) := by decide +kernel
theorem dL_law_830 : decode cL_law 830 = .ok (.getfield 59, 3) := by decide +kernel
theorem dL_law_833 : decode cL_law 833 = .ok (.iload 16, 2) := by decide +kernel
theorem dL_law_835 : decode cL_law 835 = .ok (.aload_n 2, 1) := by decide +kernel
theorem dL_law_836 : decode cL_law 836 = .ok (.getfield 66, 3) := by decide +kernel
theorem dL_law_839 : decode cL_law 839 = .ok (.invokevirtual 75, 3) := by decide +kernel
theorem dL_law_842 : decode cL_law 842 = .ok (.ifCond .ne 20, 3) := by decide +kernel
theorem dL_law_845 : decode cL_law 845 = .ok (.aload_n 1, 1) := by decide +kernel
theorem dL_law_846 : decode cL_law 846 = .ok (.invokevirtual 177, 3) := by decide +kernel
theorem dL_law_849 : decode cL_law 849 = .ok (.iconst (-1), 1) := by decide +kernel
theorem dL_law_850 : decode cL_law 850 = .ok (.if_icmp .ne 12, 3) := by decide +kernel
theorem dL_law_853 : decode cL_law 853 = .ok (.aload_n 1, 1) := by decide +kernel
theorem dL_law_854 : decode cL_law 854 = .ok (.invokevirtual 180, 3) := by decide +kernel
theorem dL_law_857 : decode cL_law 857 = .ok (.iload 17, 2) := by decide +kernel
theorem dL_law_859 : decode cL_law 859 = .ok (.if_icmp .eq 5, 3) := by decide +kernel
theorem dL_law_862 : decode cL_law 862 = .ok (.iconst 0, 1) := by decide +kernel
theorem dL_law_863 : decode cL_law 863 = .ok (.ireturn, 1) := by decide +kernel
theorem dL_law_864 : decode cL_law 864 = .ok (.iload 16, 2) := by decide +kernel
theorem dL_law_866 : decode cL_law 866 = .ok (.bipush 9, 2) := by decide +kernel
theorem dL_law_868 : decode cL_law 868 = .ok (.if_icmp .ge 29, 3) := by decide +kernel
theorem dL_law_871 : decode cL_law 871 = .ok (.aload_n 1, 1) := by decide +kernel
theorem dL_law_872 : decode cL_law 872 = .ok (.aload_n 2, 1) := by decide +kernel
theorem dL_law_873 : decode cL_law 873 = .ok (.getfield 59, 3) := by decide +kernel
theorem dL_law_876 : decode cL_law 876 = .ok (.iload 16, 2) := by decide +kernel
theorem dL_law_878 : decode cL_law 878 = .ok (.iconst 1, 1) := by decide +kernel
theorem dL_law_879 : decode cL_law 879 = .ok (.iadd, 1) := by decide +kernel
theorem dL_law_880 : decode cL_law 880 = .ok (.aload_n 2, 1) := by decide +kernel
theorem dL_law_881 : decode cL_law 881 = .ok (.getfield 66, 3) := by decide +kernel
theorem dL_law_884 : decode cL_law 884 = .ok (.invokevirtual 75, 3) := by decide +kernel
theorem dL_law_887 : decode cL_law 887 = .ok (.ifCond .ne 39, 3) := by decide +kernel
theorem dL_law_890 : decode cL_law 890 = .ok (.aload_n 1, 1) := by decide +kernel
theorem dL_law_891 : decode cL_law 891 = .ok (.invokevirtual 177, 3) := by decide +kernel
theorem dL_law_894 : decode cL_law 894 = .ok (.ifCond .lt 32, 3) := by decide +kernel
theorem dL_law_897 : decode cL_law 897 = .ok (.aload_n 1, 1) := by decide +kernel
theorem dL_law_898 : decode cL_law 898 = .ok (.aload_n 2, 1) := by decide +kernel
theorem dL_law_899 : decode cL_law 899 = .ok (.getfield 59, 3) := by decide +kernel
theorem dL_law_902 : decode cL_law 902 = .ok (.aload_n 2, 1) := by decide +kernel
theorem dL_law_903 : decode cL_law 903 = .ok (.getfield 63, 3) := by decide +kernel
theorem dL_law_906 : decode cL_law 906 = .ok (.aload_n 2, 1) := by decide +kernel
theorem dL_law_907 : decode cL_law 907 = .ok (.getfield 66, 3) := by decide +kernel
theorem dL_law_910 : decode cL_law 910 = .ok (.invokevirtual 75, 3) := by decide +kernel
theorem dL_law_913 : decode cL_law 913 = .ok (.ifCond .ne 13, 3) := by decide +kernel
theorem dL_law_916 : decode cL_law 916 = .ok (.aload_n 1, 1) := by decide +kernel
theorem dL_law_917 : decode cL_law 917 = .ok (.invokevirtual 107, 3) := by decide +kernel
theorem dL_law_920 : decode cL_law 920 = .ok (.lload 5, 2) := by decide +kernel
theorem dL_law_922 : decode cL_law 922 = .ok (.lcmp, 1) := by decide +kernel
theorem dL_law_923 : decode cL_law 923 = .ok (.ifCond .eq 5, 3) := by decide +kernel
theorem dL_law_926 : decode cL_law 926 = .ok (.iconst 0, 1) := by decide +kernel
theorem dL_law_927 : decode cL_law 927 = .ok (.ireturn, 1) := by decide +kernel
theorem dL_law_928 : decode cL_law 928 = .ok (.iload 7, 2) := by decide +kernel
theorem dL_law_930 : decode cL_law 930 = .ok (.istore 18, 2) := by decide +kernel
theorem dL_law_932 : decode cL_law 932 = .ok (.iload 18, 2) := by decide +kernel
theorem dL_law_934 : decode cL_law 934 = .ok (.sipush 360, 3) := by decide +kernel
theorem dL_law_937 : decode cL_law 937 = .ok (.if_icmp .ge 79, 3) := by decide +kernel
theorem dL_law_940 : decode cL_law 940 = .ok (.iload 18, 2) := by decide +kernel
theorem dL_law_942 : decode cL_law 942 = .ok (.iload 7, 2) := by decide +kernel
theorem dL_law_944 : decode cL_law 944 = .ok (.bipush 25, 2) := by decide +kernel
theorem dL_law_946 : decode cL_law 946 = .ok (.iadd, 1) := by decide +kernel
theorem dL_law_947 : decode cL_law 947 = .ok (.if_icmp .ge 69, 3) := by decide +kernel
theorem dL_law_950 : decode cL_law 950 = .ok (.aload_n 1, 1) := by decide +kernel
theorem dL_law_951 : decode cL_law 951 = .ok (.iconst 1, 1) := by decide +kernel
theorem dL_law_952 : decode cL_law 952 = .ok (.invokevirtual 89, 3) := by decide +kernel
theorem dL_law_955 : decode cL_law 955 = .ok (.istore 19, 2) := by decide +kernel
theorem dL_law_957 : decode cL_law 957 = .ok (.iload 19, 2) := by decide +kernel
theorem dL_law_959 : decode cL_law 959 = .ok (.aload_n 2, 1) := by decide +kernel
theorem dL_law_960 : decode cL_law 960 = .ok (.invokevirtual 190, 3) := by decide +kernel
theorem dL_law_963 : decode cL_law 963 = .ok (.if_icmp .ne 45, 3) := by decide +kernel
theorem dL_law_966 : decode cL_law 966 = .ok (.iload 19, 2) := by decide +kernel
theorem dL_law_968 : decode cL_law 968 = .ok (.ifCond .le 7, 3) := by decide +kernel
theorem dL_law_971 : decode cL_law 971 = .ok (.iconst 1, 1) := by decide +kernel
theorem dL_law_972 : decode cL_law 972 = .ok (.goto 4, 3) := by decide +kernel
theorem dL_law_975 : decode cL_law 975 = .ok (.iconst 0, 1) := by decide +kernel
theorem dL_law_976 : decode cL_law 976 = .ok (.iload 14, 2) := by decide +kernel
theorem dL_law_978 : decode cL_law 978 = .ok (.ifCond .lt 14, 3) := by decide +kernel
theorem dL_law_981 : decode cL_law 981 = .ok (.iload 18, 2) := by decide +kernel
theorem dL_law_983 : decode cL_law 983 = .ok (.iload 14, 2) := by decide +kernel
theorem dL_law_985 : decode cL_law 985 = .ok (.if_icmp .ne 7, 3) := by decide +kernel
theorem dL_law_988 : decode cL_law 988 = .ok (.iconst 1, 1) := by decide +kernel
theorem dL_law_989 : decode cL_law 989 = .ok (.goto 4, 3) := by decide +kernel
theorem dL_law_992 : decode cL_law 992 = .ok (.iconst 0, 1) := by decide +kernel
theorem dL_law_993 : decode cL_law 993 = .ok (.if_icmp .eq 17, 3) := by decide +kernel
theorem dL_law_996 : decode cL_law 996 = .ok (.iload 14, 2) := by decide +kernel
theorem dL_law_998 : decode cL_law 998 = .ok (.ifCond .lt 10, 3) := by decide +kernel
theorem dL_law_1001 : decode cL_law 1001 = .ok (.iload 18, 2) := by decide +kernel
theorem dL_law_1003 : decode cL_law 1003 = .ok (.iload 14, 2) := by decide +kernel
theorem dL_law_1005 : decode cL_law 1005 = .ok (.if_icmp .gt 5, 3) := by decide +kernel
theorem dL_law_1008 : decode cL_law 1008 = .ok (.iconst 0, 1) := by decide +kernel
theorem dL_law_1009 : decode cL_law 1009 = .ok (.ireturn, 1) := by decide +kernel
theorem dL_law_1010 : decode cL_law 1010 = .ok (.iinc 18 1, 3) := by decide +kernel
theorem dL_law_1013 : decode cL_law 1013 = .ok (.goto (-81), 3) := by decide +kernel
theorem dL_law_1016 : decode cL_law 1016 = .ok (.iload 12, 2) := by decide +kernel
theorem dL_law_1018 : decode cL_law 1018 = .ok (.ifCond .lt 103, 3) := by decide +kernel
theorem dL_law_1021 : decode cL_law 1021 = .ok (.iload 4, 2) := by decide +kernel
theorem dL_law_1023 : decode cL_law 1023 = .ok (.iconst 2, 1) := by decide +kernel
theorem dL_law_1024 : decode cL_law 1024 = .ok (.invokestatic 9, 3) := by decide +kernel
theorem dL_law_1027 : decode cL_law 1027 = .ok (.ifCond .ne 6, 3) := by decide +kernel
theorem dL_law_1030 : decode cL_law 1030 = .ok (.goto 91, 3) := by decide +kernel
theorem dL_law_1033 : decode cL_law 1033 = .ok (.aload_n 1, 1) := by decide +kernel
theorem dL_law_1034 : decode cL_law 1034 = .ok (.iload 12, 2) := by decide +kernel
theorem dL_law_1036 : decode cL_law 1036 = .ok (.invokevirtual 154, 3) := by decide +kernel
theorem dL_law_1039 : decode cL_law 1039 = .ok (.istore 18, 2) := by decide +kernel
theorem dL_law_1041 : decode cL_law 1041 = .ok (.aload_n 2, 1) := by decide +kernel
theorem dL_law_1042 : decode cL_law 1042 = .ok (.aload_n 2, 1) := by decide +kernel
theorem dL_law_1043 : decode cL_law 1043 = .ok (.getfield 35, 3) := by decide +kernel
theorem dL_law_1046 : decode cL_law 1046 = .ok (.iload 12, 2) := by decide +kernel
theorem dL_law_1048 : decode cL_law 1048 = .ok (.invokestatic 46, 3) := by decide +kernel
theorem dL_law_1051 : decode cL_law 1051 = .ok (.putfield 35, 3) := by decide +kernel
theorem dL_law_1054 : decode cL_law 1054 = .ok (.iconst 0, 1) := by decide +kernel
theorem dL_law_1055 : decode cL_law 1055 = .ok (.istore 19, 2) := by decide +kernel
theorem dL_law_1057 : decode cL_law 1057 = .ok (.aload_n 1, 1) := by decide +kernel
theorem dL_law_1058 : decode cL_law 1058 = .ok (.iload 12, 2) := by decide +kernel
theorem dL_law_1060 : decode cL_law 1060 = .ok (.invokevirtual 50, 3) := by decide +kernel
theorem dL_law_1063 : decode cL_law 1063 = .ok (.aload_n 2, 1) := by decide +kernel
theorem dL_law_1064 : decode cL_law 1064 = .ok (.getfield 35, 3) := by decide +kernel
theorem dL_law_1067 : decode cL_law 1067 = .ok (.arraylength, 1) := by decide +kernel
theorem dL_law_1068 : decode cL_law 1068 = .ok (.if_icmp .eq 5, 3) := by decide +kernel
theorem dL_law_1071 : decode cL_law 1071 = .ok (.iconst 0, 1) := by decide +kernel
theorem dL_law_1072 : decode cL_law 1072 = .ok (.ireturn, 1) := by decide +kernel
theorem dL_law_1073 : decode cL_law 1073 = .ok (.iconst 0, 1) := by decide +kernel
theorem dL_law_1074 : decode cL_law 1074 = .ok (.istore 20, 2) := by decide +kernel
theorem dL_law_1076 : decode cL_law 1076 = .ok (.iload 20, 2) := by decide +kernel
theorem dL_law_1078 : decode cL_law 1078 = .ok (.sipush 360, 3) := by decide +kernel
theorem dL_law_1081 : decode cL_law 1081 = .ok (.if_icmp .ge 28, 3) := by decide +kernel
theorem dL_law_1084 : decode cL_law 1084 = .ok (.iload 19, 2) := by decide +kernel
theorem dL_law_1086 : decode cL_law 1086 = .ok (.aload_n 1, 1) := by decide +kernel
theorem dL_law_1087 : decode cL_law 1087 = .ok (.iload 20, 2) := by decide +kernel
theorem dL_law_1089 : decode cL_law 1089 = .ok (.invokevirtual 113, 3) := by decide +kernel
theorem dL_law_1092 : decode cL_law 1092 = .ok (.ifCond .eq 7, 3) := by decide +kernel
theorem dL_law_1095 : decode cL_law 1095 = .ok (.iconst 0, 1) := by decide +kernel
theorem dL_law_1096 : decode cL_law 1096 = .ok (.goto 4, 3) := by decide +kernel
theorem dL_law_1099 : decode cL_law 1099 = .ok (.iconst 1, 1) := by decide +kernel
theorem dL_law_1100 : decode cL_law 1100 = .ok (.iadd, 1) := by decide +kernel
theorem dL_law_1101 : decode cL_law 1101 = .ok (.istore 19, 2) := by decide +kernel
theorem dL_law_1103 : decode cL_law 1103 = .ok (.iinc 20 1, 3) := by decide +kernel
theorem dL_law_1106 : decode cL_law 1106 = .ok (.goto (-30), 3) := by decide +kernel
theorem dL_law_1109 : decode cL_law 1109 = .ok (.iload 19, 2) := by decide +kernel
theorem dL_law_1111 : decode cL_law 1111 = .ok (.iload 11, 2) := by decide +kernel
theorem dL_law_1113 : decode cL_law 1113 = .ok (.iload 18, 2) := by decide +kernel
theorem dL_law_1115 : decode cL_law 1115 = .ok (.iadd, 1) := by decide +kernel
theorem dL_law_1116 : decode cL_law 1116 = .ok (.if_icmp .eq 5, 3) := by decide +kernel
theorem dL_law_1119 : decode cL_law 1119 = .ok (.iconst 0, 1) := by decide +kernel
theorem dL_law_1120 : decode cL_law 1120 = .ok (.ireturn, 1) := by decide +kernel
theorem dL_law_1121 : decode cL_law 1121 = .ok (.iinc 3 1, 3) := by decide +kernel
theorem dL_law_1124 : decode cL_law 1124 = .ok (.goto (-1102), 3) := by decide +kernel
theorem dL_law_1127 : decode cL_law 1127 = .ok (.aload_n 2, 1) := by decide +kernel
theorem dL_law_1128 : decode cL_law 1128 = .ok (.aload_n 1, 1) := by decide +kernel
theorem dL_law_1129 : decode cL_law 1129 = .ok (.invokevirtual 192, 3) := by decide +kernel
theorem dL_law_1132 : decode cL_law 1132 = .ok (.ireturn, 1) := by decide +kernel
end
