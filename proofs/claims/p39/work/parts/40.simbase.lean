/-! the law's own afternoon: its cells, and rows for arrays of int arrays -/
abbrev pr (x y : Int32) : Nat → Int32 := fun j => if j = 0 then x else y
abbrev rfs (r : Nat → Nat) : Nat → Option Nat := fun k => some (r k)
/-- the cell of an afternoon by hand that changes -/
abbrev picS (h : Nat) (a : Nat → Nat) (u : MS) : va_W :=
  [(h, .inr (1, [.ref (a 0), .ref (a 1), .ref (a 2), .int (nI (mRoom u)), .int (nI (mRate u)), .int (nI (mSip u)), .int (mAft u), .int (nI (mNow u)), .int (nI (mTea u)), .int (mSpl u)]))]
/-- the cells that it only reads -/
def RO (cI cR : ClassId) (a nr br : Nat → Nat) (u : MS) (H : Heap) : Prop :=
  H[a 0]? = some (vp_cell cI (mSc u, .inl (mHt u))) ∧ H[a 1]? = some (vp_cell cR (mNc u, .inr (.inr (.inr (.inr (rfs nr)))))) ∧ H[a 2]? = some (vp_cell cR (mBc u, .inr (.inr (.inr (.inr (rfs br)))))) ∧
  (∀ k, k < mNc u → H[nr k]? = some (vp_cell cI (2, .inl (pr (mFr u k) (mTo u k))))) ∧ (∀ k, k < mBc u → H[br k]? = some (vp_cell cI (2, .inl (pr (mPe u k) (mBe u k)))))
/-- they are none of those that change -/
def NM (X : Nat → Prop) (a nr br : Nat → Nat) (u : MS) : Prop := ¬ X (a 0) ∧ ¬ X (a 1) ∧ ¬ X (a 2) ∧ (∀ k, k < mNc u → ¬ X (nr k)) ∧ (∀ k, k < mBc u → ¬ X (br k))
theorem sm_lt {H : Heap} {q : Nat} {c : Cell} (h : H[q]? = some c) : q < H.size := (Array.getElem?_eq_some_iff.mp h).1
theorem RO.keep {cI cR : ClassId} {a nr br : Nat → Nat} {u : MS} {H H1 : Heap} {X : Nat → Prop} (h : RO cI cR a nr br u H) (hn : NM X a nr br u) (hk : ∀ q : Nat, q < H.size → ¬ X q → H1[q]? = H[q]?) : RO cI cR a nr br u H1 := by
  obtain ⟨h1, h2, h3, h4, h5⟩ := h
  obtain ⟨n1, n2, n3, n4, n5⟩ := hn
  exact ⟨(hk _ (sm_lt h1) n1).trans h1, (hk _ (sm_lt h2) n2).trans h2, (hk _ (sm_lt h3) n3).trans h3, fun k hk9 => (hk _ (sm_lt (h4 k hk9)) (n4 k hk9)).trans (h4 k hk9), fun k hk9 => (hk _ (sm_lt (h5 k hk9)) (n5 k hk9)).trans (h5 k hk9)⟩
theorem NM.weak {X Y : Nat → Prop} {a nr br : Nat → Nat} {u : MS} (h : NM X a nr br u) (hXY : ∀ q, Y q → X q) : NM Y a nr br u :=
  ⟨fun z => h.1 (hXY _ z), fun z => h.2.1 (hXY _ z), fun z => h.2.2.1 (hXY _ z), fun k hk z => h.2.2.2.1 k hk (hXY _ z), fun k hk z => h.2.2.2.2 k hk (hXY _ z)⟩
/-- a method of the afternoon by hand changes its own cell, and makes new ones -/
theorem RO.keepS {cI cR : ClassId} {a nr br : Nat → Nat} {u : MS} {h sz : Nat} {e9 : va_E} {H0 H : Heap} {locs : List Loc} (hR : RO cI cR a nr br u H0) (hn : NM (fun q => q = h) a nr br u) (hs : H0.size ≤ sz) (hS : va_S (va_A [(h, e9)] sz) H0 H locs) : RO cI cR a nr br u H := by
  refine hR.keep hn (fun q hq hx => hS.2.1 q hq (fun z => ?_))
  rcases z with ⟨k, e, z⟩ | z
  · have hz : k < 1 := (List.getElem?_eq_some_iff.mp z).1
    rw [show k = 0 by omega] at z
    cases z
    exact hx rfl
  · omega
theorem arrV_cong {cA : ClassId} {n : Nat} {f g : Nat → Value} (h : ∀ k, k < n → f k = g k) : arrV cA n f = arrV cA n g := by
  have e : (fun j : Fin n => f j.val) = fun j : Fin n => g j.val := funext fun j => h j.val j.isLt
  show ({ cls := cA, slots := Array.ofFn (n := n) fun j => f j.val, vm := .none } : Cell) = _
  rw [e]
  rfl
theorem cell_i {cA : ClassId} {n : Nat} {f g : Nat → Int32} (h : ∀ k, k < n → f k = g k) : vp_cell cA (n, .inl f) = vp_cell cA (n, .inl g) := by
  rw [vp_cell_i, vp_cell_i]
  exact arrV_cong fun k hk => by rw [h k hk]
theorem cell_q {cA : ClassId} {n : Nat} {f g : Nat → Option Nat} (h : ∀ k, k < n → f k = g k) : vp_cell cA (n, .inr (.inr (.inr (.inr f)))) = vp_cell cA (n, .inr (.inr (.inr (.inr g)))) := by
  rw [vp_cell_q, vp_cell_q]
  exact arrV_cong fun k hk => by rw [h k hk]
/-- arrays of int arrays are known -/
def AOI (U : State) : Prop := (Cond.arrayOver (.array .int)).before #[] U = true
theorem AOI.of {A : Array Value} {U : State} (h : (Cond.arrayOver (.array .int)).before A U = true) : AOI U := h
theorem AOI.use {A : Array Value} {U : State} (h : AOI U) : (Cond.arrayOver (.array .int)).before A U = true := h
set_option maxHeartbeats 2000000 in
theorem AOI.moved {u U : State} (hvm : u.vm.Alike U.vm) (h : AOI u) : AOI U := by
  obtain ⟨comp, c, k, h1, h2, h3, h4, h5⟩ := arrayOverA_spec (t := .int) h
  obtain ⟨k', hk', he⟩ := hvm.2.2 _ _ h3
  have hi : (U.vm.classes.findIdx? fun (x : Class) => match x.kind with | .array component _ => component == comp | _ => false) = some c := by
    have e1 := va_idx_bare U.vm comp
    have e2 := va_idx_bare u.vm comp
    first | rw [hvm.bare_eq] at e2 | rw [← hvm.bare_eq] at e2
    exact e1.symm.trans (e2.trans h2)
  have hkind : k'.kind = .array comp (.array .int) := by rw [he]; exact h4
  have f1 : U.vm.findClass (FieldType.array .int).toString = some comp := by rw [hvm.findClass]; exact h1
  have f2 : U.vm.findClass ("[" ++ (FieldType.array .int).toString) = some c := by rw [hvm.findClass]; exact h5
  unfold AOI Cond.before Cond.holds
  simp only [Cond.value]
  rw [f1, Option.bind_some]
  refine (congrArg (fun o : Option Nat => (o.bind (fun c => (U.vm.classes[c]?).map fun (k : Class) => match k.kind with | .array _ ty => decide (ty = FieldType.array .int) && decide (U.vm.findClass ("[" ++ (FieldType.array .int).toString) = some c) | _ => false) == some true)) hi).trans ?_
  simp [hk', hkind, f2]
theorem AOI.warm {s U : State} (hW : s.WarmedH U.vm) (h : AOI s) : AOI U := h.moved hW.alike
theorem AOI.blind {U : State} {g : JFrame} {mk : MethodId} {a : Array Value} (h : AOI U) : AOI (U.calling g mk a) := AOI.moved (u := U) (U := U.calling g mk a) (Vm.Alike.refl U.vm) h
abbrev tyR (cI cR : ClassId) : List (ClassId × FieldType) := [(cI, .int), (cR, .array .int)]
theorem AOI.spec {D : va_G} {cl : List vw_C} {cI cR : ClassId} {s : State} (h : AOI s) (hK : va_K D cl (tyR cI cR) s) : ∃ (kA kI : Class), s.vm.classes[cR]? = some kA ∧ kA.kind = .array cI (.array .int) ∧ s.vm.classes[cI]? = some kI := by
  obtain ⟨comp, c, k, h1, -, h3, h4, h5⟩ := arrayOverA_spec (t := .int) h
  have g1 := (hK.2 0 (cI, .int) rfl)
  have g2 := (hK.2 1 (cR, .array .int) rfl)
  have e1 : s.vm.findClass ("[" ++ FieldType.int.toString) = some cI := g1.2
  have e2 : s.vm.findClass ("[" ++ (FieldType.array .int).toString) = some cR := g2.2
  have e3 : (FieldType.array .int).toString = "[" ++ FieldType.int.toString := by first | rfl | decide +kernel
  rw [e3] at h1
  cases h1.symm.trans e1
  cases h5.symm.trans e2
  obtain ⟨-, kI, hkI, -⟩ := g1.1 0 (fun _ => .null)
  exact ⟨k, kI, h3, h4, hkI⟩
theorem K_uniR {D : va_G} {cl : List vw_C} {c1 c2 c3 : ClassId} {s : State} (h : va_K D cl [(c1, .int), (c2, .array .int), (c3, .array .int)] s) : c2 = c3 := by
  have h1 := (h.2 1 (c2, .array .int) rfl).2
  have h2 := (h.2 2 (c3, .array .int) rfl).2
  exact Option.some.inj (Eq.trans (Eq.symm h1) h2)
theorem K_uniB {D : va_G} {cl : List vw_C} {c1 c2 : ClassId} {c3 : ClassId × FieldType} {s : State} (h : va_K D cl [(c1, .int), (c2, .int), c3] s) : c1 = c2 := by
  have h1 := (h.2 0 (c1, .int) rfl).2
  have h2 := (h.2 1 (c2, .int) rfl).2
  exact Option.some.inj (Eq.trans (Eq.symm h1) h2)
theorem K_uniI {D : va_G} {cl : List vw_C} {c1 c2 c3 : ClassId} {s : State} (h : va_K D cl [(c1, .int), (c2, .array .int), (c3, .int)] s) : c1 = c3 := by
  have h1 := (h.2 0 (c1, .int) rfl).2
  have h2 := (h.2 2 (c3, .int) rfl).2
  exact Option.some.inj (Eq.trans (Eq.symm h1) h2)
theorem asg_self {vm : Vm} {c : ClassId} : vm.assignable c c = true := by
  show vm.assignableAux (255 + 1) c c = true
  rw [Vm.assignableAux, beq_self_eq_true, Bool.true_or]
theorem P_at {D : va_G} {cl : List vw_C} {W : va_W} {t : State} {H : Heap} (ht : t.heap = H) (h : va_P D cl W H) : va_P D cl W t.heap := by rw [ht]; exact h
theorem P_of {D : va_G} {cl : List vw_C} {W : va_W} {t : State} {H : Heap} (h : va_P D cl W t.heap) (ht : t.heap = H) : va_P D cl W H := by rw [← ht]; exact h
section QA
variable {p : Program} {l : Launch} {e : Env} {R : Room} {s : State} {m : MethodId} {args : Array Value} {below : List Frame} {meth : Method} {c : Code} {H : Heap} {locs : List Loc} {cells slots : Nat} {Q : State → Prop} {cc : ByteArray} {pc : Nat} {ls : Array Slot} {rest : List Value} {D : va_G} {cl : List vw_C} {ws : va_W} {tys : List (ClassId × FieldType)} {a : Nat} {A : Nat → Prop} {H0 : Heap}
theorem q_aald (hexec : p.tables.exec = Jvm.exec) (hb : c.code = cc) (hK : va_K D cl tys s) (t0 : Nat) {cA : ClassId} {ty : FieldType} {n : Nat} {f : Nat → Nat} (ha : H[a]? = some (vp_cell cA (n, .inr (.inr (.inr (.inr (rfs f))))))) (ht : tys[t0]? = some (cA, .array ty)) {k : Nat} (hk : k < n) (hn : n < 2 ^ 31) (hdg : decode cc pc = .ok (.aaload, 1))
    (kk : W p l e R s m args below meth c H locs cells slots Q (F0 m (pc + 1) ls (.ref (f k) :: rest))) : W p l e R s m args below meth c H locs cells slots Q (F0 m pc ls (.int (nI k) :: .ref a :: rest)) := by
  have hin := vp_in_nI hk hn
  have ec : (nI k).toNatClampNeg = k := nI_clamp (Nat.lt_trans hk hn)
  refine W.aald (v := .ref (f k)) (ty := .array ty) hexec hb ha ((hK.2 t0 _ ht).1 n (fun j => va_rf (rfs f j))) rfl (fun q => by cases q) (by show ¬ (nI k < 0 ∨ (arrV _ _ _).slots.size ≤ _); rw [arrV_size]; exact hin) (by show (arrV _ _ _).slots[_]? = _; rw [ec, arrV_read _ _ hk]; rfl) rfl rfl hdg kk
theorem q_ialdH (hexec : p.tables.exec = Jvm.exec) (hb : c.code = cc) (hK : va_K D cl tys s) (t0 : Nat) {cA : ClassId} {n : Nat} {f : Nat → Int32} (ha : H[a]? = some (vp_cell cA (n, .inl f))) (ht : tys[t0]? = some (cA, .int)) {k : Nat} (hk : k < n) (hn : n < 2 ^ 31) {v : Int32} (hv : f k = v) (hdg : decode cc pc = .ok (.iaload, 1))
    (kk : W p l e R s m args below meth c H locs cells slots Q (F0 m (pc + 1) ls (.int v :: rest))) : W p l e R s m args below meth c H locs cells slots Q (F0 m pc ls (.int (nI k) :: .ref a :: rest)) := by
  refine q_iald (ws := [(a, .inl (cA, n, .inl f))]) hexec hb hK (fun k q hk => ?_) 0 t0 rfl ht hk hn hv hdg kk
  have hz : k < 1 := (List.getElem?_eq_some_iff.mp hk).1
  rw [show k = 0 by omega] at hk
  cases hk
  exact ha
theorem P_one {ad : Nat} {e9 : va_E} (h : va_at D cl (ad, e9) H) : va_P D cl [(ad, e9)] H := by
  intro k q hk
  have hz : k < 1 := (List.getElem?_eq_some_iff.mp hk).1
  rw [show k = 0 by omega] at hk
  cases hk
  exact h
theorem D_one {ad : Nat} {e9 : va_E} (h : A ad) : va_D A [(ad, e9)] := by
  have key : ∀ (k : Nat) (q : Nat × va_E), [(ad, e9)][k]? = some q → k = 0 ∧ q = (ad, e9) := by
    intro k q hk
    have hz : k < 1 := (List.getElem?_eq_some_iff.mp hk).1
    rw [show k = 0 by omega] at hk
    cases hk
    exact ⟨by omega, rfl⟩
  refine ⟨fun i j p q hi hj _ => ?_, fun k q hk => ?_⟩
  · rw [(key i p hi).1, (key j q hj).1]
  · rw [(key k q hk).2]; exact h
theorem q_astA (hexec : p.tables.exec = Jvm.exec) (hb : c.code = cc) {cI cR : ClassId} (hK : va_K D cl (tyR cI cR) s) (hO : AOI s) (hP : va_P D cl ws H) (hD : va_D A ws) (hS : va_S A H0 H locs) (q0 : Nat) {n v : Nat} {f : Nat → Option Nat} (ha : ws[q0]? = some (a, .inl (cR, n, .inr (.inr (.inr (.inr f)))))) {m9 : Nat} {g : Nat → Int32} (hv : H[v]? = some (vp_cell cI (m9, .inl g))) {k : Nat} (hk : k < n) (hn : n < 2 ^ 31) (hdg : decode cc pc = .ok (.aastore, 1))
    (kk : ∀ (H1 : Heap) (locs1 : List Loc), va_P D cl (ws.set q0 (a, .inl (cR, n, .inr (.inr (.inr (.inr (va_up f k (some v)))))))) H1 → va_D A (ws.set q0 (a, .inl (cR, n, .inr (.inr (.inr (.inr (va_up f k (some v)))))))) → va_S A H0 H1 locs1 → W p l e R s m args below meth c H1 locs1 cells slots Q (F0 m (pc + 1) ls rest)) : W p l e R s m args below meth c H locs cells slots Q (F0 m pc ls (.ref v :: .int (nI k) :: .ref a :: rest)) := by
  have hin := vp_in_nI hk hn
  have ec : (nI k).toNatClampNeg = k := nI_clamp (Nat.lt_trans hk hn)
  have h0 : ¬ nI k < 0 := fun q => hin (Or.inl q)
  obtain ⟨kA, kI, k1, k2, k3⟩ := hO.spec hK
  refine W.aast hexec hb (hP q0 _ ha) (fun q h => by cases h) (fun h => by cases h) k1 k2 rfl k3 ⟨h0, by show _ < (arrV _ _ _).slots.size; rw [arrV_size, ec]; exact hk⟩ hv (fun q h => by cases h) k3 asg_self rfl rfl hdg fun H1 e z oq => ?_
  refine kk H1 _ (hP.set hD ha ?_ oq) (hD.set ha) (hS.put z oq (hD.2 q0 _ ha))
  show H1[a]? = some (vp_cell _ _)
  rw [e]
  rw [vp_cell_q, vp_cell_q, arrV_store, ec]
  congr 2
  funext q
  by_cases hq : q = k
  · subst hq
    simp [updV, va_up, va_rf]
  · simp [updV, va_up, hq]
theorem q_newA (hexec : p.tables.exec = Jvm.exec) (hb : c.code = cc) {own : String} {index : Nat} (hown : s.vm.findClass own = some m.cls) (hclink : (Cond.classLink own index "[I").before args s = true) (hO : AOI s) (hK : va_K D cl tys s) (hP : va_P D cl ws H) (hD : va_D A ws) (hS : va_S A H0 H locs) (hA : ∀ q, H0.size ≤ q → A q)
    {N' : Nat} (hN : N' < 1000) (hcells : cells + 1 ≤ R.cells) (hslots : slots + N' ≤ R.slots) (hdg : decode cc pc = .ok (.anewarray index, 3))
    (kk : ∀ (q : Nat) (cA : ClassId) (H1 : Heap), q = H.size → va_K D cl (tys ++ [(cA, .array .int)]) s → va_P D cl (ws ++ [(q, .inl (cA, N', .inr (.inr (.inr (.inr (fun _ => none))))))]) H1 → va_D A (ws ++ [(q, .inl (cA, N', .inr (.inr (.inr (.inr (fun _ => none))))))]) → va_S A H0 H1 locs →
      W p l e R s m args below meth c H1 locs (cells + 1) (slots + N') Q (F0 m (pc + 3) ls (.ref q :: rest))) : W p l e R s m args below meth c H locs cells slots Q (F0 m pc ls (.int (nI N') :: rest)) := by
  have ec : (nI N').toNatClampNeg = N' := nI_clamp (by omega)
  have e3 : (FieldType.array .int).toString = "[I" := by first | rfl | decide +kernel
  have hcl : (Cond.classLink own index (FieldType.array .int).toString).before args s = true := by rw [e3]; exact hclink
  refine W.anewA (t := .int) hexec hb hown hcl (AOI.use hO) rfl hdg rfl (nI_pos (by omega)) (by rw [ec]; omega) hcells (by rw [ec]; exact hslots) fun cA kA comp f1 f2 f3 f4 => ?_
  rw [ec]
  generalize hH1 : H.push ({ cls := cA, slots := Array.replicate N' .null, vm := .none } : Cell) = H1
  have z1 : H1.size = H.size + 1 := by rw [← hH1, Array.size_push]
  have e1 : H1[H.size]? = some (arrV cA N' (fun _ => .null)) := by rw [← hH1, Array.getElem?_push_size, ← arrV_new]
  have o1 : ∀ q : Nat, q < H.size → H1[q]? = H[q]? := fun q hq => by rw [← hH1, Array.getElem?_push, if_neg (Nat.ne_of_lt hq)]
  have hAr : ArrOfT s cA (.array .int) := fun N z => ⟨(fun k h => by cases h), kA, f2, comp, f3⟩
  have hk : ∀ (k : Nat) (x : Nat × va_E), ws[k]? = some x → H1[x.1]? = H[x.1]? := fun k x hx => o1 x.1 ((hP k x hx).lt)
  refine kk H.size cA H1 rfl ⟨hK.1, fun k x hx => ?_⟩ ((hP.kept hk).app (P_one ?_)) (hD.push hP rfl (hA _ hS.1)) ⟨Nat.le_trans hS.1 (by omega), fun x h1 h2 => (o1 x (Nat.lt_of_lt_of_le h1 hS.1)).trans (hS.2.1 x h1 h2), hS.2.2⟩
  · by_cases hl : k < tys.length
    · rw [List.getElem?_append_left hl] at hx
      exact hK.2 k x hx
    · rw [List.getElem?_append_right (by omega)] at hx
      have hz : k - tys.length < 1 := (List.getElem?_eq_some_iff.mp hx).1
      rw [show k - tys.length = 0 by omega] at hx
      cases hx
      exact ⟨hAr, f1⟩
  · show H1[H.size]? = some (vp_cell _ _)
    rw [vp_cell_q]
    exact e1
theorem q_newI (hexec : p.tables.exec = Jvm.exec) (hb : c.code = cc) (harr : (Cond.arrayClass .int).before args s = true) (hK : va_K D cl tys s) (hP : va_P D cl ws H) (hD : va_D A ws) (hS : va_S A H0 H locs) (hA : ∀ q, H0.size ≤ q → A q)
    {N' : Nat} (hN : N' < 1000) (hcells : cells + 1 ≤ R.cells) (hslots : slots + N' ≤ R.slots) (hdg : decode cc pc = .ok (.newarray .int, 2))
    (kk : ∀ (q : Nat) (cA : ClassId) (H1 : Heap), q = H.size → va_K D cl (tys ++ [(cA, .int)]) s → va_P D cl (ws ++ [(q, .inl (cA, N', .inl (fun _ => 0)))]) H1 → va_D A (ws ++ [(q, .inl (cA, N', .inl (fun _ => 0)))]) → va_S A H0 H1 locs →
      W p l e R s m args below meth c H1 locs (cells + 1) (slots + N') Q (F0 m (pc + 2) ls (.ref q :: rest))) : W p l e R s m args below meth c H locs cells slots Q (F0 m pc ls (.int (nI N') :: rest)) := by
  refine va_newaK (atype := .int) hexec hb harr rfl hdg rfl (nI_pos (by omega)) (nI_clamp (by omega)) (by show N' * 4 ≤ 536870912; omega) hcells hslots rfl fun H1 cA e1 z1 o1 hAr hNm => ?_
  have hk : ∀ (k : Nat) (x : Nat × va_E), ws[k]? = some x → H1[x.1]? = H[x.1]? := fun k x hx => o1 x.1 ((hP k x hx).lt)
  refine kk H.size cA H1 rfl ⟨hK.1, fun k x hx => ?_⟩ ((hP.kept hk).app (P_one ?_)) (hD.push hP rfl (hA _ hS.1)) ⟨Nat.le_trans hS.1 (by omega), fun x h1 h2 => (o1 x (Nat.lt_of_lt_of_le h1 hS.1)).trans (hS.2.1 x h1 h2), hS.2.2⟩
  · by_cases hl : k < tys.length
    · rw [List.getElem?_append_left hl] at hx
      exact hK.2 k x hx
    · rw [List.getElem?_append_right (by omega)] at hx
      have hz : k - tys.length < 1 := (List.getElem?_eq_some_iff.mp hx).1
      rw [show k - tys.length = 0 by omega] at hx
      cases hx
      exact ⟨hAr, hNm⟩
  · show H1[H.size]? = some (vp_cell _ _)
    rw [vp_cell_i]
    exact e1
end QA
/-! a method of the afternoon by hand that changes nothing: its entry, and its call -/
theorem en_pr {l : Launch} {y : MethodName} {ws ws' : List Cond} {rm : Room} {Qc : Array Value → State → Outcome → State → Prop} {cc : ByteArray} {maxL : Nat} {ret : Option FieldType} {D : va_G} {cl : List vw_C} {tys : List (ClassId × FieldType)} (W0 : va_W) (av : List Value) (RR : Heap → Prop)
    (hy : plainName y.cls = true) (hw : ws = Cond.code y cc maxL ret :: ws') (hlen : (lg_sl av).length ≤ maxL)
    (body : ∀ (p : Program) (e : Env) (s : State) (m : MethodId) (args : Array Value) (below : List Frame) (meth : Method) (c : Code) (ls : Array Slot), p.tables.exec = Jvm.exec → c.code = cc → c.maxLocals = maxL → meth.sig.returnType = ret → meth.locks = false → (∀ w ∈ ws, w.before args s = true) → s.vm.findClass y.cls = some m.cls → va_P D cl W0 s.heap → RR s.heap → va_K D cl tys s → lv_has ls maxL (lv_args 0 av) →
      W p l e rm s m args below meth c s.heap [] 0 0 (MQ below Qc args s 0 0 (fun _ => False)) (F0 m 0 ls [])) :
    Met l y ws rm (va_Pc av (fun U => va_P D cl W0 U.heap ∧ RR U.heap ∧ va_K D cl tys U)) Qc 0 0 (fun _ => False) := by
  refine Met.ofW (cc := cc) (maxL := maxL) (ret := ret) hy hw ?_
  intro p e s m args below meth c s₁ B hml hv
  obtain ⟨rfl, hP, hR, hK⟩ := hv
  have hl := lv_entry av (n := maxL) hlen
  rw [lg_entry_eq]
  exact body p e s m _ below meth c _ B.exec B.bytes hml B.returns B.notSynchronized (atoms_spec (ws := ws) B.pre) (findClass_of_methodNamed B.named) hP hR hK hl
theorem pr_pre {s : State} {H : Heap} {D : va_G} {cl : List vw_C} {tys : List (ClassId × FieldType)} {W0 : va_W} {RR : Heap → Prop} {h ci N : Nat} {fs : List Value} {C : String} {T : u_T} {As : List Value} (hK : va_K D cl tys s) (hP : va_P D cl W0 H) (hR : RR H) (he : W0[0]? = some (h, .inr (ci, fs))) (hc : cl[ci]? = some (C, T, N)) :
    PreV s H C h (va_Pc (.ref h :: As) (fun U => va_P D cl W0 U.heap ∧ RR U.heap ∧ va_K D cl tys U)) As :=
  ⟨fun a U g mk q => by
    obtain ⟨q0, qP, qR, qK⟩ := q
    exact ⟨q0, qP, qR, va_K.moved (u := U) (U := U.calling g mk a) (Vm.Alike.refl U.vm) qK⟩, va_recv hK hP hc he, fun U hU hW => ⟨rfl, by rw [hU]; exact hP, by rw [hU]; exact hR, va_K.moved hW.alike hK⟩⟩
section QB
variable {p : Program} {l : Launch} {e : Env} {R : Room} {s : State} {m : MethodId} {args : Array Value} {below : List Frame} {meth : Method} {c : Code} {H : Heap} {locs : List Loc} {cells slots : Nat} {Q : State → Prop} {cc : ByteArray} {pc : Nat} {ls : Array Slot} {rest : List Value}
theorem q_idivN (hexec : p.tables.exec = Jvm.exec) (hb : c.code = cc) {x y : Nat} (hx : x < 2 ^ 31) (hy0 : 0 < y) (hy : y < 2 ^ 31) (hdg : decode cc pc = .ok (.idiv, 1))
    (k : W p l e R s m args below meth c H locs cells slots Q (F0 m (pc + 1) ls (.int (nI (x / y)) :: rest))) : W p l e R s m args below meth c H locs cells slots Q (F0 m pc ls (.int (nI y) :: .int (nI x) :: rest)) := by
  refine lv_idiv hexec hb hdg (nI_ne0 hy0 hy) ?_
  rw [pk_div hx hy0 hy]
  exact k
end QB
/-- what the afternoon by hand needs of a state -/
def InvN (u : MS) : Prop := mSc u ≤ 4 ∧ mNc u ≤ 8 ∧ mBc u ≤ 6 ∧ mNow u ≤ 360 ∧
  (∀ b, b < mBc u → mPe u b = nI (pN u b) ∧ mBe u b = nI (qN u b) ∧ 2 ≤ pN u b ∧ pN u b ≤ 30 ∧ qN u b < pN u b) ∧
  (∀ n, n < mNc u → mFr u n = nI (aN u n) ∧ mTo u n = nI (bN u n) ∧ aN u n < bN u n ∧ bN u n ≤ 360) ∧ (∀ s, s < mSc u → mHt u s = nI (hN u s) ∧ 1 ≤ hN u s ∧ hN u s ≤ 30)
theorem Inv.n {u : MS} (h : Inv u) : InvN u := ⟨h.1, h.2.1, h.2.2.1, h.2.2.2.1, h.2.2.2.2.2.1, h.2.2.2.2.2.2.1, h.2.2.2.2.2.2.2.2.1⟩
/-! counts -/
theorem ct_y {P : Nat → Bool} {k : Nat} (h : P k = true) : ct P (k + 1) = ct P k + 1 := by
  show ct P k + (if P k = true then 1 else 0) = _
  rw [if_pos h]
theorem ct_n {P : Nat → Bool} {k : Nat} (h : P k = false) : ct P (k + 1) = ct P k + 0 := by
  show ct P k + (if P k = true then 1 else 0) = _
  rw [if_neg (by rw [h]; decide)]
theorem ct_flat {P : Nat → Bool} {a : Nat} : ∀ d, (∀ m, a ≤ m → m < a + d → P m = false) → ct P (a + d) = ct P a := by
  intro d
  induction d with
  | zero => exact fun _ => rfl
  | succ d ih =>
    intro h
    show ct P (a + d) + (if P (a + d) = true then 1 else 0) = _
    rw [if_neg (by rw [h (a + d) (by omega) (by omega)]; decide), ih (fun m h1 h2 => h m h1 (by omega)), Nat.add_zero]
/-- naps over a minute, one of them left out -/
def nbB (u : MS) (but : Int32) (t k : Nat) : Bool := decide (¬ nI k = but) && cvB u k t
def cB (u : MS) (but : Int32) (t : Nat) : Nat := ct (nbB u but t) (mNc u)
theorem cB_le (u : MS) (but : Int32) (t : Nat) : cB u but t ≤ mNc u := ct_le _ _
theorem nb_e {u : MS} {but : Int32} {t k : Nat} (h : nI k = but) : nbB u but t k = false := by
  unfold nbB
  rw [decide_eq_false (fun z => z h)]
  rfl
theorem nb_f {u : MS} {but : Int32} {t k : Nat} (h : ¬ (aN u k ≤ t ∧ t < bN u k)) : nbB u but t k = false := by
  unfold nbB cvB
  rw [decide_eq_false h]
  exact Bool.and_false _
theorem nb_t {u : MS} {but : Int32} {t k : Nat} (h0 : ¬ nI k = but) (h : aN u k ≤ t ∧ t < bN u k) : nbB u but t k = true := by
  unfold nbB cvB
  rw [decide_eq_true h, decide_eq_true h0]
  rfl
theorem cB_m1 {u : MS} {t : Nat} (h : mNc u ≤ 8) : cB u (-1) t = cN u t := by
  refine ct_cong (fun k hk => ?_)
  have e : ¬ nI k = -1 := fun z => by
    have h1 := congrArg Int32.toInt z
    rw [nI_toInt (by omega)] at h1
    have h2 : (-1 : Int32).toInt = -1 := by decide +kernel
    omega
  show (decide (¬ nI k = -1) && cvB u k t) = cvB u k t
  rw [decide_eq_true e]
  exact Bool.true_and _
def awX (u : MS) (but : Int32) (t : Nat) : Bool := decide (cB u but t = 0)
theorem tk_mod {t p q : Nat} (hq : q < p) (h : q ≤ t) : (t - q) % p = 0 ↔ t % p = q := by
  have e : t = q + (t - q) := by omega
  constructor
  · intro z
    rw [e, Nat.add_mod, z, Nat.add_zero, Nat.mod_mod, Nat.mod_eq_of_lt hq]
  · intro z
    have h1 := Nat.div_add_mod t p
    rw [z] at h1
    have h2 : t - q = p * (t / p) := by omega
    rw [h2]
    exact Nat.mul_mod_right p (t / p)
theorem tk_gap {t p q d : Nat} (hp : 2 ≤ p) (h : t % p = q) (h1 : 0 < d) (h2 : d < p) : ¬ (t + d) % p = q := by
  intro z
  have e1 := Nat.div_add_mod t p
  have e2 := Nat.div_add_mod (t + d) p
  rw [h] at e1
  rw [z] at e2
  have e3 : p * ((t + d) / p) = p * (t / p) + d := by omega
  have e4 : (p * ((t + d) / p)) % p = 0 := Nat.mul_mod_right p _
  rw [e3, Nat.mul_add_mod, Nat.mod_eq_of_lt h2] at e4
  omega
theorem tk_go {u : MS} {b T : Nat} (hp : 2 ≤ pN u b) (hT : T % pN u b = qN u b) (hl : T < mNow u) : ct (tkB u b) (min (T + pN u b) (mNow u)) = ct (tkB u b) (T + 1) := by
  have e : min (T + pN u b) (mNow u) = (T + 1) + (min (T + pN u b) (mNow u) - (T + 1)) := by omega
  rw [e]
  refine ct_flat _ (fun m h1 h2 => decide_eq_false (fun z => ?_))
  have h3 := tk_gap (d := m - T) hp hT (by omega) (by omega)
  rw [show T + (m - T) = m by omega] at h3
  exact h3 z.2
theorem tk_y {u : MS} {b T X : Nat} (hp : 2 ≤ pN u b) (hT : T % pN u b = qN u b) (hl : T < mNow u) (hc : cN u T = 0) (hX : X = ct (tkB u b) (min T (mNow u))) : X + 1 = ct (tkB u b) (min (T + pN u b) (mNow u)) := by
  rw [tk_go hp hT hl, ct_y (decide_eq_true ⟨hc, hT⟩), hX, Nat.min_eq_left (Nat.le_of_lt hl)]
theorem tk_n {u : MS} {b T X : Nat} (hp : 2 ≤ pN u b) (hT : T % pN u b = qN u b) (hl : T < mNow u) (hc : ¬ cN u T = 0) (hX : X = ct (tkB u b) (min T (mNow u))) : X + 0 = ct (tkB u b) (min (T + pN u b) (mNow u)) := by
  rw [tk_go hp hT hl, ct_n (decide_eq_false (fun z => hc z.1)), hX, Nat.min_eq_left (Nat.le_of_lt hl)]
theorem tk_0 {u : MS} {b : Nat} (hq : qN u b < pN u b) : 0 = ct (tkB u b) (min (qN u b) (mNow u)) := by
  have h := ct_flat (P := tkB u b) (a := 0) (min (qN u b) (mNow u)) (fun m h1 h2 => decide_eq_false (fun z => by
    have h3 := z.2
    rw [Nat.mod_eq_of_lt (by omega)] at h3
    omega))
  rw [Nat.zero_add] at h
  exact h.symm
/-! a method of the afternoon by hand that changes its cell, or makes new ones -/
theorem A_one {h sz q : Nat} {e9 : va_E} (hq : q < sz) (hx : ¬ q = h) : ¬ va_A [(h, e9)] sz q := by
  intro z
  rcases z with ⟨k, e, z⟩ | z
  · have hz : k < 1 := (List.getElem?_eq_some_iff.mp z).1
    rw [show k = 0 by omega] at z
    cases z
    exact hx rfl
  · omega
theorem RO.after {cI cR : ClassId} {a nr br : Nat → Nat} {u : MS} {h : Nat} {e9 : va_E} {H H1 : Heap} (hR : RO cI cR a nr br u H) (hn : NM (fun q => q = h) a nr br u) (hk : ∀ q : Nat, q < H.size → ¬ va_A [(h, e9)] H.size q → H1[q]? = H[q]?) : RO cI cR a nr br u H1 :=
  hR.keep hn (fun q hq hx => hk q hq (A_one hq hx))
theorem en_ws {l : Launch} {y : MethodName} {ws ws' : List Cond} {rm : Room} {cc : ByteArray} {maxL : Nat} {ret : Option FieldType} {D : va_G} {cl : List vw_C} {cI cR : ClassId} {sz mc ms h : Nat} {a nr br : Nat → Nat} {u : MS} {e9 : va_E} (hN : NM (fun q => q = h) a nr br u) (av : List Value) (Qc : (Nat → Prop) → Array Value → State → Outcome → State → Prop)
    (hy : plainName y.cls = true) (hw : ws = Cond.code y cc maxL ret :: ws') (hlen : (lg_sl av).length ≤ maxL)
    (body : ∀ (p : Program) (e : Env) (s : State) (m : MethodId) (args : Array Value) (below : List Frame) (meth : Method) (c : Code) (ls : Array Slot) (A : Nat → Prop) (H : Heap) (locs : List Loc), p.tables.exec = Jvm.exec → c.code = cc → c.maxLocals = maxL → meth.sig.returnType = ret → meth.locks = false → (∀ w ∈ ws, w.before args s = true) → s.vm.findClass y.cls = some m.cls → s.heap.size = sz → (∀ (H2 : Heap) (locs2 : List Loc), va_S A s.heap H2 locs2 → RO cI cR a nr br u H2) → va_P D cl [(h, e9)] H → va_K D cl (tyR cI cR) s → va_D A [(h, e9)] → (∀ q : Nat, s.heap.size ≤ q → A q) → va_S A s.heap H locs → lv_has ls maxL (lv_args 0 av) →
      W p l e rm s m args below meth c H locs 0 0 (MQ below (Qc A) args s mc ms A) (F0 m 0 ls [])) :
    Met l y ws rm (va_Pc av (fun U => U.heap.size = sz ∧ va_P D cl [(h, e9)] U.heap ∧ RO cI cR a nr br u U.heap ∧ va_K D cl (tyR cI cR) U)) (Qc (va_A [(h, e9)] sz)) mc ms (va_A [(h, e9)] sz) := by
  refine Met.ofW (cc := cc) (maxL := maxL) (ret := ret) hy hw ?_
  intro p e s m args below meth c s₁ B hml hv
  obtain ⟨rfl, hsz, hP, hR, hK⟩ := hv
  have hl := lv_entry av (n := maxL) hlen
  rw [lg_entry_eq]
  subst hsz
  exact body p e s m _ below meth c _ (va_A [(h, e9)] s.heap.size) s.heap [] B.exec B.bytes hml B.returns B.notSynchronized (atoms_spec (ws := ws) B.pre) (findClass_of_methodNamed B.named) rfl (fun H2 locs2 hS => hR.keepS hN (Nat.le_refl _) hS) hP hK (D_one (Or.inl ⟨0, e9, rfl⟩)) (fun q h => Or.inr h) va_S.rf hl
theorem ws_blind {av : List Value} {sz : Nat} {D : va_G} {cl : List vw_C} {tys : List (ClassId × FieldType)} {W0 : va_W} {RR : Heap → Prop} : FrameBlind (va_Pc av (fun U => U.heap.size = sz ∧ va_P D cl W0 U.heap ∧ RR U.heap ∧ va_K D cl tys U)) :=
  fun a U g mk q => by
    obtain ⟨q0, q1, qP, qR, qK⟩ := q
    exact ⟨q0, q1, qP, qR, va_K.moved (u := U) (U := U.calling g mk a) (Vm.Alike.refl U.vm) qK⟩
/-- a static method that reads, and makes new cells -/
theorem en_sm {l : Launch} {y : MethodName} {ws ws' : List Cond} {rm : Room} {cc : ByteArray} {maxL : Nat} {ret : Option FieldType} {D : va_G} {cl : List vw_C} {cI cR : ClassId} {sz mc ms : Nat} (av : List Value) (RR : Heap → Prop) (Qc : Array Value → State → Outcome → State → Prop)
    (hy : plainName y.cls = true) (hw : ws = Cond.code y cc maxL ret :: ws') (hlen : (lg_sl av).length ≤ maxL)
    (body : ∀ (p : Program) (e : Env) (s : State) (m : MethodId) (args : Array Value) (below : List Frame) (meth : Method) (c : Code) (ls : Array Slot), p.tables.exec = Jvm.exec → c.code = cc → c.maxLocals = maxL → meth.sig.returnType = ret → meth.locks = false → (∀ w ∈ ws, w.before args s = true) → s.vm.findClass y.cls = some m.cls → s.heap.size = sz → RR s.heap → va_K D cl (tyR cI cR) s → AOI s → lv_has ls maxL (lv_args 0 av) →
      W p l e rm s m args below meth c s.heap [] 0 0 (MQ below Qc args s mc ms (fun q => sz ≤ q)) (F0 m 0 ls [])) :
    Met l y ws rm (va_Pc av (fun U => U.heap.size = sz ∧ RR U.heap ∧ va_K D cl (tyR cI cR) U ∧ AOI U)) Qc mc ms (fun q => sz ≤ q) := by
  refine Met.ofW (cc := cc) (maxL := maxL) (ret := ret) hy hw ?_
  intro p e s m args below meth c s₁ B hml hv
  obtain ⟨rfl, hsz, hR, hK, hO⟩ := hv
  have hl := lv_entry av (n := maxL) hlen
  rw [lg_entry_eq]
  exact body p e s m _ below meth c _ B.exec B.bytes hml B.returns B.notSynchronized (atoms_spec (ws := ws) B.pre) (findClass_of_methodNamed B.named) hsz hR hK hO hl
theorem sm_blind {av : List Value} {sz : Nat} {D : va_G} {cl : List vw_C} {cI cR : ClassId} {RR : Heap → Prop} : FrameBlind (va_Pc av (fun U => U.heap.size = sz ∧ RR U.heap ∧ va_K D cl (tyR cI cR) U ∧ AOI U)) :=
  fun a U g mk q => by
    obtain ⟨q0, q1, qR, qK, qO⟩ := q
    exact ⟨q0, q1, qR, va_K.moved (u := U) (U := U.calling g mk a) (Vm.Alike.refl U.vm) qK, qO.blind⟩
theorem pass_sl {u : MS} (h : ¬ cN u (mNow u) = 0) (ht : mTea u ≤ mRoom u) : cAf u (mNow u) (mTea u) (mRate u) = mTea u ∧ cAf u (mNow u) (mTea u) (mRate u) - mRoom u = 0 := by
  have e : cAf u (mNow u) (mTea u) (mRate u) = mTea u := if_neg h
  exact ⟨e, by rw [e]; exact Nat.sub_eq_zero_of_le ht⟩
theorem sip_y {u : MS} {t k A Y : Nat} (h : tkB u k t = true) (hY : Y = A - mSip u * ct (fun b => htB u b t) k) : Y - mSip u = A - mSip u * ct (fun b => htB u b t) (k + 1) := by
  rw [ct_y (P := fun b => htB u b t) (ht_t h), Nat.mul_add, Nat.mul_one]
  omega
theorem sip_n {u : MS} {t k A Y : Nat} (ha : cN u t = 0) (h : tkB u k t = false) (hY : Y = A - mSip u * ct (fun b => htB u b t) k) : Y = A - mSip u * ct (fun b => htB u b t) (k + 1) := by
  rw [ct_n (P := fun b => htB u b t) (ht_f (decide_eq_true ha) h), Nat.add_zero]
  exact hY
/-- the constructor of the afternoon by hand -/
theorem en_wj {l : Launch} {y : MethodName} {ws ws' : List Cond} {rm : Room} {cc : ByteArray} {maxL : Nat} {ret : Option FieldType} {D : va_G} {cl : List vw_C} {sz mc ms h : Nat} {e9 : va_E} (av : List Value) (Qc : (Nat → Prop) → Array Value → State → Outcome → State → Prop)
    (hy : plainName y.cls = true) (hw : ws = Cond.code y cc maxL ret :: ws') (hlen : (lg_sl av).length ≤ maxL)
    (body : ∀ (p : Program) (e : Env) (s : State) (m : MethodId) (args : Array Value) (below : List Frame) (meth : Method) (c : Code) (ls : Array Slot) (A : Nat → Prop) (H : Heap) (locs : List Loc), p.tables.exec = Jvm.exec → c.code = cc → c.maxLocals = maxL → meth.sig.returnType = ret → meth.locks = false → (∀ w ∈ ws, w.before args s = true) → s.vm.findClass y.cls = some m.cls → (y.name = "<init>" → meth.name = "<init>") → s.heap.size = sz → va_P D cl [(h, e9)] H → va_K D cl [] s → AOI s → va_D A [(h, e9)] → (∀ q : Nat, s.heap.size ≤ q → A q) → va_S A s.heap H locs → lv_has ls maxL (lv_args 0 av) →
      W p l e rm s m args below meth c H locs 0 0 (MQ below (Qc A) args s mc ms A) (F0 m 0 ls [])) :
    Met l y ws rm (va_Pc av (fun U => U.heap.size = sz ∧ va_P D cl [(h, e9)] U.heap ∧ va_K D cl [] U ∧ AOI U)) (Qc (va_A [(h, e9)] sz)) mc ms (va_A [(h, e9)] sz) := by
  refine Met.ofW (cc := cc) (maxL := maxL) (ret := ret) hy hw ?_
  intro p e s m args below meth c s₁ B hml hv
  obtain ⟨rfl, hsz, hP, hK, hO⟩ := hv
  have hl := lv_entry av (n := maxL) hlen
  rw [lg_entry_eq]
  subst hsz
  exact body p e s m _ below meth c _ (va_A [(h, e9)] s.heap.size) s.heap [] B.exec B.bytes hml B.returns B.notSynchronized (atoms_spec (ws := ws) B.pre) (findClass_of_methodNamed B.named) (fun hn => (name_of_methodNamed B.named B.method).1.trans hn) rfl hP hK hO (D_one (Or.inl ⟨0, e9, rfl⟩)) (fun q h => Or.inr h) va_S.rf hl
theorem wj_blind {av : List Value} {sz : Nat} {D : va_G} {cl : List vw_C} {tys : List (ClassId × FieldType)} {W0 : va_W} : FrameBlind (va_Pc av (fun U => U.heap.size = sz ∧ va_P D cl W0 U.heap ∧ va_K D cl tys U ∧ AOI U)) :=
  fun a U g mk q => by
    obtain ⟨q0, q1, qP, qK, qO⟩ := q
    exact ⟨q0, q1, qP, va_K.moved (u := U) (U := U.calling g mk a) (Vm.Alike.refl U.vm) qK, qO.blind⟩
def cpI (u : MS) (k : Nat) : Nat → Int32 := fun j => if j < k then nI (hN u j) else 0
theorem cpI_0 {u : MS} : (fun _ => 0) = cpI u 0 := funext fun j => (if_neg (Nat.not_lt_zero j)).symm
theorem cpI_s {u : MS} {k : Nat} : upd (cpI u k) k (nI (hN u k)) = cpI u (k + 1) := by
  funext j
  by_cases e : j = k
  · subst e
    rw [pk_us]
    exact (if_pos (Nat.lt_succ_self j)).symm
  · rw [pk_un e]
    show (if j < k then nI (hN u j) else 0) = if j < k + 1 then nI (hN u j) else 0
    by_cases h : j < k
    · rw [if_pos h, if_pos (by omega)]
    · rw [if_neg h, if_neg (by omega)]
theorem cpI_e {u : MS} {x : Int32} {j : Nat} (hIi : ∀ s, s < mSc u → mHt u s = nI (hN u s) ∧ 1 ≤ hN u s ∧ hN u s ≤ 30) (hj : j < mSc u + 1) : upd (cpI u (mSc u)) (mSc u) x j = upd (mHt u) (mSc u) x j := by
  by_cases e : j = mSc u
  · subst e
    rw [pk_us, pk_us]
  · rw [pk_un e, pk_un e]
    show (if j < mSc u then nI (hN u j) else 0) = _
    rw [if_pos (by omega), (hIi j (by omega)).1]
