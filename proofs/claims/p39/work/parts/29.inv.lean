/-! what holds of the state holds behind every call -/
theorem ct_cut {P : Nat → Bool} {j : Nat} : ∀ {m : Nat}, j ≤ m → ct (fun n => if n < j then P n else P (n + 1)) m + (if P j = true then 1 else 0) = ct P (m + 1) := by
  intro m
  induction m with
  | zero =>
    intro h
    have e : j = 0 := by omega
    subst e
    rfl
  | succ m ih =>
    intro h
    by_cases e : j = m + 1
    · subst e
      show _ = ct P (m + 1) + (if P (m + 1) = true then 1 else 0)
      rw [ct_cong (Q := P) (fun k hk => if_pos hk)]
    · show ct (fun n => if n < j then P n else P (n + 1)) m + (if (if m < j then P m else P (m + 1)) = true then 1 else 0) + (if P j = true then 1 else 0) = ct P (m + 1) + (if P (m + 1) = true then 1 else 0)
      rw [if_neg (show ¬ m < j by omega), ← ih (by omega)]
      omega
theorem inv_0 : Inv mZ :=
  ⟨by decide, by decide, by decide, by decide, by decide, fun b hb => absurd hb (Nat.not_lt_zero b), fun n hn => absurd hn (Nat.not_lt_zero n), fun t _ => rfl, fun s hs => absurd hs (Nat.not_lt_zero s), trivial⟩
theorem invO_0 : InvO mZ (fun _ => 0) := fun t _ => rfl
theorem inv_stick {u : MS} {p : Int32} (hI : Inv u) : Inv (nxStick u p) := by
  cases hc : isB p (nI 1) (nI 30) with
  | false =>
    have ek : kdStick u p = nI 1 := kd_f hc
    rw [nxStick, nx_1 ek]
    exact hI
  | true =>
    by_cases hn : mSc u = 4
    · have ek : kdStick u p = nI 2 := (kd_t hc).trans (if_pos hn)
      rw [nxStick, nx_2 ek]
      exact hI
    · have ek : kdStick u p = nI 0 := (kd_t hc).trans (if_neg hn)
      rw [nxStick, nx_0 ek]
      obtain ⟨x, hx1, hx2, rfl⟩ := isB_of (by omega) (by omega) hc
      obtain ⟨hIa, hIb, hIc, hId, hIe, hIf, hIg, hIh, hIi, hIj⟩ := hI
      refine ⟨show mSc u + 1 ≤ 4 by omega, hIb, hIc, hId, hIe, hIf, hIg, hIh, fun s hs => ?_, trivial⟩
      have hs9 : s < mSc u + 1 := hs
      show upd (mHt u) (mSc u) (nI x) s = nI (upd (mHt u) (mSc u) (nI x) s).toNatClampNeg ∧ 1 ≤ (upd (mHt u) (mSc u) (nI x) s).toNatClampNeg ∧ (upd (mHt u) (mSc u) (nI x) s).toNatClampNeg ≤ 30
      by_cases e : s = mSc u
      · subst e
        rw [pk_us, nI_clamp (by omega)]
        exact ⟨rfl, hx1, hx2⟩
      · rw [pk_un e]
        exact hIi s (by omega)
theorem inv_nap {u : MS} {p q : Int32} (hI : Inv u) : Inv (nxNap u p q) := by
  cases hc : vN p q with
  | false =>
    have ek : kdNap u p q = nI 1 := kd_f hc
    rw [nxNap, nx_1 ek]
    exact hI
  | true =>
    by_cases hn : mNc u = 8
    · have ek : kdNap u p q = nI 2 := (kd_t hc).trans (if_pos hn)
      rw [nxNap, nx_2 ek]
      exact hI
    · have ek : kdNap u p q = nI 0 := (kd_t hc).trans (if_neg hn)
      rw [nxNap, nx_0 ek]
      obtain ⟨x, y, hx1, hx2, rfl, rfl⟩ := vN_of hc
      rw [tn_nI, tn_nI]
      obtain ⟨hIa, hIb, hIc, hId, hIe, hIf, hIg, hIh, hIi, hIj⟩ := hI
      refine ⟨hIa, show mNc u + 1 ≤ 8 by omega, hIc, hId, hIe, hIf, fun n hn9 => ?_, fun t ht => ?_, hIi, trivial⟩
      · have hs9 : n < mNc u + 1 := hn9
        show upd (mFr u) (mNc u) (nI x) n = nI (upd (mFr u) (mNc u) (nI x) n).toNatClampNeg ∧ upd (mTo u) (mNc u) (nI y) n = nI (upd (mTo u) (mNc u) (nI y) n).toNatClampNeg ∧ (upd (mFr u) (mNc u) (nI x) n).toNatClampNeg < (upd (mTo u) (mNc u) (nI y) n).toNatClampNeg ∧ (upd (mTo u) (mNc u) (nI y) n).toNatClampNeg ≤ 360
        by_cases e : n = mNc u
        · subst e
          rw [pk_us, pk_us, nI_clamp (by omega), nI_clamp (by omega)]
          exact ⟨rfl, rfl, hx1, hx2⟩
        · rw [pk_un e, pk_un e]
          exact hIg n (by omega)
      · show (if t < 360 ∧ cv2 x y t = true then mCov u t + nI 1 else mCov u t) = nI (ct (fun n => decide ((upd (mFr u) (mNc u) (nI x) n).toNatClampNeg ≤ t ∧ t < (upd (mTo u) (mNc u) (nI y) n).toNatClampNeg)) (mNc u) + (if decide ((upd (mFr u) (mNc u) (nI x) (mNc u)).toNatClampNeg ≤ t ∧ t < (upd (mTo u) (mNc u) (nI y) (mNc u)).toNatClampNeg) = true then 1 else 0))
        rw [pk_us, pk_us, nI_clamp (by omega), nI_clamp (by omega), ct_cong (Q := fun n => cvB u n t) (fun k hk => by rw [pk_un (by omega), pk_un (by omega)]; rfl), hIh t ht]
        by_cases h : cv2 x y t = true
        · rw [if_pos ⟨ht, h⟩, if_pos (show decide (x ≤ t ∧ t < y) = true from h)]
          exact nI_1 _
        · rw [if_neg (fun z => h z.2), if_neg (show ¬ decide (x ≤ t ∧ t < y) = true from h)]
          rfl
theorem inv_give {u : MS} {p : Int32} (hI : Inv u) : Inv (nxGive u p) := by
  cases hc : inR p (mNc u) with
  | false =>
    have ek : kdI p (mNc u) = nI 1 := kd_f hc
    rw [nxGive, nx_1 ek]
    exact hI
  | true =>
    have ek : kdI p (mNc u) = nI 0 := kd_t hc
    rw [nxGive, nx_0 ek]
    obtain ⟨hIa, hIb, hIc, hId, hIe, hIf, hIg, hIh, hIi, hIj⟩ := hI
    obtain ⟨j, hj, rfl⟩ := inR_of (by omega) hc
    rw [tn_nI]
    have hsh : ∀ (f : Nat → Int32) (n : Nat), n < mNc u - 1 → shl f j (mNc u - 1 - j) n = if n < j then f n else f (n + 1) := by
      intro f n hn
      show (if j ≤ n ∧ n < j + (mNc u - 1 - j) then f (n + 1) else f n) = _
      by_cases e : n < j
      · rw [if_neg (fun z => by omega), if_pos e]
      · rw [if_pos ⟨by omega, by omega⟩, if_neg e]
    refine ⟨hIa, show mNc u - 1 ≤ 8 by omega, hIc, hId, hIe, hIf, fun n hn9 => ?_, fun t ht => ?_, hIi, trivial⟩
    · have hs9 : n < mNc u - 1 := hn9
      show shl (mFr u) j (mNc u - 1 - j) n = nI (shl (mFr u) j (mNc u - 1 - j) n).toNatClampNeg ∧ shl (mTo u) j (mNc u - 1 - j) n = nI (shl (mTo u) j (mNc u - 1 - j) n).toNatClampNeg ∧ (shl (mFr u) j (mNc u - 1 - j) n).toNatClampNeg < (shl (mTo u) j (mNc u - 1 - j) n).toNatClampNeg ∧ (shl (mTo u) j (mNc u - 1 - j) n).toNatClampNeg ≤ 360
      rw [hsh _ n hs9, hsh _ n hs9]
      by_cases e : n < j
      · rw [if_pos e, if_pos e]
        exact hIg n (by omega)
      · rw [if_neg e, if_neg e]
        exact hIg (n + 1) (by omega)
    · show (if t < 360 ∧ cv2 (aN u j) (bN u j) t = true then mCov u t + (-1) else mCov u t) = nI (ct (fun n => decide ((shl (mFr u) j (mNc u - 1 - j) n).toNatClampNeg ≤ t ∧ t < (shl (mTo u) j (mNc u - 1 - j) n).toNatClampNeg)) (mNc u - 1))
      have hcut := ct_cut (P := fun n => cvB u n t) (j := j) (m := mNc u - 1) (by omega)
      rw [show mNc u - 1 + 1 = mNc u by omega] at hcut
      have e9 : cN u t = ct (fun n => cvB u n t) (mNc u) := rfl
      rw [ct_cong (Q := fun n => if n < j then cvB u n t else cvB u (n + 1) t) (fun k hk => by
        rw [hsh _ k hk, hsh _ k hk]
        by_cases e : k < j
        · rw [if_pos e, if_pos e, if_pos e]; rfl
        · rw [if_neg e, if_neg e, if_neg e]; rfl), hIh t ht, e9, ← hcut]
      by_cases h : cvB u j t = true
      · rw [if_pos ⟨ht, (show cv2 (aN u j) (bN u j) t = true from h)⟩, if_pos h]
        exact pk_m1 _
      · rw [if_neg (fun z => h z.2), if_neg h]
        rfl
theorem inv_bee {u : MS} {p q : Int32} (hI : Inv u) : Inv (nxBee u p q) := by
  cases hc : vB p q with
  | false =>
    have ek : kdBee u p q = nI 1 := kd_f hc
    rw [nxBee, nx_1 ek]
    exact hI
  | true =>
    by_cases hn : mBc u = 6
    · have ek : kdBee u p q = nI 2 := (kd_t hc).trans (if_pos hn)
      rw [nxBee, nx_2 ek]
      exact hI
    · have ek : kdBee u p q = nI 0 := (kd_t hc).trans (if_neg hn)
      rw [nxBee, nx_0 ek]
      obtain ⟨x, y, hx1, hx2, hx3, rfl, rfl⟩ := vB_of hc
      obtain ⟨hIa, hIb, hIc, hId, hIe, hIf, hIg, hIh, hIi, hIj⟩ := hI
      refine ⟨hIa, hIb, show mBc u + 1 ≤ 6 by omega, hId, hIe, fun b hb => ?_, hIg, hIh, hIi, trivial⟩
      have hs9 : b < mBc u + 1 := hb
      show upd (mPe u) (mBc u) (nI x) b = nI (upd (mPe u) (mBc u) (nI x) b).toNatClampNeg ∧ upd (mBe u) (mBc u) (nI y) b = nI (upd (mBe u) (mBc u) (nI y) b).toNatClampNeg ∧ 2 ≤ (upd (mPe u) (mBc u) (nI x) b).toNatClampNeg ∧ (upd (mPe u) (mBc u) (nI x) b).toNatClampNeg ≤ 30 ∧ (upd (mBe u) (mBc u) (nI y) b).toNatClampNeg < (upd (mPe u) (mBc u) (nI x) b).toNatClampNeg
      by_cases e : b = mBc u
      · subst e
        rw [pk_us, pk_us, nI_clamp (by omega), nI_clamp (by omega)]
        exact ⟨rfl, rfl, hx1, hx2, hx3⟩
      · rw [pk_un e, pk_un e]
        exact hIf b (by omega)
theorem inv_tea {u : MS} {p q r : Int32} (hI : Inv u) : Inv (nxTea u p q r) := by
  cases hc : vT p q r with
  | false =>
    have ek : kdTea p q r = nI 1 := kd_f hc
    rw [nxTea, nx_1 ek]
    exact hI
  | true =>
    have ek : kdTea p q r = nI 0 := kd_t hc
    rw [nxTea, nx_0 ek]
    obtain ⟨x, y, z, h1, h2, h3, h4, rfl, rfl, rfl⟩ := vT_of hc
    rw [tn_nI, tn_nI, tn_nI]
    obtain ⟨hIa, hIb, hIc, hId, hIe, hIf, hIg, hIh, hIi, hIj⟩ := hI
    exact ⟨hIa, hIb, hIc, hId, ⟨show mTea u - (mTea u - x) ≤ x by omega, h2, h3, h4, h1⟩, hIf, hIg, hIh, hIi, trivial⟩
theorem inv_pass {u : MS} {p : Int32} (hI : Inv u) : Inv (nxPass u p) := by
  cases hc : isB p (nI 1) (nI 360) with
  | false =>
    have ek : kdPass u p = nI 1 := kd_f hc
    rw [nxPass, nx_1 ek]
    exact hI
  | true =>
    by_cases hn : 360 < mNow u + tn p
    · have ek : kdPass u p = nI 2 := (kd_t hc).trans (if_pos hn)
      rw [nxPass, nx_2 ek]
      exact hI
    · have ek : kdPass u p = nI 0 := (kd_t hc).trans (if_neg hn)
      rw [nxPass, nx_0 ek]
      obtain ⟨hIa, hIb, hIc, hId, hIe, hIf, hIg, hIh, hIi, hIj⟩ := hI
      exact ⟨hIa, hIb, hIc, show mNow u + tn p ≤ 360 by omega, ⟨ps_tea hIe.1 _, hIe.2⟩, hIf, hIg, hIh, hIi, trivial⟩
theorem inv_begin {u : MS} (hI : Inv u) : Inv (nxBegin u) := by
  obtain ⟨hIa, hIb, hIc, hId, hIe, hIf, hIg, hIh, hIi, hIj⟩ := hI
  exact ⟨hIa, hIb, hIc, Nat.zero_le _, ⟨Nat.zero_le _, hIe.2⟩, hIf, hIg, hIh, hIi, trivial⟩
