/-! each call: how it ends (0 with an answer, 1 or 2 refused), what it leaves, what it answers -/
def tn (x : Int32) : Nat := x.toNatClampNeg
theorem tn_nI {j : Nat} (h : j < 2147483648 := by omega) : tn (nI j) = j := nI_clamp h
theorem kd_t {b : Bool} {x y : Int32} (h : b = true) : (if b = true then x else y) = x := if_pos h
theorem kd_f {b : Bool} {x y : Int32} (h : b = false) : (if b = true then x else y) = y := if_neg (by rw [h]; decide)
theorem nx_0 {α : Type} {k : Int32} {x y : α} (h : k = nI 0) : (if k = nI 0 then x else y) = x := if_pos h
theorem nx_1 {α : Type} {k : Int32} {x y : α} (h : k = nI 1) : (if k = nI 0 then x else y) = y := if_neg (by rw [h]; decide +kernel)
theorem nx_2 {α : Type} {k : Int32} {x y : α} (h : k = nI 2) : (if k = nI 0 then x else y) = y := if_neg (by rw [h]; decide +kernel)
theorem kd_n1 {k : Int32} {P : Prop} (h : k = nI 1) : k = nI 0 → P := fun z => absurd (h.symm.trans z) (by decide +kernel)
theorem kd_n2 {k : Int32} {P : Prop} (h : k = nI 2) : k = nI 0 → P := fun z => absurd (h.symm.trans z) (by decide +kernel)
/-- an index, or a minute -/
def kdI (x : Int32) (n : Nat) : Int32 := if inR x n = true then nI 0 else nI 1
def kdShad (u : MS) (s t : Int32) : Int32 := if inR s (mSc u) = true then (if inR t 360 = true then nI 0 else nI 2) else nI 1
def kdStick (u : MS) (p : Int32) : Int32 := if isB p (nI 1) (nI 30) = true then (if mSc u = 4 then nI 2 else nI 0) else nI 1
def nxStick (u : MS) (p : Int32) : MS := if kdStick u p = nI 0 then (mSc u + 1, mNc u, mBc u, mNow u, mRoom u, mRate u, mSip u, mTea u, mSpl u, mAft u, upd (mHt u) (mSc u) p, mFr u, mTo u, mCov u, mPe u, mBe u) else u
def vN (p q : Int32) : Bool := decide (nI 0 ≤ p ∧ q ≤ nI 360 ∧ p < q)
def kdNap (u : MS) (p q : Int32) : Int32 := if vN p q = true then (if mNc u = 8 then nI 2 else nI 0) else nI 1
def nxNap (u : MS) (p q : Int32) : MS := if kdNap u p q = nI 0 then (mSc u, mNc u + 1, mBc u, mNow u, mRoom u, mRate u, mSip u, mTea u, mSpl u, mAft u, mHt u, upd (mFr u) (mNc u) p, upd (mTo u) (mNc u) q, ccv (mCov u) (tn p) (tn q) (nI 1) 360, mPe u, mBe u) else u
def nxGive (u : MS) (p : Int32) : MS := if kdI p (mNc u) = nI 0 then (mSc u, mNc u - 1, mBc u, mNow u, mRoom u, mRate u, mSip u, mTea u, mSpl u, mAft u, mHt u, shl (mFr u) (tn p) (mNc u - 1 - tn p), shl (mTo u) (tn p) (mNc u - 1 - tn p), ccv (mCov u) (aN u (tn p)) (bN u (tn p)) (-1) 360, mPe u, mBe u) else u
def vB (p q : Int32) : Bool := isB p (nI 2) (nI 30) && isB q (nI 0) (p - nI 1)
def kdBee (u : MS) (p q : Int32) : Int32 := if vB p q = true then (if mBc u = 6 then nI 2 else nI 0) else nI 1
def nxBee (u : MS) (p q : Int32) : MS := if kdBee u p q = nI 0 then (mSc u, mNc u, mBc u + 1, mNow u, mRoom u, mRate u, mSip u, mTea u, mSpl u, mAft u, mHt u, mFr u, mTo u, mCov u, upd (mPe u) (mBc u) p, upd (mBe u) (mBc u) q) else u
def vT (p q r : Int32) : Bool := isB p (nI 1) (nI 50) && (isB q (nI 0) (nI 9) && isB r (nI 0) (nI 9))
def kdTea (p q r : Int32) : Int32 := if vT p q r = true then nI 0 else nI 1
def nxTea (u : MS) (p q r : Int32) : MS := if kdTea p q r = nI 0 then (mSc u, mNc u, mBc u, mNow u, tn p, tn q, tn r, mTea u - (mTea u - tn p), mSpl u + nI (mTea u - tn p), mAft u, mHt u, mFr u, mTo u, mCov u, mPe u, mBe u) else u
def kdPass (u : MS) (p : Int32) : Int32 := if isB p (nI 1) (nI 360) = true then (if 360 < mNow u + tn p then nI 2 else nI 0) else nI 1
def nxPass (u : MS) (p : Int32) : MS := if kdPass u p = nI 0 then (mSc u, mNc u, mBc u, mNow u + tn p, mRoom u, mRate u, mSip u, (psS u (tn p)).2, mSpl u + (psS u (tn p)).1, mAft u, mHt u, mFr u, mTo u, mCov u, mPe u, mBe u) else u
def nxBegin (u : MS) : MS := (mSc u, mNc u, mBc u, 0, mRoom u, mRate u, mSip u, 0, nI 0, mAft u + nI 1, mHt u, mFr u, mTo u, mCov u, mPe u, mBe u)
theorem vN_of {p q : Int32} (h : vN p q = true) : ∃ x y : Nat, x < y ∧ y ≤ 360 ∧ p = nI x ∧ q = nI y := by
  obtain ⟨h1, h2, h3⟩ := of_decide_eq_true h
  rw [i_le (by omega)] at h1
  rw [le_i (by omega)] at h2
  rw [Int32.lt_iff_toInt_lt] at h3
  have e0 : (0 : Int32).toInt = 0 := by decide +kernel
  obtain ⟨x, hx, rfl⟩ := nI_of (x := p) (by rw [Int32.lt_iff_toInt_lt, e0]; omega)
  obtain ⟨y, hy, rfl⟩ := nI_of (x := q) (by rw [Int32.lt_iff_toInt_lt, e0]; omega)
  rw [nI_toInt hx, nI_toInt hy] at h3
  rw [nI_toInt hy] at h2
  exact ⟨x, y, by omega, by omega, rfl, rfl⟩
theorem vB_of {p q : Int32} (h : vB p q = true) : ∃ x y : Nat, 2 ≤ x ∧ x ≤ 30 ∧ y < x ∧ p = nI x ∧ q = nI y := by
  obtain ⟨h1, h2⟩ := Bool.and_eq_true_iff.mp h
  obtain ⟨x, hx1, hx2, rfl⟩ := isB_of (by omega) (by omega) h1
  rw [isB_m1 (by omega)] at h2
  obtain ⟨y, hy, rfl⟩ := inR_of (by omega) h2
  exact ⟨x, y, hx1, hx2, hy, rfl, rfl⟩
theorem vT_of {p q r : Int32} (h : vT p q r = true) : ∃ x y z : Nat, 1 ≤ x ∧ x ≤ 50 ∧ y ≤ 9 ∧ z ≤ 9 ∧ p = nI x ∧ q = nI y ∧ r = nI z := by
  obtain ⟨h1, h2⟩ := Bool.and_eq_true_iff.mp h
  obtain ⟨h3, h4⟩ := Bool.and_eq_true_iff.mp h2
  obtain ⟨x, hx1, hx2, rfl⟩ := isB_of (by omega) (by omega) h1
  obtain ⟨y, hy1, hy2, rfl⟩ := isB_of (by omega) (by omega) h3
  obtain ⟨z, hz1, hz2, rfl⟩ := isB_of (by omega) (by omega) h4
  exact ⟨x, y, z, hx1, hx2, hy2, hz2, rfl, rfl, rfl⟩
