/-! what the answers are, in numbers read off the state -/
def ct (P : Nat → Bool) : Nat → Nat
  | 0 => 0
  | n + 1 => ct P n + (if P n = true then 1 else 0)
theorem ct_le (P : Nat → Bool) : ∀ n, ct P n ≤ n := by
  intro n
  induction n with
  | zero => exact Nat.le_refl 0
  | succ n ih =>
    show ct P n + (if P n = true then 1 else 0) ≤ n + 1
    split <;> omega
def pN (u : MS) (b : Nat) : Nat := (mPe u b).toNatClampNeg
def qN (u : MS) (b : Nat) : Nat := (mBe u b).toNatClampNeg
def aN (u : MS) (n : Nat) : Nat := (mFr u n).toNatClampNeg
def bN (u : MS) (n : Nat) : Nat := (mTo u n).toNatClampNeg
def hN (u : MS) (s : Nat) : Nat := (mHt u s).toNatClampNeg
def cv2 (x y t : Nat) : Bool := decide (x ≤ t ∧ t < y)
def ht2 (x y t : Nat) : Bool := decide (t % x = y)
def cvB (u : MS) (n t : Nat) : Bool := decide (aN u n ≤ t ∧ t < bN u n)
def htB (u : MS) (b t : Nat) : Bool := decide (t % pN u b = qN u b)
def cN (u : MS) (t : Nat) : Nat := ct (fun n => cvB u n t) (mNc u)
def oN (u : MS) (t : Nat) : Nat := ct (fun b => htB u b t) (mBc u)
theorem cN_le (u : MS) (t : Nat) : cN u t ≤ mNc u := ct_le _ _
theorem oN_le (u : MS) (t : Nat) : oN u t ≤ mBc u := ct_le _ _
def Inv (u : MS) : Prop := mSc u ≤ 4 ∧ mNc u ≤ 8 ∧ mBc u ≤ 6 ∧ mNow u ≤ 360 ∧ (mTea u ≤ mRoom u ∧ mRoom u ≤ 50 ∧ mRate u ≤ 9 ∧ mSip u ≤ 9 ∧ 1 ≤ mRoom u) ∧
  (∀ b, b < mBc u → mPe u b = nI (pN u b) ∧ mBe u b = nI (qN u b) ∧ 2 ≤ pN u b ∧ pN u b ≤ 30 ∧ qN u b < pN u b) ∧
  (∀ n, n < mNc u → mFr u n = nI (aN u n) ∧ mTo u n = nI (bN u n) ∧ aN u n < bN u n ∧ bN u n ≤ 360) ∧
  (∀ t, t < 360 → mCov u t = nI (cN u t)) ∧ (∀ s, s < mSc u → mHt u s = nI (hN u s) ∧ 1 ≤ hN u s ∧ hN u s ≤ 30) ∧ True
def InvO (u : MS) (on : Nat → Int32) : Prop := ∀ t, t < 360 → on t = nI (oN u t)
theorem nI1 : nI 1 = 1 := rfl
theorem mx0 {a b : Nat} (ha : a < 1073741824) (hb : b < 1073741824) : (if nI 0 < nI a - nI b then nI a - nI b else nI 0) = nI (a - b) := by
  by_cases h : a ≤ b
  · have h1 : ¬ nI 0 < nI a - nI b := by
      rw [Int32.lt_iff_toInt_lt, pk_sub_toInt ha hb, nI_toInt (by decide)]
      omega
    rw [if_neg h1, Nat.sub_eq_zero_of_le h]
  · have h2 : b ≤ a := by omega
    have h1 : nI 0 < nI a - nI b := by
      rw [Int32.lt_iff_toInt_lt, pk_sub_toInt ha hb, nI_toInt (by decide)]
      omega
    rw [if_pos h1, nI_sub h2]
def awF (u : MS) (t : Nat) (x : Int32) : Int32 := if cN u t = 0 then x + nI 1 else x
def fAw (u : MS) : Int32 := fz (awF u) (mNow u) (nI 0)
def lgF (u : MS) (t : Nat) (x : Int32 × Int32) : Int32 × Int32 := if cN u t = 0 then (if x.1 < x.2 + nI 1 then x.2 + nI 1 else x.1, x.2 + nI 1) else (if x.1 < nI 0 then nI 0 else x.1, nI 0)
def lgS (u : MS) (k : Nat) : Int32 × Int32 := fz (lgF u) k (nI 0, nI 0)
def fLong (u : MS) : Int32 := (lgS u 360).1
theorem lg_yes {u : MS} {t : Nat} {x : Int32 × Int32} (h : cN u t = 0) : lgF u t x = (if x.1 < x.2 + nI 1 then x.2 + nI 1 else x.1, x.2 + nI 1) := if_pos h
theorem lg_no {u : MS} {t : Nat} {x : Int32 × Int32} (h : ¬ cN u t = 0) : lgF u t x = (if x.1 < nI 0 then nI 0 else x.1, nI 0) := if_neg h
def fShad (u : MS) (s t : Nat) : Int32 := mHt u s * nI (60 + t) / nI 120
def shF (u : MS) (t s : Nat) (x : Int32) : Int32 := x + fShad u s t
def fSum (u : MS) (t : Nat) : Int32 := fz (shF u t) (mSc u) (nI 0)
def msB (u : MS) (s : Nat) (len : Int32) (t : Nat) : Bool := decide (len ≤ fShad u s t)
def fMoS (u : MS) (s : Nat) (len : Int32) : Int32 := fd (msB u s len) 360 0
def alF (u : MS) (n t : Nat) (x : Int32) : Int32 := if cN u t = 1 ∧ cvB u n t = true then x + nI 1 else x
def fAl (u : MS) (n : Nat) : Int32 := fz (alF u n) 360 (nI 0)
def tkB (u : MS) (b t : Nat) : Bool := decide (cN u t = 0 ∧ t % pN u b = qN u b)
def tkF (u : MS) (b t : Nat) (x : Int32) : Int32 := if tkB u b t = true then x + nI 1 else x
def fTk (u : MS) (b : Nat) : Int32 := fz (tkF u b) (mNow u) (nI 0)
def fMe (u : MS) (b : Nat) : Int32 := fTk u b * nI (pN u b)
def fEr (u : MS) (b : Nat) : Int32 := fMe u b - fAw u
def fNx (u : MS) (b : Nat) : Int32 := fd (tkB u b) (360 - mNow u) (mNow u)
def abI (x : Int32) : Int32 := if 0 ≤ x then x else 0 - x
def bbF (u : MS) (b : Nat) (x : Int32 × Int32) : Int32 × Int32 := if x.1 = -1 ∨ abI (fEr u b) < x.2 then (nI b, abI (fEr u b)) else x
def bbS (u : MS) (k : Nat) : Int32 × Int32 := fz (bbF u) k (-1, nI 0)
def fBB (u : MS) : Int32 := (bbS u (mBc u)).1
theorem bb_yes {u : MS} {b : Nat} {x : Int32 × Int32} (h : x.1 = -1 ∨ abI (fEr u b) < x.2) : bbF u b x = (nI b, abI (fEr u b)) := if_pos h
theorem bb_no {u : MS} {b : Nat} {x : Int32 × Int32} (h : ¬ (x.1 = -1 ∨ abI (fEr u b) < x.2)) : bbF u b x = x := if_neg h
def cAf (u : MS) (t c r : Nat) : Nat := if cN u t = 0 then c + r - mSip u * oN u t else c
theorem cAf_le (u : MS) (t c r : Nat) : cAf u t c r ≤ c + r := by
  unfold cAf
  split <;> omega
def spF (u : MS) (r : Nat) : Nat → Nat → Nat → Int32
  | 0, _, _ => -1
  | n + 1, t, c => if mRoom u < cAf u t c r then nI t else spF u r n (t + 1) (cAf u t c r)
theorem sp_hit {u : MS} {r n t c : Nat} (h : mRoom u < cAf u t c r) : spF u r (n + 1) t c = nI t := if_pos h
theorem sp_go {u : MS} {r n t c : Nat} (h : ¬ mRoom u < cAf u t c r) : spF u r (n + 1) t c = spF u r n (t + 1) (cAf u t c r) := if_neg h
def fSp (u : MS) (r : Nat) : Int32 := spF u r (360 - mNow u) (mNow u) (mTea u)
def sfF (u : MS) : Nat → Nat
  | 0 => 0
  | k + 1 => if fSp u (k + 1) = -1 then k + 1 else sfF u k
theorem sf_yes {u : MS} {k : Nat} (h : fSp u (k + 1) = -1) : sfF u (k + 1) = k + 1 := if_pos h
theorem sf_no {u : MS} {k : Nat} (h : ¬ fSp u (k + 1) = -1) : sfF u (k + 1) = sfF u k := if_neg h
def enF (u : MS) (t : Nat) (x : Int32 × Nat) : Int32 × Nat := (x.1 + nI (cAf u t x.2 (mRate u) - mRoom u), cAf u t x.2 (mRate u) - (cAf u t x.2 (mRate u) - mRoom u))
def enS (u : MS) (k : Nat) : Int32 × Nat := fs (enF u) (mNow u) k (mSpl u, mTea u)
def fEnd (u : MS) : Int32 := (enS u (360 - mNow u)).1
def bgF (u : MS) (n : Nat) (x : Int32 × Int32) : Int32 × Int32 := if x.1 = -1 ∨ x.2 < fAl u n then (nI n, fAl u n) else x
def bgS (u : MS) (k : Nat) : Int32 × Int32 := fz (bgF u) k (-1, nI 0)
def fBG (u : MS) : Int32 := (bgS u (mNc u)).1
theorem bg_yes {u : MS} {b : Nat} {x : Int32 × Int32} (h : x.1 = -1 ∨ x.2 < fAl u b) : bgF u b x = (nI b, fAl u b) := if_pos h
theorem bg_no {u : MS} {b : Nat} {x : Int32 × Int32} (h : ¬ (x.1 = -1 ∨ x.2 < fAl u b)) : bgF u b x = x := if_neg h
def fMean (u : MS) : UInt64 := if mSc u = 0 then FP.dconst0 else FP.ddiv (FP.i2d (fSum u 359)) (FP.i2d (nI (mSc u)))
def wsF (u : MS) (s : Nat) (x : Int64) : Int64 := x * 31 + Int32.toInt64 (fShad u s 100)
def wnF (u : MS) (n : Nat) (x : Int64) : Int64 := ((x * 31 + Int32.toInt64 (nI (aN u n))) * 31 + Int32.toInt64 (nI (bN u n - aN u n))) * 31 + Int32.toInt64 (fAl u n)
def wbF (u : MS) (b : Nat) (x : Int64) : Int64 := ((x * 31 + Int32.toInt64 (fTk u b)) * 31 + Int32.toInt64 (fMe u b)) * 31 + Int32.toInt64 (fNx u b)
def s31 (d : Int64) (x : Int32) : Int64 := d * 31 + Int32.toInt64 x
def dgH (u : MS) : Int64 := s31 (s31 (s31 (s31 (s31 (s31 (s31 (s31 (s31 (s31 (s31 (s31 (s31 2083 (mAft u)) (nI (mNow u))) (fAw u)) (fLong u)) (nI (mSc u))) (nI (mNc u))) (nI (mBc u))) (nI (mTea u))) (mSpl u)) (fEnd u)) (nI (sfF u 9))) (fBG u)) (fBB u)
def fDig (u : MS) : Int64 := fz (wbF u) (mBc u) (fz (wnF u) (mNc u) (fz (wsF u) (mSc u) (dgH u)))
theorem gtI {a b : Int32} (h : ¬ a ≤ b) : b < a := Int32.not_le.mp h
theorem ngI {a b : Int32} (h : a ≤ b) : ¬ b < a := Int32.not_lt.mpr h
theorem leI {a b : Int32} (h : ¬ a < b) : b ≤ a := Int32.not_lt.mp h
/-! the mean is a number -/
def ddv (S c : Nat) : UInt64 := FP.ddiv (FP.i2d (nI S)) (FP.i2d (nI c))
theorem dd_1 : ∀ S, S < 417 → (ddv S 1 &&& 0x7fffffffffffffff ≤ 0x7ff0000000000000) ∧ FP.dcmp (ddv S 1) (ddv S 1) = some .eq := by decide +kernel
theorem dd_2 : ∀ S, S < 417 → (ddv S 2 &&& 0x7fffffffffffffff ≤ 0x7ff0000000000000) ∧ FP.dcmp (ddv S 2) (ddv S 2) = some .eq := by decide +kernel
theorem dd_3 : ∀ S, S < 417 → (ddv S 3 &&& 0x7fffffffffffffff ≤ 0x7ff0000000000000) ∧ FP.dcmp (ddv S 3) (ddv S 3) = some .eq := by decide +kernel
theorem dd_4 : ∀ S, S < 417 → (ddv S 4 &&& 0x7fffffffffffffff ≤ 0x7ff0000000000000) ∧ FP.dcmp (ddv S 4) (ddv S 4) = some .eq := by decide +kernel
theorem dd_all {S c : Nat} (hS : S < 417) (hc : c ≤ 4) (h0 : ¬ c = 0) : vf_n64 (ddv S c) ∧ FP.dcmp (ddv S c) (ddv S c) = some .eq := by
  rcases (show c = 1 ∨ c = 2 ∨ c = 3 ∨ c = 4 by omega) with rfl | rfl | rfl | rfl
  · exact dd_1 S hS
  · exact dd_2 S hS
  · exact dd_3 S hS
  · exact dd_4 S hS
theorem sum_go {u : MS} (hI : Inv u) : ∀ k, k ≤ mSc u → ∃ S, S ≤ 104 * k ∧ fz (shF u 359) k (nI 0) = nI S := by
  obtain ⟨hIa, hIb, hIc, hId, hIe, hIf, hIg, hIh, hIi, hIj⟩ := hI
  intro k
  induction k with
  | zero => exact fun _ => ⟨0, Nat.le_refl 0, rfl⟩
  | succ k ih =>
    intro hk
    obtain ⟨S, h1, h2⟩ := ih (by omega)
    obtain ⟨e1, e2, e3⟩ := hIi k (by omega)
    refine ⟨S + hN u k * 419 / 120, by omega, ?_⟩
    show fz (shF u 359) k (nI 0) + mHt u k * nI (60 + 359) / nI 120 = nI (S + hN u k * 419 / 120)
    rw [h2, e1, nI_mul, pk_div (by omega) (by omega) (by omega), nI_add]
theorem mean_all {u : MS} (hI : Inv u) (h : ¬ mSc u = 0) : vf_n64 (FP.ddiv (FP.i2d (fSum u 359)) (FP.i2d (nI (mSc u)))) ∧ FP.dcmp (FP.ddiv (FP.i2d (fSum u 359)) (FP.i2d (nI (mSc u)))) (FP.ddiv (FP.i2d (fSum u 359)) (FP.i2d (nI (mSc u)))) = some .eq := by
  obtain ⟨S, h1, h2⟩ := sum_go hI (mSc u) (Nat.le_refl _)
  have h3 : fSum u 359 = nI S := h2
  rw [h3]
  have h4 : mSc u ≤ 4 := hI.1
  exact dd_all (by omega) h4 h
theorem mean_ok {u : MS} (hI : Inv u) (h : ¬ mSc u = 0) : vf_n64 (FP.ddiv (FP.i2d (fSum u 359)) (FP.i2d (nI (mSc u)))) := (mean_all hI h).1
theorem mean_cmp {u : MS} (hI : Inv u) : FP.dcmp (fMean u) (fMean u) = some .eq := by
  unfold fMean
  by_cases h : mSc u = 0
  · rw [if_pos h]
    decide +kernel
  · rw [if_neg h]
    exact (mean_all hI h).2
