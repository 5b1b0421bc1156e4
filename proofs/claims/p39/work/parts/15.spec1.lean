/-! the reference's own words for the same numbers -/
def isB (x lo hi : Int32) : Bool := decide (lo ≤ x ∧ x ≤ hi)
def inR (x : Int32) (n : Nat) : Bool := decide (nI 0 ≤ x ∧ x < nI n)
theorem le_i {x : Int32} {n : Nat} (hn : n < 1000000) : x ≤ nI n ↔ x.toInt ≤ (n : Int) := by rw [Int32.le_iff_toInt_le, nI_toInt (by omega)]
theorem i_le {x : Int32} {n : Nat} (hn : n < 1000000) : nI n ≤ x ↔ (n : Int) ≤ x.toInt := by rw [Int32.le_iff_toInt_le, nI_toInt (by omega)]
theorem lt_i {x : Int32} {n : Nat} (hn : n < 1000000) : x < nI n ↔ x.toInt < (n : Int) := by rw [Int32.lt_iff_toInt_lt, nI_toInt (by omega)]
theorem isB_m1 {x : Int32} {n : Nat} (hn : n < 1000000) : isB x (nI 0) (nI n - nI 1) = inR x n := by
  refine decide_eq_decide.mpr (and_congr_right fun _ => ?_)
  rw [lt_i hn, Int32.le_iff_toInt_le, pk_sub_toInt (by omega) (by omega)]
  omega
theorem isB_359 {x : Int32} : isB x (nI 0) (nI 359) = inR x 360 := by
  refine decide_eq_decide.mpr (and_congr_right fun _ => ?_)
  rw [lt_i (by omega), le_i (by omega)]
  omega
theorem isB_of {x : Int32} {a b : Nat} (ha : a < 1000000) (hb : b < 1000000) (h : isB x (nI a) (nI b) = true) : ∃ j : Nat, a ≤ j ∧ j ≤ b ∧ x = nI j := by
  have h1 := of_decide_eq_true h
  rw [i_le ha, le_i hb] at h1
  obtain ⟨j, hj, rfl⟩ := nI_of (x := x) (by
    rw [Int32.lt_iff_toInt_lt]
    have e0 : (0 : Int32).toInt = 0 := by decide +kernel
    rw [e0]
    omega)
  rw [nI_toInt hj] at h1
  exact ⟨j, by omega, by omega, rfl⟩
theorem isB_nI {j a b : Nat} (h1 : a ≤ j) (h2 : j ≤ b) (hb : b < 1000000) : isB (nI j) (nI a) (nI b) = true := by
  refine decide_eq_true ?_
  rw [i_le (by omega), le_i hb, nI_toInt (by omega)]
  omega
theorem inR_of {x : Int32} {n : Nat} (hn : n < 1000000) (h : inR x n = true) : ∃ j : Nat, j < n ∧ x = nI j := by
  have h1 := of_decide_eq_true h
  rw [i_le (by omega), lt_i hn] at h1
  obtain ⟨j, hj, rfl⟩ := nI_of (x := x) (by
    rw [Int32.lt_iff_toInt_lt]
    have e0 : (0 : Int32).toInt = 0 := by decide +kernel
    rw [e0]
    omega)
  rw [nI_toInt hj] at h1
  exact ⟨j, by omega, rfl⟩
theorem inR_nI {j n : Nat} (h : j < n) (hn : n < 1000000) : inR (nI j) n = true := by
  refine decide_eq_true ?_
  rw [i_le (by omega), lt_i hn, nI_toInt (by omega)]
  omega
def awB (u : MS) (t : Nat) : Bool := decide (cN u t = 0)
theorem aw_t {u : MS} {t : Nat} {x : Int32} (h : awB u t = true) : awF u t x = x + nI 1 := if_pos (of_decide_eq_true h)
theorem aw_f {u : MS} {t : Nat} {x : Int32} (h : awB u t = false) : awF u t x = x + nI 0 := (if_neg (of_decide_eq_false h)).trans (Int32.add_zero x).symm
theorem tk_t {u : MS} {b t : Nat} {x : Int32} (h : tkB u b t = true) : tkF u b t x = x + nI 1 := if_pos h
theorem tk_f {u : MS} {b t : Nat} {x : Int32} (h : tkB u b t = false) : tkF u b t x = x + nI 0 := (if_neg (by rw [h]; decide)).trans (Int32.add_zero x).symm
def alG (u : MS) (t : Nat) (x : Int32) : Int32 := x + (if cN u t = 1 then nI 1 else nI 0)
theorem al_t {u : MS} {t : Nat} {x : Int32} (h : cN u t = 1) : alG u t x = x + nI 1 := by unfold alG; rw [if_pos h]
theorem al_f {u : MS} {t : Nat} {x : Int32} (h : ¬ cN u t = 1) : alG u t x = x + nI 0 := by unfold alG; rw [if_neg h]
theorem alF_in {u : MS} {n t : Nat} {x : Int32} (h : cvB u n t = true) : alF u n t x = alG u t x := by
  unfold alF alG
  by_cases h1 : cN u t = 1
  · rw [if_pos ⟨h1, h⟩, if_pos h1]
  · rw [if_neg (fun z => h1 z.1), if_neg h1]
    exact (Int32.add_zero x).symm
theorem alF_out {u : MS} {n t : Nat} {x : Int32} (h : cvB u n t = false) : alF u n t x = x := if_neg (fun z => by rw [h] at z; exact absurd z.2 (by decide))
theorem alone_go {u : MS} {n : Nat} (h : aN u n < bN u n) : ∀ m, fz (alF u n) m (nI 0) = fs (alG u) (aN u n) (min m (bN u n) - aN u n) (nI 0) := by
  intro m
  induction m with
  | zero => rw [show min 0 (bN u n) - aN u n = 0 by omega]; rfl
  | succ m ih =>
    show alF u n m (fz (alF u n) m (nI 0)) = _
    by_cases h1 : aN u n ≤ m ∧ m < bN u n
    · rw [alF_in (decide_eq_true h1), show min (m + 1) (bN u n) - aN u n = (min m (bN u n) - aN u n) + 1 by omega, ih]
      show _ = alG u (aN u n + (min m (bN u n) - aN u n)) _
      rw [show aN u n + (min m (bN u n) - aN u n) = m by omega]
    · rw [alF_out (decide_eq_false h1), show min (m + 1) (bN u n) - aN u n = min m (bN u n) - aN u n by omega]
      exact ih
theorem alone_eq {u : MS} {n : Nat} (h : aN u n < bN u n) (hb : bN u n ≤ 360) : fs (alG u) (aN u n) (bN u n - aN u n) (nI 0) = fAl u n := by
  have h1 := alone_go h 360
  rw [show min 360 (bN u n) = bN u n by omega] at h1
  exact h1.symm
theorem bb_best (u : MS) : ∀ k, (bbS u k).1 = -1 ∨ ∃ j, j < k ∧ (bbS u k).1 = nI j ∧ (bbS u k).2 = abI (fEr u j) := by
  intro k
  induction k with
  | zero => exact Or.inl rfl
  | succ k ih =>
    show (bbF u k (bbS u k)).1 = -1 ∨ ∃ j, j < k + 1 ∧ (bbF u k (bbS u k)).1 = nI j ∧ (bbF u k (bbS u k)).2 = abI (fEr u j)
    by_cases h : (bbS u k).1 = -1 ∨ abI (fEr u k) < (bbS u k).2
    · rw [bb_yes h]
      exact Or.inr ⟨k, Nat.lt_succ_self k, rfl, rfl⟩
    · rw [bb_no h]
      rcases ih with g | ⟨j, g1, g2, g3⟩
      · exact Or.inl g
      · exact Or.inr ⟨j, Nat.lt_succ_of_lt g1, g2, g3⟩
theorem bg_best (u : MS) : ∀ k, (bgS u k).1 = -1 ∨ ∃ j, j < k ∧ (bgS u k).1 = nI j ∧ (bgS u k).2 = fAl u j := by
  intro k
  induction k with
  | zero => exact Or.inl rfl
  | succ k ih =>
    show (bgF u k (bgS u k)).1 = -1 ∨ ∃ j, j < k + 1 ∧ (bgF u k (bgS u k)).1 = nI j ∧ (bgF u k (bgS u k)).2 = fAl u j
    by_cases h : (bgS u k).1 = -1 ∨ (bgS u k).2 < fAl u k
    · rw [bg_yes h]
      exact Or.inr ⟨k, Nat.lt_succ_self k, rfl, rfl⟩
    · rw [bg_no h]
      rcases ih with g | ⟨j, g1, g2, g3⟩
      · exact Or.inl g
      · exact Or.inr ⟨j, Nat.lt_succ_of_lt g1, g2, g3⟩
theorem mnN {a b : Nat} (ha : a < 2147483648) (hb : b < 2147483648) : (if nI a < nI b then nI a else nI b) = nI (min a b) := by
  by_cases h : a < b
  · rw [if_pos ((nI_ltI ha hb).mpr h), Nat.min_eq_left (Nat.le_of_lt h)]
  · rw [if_neg (fun z => h ((nI_ltI ha hb).mp z)), Nat.min_eq_right (Nat.not_lt.mp h)]
theorem pd_t {u : MS} {t k A X : Nat} (hA : X = A - mSip u * ct (fun b => htB u b t) k) (h : htB u k t = true) : X - min (mSip u) X = A - mSip u * ct (fun b => htB u b t) (k + 1) := by
  show _ = A - mSip u * (ct (fun b => htB u b t) k + (if htB u k t = true then 1 else 0))
  rw [if_pos h, Nat.mul_add, Nat.mul_one]
  omega
theorem pd_f {u : MS} {t k A X : Nat} (hA : X = A - mSip u * ct (fun b => htB u b t) k) (h : htB u k t = false) : X = A - mSip u * ct (fun b => htB u b t) (k + 1) := by
  show _ = A - mSip u * (ct (fun b => htB u b t) k + (if htB u k t = true then 1 else 0))
  rw [if_neg (by rw [h]; decide), Nat.add_zero]
  exact hA
theorem ht_f {u : MS} {b t : Nat} (ha : awB u t = true) (h : tkB u b t = false) : htB u b t = false := decide_eq_false fun z => of_decide_eq_false h ⟨of_decide_eq_true ha, z⟩
theorem ht_t {u : MS} {b t : Nat} (h : tkB u b t = true) : htB u b t = true := decide_eq_true (of_decide_eq_true h).2
theorem sub3 (c r : Nat) : c - (c - (c - r)) = c - r := by omega
