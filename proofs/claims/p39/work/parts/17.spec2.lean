/-! what a change makes of the rows -/
theorem if_iff {α : Type} {p q : Prop} [Decidable p] [Decidable q] (h : p ↔ q) (x y : α) : (if p then x else y) = if q then x else y := by
  by_cases hp : p
  · rw [if_pos hp, if_pos (h.mp hp)]
  · rw [if_neg hp, if_neg (fun z => hp (h.mpr z))]
def ccv (cov : Nat → Int32) (x y : Nat) (by_ : Int32) (m : Nat) : Nat → Int32 := fun t => if t < m ∧ cv2 x y t = true then cov t + by_ else cov t
theorem ccv_0 {cov : Nat → Int32} {x y : Nat} {d : Int32} : cov = ccv cov x y d 0 := funext fun t => (if_neg (fun z => Nat.not_lt_zero t z.1)).symm
theorem ccv_t {cov : Nat → Int32} {x y : Nat} {d : Int32} {k : Nat} (h : cv2 x y k = true) : upd (ccv cov x y d k) k (ccv cov x y d k k + d) = ccv cov x y d (k + 1) := by
  funext t
  by_cases e : t = k
  · subst e
    rw [pk_us]
    show (if t < t ∧ _ then _ else cov t) + d = if t < t + 1 ∧ _ then cov t + d else cov t
    rw [if_neg (fun z => Nat.lt_irrefl t z.1), if_pos ⟨Nat.lt_succ_self t, h⟩]
  · rw [pk_un e]
    show (if t < k ∧ _ then cov t + d else cov t) = if t < k + 1 ∧ _ then cov t + d else cov t
    have e1 : (t < k ∧ cv2 x y t = true) ↔ (t < k + 1 ∧ cv2 x y t = true) := and_congr_left fun _ => by omega
    exact if_iff e1 _ _
theorem ccv_f {cov : Nat → Int32} {x y : Nat} {d : Int32} {k : Nat} (h : cv2 x y k = false) : ccv cov x y d k = ccv cov x y d (k + 1) := by
  funext t
  show (if t < k ∧ _ then cov t + d else cov t) = if t < k + 1 ∧ _ then cov t + d else cov t
  by_cases e : t = k
  · subst e
    rw [if_neg (fun z => Nat.lt_irrefl t z.1), if_neg (fun z => by rw [h] at z; exact absurd z.2 (by decide))]
  · have e1 : (t < k ∧ cv2 x y t = true) ↔ (t < k + 1 ∧ cv2 x y t = true) := and_congr_left fun _ => by omega
    exact if_iff e1 _ _
/-- the reference lays it from the first minute on -/
def ccw (cov : Nat → Int32) (x : Nat) (d : Int32) (k : Nat) : Nat → Int32 := fun t => if x ≤ t ∧ t < x + k then cov t + d else cov t
theorem ccw_0 {cov : Nat → Int32} {x : Nat} {d : Int32} : cov = ccw cov x d 0 := funext fun t => (if_neg (fun z => by omega)).symm
theorem ccw_s {cov : Nat → Int32} {x : Nat} {d : Int32} {k : Nat} : upd (ccw cov x d k) (x + k) (ccw cov x d k (x + k) + d) = ccw cov x d (k + 1) := by
  funext t
  by_cases e : t = x + k
  · subst e
    rw [pk_us]
    show (if x ≤ x + k ∧ x + k < x + k then _ else cov (x + k)) + d = if x ≤ x + k ∧ x + k < x + (k + 1) then cov (x + k) + d else cov (x + k)
    rw [if_neg (fun z => by omega), if_pos ⟨by omega, by omega⟩]
  · rw [pk_un e]
    show (if x ≤ t ∧ t < x + k then cov t + d else cov t) = if x ≤ t ∧ t < x + (k + 1) then cov t + d else cov t
    have e1 : (x ≤ t ∧ t < x + k) ↔ (x ≤ t ∧ t < x + (k + 1)) := by omega
    exact if_iff e1 _ _
theorem ccw_eq {cov : Nat → Int32} {x y : Nat} {d : Int32} (h : x ≤ y) (hy : y ≤ 360) : ccw cov x d (y - x) = ccv cov x y d 360 := by
  funext t
  show (if x ≤ t ∧ t < x + (y - x) then cov t + d else cov t) = if t < 360 ∧ cv2 x y t = true then cov t + d else cov t
  have e1 : (x ≤ t ∧ t < x + (y - x)) ↔ (t < 360 ∧ cv2 x y t = true) := by
    unfold cv2
    rw [decide_eq_true_iff]
    omega
  exact if_iff e1 _ _
def shl (f : Nat → Int32) (x k : Nat) : Nat → Int32 := fun j => if x ≤ j ∧ j < x + k then f (j + 1) else f j
theorem shl_0 {f : Nat → Int32} {x : Nat} : f = shl f x 0 := funext fun t => (if_neg (fun z => by omega)).symm
theorem shl_s {f : Nat → Int32} {x k : Nat} : upd (shl f x k) (x + k) (shl f x k (x + k + 1)) = shl f x (k + 1) := by
  funext t
  by_cases e : t = x + k
  · subst e
    rw [pk_us]
    show (if x ≤ x + k + 1 ∧ x + k + 1 < x + k then _ else f (x + k + 1)) = if x ≤ x + k ∧ x + k < x + (k + 1) then f (x + k + 1) else f (x + k)
    rw [if_neg (fun z => by omega), if_pos ⟨by omega, by omega⟩]
  · rw [pk_un e]
    show (if x ≤ t ∧ t < x + k then f (t + 1) else f t) = if x ≤ t ∧ t < x + (k + 1) then f (t + 1) else f t
    have e1 : (x ≤ t ∧ t < x + k) ↔ (x ≤ t ∧ t < x + (k + 1)) := by omega
    exact if_iff e1 _ _
def obv (on : Nat → Int32) (p q k : Nat) : Nat → Int32 := fun t => if t < k ∧ ht2 p q t = true then on t + nI 1 else on t
theorem obv_0 {on : Nat → Int32} {p q : Nat} : on = obv on p q 0 := funext fun t => (if_neg (fun z => Nat.not_lt_zero t z.1)).symm
theorem obv_t {on : Nat → Int32} {p q k : Nat} (h : ht2 p q k = true) : upd (obv on p q k) k (obv on p q k k + nI 1) = obv on p q (k + 1) := by
  funext t
  by_cases e : t = k
  · subst e
    rw [pk_us]
    show (if t < t ∧ _ then _ else on t) + nI 1 = if t < t + 1 ∧ _ then on t + nI 1 else on t
    rw [if_neg (fun z => Nat.lt_irrefl t z.1), if_pos ⟨Nat.lt_succ_self t, h⟩]
  · rw [pk_un e]
    show (if t < k ∧ _ then on t + nI 1 else on t) = if t < k + 1 ∧ _ then on t + nI 1 else on t
    have e1 : (t < k ∧ ht2 p q t = true) ↔ (t < k + 1 ∧ ht2 p q t = true) := and_congr_left fun _ => by omega
    exact if_iff e1 _ _
theorem obv_f {on : Nat → Int32} {p q k : Nat} (h : ht2 p q k = false) : obv on p q k = obv on p q (k + 1) := by
  funext t
  show (if t < k ∧ _ then on t + nI 1 else on t) = if t < k + 1 ∧ _ then on t + nI 1 else on t
  by_cases e : t = k
  · subst e
    rw [if_neg (fun z => Nat.lt_irrefl t z.1), if_neg (fun z => by rw [h] at z; exact absurd z.2 (by decide))]
  · have e1 : (t < k ∧ ht2 p q t = true) ↔ (t < k + 1 ∧ ht2 p q t = true) := and_congr_left fun _ => by omega
    exact if_iff e1 _ _
def psS (u : MS) (k : Nat) : Int32 × Nat := fs (enF u) (mNow u) k (nI 0, mTea u)
theorem ps_tea {u : MS} (h : mTea u ≤ mRoom u) : ∀ k, (psS u k).2 ≤ mRoom u := by
  intro k
  cases k with
  | zero => exact h
  | succ k =>
    show cAf u _ _ _ - (cAf u _ _ _ - mRoom u) ≤ mRoom u
    omega
theorem cl_self {x : Int32} {j : Nat} (h : x = nI j) (hj : j < 2147483648 := by omega) : x = nI x.toNatClampNeg := by rw [h, nI_clamp hj]
theorem cl_eq {x : Int32} {j : Nat} (h : x = nI j) (hj : j < 2147483648 := by omega) : x.toNatClampNeg = j := by rw [h, nI_clamp hj]
/-- minutes that went by, and what is in the cup, may be others -/
theorem inv_pt {u : MS} (hI : Inv u) {n t : Nat} {s : Int32} (hn : n ≤ 360) (ht : t ≤ mRoom u) : Inv (mSc u, mNc u, mBc u, n, mRoom u, mRate u, mSip u, t, s, mAft u, mHt u, mFr u, mTo u, mCov u, mPe u, mBe u) := by
  obtain ⟨hIa, hIb, hIc, hId, hIe, hIf, hIg, hIh, hIi, hIj⟩ := hI
  exact ⟨hIa, hIb, hIc, hn, ⟨ht, hIe.2⟩, hIf, hIg, hIh, hIi, hIj⟩
