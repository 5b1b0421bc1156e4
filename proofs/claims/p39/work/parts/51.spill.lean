/-! when the tea runs over -/
theorem cAf_mono {u : MS} {t c c2 r r2 : Nat} (hc : c2 ≤ c) (hr : r2 ≤ r) : cAf u t c2 r2 ≤ cAf u t c r := by
  unfold cAf
  by_cases h : cN u t = 0
  · rw [if_pos h, if_pos h]; omega
  · rw [if_neg h, if_neg h]; exact hc
theorem cAf_aw {u : MS} {t c r : Nat} (hc : c ≤ mRoom u) (h : mRoom u < cAf u t c r) : cN u t = 0 := by
  by_cases e : cN u t = 0
  · exact e
  · have e2 : cAf u t c r = c := if_neg e
    omega
theorem sp_cases {u : MS} {r : Nat} : ∀ (n t c : Nat), c ≤ mRoom u → spF u r n t c = -1 ∨ ∃ T, spF u r n t c = nI T ∧ t ≤ T ∧ T < t + n ∧ cN u T = 0 := by
  intro n
  induction n with
  | zero => exact fun _ _ _ => Or.inl rfl
  | succ n ih =>
    intro t c hc
    by_cases h : mRoom u < cAf u t c r
    · exact Or.inr ⟨t, sp_hit h, Nat.le_refl _, by omega, cAf_aw hc h⟩
    · rcases ih (t + 1) (cAf u t c r) (by omega) with e | ⟨T, e1, e2, e3, e4⟩
      · exact Or.inl ((sp_go h).trans e)
      · exact Or.inr ⟨T, (sp_go h).trans e1, by omega, by omega, e4⟩
theorem sp_mono {u : MS} {r r2 : Nat} (hr : r2 ≤ r) : ∀ (n t c c2 : Nat), t + n ≤ 360 → c2 ≤ c → spF u r n t c = -1 → spF u r2 n t c2 = -1 := by
  intro n
  induction n with
  | zero => exact fun _ _ _ _ _ _ => rfl
  | succ n ih =>
    intro t c c2 ht hc h
    have h0 := cAf_mono (u := u) (t := t) hc hr
    by_cases e : mRoom u < cAf u t c r
    · rw [sp_hit e] at h
      exact absurd h (nI_m1 (by omega))
    · rw [sp_go e] at h
      rw [sp_go (show ¬ mRoom u < cAf u t c2 r2 by omega)]
      exact ih (t + 1) _ _ (by omega) h0 h
theorem sp_zero {u : MS} : ∀ (n t c : Nat), c ≤ mRoom u → spF u 0 n t c = -1 := by
  intro n
  induction n with
  | zero => exact fun _ _ _ => rfl
  | succ n ih =>
    intro t c hc
    have h0 := cAf_le u t c 0
    rw [sp_go (show ¬ mRoom u < cAf u t c 0 by omega)]
    exact ih (t + 1) _ (by omega)
theorem sp_cong {u v : MS} {r : Nat} (hm : mRoom u = mRoom v) (hc : ∀ t c, cAf u t c r = cAf v t c r) : ∀ (n t c : Nat), spF u r n t c = spF v r n t c := by
  intro n
  induction n with
  | zero => exact fun _ _ => rfl
  | succ n ih =>
    intro t c
    by_cases e : mRoom u < cAf u t c r
    · rw [sp_hit e, sp_hit (show mRoom v < cAf v t c r by rw [← hc, ← hm]; exact e)]
    · rw [sp_go e, sp_go (show ¬ mRoom v < cAf v t c r by rw [← hc, ← hm]; exact e), ih, hc]
theorem fsp_cases {u : MS} (hI : Inv u) (r : Nat) : fSp u r = -1 ∨ ∃ T, fSp u r = nI T ∧ mNow u ≤ T ∧ T < 360 ∧ cN u T = 0 := by
  have h1 := hI.2.2.2.1
  rcases sp_cases (u := u) (r := r) (360 - mNow u) (mNow u) (mTea u) hI.2.2.2.2.1.1 with e | ⟨T, e1, e2, e3, e4⟩
  · exact Or.inl e
  · exact Or.inr ⟨T, e1, e2, by omega, e4⟩
theorem fsp_mono {u : MS} (hI : Inv u) {r r2 : Nat} (hr : r2 ≤ r) (h : fSp u r = -1) : fSp u r2 = -1 := by
  have h1 := hI.2.2.2.1
  exact sp_mono hr _ _ _ _ (by omega) (Nat.le_refl _) h
theorem sf_all {u : MS} (h0 : fSp u 0 = -1) : ∀ k, sfF u k ≤ k ∧ fSp u (sfF u k) = -1 ∧ ∀ j, sfF u k < j → j ≤ k → ¬ fSp u j = -1 := by
  intro k
  induction k with
  | zero => exact ⟨Nat.le_refl _, h0, fun j h1 h2 => absurd h1 (by show ¬ 0 < j; omega)⟩
  | succ k ih =>
    by_cases e : fSp u (k + 1) = -1
    · rw [sf_yes e]
      exact ⟨Nat.le_refl _, e, fun j h1 h2 => absurd h1 (by omega)⟩
    · rw [sf_no e]
      obtain ⟨h1, h2, h3⟩ := ih
      refine ⟨by omega, h2, fun j g1 g2 => ?_⟩
      by_cases e2 : j = k + 1
      · rw [e2]; exact e
      · exact h3 j g1 (by omega)
theorem sf_spec {u : MS} (hI : Inv u) : sfF u 9 ≤ 9 ∧ fSp u (sfF u 9) = -1 ∧ ∀ j, sfF u 9 < j → j ≤ 9 → ¬ fSp u j = -1 := sf_all (sp_zero _ _ _ hI.2.2.2.2.1.1) 9
theorem sf_iff {u : MS} (hI : Inv u) : mRate u ≤ sfF u 9 ↔ fSp u (mRate u) = -1 := by
  obtain ⟨h1, h2, h3⟩ := sf_spec hI
  constructor
  · exact fun h => fsp_mono hI h h2
  · intro h
    rcases Nat.lt_or_ge (sfF u 9) (mRate u) with z | z
    · exact absurd h (h3 _ z hI.2.2.2.2.1.2.2.1)
    · exact z
/-- the end of the afternoon: how much more runs over, none just if it runs over in no minute -/
theorem en_go {u : MS} {S n : Nat} (hS : mSpl u = nI S) (ht : mTea u ≤ mRoom u) (hn : mNow u + n ≤ 360) (hr : mRoom u ≤ 50) (hr9 : mRate u ≤ 9) : ∀ k, k ≤ n → (enS u k).2 ≤ mRoom u ∧ ((spF u (mRate u) n (mNow u) (mTea u) = spF u (mRate u) (n - k) (mNow u + k) (enS u k).2 ∧ (enS u k).1 = nI S) ∨ ((∃ T, spF u (mRate u) n (mNow u) (mTea u) = nI T ∧ T < 360) ∧ ∃ E, 0 < E ∧ E ≤ 100 * k ∧ (enS u k).1 = nI (S + E))) := by
  intro k
  induction k with
  | zero =>
    intro _
    exact ⟨ht, Or.inl ⟨rfl, hS⟩⟩
  | succ k ih =>
    intro hk
    obtain ⟨h1, h2⟩ := ih (by omega)
    have hc := cAf_le u (mNow u + k) (enS u k).2 (mRate u)
    have e2 : (enS u (k + 1)).2 = cAf u (mNow u + k) (enS u k).2 (mRate u) - (cAf u (mNow u + k) (enS u k).2 (mRate u) - mRoom u) := rfl
    have e1 : (enS u (k + 1)).1 = (enS u k).1 + nI (cAf u (mNow u + k) (enS u k).2 (mRate u) - mRoom u) := rfl
    refine ⟨by rw [e2]; omega, ?_⟩
    rcases h2 with ⟨g1, g2⟩ | ⟨g1, E, g2, g3, g4⟩
    · rw [show n - k = (n - (k + 1)) + 1 by omega] at g1
      by_cases e : mRoom u < cAf u (mNow u + k) (enS u k).2 (mRate u)
      · refine Or.inr ⟨⟨mNow u + k, by rw [g1, sp_hit e], by omega⟩, cAf u (mNow u + k) (enS u k).2 (mRate u) - mRoom u, by omega, by omega, ?_⟩
        rw [e1, g2, nI_add]
      · refine Or.inl ⟨?_, ?_⟩
        · rw [g1, sp_go e, e2, show cAf u (mNow u + k) (enS u k).2 (mRate u) - mRoom u = 0 by omega, Nat.sub_zero]
          rfl
        · rw [e1, g2, nI_add, show cAf u (mNow u + k) (enS u k).2 (mRate u) - mRoom u = 0 by omega, Nat.add_zero]
    · refine Or.inr ⟨g1, E + (cAf u (mNow u + k) (enS u k).2 (mRate u) - mRoom u), by omega, by omega, ?_⟩
      rw [e1, g4, nI_add, Nat.add_assoc]
theorem end_spec {u : MS} (hI : Inv u) {S : Nat} (hS : mSpl u = nI S) : ∃ E, E ≤ 36000 ∧ fEnd u = nI (S + E) ∧ (E = 0 ↔ fSp u (mRate u) = -1) := by
  have h1 := hI.2.2.2.1
  have hg := en_go hS hI.2.2.2.2.1.1 (n := 360 - mNow u) (by omega) hI.2.2.2.2.1.2.1 hI.2.2.2.2.1.2.2.1 (360 - mNow u) (Nat.le_refl _)
  rcases hg.2 with ⟨g1, g2⟩ | ⟨⟨T, g1, g5⟩, E, g2, g3, g4⟩
  · refine ⟨0, by omega, g2, ⟨fun _ => ?_, fun _ => rfl⟩⟩
    show spF u (mRate u) (360 - mNow u) (mNow u) (mTea u) = -1
    rw [g1, Nat.sub_self]
    rfl
  · refine ⟨E, by omega, g4, ⟨fun z => absurd z (by omega), fun z => ?_⟩⟩
    have z2 : spF u (mRate u) (360 - mNow u) (mNow u) (mTea u) = -1 := z
    rw [g1] at z2
    exact absurd z2 (nI_m1 (by omega))
/-- another rate, the same cup -/
theorem fsp_tea {u : MS} (hI : Inv u) (r r2 : Nat) : fSp (uTea u (mRoom u) r2 (mSip u)) r = fSp u r := by
  have ht := hI.2.2.2.2.1.1
  show spF (uTea u (mRoom u) r2 (mSip u)) r (360 - mNow u) (mNow u) (mTea u - (mTea u - mRoom u)) = spF u r (360 - mNow u) (mNow u) (mTea u)
  rw [show mTea u - (mTea u - mRoom u) = mTea u by omega]
  exact sp_cong (u := uTea u (mRoom u) r2 (mSip u)) (v := u) rfl (fun t c => rfl) _ _ _
theorem tea_back {u : MS} (hI : Inv u) (r : Nat) : uTea (uTea u (mRoom u) r (mSip u)) (mRoom u) (mRate u) (mSip u) = u := by
  have ht := hI.2.2.2.2.1.1
  show (mSc u, mNc u, mBc u, mNow u, mRoom u, mRate u, mSip u, mTea u - (mTea u - mRoom u) - (mTea u - (mTea u - mRoom u) - mRoom u), mSpl u + nI (mTea u - mRoom u) + nI (mTea u - (mTea u - mRoom u) - mRoom u), mAft u, mHt u, mFr u, mTo u, mCov u, mPe u, mBe u) = u
  rw [show mTea u - mRoom u = 0 by omega, Nat.sub_zero, show mTea u - mRoom u = 0 by omega, Nat.sub_zero, show nI 0 = 0 from rfl, Int32.add_zero, Int32.add_zero]
theorem tea_two {u : MS} (hI : Inv u) (r r2 : Nat) : uTea (uTea u (mRoom u) r (mSip u)) (mRoom u) r2 (mSip u) = uTea u (mRoom u) r2 (mSip u) := by
  have ht := hI.2.2.2.2.1.1
  show (mSc u, mNc u, mBc u, mNow u, mRoom u, r2, mSip u, mTea u - (mTea u - mRoom u) - (mTea u - (mTea u - mRoom u) - mRoom u), mSpl u + nI (mTea u - mRoom u) + nI (mTea u - (mTea u - mRoom u) - mRoom u), mAft u, mHt u, mFr u, mTo u, mCov u, mPe u, mBe u) = (mSc u, mNc u, mBc u, mNow u, mRoom u, r2, mSip u, mTea u - (mTea u - mRoom u), mSpl u + nI (mTea u - mRoom u), mAft u, mHt u, mFr u, mTo u, mCov u, mPe u, mBe u)
  rw [show mTea u - mRoom u = 0 by omega, Nat.sub_zero, show mTea u - mRoom u = 0 by omega, Nat.sub_zero, show nI 0 = 0 from rfl, Int32.add_zero, Int32.add_zero]
/-- one minute more -/
abbrev uOne (u : MS) : MS := (mSc u, mNc u, mBc u, mNow u + 1, mRoom u, mRate u, mSip u, cAf u (mNow u) (mTea u) (mRate u) - (cAf u (mNow u) (mTea u) (mRate u) - mRoom u), mSpl u + nI (cAf u (mNow u) (mTea u) (mRate u) - mRoom u), mAft u, mHt u, mFr u, mTo u, mCov u, mPe u, mBe u)
theorem ps_one {u : MS} : (psS u 1).1 = nI (cAf u (mNow u) (mTea u) (mRate u) - mRoom u) := by
  show nI 0 + nI (cAf u (mNow u) (mTea u) (mRate u) - mRoom u) = _
  rw [nI_add, Nat.zero_add]
theorem pass_one {u : MS} : uPass u 1 = uOne u := by
  show (mSc u, mNc u, mBc u, mNow u + 1, mRoom u, mRate u, mSip u, (psS u 1).2, mSpl u + (psS u 1).1, mAft u, mHt u, mFr u, mTo u, mCov u, mPe u, mBe u) = _
  rw [ps_one]
  rfl
theorem iv_one {u : MS} (hI : Inv u) (h : mNow u < 360) : Inv (uOne u) := by
  have h1 := iv_pass (k := 1) hI (by omega)
  rw [pass_one] at h1
  exact h1
theorem is_one {u : MS} (hr : mRate u ≤ 9) (h : InvS u) : InvS (uOne u) := by
  have h1 := is_pass (k := 1) hr h
  rw [pass_one] at h1
  exact h1
theorem fsp_hit {u : MS} (h : mNow u < 360) (e : mRoom u < cAf u (mNow u) (mTea u) (mRate u)) : fSp u (mRate u) = nI (mNow u) := by
  unfold fSp
  rw [show 360 - mNow u = (359 - mNow u) + 1 by omega, sp_hit e]
theorem fsp_go {u : MS} (h : mNow u < 360) (e : ¬ mRoom u < cAf u (mNow u) (mTea u) (mRate u)) : fSp u (mRate u) = fSp (uOne u) (mRate u) := by
  show spF u (mRate u) (360 - mNow u) (mNow u) (mTea u) = spF (uOne u) (mRate u) (360 - (mNow u + 1)) (mNow u + 1) (cAf u (mNow u) (mTea u) (mRate u) - (cAf u (mNow u) (mTea u) (mRate u) - mRoom u))
  rw [show 360 - mNow u = (359 - mNow u) + 1 by omega, sp_go e, show 360 - (mNow u + 1) = 359 - mNow u by omega, show cAf u (mNow u) (mTea u) (mRate u) - (cAf u (mNow u) (mTea u) (mRate u) - mRoom u) = cAf u (mNow u) (mTea u) (mRate u) by omega]
  exact sp_cong (u := u) (v := uOne u) rfl (fun t c => rfl) _ _ _
theorem lcmp_self {x : Int64} : lg_cmp x x = 0 := by
  unfold lg_cmp
  rw [if_neg (fun h : x > x => Int64.lt_irrefl h), if_pos rfl]
/-! the longest stretch, counted -/
def lgT (u : MS) (t : Nat) (x : Nat × Nat) : Nat × Nat := if t < 360 ∧ cN u t = 0 then (max x.1 (x.2 + 1), x.2 + 1) else (x.1, 0)
def lgN (u : MS) (k : Nat) : Nat × Nat := fz (lgT u) k (0, 0)
theorem lgN_y {u : MS} {k : Nat} (h : k < 360) (e : cN u k = 0) : lgN u (k + 1) = (max (lgN u k).1 ((lgN u k).2 + 1), (lgN u k).2 + 1) := if_pos ⟨h, e⟩
theorem lgN_n {u : MS} {k : Nat} (e : ¬ (k < 360 ∧ cN u k = 0)) : lgN u (k + 1) = ((lgN u k).1, 0) := if_neg e
theorem lgN_le (u : MS) : ∀ k, (lgN u k).1 ≤ k ∧ (lgN u k).2 ≤ k ∧ (lgN u k).2 ≤ (lgN u k).1 + 0 + (lgN u k).2 := by
  intro k
  induction k with
  | zero => exact ⟨Nat.le_refl _, Nat.le_refl _, by omega⟩
  | succ k ih =>
    obtain ⟨h1, h2, h3⟩ := ih
    by_cases e : k < 360 ∧ cN u k = 0
    · rw [lgN_y e.1 e.2]
      exact ⟨by show max _ _ ≤ _; omega, by show _ + 1 ≤ _; omega, by omega⟩
    · rw [lgN_n e]
      exact ⟨by show (lgN u k).1 ≤ _; omega, Nat.zero_le _, by omega⟩
theorem mxN {a b : Nat} (ha : a < 2147483648) (hb : b < 2147483648) : (if nI a < nI b then nI b else nI a) = nI (max a b) := by
  by_cases h : a < b
  · rw [if_pos ((nI_ltI ha hb).mpr h), Nat.max_eq_right (Nat.le_of_lt h)]
  · rw [if_neg (fun z => h ((nI_ltI ha hb).mp z)), Nat.max_eq_left (Nat.not_lt.mp h)]
theorem lgS_eq (u : MS) : ∀ k, k ≤ 360 → lgS u k = (nI (lgN u k).1, nI (lgN u k).2) := by
  intro k
  induction k with
  | zero => exact fun _ => rfl
  | succ k ih =>
    intro hk
    have h1 := ih (by omega)
    obtain ⟨h2, h3, -⟩ := lgN_le u k
    show lgF u k (lgS u k) = _
    rw [h1]
    by_cases e : cN u k = 0
    · rw [lg_yes e, lgN_y (by omega) e]
      show (if nI (lgN u k).1 < nI (lgN u k).2 + nI 1 then nI (lgN u k).2 + nI 1 else nI (lgN u k).1, nI (lgN u k).2 + nI 1) = _
      rw [nI_add, mxN (by omega) (by omega)]
    · rw [lg_no e, lgN_n (fun z => e z.2)]
      show (if nI (lgN u k).1 < nI 0 then nI 0 else nI (lgN u k).1, nI 0) = _
      rw [if_neg (fun z => absurd (ltN z) (Nat.not_lt_zero _))]
theorem fLong_eq (u : MS) : fLong u = nI (lgN u 360).1 := by
  unfold fLong
  rw [lgS_eq u 360 (Nat.le_refl _)]
theorem lg_str {k st : Nat} {A : Int32} (h : st ≤ k) (hA : A = nI (k - st) - nI 1) : nI k - A - nI 1 = nI st := by
  have h1 : nI k - A - nI 1 = nI k - (A + nI 1) := by
    first
      | rw [Int32.sub_sub]
      | (rw [Int32.sub_eq_add_neg, Int32.sub_eq_add_neg, Int32.sub_eq_add_neg (nI k), Int32.neg_add, Int32.sub_eq_add_neg, Int32.add_assoc])
  have h2 : A + nI 1 = nI (k - st) := by
    rw [hA]
    first
      | rw [Int32.sub_add_cancel]
      | rw [Int32.sub_eq_add_neg, Int32.add_assoc, Int32.add_left_neg, Int32.add_zero]
  rw [h1, h2, nI_sub (by omega), show k - (k - st) = st by omega]
theorem nI_im1 (k : Nat) : nI k + Int32.ofInt (-1) = nI k - nI 1 := by
  rw [Int32.sub_eq_add_neg]
  congr 1
/-! the nap and the bee that the afternoon by hand chooses, from the last one down -/
def UPp (u : MS) (lo : Nat) (U M : Int32) : Prop := (lo = mNc u ∧ U = -1 ∧ M = -1) ∨ ∃ j, BGp u lo j ∧ U = nI j ∧ M = nI (AL u j)
theorem UP_take {u : MS} {n : Nat} {U M : Int32} (hn : n < mNc u) (h : UPp u (n + 1) U M) (hM : M ≤ nI (AL u n)) : UPp u n (nI n) (nI (AL u n)) := by
  have hb := AL_le u n
  rcases h with ⟨h1, h2, h3⟩ | ⟨j, h1, h2, h3⟩
  · exact Or.inr ⟨n, BGp.one h1, rfl, rfl⟩
  · have hbj := AL_le u j
    rw [h3] at hM
    exact Or.inr ⟨n, h1.take (leN hM), rfl, rfl⟩
theorem UP_skip {u : MS} {n : Nat} {U M : Int32} (hn : n < mNc u) (h : UPp u (n + 1) U M) (hM : ¬ M ≤ nI (AL u n)) : UPp u n U M := by
  have hb := AL_le u n
  rcases h with ⟨h1, h2, h3⟩ | ⟨j, h1, h2, h3⟩
  · refine absurd ?_ hM
    rw [h3, Int32.le_iff_toInt_le, nI_toInt (by omega), show (-1 : Int32).toInt = -1 by decide +kernel]
    omega
  · have hbj := AL_le u j
    rw [h3] at hM
    exact Or.inr ⟨j, h1.skip (nleN hM), h2, h3⟩
theorem UP_end {u : MS} {U M : Int32} (h8 : mNc u ≤ 8) (h : UPp u 0 U M) : fBG u = U := by
  rcases h with ⟨h1, h2, h3⟩ | ⟨j, h1, h2, h3⟩
  · rw [h2]; exact bg_none h1.symm
  · obtain ⟨i, e1, e2⟩ := bg_some h8 (fun z => by have := h1.2.1; omega)
    rw [h2, e1, e2.uniq h1]
def BBq (u : MS) (lo : Nat) (B : Int32) : Prop := (lo = mBc u ∧ B = -1) ∨ ∃ j, BBp u lo j ∧ B = nI j
theorem BB_neg {u : MS} {n : Nat} {B : Int32} (h6 : mBc u ≤ 6) (h : BBq u (n + 1) B) (hB : B < 0) : BBq u n (nI n) := by
  rcases h with ⟨h1, h2⟩ | ⟨j, h1, h2⟩
  · exact Or.inr ⟨n, BBp.one h1, rfl⟩
  · rw [h2] at hB
    exact absurd hB (nI_pos (by have := h1.2.1; omega))
theorem BB_pos {u : MS} {n : Nat} {B : Int32} (h : BBq u n B) (hB : ¬ B < 0) : ∃ j, BBp u n j ∧ B = nI j := by
  rcases h with ⟨h1, h2⟩ | h
  · rw [h2] at hB
    exact absurd (show (-1 : Int32) < 0 by decide +kernel) hB
  · exact h
theorem BB_end {u : MS} {B : Int32} (hI : Inv u) (h : BBq u 0 B) : fBB u = B := by
  rcases h with ⟨h1, h2⟩ | ⟨j, h1, h2⟩
  · rw [h2]; exact bb_none h1.symm
  · obtain ⟨i, e1, e2⟩ := bb_some hI (fun z => by have := h1.2.1; omega)
    rw [h2, e1, e2.uniq h1]
