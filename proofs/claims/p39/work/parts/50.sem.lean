/-! the answers as plain numbers -/
theorem ct_add {P Q R : Nat → Bool} : ∀ n, (∀ k, k < n → (if R k = true then 1 else 0) = (if P k = true then 1 else 0) + (if Q k = true then 1 else 0)) → ct R n = ct P n + ct Q n := by
  intro n
  induction n with
  | zero => exact fun _ => rfl
  | succ n ih =>
    intro h
    have h1 := ih (fun k hk => h k (Nat.lt_succ_of_lt hk))
    have h2 := h n (Nat.lt_succ_self n)
    show ct R n + (if R n = true then 1 else 0) = (ct P n + (if P n = true then 1 else 0)) + (ct Q n + (if Q n = true then 1 else 0))
    omega
theorem ct_sub {P Q : Nat → Bool} : ∀ n, (∀ k, k < n → P k = true → Q k = true) → ct P n ≤ ct Q n := by
  intro n
  induction n with
  | zero => exact fun _ => Nat.le_refl _
  | succ n ih =>
    intro h
    have h1 := ih (fun k hk => h k (Nat.lt_succ_of_lt hk))
    show ct P n + (if P n = true then 1 else 0) ≤ ct Q n + (if Q n = true then 1 else 0)
    by_cases hp : P n = true
    · rw [if_pos hp, if_pos (h n (Nat.lt_succ_self n) hp)]
      omega
    · rw [if_neg hp]
      omega
theorem ct_all : ∀ n, ct (fun _ => true) n = n := by
  intro n
  induction n with
  | zero => rfl
  | succ n ih =>
    show ct (fun _ => true) n + (if true = true then 1 else 0) = n + 1
    rw [ih, if_pos rfl]
theorem ct_iv {a b : Nat} : ∀ n, ct (fun t => decide (a ≤ t ∧ t < b)) n ≤ min n b - a := by
  intro n
  induction n with
  | zero => exact Nat.zero_le _
  | succ n ih =>
    show ct (fun t => decide (a ≤ t ∧ t < b)) n + (if decide (a ≤ n ∧ n < b) = true then 1 else 0) ≤ min (n + 1) b - a
    by_cases h : a ≤ n ∧ n < b
    · rw [if_pos (decide_eq_true h)]
      omega
    · rw [if_neg (by rw [decide_eq_true_iff]; exact h)]
      omega
theorem aw_fz (u : MS) : ∀ n, fz (awF u) n (nI 0) = nI (ct (awB u) n) := by
  intro n
  induction n with
  | zero => rfl
  | succ n ih =>
    show awF u n (fz (awF u) n (nI 0)) = nI (ct (awB u) n + (if awB u n = true then 1 else 0))
    rw [ih]
    by_cases h : cN u n = 0
    · rw [if_pos (show awB u n = true from decide_eq_true h), aw_t (decide_eq_true h)]
      exact nI_1 _
    · rw [if_neg (show ¬ awB u n = true from fun z => h (of_decide_eq_true z)), aw_f (decide_eq_false h)]
      exact Int32.add_zero _
def AW (u : MS) : Nat := ct (awB u) (mNow u)
theorem fAw_eq (u : MS) : fAw u = nI (AW u) := aw_fz u _
def alB (u : MS) (n t : Nat) : Bool := decide (cN u t = 1 ∧ cvB u n t = true)
def AL (u : MS) (n : Nat) : Nat := ct (alB u n) 360
theorem al_fz (u : MS) (i : Nat) : ∀ n, fz (alF u i) n (nI 0) = nI (ct (alB u i) n) := by
  intro n
  induction n with
  | zero => rfl
  | succ n ih =>
    show alF u i n (fz (alF u i) n (nI 0)) = nI (ct (alB u i) n + (if alB u i n = true then 1 else 0))
    rw [ih]
    unfold alF
    by_cases h : cN u n = 1 ∧ cvB u i n = true
    · rw [if_pos h, if_pos (show alB u i n = true from decide_eq_true h)]
      exact nI_1 _
    · rw [if_neg h, if_neg (show ¬ alB u i n = true from fun z => h (of_decide_eq_true z))]
      rfl
theorem fAl_eq (u : MS) (n : Nat) : fAl u n = nI (AL u n) := al_fz u n 360
def TK (u : MS) (b : Nat) : Nat := ct (tkB u b) (mNow u)
theorem tk_fz (u : MS) (b : Nat) : ∀ n, fz (tkF u b) n (nI 0) = nI (ct (tkB u b) n) := by
  intro n
  induction n with
  | zero => rfl
  | succ n ih =>
    show tkF u b n (fz (tkF u b) n (nI 0)) = nI (ct (tkB u b) n + (if tkB u b n = true then 1 else 0))
    rw [ih]
    unfold tkF
    by_cases h : tkB u b n = true
    · rw [if_pos h, if_pos h]
      exact nI_1 _
    · rw [if_neg h, if_neg h]
      rfl
theorem fTk_eq (u : MS) (b : Nat) : fTk u b = nI (TK u b) := tk_fz u b _
theorem fMe_eq (u : MS) (b : Nat) : fMe u b = nI (TK u b * pN u b) := by rw [fMe, fTk_eq, nI_mul]
theorem fEr_eq (u : MS) (b : Nat) : fEr u b = nI (TK u b * pN u b) - nI (AW u) := by rw [fEr, fMe_eq, fAw_eq]
theorem AW_le (u : MS) : AW u ≤ mNow u := ct_le _ _
theorem AL_le (u : MS) (n : Nat) : AL u n ≤ 360 := ct_le _ _
theorem TK_le (u : MS) (b : Nat) : TK u b ≤ mNow u := ct_le _ _
/-- asleep in the minutes that went by -/
def slB (u : MS) (t : Nat) : Bool := decide (0 < cN u t ∧ t < mNow u)
theorem sl_all {u : MS} (h : mNow u ≤ 360) : ct (slB u) 360 + AW u = mNow u := by
  have h1 := ct_flat (P := slB u) (a := mNow u) (360 - mNow u) (fun m h1 h2 => decide_eq_false (fun z => absurd z.2 (Nat.not_lt.mpr h1)))
  rw [show mNow u + (360 - mNow u) = 360 by omega] at h1
  rw [h1]
  have h2 := ct_add (P := slB u) (Q := awB u) (R := fun _ => true) (mNow u) (fun k hk => by
    by_cases e : cN u k = 0
    · rw [if_neg (show ¬ slB u k = true from fun z => by have := (of_decide_eq_true z).1; omega), if_pos (show awB u k = true from decide_eq_true e), if_pos rfl]
    · rw [if_pos (show slB u k = true from decide_eq_true ⟨by omega, hk⟩), if_neg (show ¬ awB u k = true from fun z => e (of_decide_eq_true z)), if_pos rfl])
  rw [ct_all] at h2
  exact h2.symm
/-! shadows -/
def shN (u : MS) (s t : Nat) : Nat := hN u s * (60 + t) / 120
theorem sh_b {u : MS} (hI : Inv u) {s t : Nat} (hs : s < mSc u) (ht : t ≤ 400) : hN u s * (60 + t) ≤ 13800 := by
  have h := (hI.2.2.2.2.2.2.2.2.1 s hs).2.2
  have h2 : hN u s * (60 + t) ≤ 30 * 460 := Nat.mul_le_mul h (by omega)
  omega
theorem sh_le {u : MS} (hI : Inv u) {s t : Nat} (hs : s < mSc u) (ht : t ≤ 400) : shN u s t ≤ 115 := by
  have h := sh_b hI hs ht
  unfold shN
  omega
theorem fShad_eq {u : MS} (hI : Inv u) {s t : Nat} (hs : s < mSc u) (ht : t ≤ 400) : fShad u s t = nI (shN u s t) := by
  have h := sh_b hI hs ht
  have e := (hI.2.2.2.2.2.2.2.2.1 s hs).1
  rw [fShad, e, nI_mul, pk_div (by omega) (by omega) (by omega)]
  rfl
theorem sh_mono {u : MS} {s f t : Nat} (h : f ≤ t) : shN u s f ≤ shN u s t := Nat.div_le_div_right (Nat.mul_le_mul_left _ (by omega))
theorem fd_spec {P : Nat → Bool} {t : Nat} : ∀ (n s : Nat), s ≤ t → t < s + n → P t = true → ∃ f, fd P n s = nI f ∧ s ≤ f ∧ f ≤ t ∧ P f = true ∧ ∀ j, s ≤ j → j < f → P j = false := by
  intro n
  induction n with
  | zero => intro s h1 h2; exact absurd h2 (by omega)
  | succ n ih =>
    intro s h1 h2 h3
    cases h : P s with
    | true => exact ⟨s, fd_hit h, Nat.le_refl _, h1, h, fun j g1 g2 => absurd g2 (by omega)⟩
    | false =>
      have hne : ¬ s = t := fun e => by rw [e, h3] at h; cases h
      obtain ⟨f, e1, e2, e3, e4, e5⟩ := ih (s + 1) (by omega) (by omega) h3
      refine ⟨f, (fd_miss h).trans e1, by omega, e3, e4, fun j g1 g2 => ?_⟩
      by_cases e : j = s
      · rw [e]; exact h
      · exact e5 j (by omega) g2
theorem fd_cases {P : Nat → Bool} : ∀ (n s : Nat), fd P n s = -1 ∨ ∃ f, fd P n s = nI f ∧ s ≤ f ∧ f < s + n ∧ P f = true := by
  intro n
  induction n with
  | zero => exact fun _ => Or.inl rfl
  | succ n ih =>
    intro s
    cases h : P s with
    | true => exact Or.inr ⟨s, fd_hit h, Nat.le_refl _, by omega, h⟩
    | false =>
      rcases ih (s + 1) with e | ⟨f, e1, e2, e3, e4⟩
      · exact Or.inl ((fd_miss h).trans e)
      · exact Or.inr ⟨f, (fd_miss h).trans e1, by omega, by omega, e4⟩
theorem mos_spec {u : MS} (hI : Inv u) {s t : Nat} (hs : s < mSc u) (ht : t < 360) : ∃ f, fMoS u s (nI (shN u s t)) = nI f ∧ f ≤ t ∧ shN u s f = shN u s t ∧ (0 < f → shN u s (f - 1) < shN u s t) := by
  have hb := sh_le hI hs (show t ≤ 400 by omega)
  obtain ⟨f, e1, e2, e3, e4, e5⟩ := fd_spec (P := msB u s (nI (shN u s t))) (t := t) 360 0 (Nat.zero_le _) (by omega) (decide_eq_true (by rw [fShad_eq hI hs (by omega)]; exact Int32.le_refl _))
  have h1 := of_decide_eq_true e4
  have hbf := sh_le hI hs (show f ≤ 400 by omega)
  rw [fShad_eq hI hs (by omega)] at h1
  have h2 := leN h1
  refine ⟨f, e1, e3, Nat.le_antisymm (sh_mono e3) h2, fun hf => ?_⟩
  have h3 := of_decide_eq_false (e5 (f - 1) (Nat.zero_le _) (by omega))
  have hbg := sh_le hI hs (show f - 1 ≤ 400 by omega)
  rw [fShad_eq hI hs (by omega)] at h3
  exact nleN h3
theorem sum_all {u : MS} (hI : Inv u) {t : Nat} (ht : t ≤ 400) : ∀ k, k ≤ mSc u → ∃ S, fz (shF u t) k (nI 0) = nI S ∧ S ≤ 115 * k ∧ ∀ s, s < k → shN u s t ≤ S := by
  intro k
  induction k with
  | zero => exact fun _ => ⟨0, rfl, Nat.le_refl _, fun s hs => absurd hs (Nat.not_lt_zero s)⟩
  | succ k ih =>
    intro hk
    obtain ⟨S, h1, h2, h3⟩ := ih (by omega)
    have hb := sh_le hI (show k < mSc u by omega) ht
    refine ⟨S + shN u k t, ?_, by omega, fun s hs => ?_⟩
    · show fz (shF u t) k (nI 0) + fShad u k t = _
      rw [h1, fShad_eq hI (by omega) ht, nI_add]
    · by_cases e : s = k
      · rw [e]; omega
      · have := h3 s (by omega)
        omega
/-! the nap that had best be given up -/
def BGp (u : MS) (lo j : Nat) : Prop := lo ≤ j ∧ j < mNc u ∧ (∀ i, lo ≤ i → i < mNc u → AL u i ≤ AL u j) ∧ ∀ i, lo ≤ i → i < j → AL u i < AL u j
theorem nI_m1 {t : Nat} (h : t < 2147483648) : ¬ nI t = -1 := fun z => by
  have h1 := congrArg Int32.toInt z
  rw [nI_toInt h] at h1
  have h2 : (-1 : Int32).toInt = -1 := by decide +kernel
  omega
theorem bg_all {u : MS} (h8 : mNc u ≤ 8) : ∀ k, k ≤ mNc u → (k = 0 ∧ bgS u k = (-1, nI 0)) ∨ ∃ j, j < k ∧ bgS u k = (nI j, nI (AL u j)) ∧ (∀ i, i < k → AL u i ≤ AL u j) ∧ ∀ i, i < j → AL u i < AL u j := by
  intro k
  induction k with
  | zero => exact fun _ => Or.inl ⟨rfl, rfl⟩
  | succ k ih =>
    intro hk
    refine Or.inr ?_
    have hb := AL_le u k
    rcases ih (by omega) with ⟨e1, e2⟩ | ⟨j, e1, e2, e3, e4⟩
    · subst e1
      refine ⟨0, by omega, ?_, fun i hi => by rw [show i = 0 by omega]; exact Nat.le_refl _, fun i hi => absurd hi (Nat.not_lt_zero i)⟩
      show bgF u 0 (bgS u 0) = _
      rw [e2, bg_yes (Or.inl rfl), fAl_eq]
    · have hbj := AL_le u j
      by_cases h : AL u j < AL u k
      · refine ⟨k, by omega, ?_, fun i hi => ?_, fun i hi => ?_⟩
        · show bgF u k (bgS u k) = _
          rw [e2, bg_yes (Or.inr (by rw [fAl_eq]; exact (nI_ltI (by omega) (by omega)).mpr h)), fAl_eq]
        · by_cases e : i = k
          · rw [e]; exact Nat.le_refl _
          · have := e3 i (by omega)
            omega
        · have := e3 i (by omega)
          omega
      · refine ⟨j, by omega, ?_, fun i hi => ?_, e4⟩
        · show bgF u k (bgS u k) = _
          rw [e2, bg_no (fun z => z.elim (nI_m1 (by omega)) (fun z => by rw [fAl_eq] at z; exact h (ltN z)))]
        · by_cases e : i = k
          · rw [e]; omega
          · exact e3 i (by omega)
theorem bg_none {u : MS} (h : mNc u = 0) : fBG u = -1 := by
  rw [fBG, h]
  rfl
theorem bg_some {u : MS} (h8 : mNc u ≤ 8) (h : ¬ mNc u = 0) : ∃ j, fBG u = nI j ∧ BGp u 0 j := by
  rcases bg_all h8 (mNc u) (Nat.le_refl _) with ⟨e1, e2⟩ | ⟨j, e1, e2, e3, e4⟩
  · exact absurd e1 h
  · exact ⟨j, by rw [fBG, e2], Nat.zero_le _, e1, fun i _ hi => e3 i hi, fun i _ hi => e4 i hi⟩
theorem BGp.uniq {u : MS} {lo i j : Nat} (h : BGp u lo i) (g : BGp u lo j) : i = j := by
  obtain ⟨h1, h2, h3, h4⟩ := h
  obtain ⟨g1, g2, g3, g4⟩ := g
  rcases Nat.lt_trichotomy i j with z | z | z
  · have a := g4 i h1 z
    have b := h3 j g1 g2
    omega
  · exact z
  · have a := h4 j g1 z
    have b := g3 i h1 h2
    omega
/-- going down: one more nap at the front -/
theorem BGp.one {u : MS} {k : Nat} (h : k + 1 = mNc u) : BGp u k k :=
  ⟨Nat.le_refl _, by omega, fun i h1 h2 => by rw [show i = k by omega]; exact Nat.le_refl _, fun i h1 h2 => absurd h2 (by omega)⟩
theorem BGp.take {u : MS} {k j : Nat} (h : BGp u (k + 1) j) (hk : AL u j ≤ AL u k) : BGp u k k := by
  obtain ⟨h1, h2, h3, h4⟩ := h
  refine ⟨Nat.le_refl _, by omega, fun i g1 g2 => ?_, fun i g1 g2 => absurd g2 (by omega)⟩
  by_cases e : i = k
  · rw [e]; exact Nat.le_refl _
  · have := h3 i (by omega) g2
    omega
theorem BGp.skip {u : MS} {k j : Nat} (h : BGp u (k + 1) j) (hk : AL u k < AL u j) : BGp u k j := by
  obtain ⟨h1, h2, h3, h4⟩ := h
  refine ⟨by omega, h2, fun i g1 g2 => ?_, fun i g1 g2 => ?_⟩
  · by_cases e : i = k
    · rw [e]; omega
    · exact h3 i (by omega) g2
  · by_cases e : i = k
    · rw [e]; exact hk
    · exact h4 i (by omega) g2
theorem AL_len {u : MS} (hI : Inv u) {n : Nat} (hn : n < mNc u) : AL u n ≤ bN u n - aN u n := by
  obtain ⟨-, -, h1, h2⟩ := hI.2.2.2.2.2.2.1 n hn
  have h3 := ct_sub (P := alB u n) (Q := fun t => decide (aN u n ≤ t ∧ t < bN u n)) 360 (fun k _ z => (of_decide_eq_true z).2)
  have h4 := ct_iv (a := aN u n) (b := bN u n) 360
  show ct (alB u n) 360 ≤ _
  omega
/-! the best bee -/
def EN (u : MS) (b : Nat) : Nat := (TK u b * pN u b - AW u) + (AW u - TK u b * pN u b)
theorem ab_eq {x y : Nat} (hx : x < 1073741824) (hy : y < 1073741824) : abI (nI x - nI y) = nI ((x - y) + (y - x)) := by
  unfold abI
  by_cases h : y ≤ x
  · rw [nI_sub h, if_pos (show (0 : Int32) ≤ nI (x - y) from (nI_leI (a := 0) (b := x - y) (by omega) (by omega)).mpr (Nat.zero_le _))]
    congr 1
    omega
  · have h1 : ¬ 0 ≤ nI x - nI y := by
      rw [Int32.le_iff_toInt_le, pk_sub_toInt hx hy]
      have e0 : (0 : Int32).toInt = 0 := by decide +kernel
      rw [e0]
      omega
    rw [if_neg h1]
    have h2 : (0 : Int32) - (nI x - nI y) = nI y - nI x := by rw [Int32.zero_sub, Int32.neg_sub]
    rw [h2, nI_sub (show x ≤ y by omega), show (x - y) + (y - x) = y - x by omega]
theorem tp_le {u : MS} (hI : Inv u) {b : Nat} (hb : b < mBc u) : TK u b * pN u b ≤ 10800 := by
  have h1 := TK_le u b
  have h2 := hI.2.2.2.1
  have h3 := (hI.2.2.2.2.2.1 b hb).2.2.2.1
  have h4 : TK u b * pN u b ≤ 360 * 30 := Nat.mul_le_mul (by omega) h3
  omega
theorem EN_le {u : MS} (hI : Inv u) {b : Nat} (hb : b < mBc u) : EN u b ≤ 20000 := by
  have h1 := tp_le hI hb
  have h2 := AW_le u
  have h3 := hI.2.2.2.1
  unfold EN
  omega
theorem fEr_ab {u : MS} (hI : Inv u) {b : Nat} (hb : b < mBc u) : abI (fEr u b) = nI (EN u b) := by
  have h1 := tp_le hI hb
  have h2 := AW_le u
  have h3 := hI.2.2.2.1
  rw [fEr_eq, ab_eq (by omega) (by omega)]
  rfl
def BBp (u : MS) (lo j : Nat) : Prop := lo ≤ j ∧ j < mBc u ∧ (∀ i, lo ≤ i → i < mBc u → EN u j ≤ EN u i) ∧ ∀ i, lo ≤ i → i < j → EN u j < EN u i
theorem bb_all {u : MS} (hI : Inv u) : ∀ k, k ≤ mBc u → (k = 0 ∧ bbS u k = (-1, nI 0)) ∨ ∃ j, j < k ∧ bbS u k = (nI j, nI (EN u j)) ∧ (∀ i, i < k → EN u j ≤ EN u i) ∧ ∀ i, i < j → EN u j < EN u i := by
  have h6 := hI.2.2.1
  intro k
  induction k with
  | zero => exact fun _ => Or.inl ⟨rfl, rfl⟩
  | succ k ih =>
    intro hk
    refine Or.inr ?_
    have hb := EN_le hI (show k < mBc u by omega)
    rcases ih (by omega) with ⟨e1, e2⟩ | ⟨j, e1, e2, e3, e4⟩
    · subst e1
      refine ⟨0, by omega, ?_, fun i hi => by rw [show i = 0 by omega]; exact Nat.le_refl _, fun i hi => absurd hi (Nat.not_lt_zero i)⟩
      show bbF u 0 (bbS u 0) = _
      rw [e2, bb_yes (Or.inl rfl), fEr_ab hI (by omega)]
    · have hbj := EN_le hI (show j < mBc u by omega)
      by_cases h : EN u k < EN u j
      · refine ⟨k, by omega, ?_, fun i hi => ?_, fun i hi => ?_⟩
        · show bbF u k (bbS u k) = _
          rw [e2, bb_yes (Or.inr (by rw [fEr_ab hI (by omega)]; exact (nI_ltI (by omega) (by omega)).mpr h)), fEr_ab hI (by omega)]
        · by_cases e : i = k
          · rw [e]; exact Nat.le_refl _
          · have := e3 i (by omega)
            omega
        · have := e3 i (by omega)
          omega
      · refine ⟨j, by omega, ?_, fun i hi => ?_, e4⟩
        · show bbF u k (bbS u k) = _
          rw [e2, bb_no (fun z => z.elim (nI_m1 (by omega)) (fun z => by rw [fEr_ab hI (by omega)] at z; exact h (ltN z)))]
        · by_cases e : i = k
          · rw [e]; omega
          · exact e3 i (by omega)
theorem bb_none {u : MS} (h : mBc u = 0) : fBB u = -1 := by
  rw [fBB, h]
  rfl
theorem bb_some {u : MS} (hI : Inv u) (h : ¬ mBc u = 0) : ∃ j, fBB u = nI j ∧ BBp u 0 j := by
  rcases bb_all hI (mBc u) (Nat.le_refl _) with ⟨e1, e2⟩ | ⟨j, e1, e2, e3, e4⟩
  · exact absurd e1 h
  · exact ⟨j, by rw [fBB, e2], Nat.zero_le _, e1, fun i _ hi => e3 i hi, fun i _ hi => e4 i hi⟩
theorem BBp.uniq {u : MS} {lo i j : Nat} (h : BBp u lo i) (g : BBp u lo j) : i = j := by
  obtain ⟨h1, h2, h3, h4⟩ := h
  obtain ⟨g1, g2, g3, g4⟩ := g
  rcases Nat.lt_trichotomy i j with z | z | z
  · have a := g4 i h1 z
    have b := h3 j g1 g2
    omega
  · exact z
  · have a := h4 j g1 z
    have b := g3 i h1 h2
    omega
theorem BBp.one {u : MS} {k : Nat} (h : k + 1 = mBc u) : BBp u k k :=
  ⟨Nat.le_refl _, by omega, fun i h1 h2 => by rw [show i = k by omega]; exact Nat.le_refl _, fun i h1 h2 => absurd h2 (by omega)⟩
theorem BBp.take {u : MS} {k j : Nat} (h : BBp u (k + 1) j) (hk : EN u k ≤ EN u j) : BBp u k k := by
  obtain ⟨h1, h2, h3, h4⟩ := h
  refine ⟨Nat.le_refl _, by omega, fun i g1 g2 => ?_, fun i g1 g2 => absurd g2 (by omega)⟩
  by_cases e : i = k
  · rw [e]; exact Nat.le_refl _
  · have := h3 i (by omega) g2
    omega
theorem BBp.skip {u : MS} {k j : Nat} (h : BBp u (k + 1) j) (hk : EN u j < EN u k) : BBp u k j := by
  obtain ⟨h1, h2, h3, h4⟩ := h
  refine ⟨by omega, h2, fun i g1 g2 => ?_, fun i g1 g2 => ?_⟩
  · by_cases e : i = k
    · rw [e]; omega
    · exact h3 i (by omega) g2
  · by_cases e : i = k
    · rw [e]; exact hk
    · exact h4 i (by omega) g2
theorem ct_win {p q a : Nat} (hp : 2 ≤ p) : ∀ d, d ≤ p → ct (fun t => decide (t % p = q)) (a + d) = ct (fun t => decide (t % p = q)) a ∨ (ct (fun t => decide (t % p = q)) (a + d) = ct (fun t => decide (t % p = q)) a + 1 ∧ ∃ m, a ≤ m ∧ m < a + d ∧ m % p = q) := by
  intro d
  induction d with
  | zero => exact fun _ => Or.inl rfl
  | succ d ih =>
    intro hd
    have h0 : ct (fun t => decide (t % p = q)) (a + (d + 1)) = ct (fun t => decide (t % p = q)) (a + d) + (if decide ((a + d) % p = q) = true then 1 else 0) := rfl
    by_cases h : (a + d) % p = q
    · rw [h0, if_pos (decide_eq_true h)]
      rcases ih (by omega) with e | ⟨e, m, e1, e2, e3⟩
      · exact Or.inr ⟨by rw [e], a + d, by omega, by omega, h⟩
      · have h3 := tk_gap (d := a + d - m) hp e3 (by omega) (by omega)
        rw [show m + (a + d - m) = a + d by omega] at h3
        exact absurd h h3
    · rw [h0, if_neg (by rw [decide_eq_true_iff]; exact h), Nat.add_zero]
      rcases ih (by omega) with e | ⟨e, m, e1, e2, e3⟩
      · exact Or.inl e
      · exact Or.inr ⟨e, m, e1, by omega, e3⟩
theorem ct_blk {p q : Nat} (hp : 2 ≤ p) : ∀ k, ct (fun t => decide (t % p = q)) (p * k) ≤ k := by
  intro k
  induction k with
  | zero => exact Nat.le_refl _
  | succ k ih =>
    rw [Nat.mul_add, Nat.mul_one]
    rcases ct_win (q := q) (a := p * k) hp p (Nat.le_refl _) with e | ⟨e, -⟩ <;> rw [e] <;> omega
theorem ct_mono (P : Nat → Bool) {a b : Nat} (h : a ≤ b) : ct P a ≤ ct P b := by
  obtain ⟨d, rfl⟩ := Nat.exists_eq_add_of_le h
  induction d with
  | zero => exact Nat.le_refl _
  | succ d ih =>
    have h1 := ih (by omega)
    show ct P a ≤ ct P (a + d) + (if P (a + d) = true then 1 else 0)
    omega
theorem TK_few {u : MS} {b : Nat} (hp : 2 ≤ pN u b) : TK u b ≤ mNow u / pN u b + 1 := by
  have h1 : TK u b ≤ ct (fun t => decide (t % pN u b = qN u b)) (mNow u) := ct_sub _ (fun k _ z => decide_eq_true (of_decide_eq_true z).2)
  have h2 : mNow u ≤ pN u b * (mNow u / pN u b + 1) := by
    have h3 := Nat.div_add_mod (mNow u) (pN u b)
    have h4 := Nat.mod_lt (mNow u) (show 0 < pN u b by omega)
    rw [Nat.mul_add, Nat.mul_one]
    omega
  have h5 := ct_mono (fun t => decide (t % pN u b = qN u b)) h2
  have h6 := ct_blk (q := qN u b) hp (mNow u / pN u b + 1)
  omega
/-! one nap left out -/
theorem cB_go {u : MS} {j t : Nat} : ∀ m, m ≤ 8 → j < 8 → ct (nbB u (nI j) t) m + (if j < m ∧ cvB u j t = true then 1 else 0) = ct (fun n => cvB u n t) m := by
  intro m
  induction m with
  | zero =>
    intro _ _
    rw [if_neg (fun z => absurd z.1 (Nat.not_lt_zero j))]
    rfl
  | succ m ih =>
    intro hm hj
    have h1 := ih (by omega) hj
    show ct (nbB u (nI j) t) m + (if nbB u (nI j) t m = true then 1 else 0) + _ = ct (fun n => cvB u n t) m + (if cvB u m t = true then 1 else 0)
    by_cases e : m = j
    · subst e
      rw [if_neg (fun z => absurd z.1 (Nat.lt_irrefl m))] at h1
      rw [if_neg (show ¬ nbB u (nI m) t m = true by rw [nb_e rfl]; decide)]
      by_cases h : cvB u m t = true
      · rw [if_pos ⟨Nat.lt_succ_self m, h⟩, if_pos h]; omega
      · rw [if_neg (fun z => h z.2), if_neg h]; omega
    · have e2 : nbB u (nI j) t m = cvB u m t := by
        unfold nbB
        rw [decide_eq_true (show ¬ nI m = nI j from fun z => e (eN z))]
        exact Bool.true_and _
      rw [e2]
      by_cases h : j < m ∧ cvB u j t = true
      · rw [if_pos h] at h1
        rw [if_pos (show j < m + 1 ∧ cvB u j t = true from ⟨by omega, h.2⟩)]
        omega
      · rw [if_neg h] at h1
        rw [if_neg (show ¬ (j < m + 1 ∧ cvB u j t = true) from fun z => h ⟨by omega, z.2⟩)]
        omega
theorem cB_j {u : MS} {j t : Nat} (h8 : mNc u ≤ 8) (hj : j < mNc u) : cB u (nI j) t + (if cvB u j t = true then 1 else 0) = cN u t := by
  have h := cB_go (u := u) (j := j) (t := t) (mNc u) h8 (by omega)
  by_cases e : cvB u j t = true
  · rw [if_pos ⟨hj, e⟩] at h
    rw [if_pos e]; exact h
  · rw [if_neg (fun z => e z.2)] at h
    rw [if_neg e]; exact h
theorem awX_m1 {u : MS} (h8 : mNc u ≤ 8) (n : Nat) : ct (awX u (-1)) n = ct (awB u) n := ct_cong (fun k _ => by unfold awX awB; rw [cB_m1 h8])
theorem awX_j {u : MS} (h8 : mNc u ≤ 8) {j : Nat} (hj : j < mNc u) : ct (awX u (nI j)) 360 = ct (awB u) 360 + AL u j := by
  refine ct_add 360 (fun t _ => ?_)
  have h := cB_j (t := t) h8 hj
  by_cases e : cvB u j t = true
  · rw [if_pos e] at h
    rw [if_neg (show ¬ awB u t = true from fun z => by have := of_decide_eq_true z; omega)]
    by_cases e2 : cN u t = 1
    · rw [if_pos (show awX u (nI j) t = true from decide_eq_true (by omega)), if_pos (show alB u j t = true from decide_eq_true ⟨e2, e⟩)]
    · rw [if_neg (show ¬ awX u (nI j) t = true from fun z => by have := of_decide_eq_true z; omega), if_neg (show ¬ alB u j t = true from fun z => e2 (of_decide_eq_true z).1)]
  · rw [if_neg e] at h
    rw [if_neg (show ¬ alB u j t = true from fun z => e (of_decide_eq_true z).2)]
    by_cases e2 : cN u t = 0
    · rw [if_pos (show awX u (nI j) t = true from decide_eq_true (by omega)), if_pos (show awB u t = true from decide_eq_true e2)]
    · rw [if_neg (show ¬ awX u (nI j) t = true from fun z => by have := of_decide_eq_true z; omega), if_neg (show ¬ awB u t = true from fun z => e2 (of_decide_eq_true z))]
theorem give_aw {u : MS} (hI : Inv u) {j : Nat} (hj : j < mNc u) : ct (awB (uGive u j)) 360 = ct (awB u) 360 + AL u j := by
  have h2 := (iv_give hI hj).2.2.2.2.2.2.2.1
  have h3 := hI.2.2.2.2.2.2.2.1
  have h8 : mNc u ≤ 8 := hI.2.1
  refine ct_add 360 (fun t ht => ?_)
  have e1 : (if t < 360 ∧ cv2 (aN u j) (bN u j) t = true then mCov u t + (-1) else mCov u t) = nI (cN (uGive u j) t) := h2 t ht
  rw [h3 t ht] at e1
  have c1 := cN_le u t
  have c2 : cN (uGive u j) t ≤ mNc u - 1 := cN_le (uGive u j) t
  have key : cN (uGive u j) t + (if cvB u j t = true then 1 else 0) = cN u t := by
    by_cases e : cvB u j t = true
    · rw [if_pos ⟨ht, (show cv2 (aN u j) (bN u j) t = true from e)⟩] at e1
      rw [if_pos e]
      have e2 : nI (cN u t) = nI (cN (uGive u j) t + 1) := by
        rw [← nI_1, ← e1]
        have e3 : (-1 : Int32) + nI 1 = 0 := by decide +kernel
        rw [Int32.add_assoc]
        exact (Eq.trans (congrArg (fun z => nI (cN u t) + z) e3) (Int32.add_zero _)).symm
      exact (eN e2).symm
    · rw [if_neg (fun z => e z.2)] at e1
      rw [if_neg e]
      exact (eN e1).symm
  by_cases e : cvB u j t = true
  · rw [if_pos e] at key
    rw [if_neg (show ¬ awB u t = true from fun z => by have := of_decide_eq_true z; omega)]
    by_cases e2 : cN u t = 1
    · rw [if_pos (show awB (uGive u j) t = true from decide_eq_true (by omega)), if_pos (show alB u j t = true from decide_eq_true ⟨e2, e⟩)]
    · rw [if_neg (show ¬ awB (uGive u j) t = true from fun z => by have := of_decide_eq_true z; omega), if_neg (show ¬ alB u j t = true from fun z => e2 (of_decide_eq_true z).1)]
  · rw [if_neg e] at key
    rw [if_neg (show ¬ alB u j t = true from fun z => e (of_decide_eq_true z).2)]
    by_cases e2 : cN u t = 0
    · rw [if_pos (show awB (uGive u j) t = true from decide_eq_true (by omega)), if_pos (show awB u t = true from decide_eq_true e2)]
    · rw [if_neg (show ¬ awB (uGive u j) t = true from fun z => by have := of_decide_eq_true z; omega), if_neg (show ¬ awB u t = true from fun z => e2 (of_decide_eq_true z))]
