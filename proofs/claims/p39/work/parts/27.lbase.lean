section QL
variable {p : Program} {l : Launch} {e : Env} {R : Room} {s : State} {m : MethodId} {args : Array Value} {below : List Frame} {meth : Method} {c : Code} {H : Heap} {locs : List Loc} {cells slots : Nat} {Q : State → Prop} {cc : ByteArray} {pc : Nat} {ls : Array Slot} {rest : List Value} {D : va_G} {cl : List vw_C} {ws : va_W} {tys : List (ClassId × FieldType)} {a : Nat} {A : Nat → Prop} {H0 : Heap}
theorem kept9 {H9 : Heap} (hP : va_P D cl ws H) (hk9 : ∀ q : Nat, q < H.size → ¬ H.size ≤ q → H9[q]? = H[q]?) : va_P D cl ws H9 :=
  hP.kept fun k q hk => hk9 q.1 (hP k q hk).lt (Nat.not_le.mpr (hP k q hk).lt)
end QL
theorem ct_cong {P Q : Nat → Bool} : ∀ {n : Nat}, (∀ k, k < n → P k = Q k) → ct P n = ct Q n := by
  intro n
  induction n with
  | zero => exact fun _ => rfl
  | succ n ih =>
    intro h
    show ct P n + (if P n = true then 1 else 0) = ct Q n + (if Q n = true then 1 else 0)
    rw [ih (fun k hk => h k (Nat.lt_succ_of_lt hk)), h n (Nat.lt_succ_self n)]
theorem InvO_bee {u : MS} {on : Nat → Int32} {x y : Nat} (hO : InvO u on) (hx : x ≤ 30) (hy : y < x) : InvO (mSc u, mNc u, mBc u + 1, mNow u, mRoom u, mRate u, mSip u, mTea u, mSpl u, mAft u, mHt u, mFr u, mTo u, mCov u, upd (mPe u) (mBc u) (nI x), upd (mBe u) (mBc u) (nI y)) (obv on x y 360) := by
  intro t ht
  show (if t < 360 ∧ ht2 x y t = true then on t + nI 1 else on t) = nI (ct (fun b => decide (t % (upd (mPe u) (mBc u) (nI x) b).toNatClampNeg = (upd (mBe u) (mBc u) (nI y) b).toNatClampNeg)) (mBc u) + (if decide (t % (upd (mPe u) (mBc u) (nI x) (mBc u)).toNatClampNeg = (upd (mBe u) (mBc u) (nI y) (mBc u)).toNatClampNeg) = true then 1 else 0))
  rw [pk_us, pk_us, nI_clamp (by omega), nI_clamp (by omega), ct_cong (Q := fun b => htB u b t) (fun k hk => by rw [pk_un (by omega), pk_un (by omega)]; rfl), hO t ht]
  by_cases h : ht2 x y t = true
  · rw [if_pos ⟨ht, h⟩, if_pos (show decide (t % x = y) = true from h)]
    exact nI_1 _
  · rw [if_neg (fun z => h z.2), if_neg (show ¬ decide (t % x = y) = true from h)]
    rfl
