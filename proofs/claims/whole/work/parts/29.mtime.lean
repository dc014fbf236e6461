/-! the reference's time stays in all of a tick but its end -/
theorem mAdv_t (k : Nat) (M : zM) : (mAdv k M).1 51 28 = M.1 51 28 := mAdv_far k M (Or.inr (by omega))
theorem mBec_t (k : Nat) (v : Int32) (M : zM) : (mBec k v M).1 51 28 = M.1 51 28 := mBec_far k v M (Or.inl (by omega))
theorem mWake_t (k : Nat) (M : zM) : (mWake k M).1 51 28 = M.1 51 28 := by unfold mWake; rw [mAdv_t, mBec_t]
theorem mRel_t (k : Nat) (M : zM) : (mRel k M).1 51 28 = M.1 51 28 := by
  unfold mRel mRel2 mRel1
  split
  · rw [z_si_other _ _ (by omega)]
  · rw [mBec_t, z_si_other _ _ (by omega), z_si_other _ _ (by omega), z_si_other _ _ (by omega), z_si_other _ _ (by omega)]
theorem mSend_t (n k q : Nat) (M : zM) : (mSend n k q M).1 51 28 = M.1 51 28 := by
  unfold mSend
  split
  · unfold mSend1
    rw [mAdv_t, mWake_t, z_si_other _ _ (by omega)]
  · rw [mAdv_t]
    unfold mSend0 mPut
    split
    · rw [z_si_other _ _ (by omega)]
    · rw [z_si_other _ _ (by omega), z_si_other _ _ (by omega)]
theorem mTakes_t (k q : Nat) (M : zM) : (mTakes k q M).1 51 28 = M.1 51 28 := by
  unfold mTakes
  split
  · rw [mBec_t]
  · rw [mAdv_t, z_si_other _ _ (by omega), mTake0_far k q M (by omega)]
theorem mUp_t (n k q : Nat) (M : zM) : (mUp n k q M).1 51 28 = M.1 51 28 := by
  unfold mUp
  split
  · rw [mAdv_t, mWake_t]
  · rw [mAdv_t]
    unfold mUp0
    split
    · rfl
    · rw [z_si_other _ _ (by omega)]
theorem mDown_t (k q : Nat) (M : zM) : (mDown k q M).1 51 28 = M.1 51 28 := by
  unfold mDown
  split
  · rw [mBec_t]
  · rw [mAdv_t, z_si_other _ _ (by omega)]
theorem mWork_t (k : Nat) (x : Int32) (M : zM) : (mWork k x M).1 51 28 = M.1 51 28 := by
  unfold mWork mWork2 mWork1
  split
  · rw [mAdv_t, z_si_other _ _ (by omega), z_si_other _ _ (by omega)]
  · rw [z_si_other _ _ (by omega), z_si_other _ _ (by omega)]
theorem mDo_t (n k : Nat) (M : zM) : (mDo n k M).1 51 28 = M.1 51 28 := by
  unfold mDo
  split
  · rw [mWork_t]
  · split
    · rw [mSend_t]
    · split
      · rw [mTakes_t]
      · split
        · rw [mUp_t]
        · rw [mDown_t]
theorem mGo_t (n : Nat) (p : Int32) : ∀ (f : Nat) (M : zM), (mGo n p f M).1 51 28 = M.1 51 28
  | 0, M => rfl
  | f + 1, M => by
    unfold mGo
    split
    · unfold mIdle; rw [z_si_other _ _ (by omega)]
    · split
      · rw [mDo_t]
      · rw [mGo_t n p f, mDo_t]
theorem kFor_t {f : Nat → zM → zM} (hf : ∀ i M, (f i M).1 51 28 = M.1 51 28) : ∀ (k i : Nat) (M : zM), (kFor f k i M).1 51 28 = M.1 51 28
  | 0, _, _ => rfl
  | k + 1, i, M => by
    show (kFor f k (i + 1) (f i M)).1 51 28 = _
    rw [kFor_t hf k (i + 1), hf]
theorem mRelOne_t (k : Nat) (M : zM) : (mRelOne k M).1 51 28 = M.1 51 28 := by
  unfold mRelOne
  split
  · split
    · rfl
    · split
      · rw [z_si_other _ _ (by omega)]
        unfold mRelA
        split
        · rw [mRel_t]
        · rw [z_si_other _ _ (by omega)]
      · rfl
  · rfl
theorem mRestOne_t (d : Int32) (k : Nat) (M : zM) : (mRestOne d k M).1 51 28 = M.1 51 28 := by
  unfold mRestOne
  split
  · exact mRest_far k M (Or.inr (by omega))
  · rfl
theorem mMissOne_t (n k : Nat) (M : zM) : (mMissOne n k M).1 51 28 = M.1 51 28 := by
  unfold mMissOne
  split
  · split
    · rfl
    · split
      · have e1 : (mMiss1 k M).1 51 28 = M.1 51 28 := mMiss1_far k M (by omega)
        have e2 : (mMiss2 k (mPt M k) (mMiss1 k M)).1 51 28 = M.1 51 28 := by
          unfold mMiss2
          split
          · rw [mBec_t, z_si_other _ _ (by omega), z_si_other _ _ (by omega), e1]
          · exact e1
        unfold mMiss3
        split
        · rw [kFor_t (fun i M => mRestOne_t _ i M), z_si_other _ _ (by omega), e2]
        · exact e2
      · rfl
  · rfl
theorem mTick1_t (n : Nat) (M : zM) : (mTick1 n M).1 51 28 = M.1 51 28 := by
  unfold mTick1
  rw [kFor_t (fun i M => mMissOne_t n i M), kFor_t (fun i M => mRelOne_t i M)]
theorem mGiv_t (n w : Nat) (M : zM) : (mGiv n w M).1 51 28 = M.1 51 28 := by
  unfold mGiv
  split
  · rfl
  · split
    · rw [mGo_t]
    · rfl
theorem mTick_t {n w t : Nat} {M : zM} (h : M.1 51 28 = nI t) : (mTick n w M).1 51 28 = nI (t + 1) := by
  unfold mTick
  rw [z_si_same, mGiv_t, mTick1_t, h, nI_1]
theorem mGo_none {n : Nat} {p : Int32} {f : Nat} {M : zM} (h : mFR n p M = none) : mGo n p (f + 1) M = mIdle M := by rw [mGo, h]
theorem mGo_work {n : Nat} {p : Int32} {f : Nat} {M : zM} {j : Nat} (h : mFR n p M = some j) (h0 : mOrd M j = 0) : mGo n p (f + 1) M = mDo n j M := by
  rw [mGo, h]
  exact if_pos h0
theorem mGo_on {n : Nat} {p : Int32} {f : Nat} {M : zM} {j : Nat} (h : mFR n p M = some j) (h0 : ¬ mOrd M j = 0) : mGo n p (f + 1) M = mGo n p f (mDo n j M) := by
  rw [mGo, h]
  exact if_neg h0
theorem mHold_ok {n w : Nat} {M : zM} (h : mInv n w M) {t : Nat} (ht : t < 2 ^ 31) (et : M.1 51 28 = nI t) (h1 : ¬ mHold M w false < 0) : mHold M w false = nI (mHold M w false).toNatClampNeg ∧ (mHold M w false).toNatClampNeg < 3 := by
  unfold mHold at h1 ⊢
  split
  · rename_i h0
    rw [if_pos h0] at h1
    exact absurd (by decide) h1
  · rename_i h0
    have hw : w ≠ 0 := fun q => h0 ((mAll_0 h).mpr q)
    have hr := mRem_eq h ht et hw
    have key : ∀ k i t, i + k = w → (∃ r, t = nI r ∧ r < mTl M k i) → (mIx M k i t).1 < w := by
      intro k
      induction k with
      | zero =>
        intro i t hk hP
        obtain ⟨r, -, hr⟩ := hP
        exact absurd hr (by show ¬ r < 0; omega)
      | succ k ih =>
        intro i t hk hP
        obtain ⟨r, er, hr⟩ := hP
        unfold mIx
        split
        · show i < w; omega
        · rename_i hlt
          have hs := mSp_ok h (j := i) (by omega)
          have hT := mTl_le h (k + 1) i (by omega)
          have h8 : w ≤ 8 := h.1.2.1
          have hr2 : r < mSp M i + mTl M k (i + 1) := hr
          rw [er, hs.1, nI_ltI (by omega) (by omega)] at hlt
          exact ih (i + 1) _ (by omega) ⟨r - mSp M i, by rw [er, hs.1, pk_sub (by omega)], by omega⟩
    have hlt := key w 0 (mRem M w) (by omega) ⟨_, hr.1, hr.2⟩
    obtain ⟨q, hq, e⟩ := h.1.2.2.2.2.2.1 _ hlt
    show (if false = true then _ else M.1 52 _) = _ ∧ _
    simp only [Bool.false_eq_true, if_false]
    rw [e, nI_clamp (n := q) (by omega)]
    exact ⟨rfl, hq⟩
