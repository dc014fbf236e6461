theorem h21 : ((2 : Int32) = 1) = False := eq_false (by decide)
theorem h12 : ((1 : Int32) = 2) = False := eq_false (by decide)
def mWadd (w : Nat) (a x : Int32) (M : zM) : zM := z_si (z_si (z_si M 52 w a) 53 w x) 51 2 (nI (w + 1))
def mProc (n : Nat) (a b d q : Int32) (M : zM) : zM := z_si (z_si (z_si (z_si (z_si (z_si (z_si M 56 n a) 57 n b) 58 n d) 59 n q) 67 n (-1)) 72 n (-1)) 51 5 (nI (n + 1))
def mOadd (k z : Nat) (b d : Int32) (M : zM) : zM := z_si (z_si (z_si M 61 (8 * k + z) b) 62 (8 * k + z) d) 60 k (nI (z + 1))
def mOkW (a x : Int32) (M : zM) : Prop := (0 ≤ a ∧ a ≤ 2) ∧ (1 ≤ x ∧ x ≤ 30) ∧ mAllOff M
def mOkP (a b d q : Int32) (M : zM) : Prop := (0 ≤ a ∧ a ≤ 2) ∧ (0 ≤ b ∧ b ≤ 9) ∧ (0 ≤ d ∧ d ≤ 60) ∧ (0 ≤ q ∧ q ≤ 60) ∧ mAllOff M
def mNumOk (b d : Int32) : Prop := (b = 0 → 1 ≤ d ∧ d ≤ 20) ∧ (¬ b = 0 → 0 ≤ d ∧ d ≤ 3)
def mOkO (a b d : Int32) (M : zM) : Prop := (0 ≤ a ∧ a ≤ M.1 51 5 - 1) ∧ (0 ≤ b ∧ b ≤ 4) ∧ mAllOff M ∧ mNumOk b d
def mOkS (a : Int32) (M : zM) : Prop := (0 ≤ a ∧ a ≤ M.1 51 5 - 1) ∧ ¬ 0 < M.1 58 a.toNatClampNeg ∧ M.1 63 a.toNatClampNeg = 0 ∧ M.1 54 (mPt M a.toNatClampNeg) = 1
def mCount (n w : Nat) (x : Int32) (M : zM) : Int32 :=
  if x = 0 then M.1 51 28 else if x = 1 then mHold M w false else if x = 2 then mHold M w true else if x = 3 then M.1 51 29 else if x = 4 then M.1 51 30 else if x = 5 then nI n else if x = 6 then nI w else (-1)
theorem mA_ok {n w : Nat} {M : zM} (hI : mInv n w M) {a : Int32} (h : 0 ≤ a ∧ a ≤ M.1 51 5 - 1) : a = nI a.toNatClampNeg ∧ a.toNatClampNeg < n := by
  have hn := mInv_n hI
  rw [mInv_cnt hI] at h
  rcases Nat.eq_zero_or_pos n with h0 | h0
  · subst h0
    have h1 := h.1
    have h2 := h.2
    rw [Int32.le_iff_toInt_le] at h1 h2
    have e : (nI 0 - 1).toInt = -1 := by decide
    have e0 : (0 : Int32).toInt = 0 := by decide
    omega
  · rw [nI_m1 (by omega)] at h
    have := kR_ok (c := nI (n - 1)) (N := n - 1) (nI_toInt (by omega)) h
    exact ⟨this.1, by omega⟩
theorem mHold_t {M : zM} {w : Nat} {i : Nat} {t : Int32} (h0 : ¬ mAll M w = 0) (hz : mIx M w 0 (mRem M w) = (i, t)) : mHold M w true = M.1 53 i - t := by
  unfold mHold
  rw [if_neg h0, hz]
  rfl
theorem mHold_f {M : zM} {w : Nat} {i : Nat} {t : Int32} (h0 : ¬ mAll M w = 0) (hz : mIx M w 0 (mRem M w) = (i, t)) : mHold M w false = M.1 52 i := by
  unfold mHold
  rw [if_neg h0, hz]
  rfl
theorem mIx_yes {M : zM} {k i : Nat} {t : Int32} (h : t < M.1 53 i) : mIx M (k + 1) i t = (i, t) := by rw [mIx, if_pos h]
theorem mIx_no {M : zM} {k i : Nat} {t : Int32} (h : ¬ t < M.1 53 i) : mIx M (k + 1) i t = mIx M k (i + 1) (t - M.1 53 i) := by rw [mIx, if_neg h]
theorem mP_no {n w : Nat} {M : zM} (hI : mInv n w M) {k i : Nat} {t : Int32} (hk : i + (k + 1) = w) (hP : ∃ r, t = nI r ∧ r < mTl M (k + 1) i) (h : ¬ t < M.1 53 i) : ∃ r, t - M.1 53 i = nI r ∧ r < mTl M k (i + 1) := by
  obtain ⟨r, er, hr⟩ := hP
  have hs := mSp_ok hI (j := i) (by omega)
  have hT := mTl_le hI (k + 1) i (by omega)
  have h8 : w ≤ 8 := hI.1.2.1
  have hr2 : r < mSp M i + mTl M k (i + 1) := hr
  rw [er, hs.1, nI_ltI (by omega) (by omega)] at h
  exact ⟨r - mSp M i, by rw [er, hs.1, pk_sub (by omega)], by omega⟩
