/-! how many orders can still be done: it falls with each that is no WORK -/
def mC (M : zM) (i : Nat) : Nat := if M.1 63 i = 1 then mPs M i - mAt M i else if M.1 63 i = 2 then mPs M i - mAt M i - 1 else 0
def mNu (M : zM) : Nat → Nat
  | 0 => 0
  | i + 1 => mNu M i + mC M i
theorem mC_eq {M M' : zM} {i : Nat} (h1 : M'.1 63 i = M.1 63 i) (h2 : M'.1 64 i = M.1 64 i) (h3 : M'.1 60 i = M.1 60 i) : mC M' i = mC M i := by
  unfold mC mPs mAt
  rw [h1, h2, h3]
theorem mNu_same {M M' : zM} : ∀ N, (∀ j, j < N → mC M' j = mC M j) → mNu M' N = mNu M N
  | 0, _ => rfl
  | N + 1, h => by
    show mNu M' N + mC M' N = mNu M N + mC M N
    rw [mNu_same N (fun j hj => h j (by omega)), h N (by omega)]
theorem mNu_upd {M M' : zM} {k : Nat} : ∀ N, k < N → (∀ j, j ≠ k → mC M' j = mC M j) → mNu M' N + mC M k = mNu M N + mC M' k
  | 0, hk, _ => absurd hk (by omega)
  | N + 1, hk, h => by
    show mNu M' N + mC M' N + mC M k = mNu M N + mC M N + mC M' k
    by_cases e : k = N
    · subst e
      rw [mNu_same k (fun j hj => h j (by omega))]
      omega
    · have := mNu_upd N (by omega) h
      rw [h N (fun q => e q.symm)]
      omega
theorem mC_le {n w : Nat} {M : zM} (h : mInv n w M) {i : Nat} (hi : i < 8) : mC M i ≤ 8 := by
  have := mPs_le h hi
  unfold mC
  split
  · omega
  · split <;> omega
theorem mNu_le {n w : Nat} {M : zM} (h : mInv n w M) : ∀ N, N ≤ 8 → mNu M N ≤ 8 * N
  | 0, _ => by show 0 ≤ _; omega
  | N + 1, hN => by
    have h1 := mNu_le h N (by omega)
    have h2 := mC_le h (i := N) (by omega)
    show mNu M N + mC M N ≤ _
    omega
theorem mC_1 {M : zM} {i : Nat} (h : M.1 63 i = 1) : mC M i = mPs M i - mAt M i := by
  unfold mC
  rw [if_pos h]
theorem mC_2 {M : zM} {i : Nat} (h : M.1 63 i = 2) : mC M i = mPs M i - mAt M i - 1 := by
  unfold mC
  rw [h, if_neg (by decide), if_pos rfl]
theorem mC_0 {M : zM} {i : Nat} (h : M.1 63 i = 0) : mC M i = 0 := by
  unfold mC
  rw [h, if_neg (by decide), if_neg (by decide)]
theorem mC_Adv {n w : Nat} {M : zM} (h : mInv n w M) {k : Nat} (hk : k < 8) (hr : M.1 63 k = 1) : mC (mAdv k M) k = mPs M k - mAt M k - 1 := by
  have hlt := mN_lt h hk (h1ne0 hr)
  have hz := mPs_le h hk
  have e1 : (mAdv1 k M).1 64 k = nI (mAt M k + 1) := by rw [mAdv1_64, mAt_eq h hk, nI_1]
  have e2 : (mAdv1 k M).1 60 k = nI (mPs M k) := by rw [mAdv1_far k M (Or.inr (by omega))]; exact mPs_eq h hk
  unfold mAdv
  split
  · rename_i he
    rw [e1, e2, nI_eq (by omega) (by omega)] at he
    rw [mC_0 (mRest_63 k _)]
    omega
  · have e3 : (mAdv1 k M).1 63 k = 1 := by rw [mAdv1_far k M (Or.inr (by omega))]; exact hr
    rw [mC_1 e3]
    unfold mPs mAt at *
    rw [e1, e2, nI_clamp (by omega), nI_clamp (by omega)]
    omega
theorem mNu_Adv {n w : Nat} {M : zM} (h : mInv n w M) {k : Nat} (hk : k < 8) (hr : M.1 63 k = 1) : mNu (mAdv k M) 8 + 1 = mNu M 8 := by
  have hlt := mN_lt h hk (h1ne0 hr)
  have h1 := mNu_upd (M := M) (M' := mAdv k M) 8 hk (fun j hj => mC_eq (mAdv_far k M (Or.inl hj)) (mAdv_far k M (Or.inl hj)) (mAdv_far k M (Or.inl hj)))
  rw [mC_Adv h hk hr, mC_1 hr] at h1
  omega
theorem mNu_Wake {n w : Nat} {M : zM} (h : mInv n w M) {k : Nat} (hk : k < 8) (hr : M.1 63 k = 2) : mNu (mWake k M) 8 = mNu M 8 := by
  have hlt := mN_lt h hk (h2ne0 hr)
  have h1 := mNu_upd (M := M) (M' := mWake k M) 8 hk (fun j hj => mC_eq (mWake_far k M ⟨by omega, hj⟩) (mWake_far k M ⟨by omega, hj⟩) (mWake_far k M ⟨by omega, hj⟩))
  have hb := mInv_Bec h hk 1 hlt
  have e : mC (mWake k M) k = mPs (mBec k 1 M) k - mAt (mBec k 1 M) k - 1 := mC_Adv hb hk (mBec_63 k 1 M)
  have e1 : mPs (mBec k 1 M) k = mPs M k := by unfold mPs; rw [mBec_far k 1 M (Or.inl (by omega))]
  have e2 : mAt (mBec k 1 M) k = mAt M k := by unfold mAt; rw [mBec_far k 1 M (Or.inl (by omega))]
  rw [e, e1, e2, mC_2 hr] at h1
  omega
theorem mNu_Bec {n w : Nat} {M : zM} (h : mInv n w M) {k : Nat} (hk : k < 8) (hr : M.1 63 k = 1) : mNu (mBec k 2 M) 8 + 1 = mNu M 8 := by
  have hlt := mN_lt h hk (h1ne0 hr)
  have h1 := mNu_upd (M := M) (M' := mBec k 2 M) 8 hk (fun j hj => mC_eq (mBec_far k 2 M (Or.inr ⟨by omega, hj⟩)) (mBec_far k 2 M (Or.inr ⟨by omega, hj⟩)) (mBec_far k 2 M (Or.inr ⟨by omega, hj⟩)))
  have e1 : mPs (mBec k 2 M) k = mPs M k := by unfold mPs; rw [mBec_far k 2 M (Or.inl (by omega))]
  have e2 : mAt (mBec k 2 M) k = mAt M k := by unfold mAt; rw [mBec_far k 2 M (Or.inl (by omega))]
  rw [mC_2 (mBec_63 k 2 M), mC_1 hr, e1, e2] at h1
  omega
theorem mNu_si {M : zM} {c k : Nat} (x : Int32) (hc : c ≠ 60 ∧ c ≠ 63 ∧ c ≠ 64) : mNu (z_si M c k x) 8 = mNu M 8 :=
  mNu_same 8 (fun j _ => mC_eq (by rw [z_si_other _ _ (by omega)]) (by rw [z_si_other _ _ (by omega)]) (by rw [z_si_other _ _ (by omega)]))
theorem mNu_Do {n w : Nat} {M : zM} (h : mInv n w M) {k : Nat} (hk : k < 8) (hr : M.1 63 k = 1) (h0 : ¬ mOrd M k = 0) : mNu (mDo n k M) 8 + 1 = mNu M 8 := by
  have hn := (mNum_lt h hk h0).1
  unfold mDo
  rw [if_neg h0]
  split
  · unfold mSend
    split
    · rename_i j hj
      have hj8 : j < 8 := Nat.lt_of_lt_of_le (mFW_lt hj) (mInv_n h)
      have hw := (mFW_P hj).1
      have hjk : k ≠ j := fun e => by rw [← e, hr] at hw; exact absurd hw (by decide)
      have h1 : mInv n w (z_si M 71 j (mMsg M k)) := mInv_si h _ (by omega)
      have hw1 : (z_si M 71 j (mMsg M k)).1 63 j = 2 := by rw [z_si_other _ _ (by omega)]; exact hw
      have h2 : mInv n w (mSend1 k j M) := mInv_Wake h1 hj8 (h2ne0 hw1)
      have e := mNu_Adv h2 hk (by unfold mSend1; rw [mWake_far j _ ⟨by omega, hjk⟩, z_si_other _ _ (by omega)]; exact hr)
      have e2 : mNu (mSend1 k j M) 8 = _ := mNu_Wake h1 hj8 hw1
      rw [e2, mNu_si _ (by omega)] at e
      exact e
    · have e := mNu_Adv (mInv_Send0 h k hn) hk (by rw [mSend0_63]; exact hr)
      have e2 : mNu (mSend0 k (mNum M k).toNatClampNeg M) 8 = mNu M 8 := by
        unfold mSend0
        split
        · exact mNu_si _ (by omega)
        · unfold mPut
          rw [mNu_si _ (by omega), mNu_si _ (by omega)]
      rw [e2] at e
      exact e
  · split
    · unfold mTakes
      split
      · exact mNu_Bec h hk hr
      · rename_i hz0
        have e := mSz_eq h hn
        have hz := mSz_le h hn
        have hp : mSz M (mNum M k).toNatClampNeg ≠ 0 := fun z => hz0 (by rw [e, z]; rfl)
        rw [mTake0_far k _ M (by omega), e, nI_m1 hp]
        have e1 := mNu_Adv (mInv_port (mInv_Take0 h k (mNum M k).toNatClampNeg) (mNum M k).toNatClampNeg (z := mSz M (mNum M k).toNatClampNeg - 1) (by omega)) hk (by rw [z_si_other _ _ (by omega), mTake0_far k _ M (by omega)]; exact hr)
        rw [e1, mNu_si _ (by omega)]
        exact mNu_same 8 (fun j _ => mC_eq (mTake0_far k _ M (by omega)) (mTake0_far k _ M (by omega)) (mTake0_far k _ M (by omega)))
    · split
      · unfold mUp
        split
        · rename_i j hj
          have hj8 : j < 8 := Nat.lt_of_lt_of_le (mFW_lt hj) (mInv_n h)
          have hw := (mFW_P hj).1
          have hjk : k ≠ j := fun e => by rw [← e, hr] at hw; exact absurd hw (by decide)
          have e := mNu_Adv (mInv_Wake h hj8 (h2ne0 hw)) hk (by rw [mWake_far j _ ⟨by omega, hjk⟩]; exact hr)
          rw [mNu_Wake h hj8 hw] at e
          exact e
        · unfold mUp0
          split
          · exact mNu_Adv h hk hr
          · have e := mNu_Adv (mInv_si (c := 76) (k := (mNum M k).toNatClampNeg) h (M.1 76 (mNum M k).toNatClampNeg + 1) (by omega)) hk (by rw [z_si_other _ _ (by omega)]; exact hr)
            rw [mNu_si _ (by omega)] at e
            exact e
      · unfold mDown
        split
        · exact mNu_Bec h hk hr
        · have e := mNu_Adv (mInv_si (c := 76) (k := (mNum M k).toNatClampNeg) h (M.1 76 (mNum M k).toNatClampNeg - 1) (by omega)) hk (by rw [z_si_other _ _ (by omega)]; exact hr)
          rw [mNu_si _ (by omega)] at e
          exact e
theorem mNu_pos {n w : Nat} {M : zM} (h : mInv n w M) {k : Nat} (hk : k < 8) (hr : M.1 63 k = 1) (h0 : ¬ mOrd M k = 0) : 0 < mNu M 8 := by
  have := mNu_Do h hk hr h0
  omega
/-! the windows, in numbers -/
def mSp (M : zM) (j : Nat) : Nat := (M.1 53 j).toNatClampNeg
def mTl (M : zM) : Nat → Nat → Nat
  | 0, _ => 0
  | k + 1, i => mSp M i + mTl M k (i + 1)
theorem mSp_ok {n w : Nat} {M : zM} (h : mInv n w M) {j : Nat} (hj : j < w) : M.1 53 j = nI (mSp M j) ∧ 1 ≤ mSp M j ∧ mSp M j ≤ 30 := by
  obtain ⟨v, h1, h2, e⟩ := h.1.2.2.2.2.1 j hj
  unfold mSp
  rw [e, nI_clamp (n := v) (by omega)]
  exact ⟨rfl, h1, h2⟩
theorem mTl_le {n w : Nat} {M : zM} (h : mInv n w M) : ∀ k i, i + k ≤ w → k ≤ mTl M k i ∧ mTl M k i ≤ 30 * k
  | 0, i, _ => by show 0 ≤ 0 ∧ 0 ≤ _; omega
  | k + 1, i, hk => by
    have h1 := mTl_le h k (i + 1) (by omega)
    have h2 := (mSp_ok h (j := i) (by omega)).2
    show k + 1 ≤ mSp M i + mTl M k (i + 1) ∧ mSp M i + mTl M k (i + 1) ≤ _
    omega
theorem mSum_eq {n w : Nat} {M : zM} (h : mInv n w M) : ∀ k i a, i + k ≤ w → mSum M k i (nI a) = nI (a + mTl M k i)
  | 0, i, a, _ => rfl
  | k + 1, i, a, hk => by
    show mSum M k (i + 1) (nI a + M.1 53 i) = nI (a + (mSp M i + mTl M k (i + 1)))
    rw [(mSp_ok h (j := i) (by omega)).1, nI_add, mSum_eq h k (i + 1) _ (by omega), Nat.add_assoc]
theorem mAll_eq {n w : Nat} {M : zM} (h : mInv n w M) : mAll M w = nI (mTl M w 0) := by
  have := mSum_eq h w 0 0 (by omega)
  rw [Nat.zero_add] at this
  exact this
theorem mRem_eq {n w : Nat} {M : zM} (h : mInv n w M) {t : Nat} (ht : t < 2 ^ 31) (et : M.1 51 28 = nI t) (hw : w ≠ 0) : mRem M w = nI (t % mTl M w 0) ∧ t % mTl M w 0 < mTl M w 0 := by
  have h1 := mTl_le h w 0 (by omega)
  have h8 : w ≤ 8 := h.1.2.1
  unfold mRem
  rw [et, mAll_eq h, pk_rem ht (by omega) (by omega)]
  exact ⟨rfl, Nat.mod_lt _ (by omega)⟩
theorem mAll_0 {n w : Nat} {M : zM} (h : mInv n w M) : mAll M w = 0 ↔ w = 0 := by
  have h1 := mTl_le h w 0 (by omega)
  have h8 : w ≤ 8 := h.1.2.1
  rw [mAll_eq h]
  constructor
  · intro q
    have := nI_z (by omega) q
    omega
  · intro q
    subst q
    rfl
theorem mIx_le (M : zM) : ∀ k i t, (mIx M k i t).1 ≤ i + k
  | 0, i, t => by show i ≤ i + 0; omega
  | k + 1, i, t => by
    have h := mIx_le M k (i + 1) (t - M.1 53 i)
    unfold mIx
    split
    · show i ≤ _; omega
    · omega
def mGive (n w : Nat) (M : zM) : zM → Prop := fun _ => True
noncomputable def mGiv (n w : Nat) (M : zM) : zM := if mHold M w false < 0 then M else if M.1 54 (mHold M w false).toNatClampNeg = 1 then mGo n (mHold M w false) 65 M else M
noncomputable def mTick1 (n : Nat) (M : zM) : zM := kFor (mMissOne n) n 0 (kFor mRelOne n 0 M)
noncomputable def mTick (n w : Nat) (M : zM) : zM := z_si (mGiv n w (mTick1 n M)) 51 28 ((mGiv n w (mTick1 n M)).1 51 28 + 1)
noncomputable def mTicks (n w : Nat) : Nat → zM → zM
  | 0, M => M
  | k + 1, M => mTicks n w k (mTick n w M)
theorem mInv_Tick1 {n w : Nat} {M : zM} (h : mInv n w M) : mInv n w (mTick1 n M) := by
  have hn := mInv_n h
  exact mInv_For (N := n) (fun i M hi hM => mInv_MissOne i M (by omega) hM) _ _ _ (by omega) (mInv_For (N := n) (fun i M hi hM => mInv_RelOne i M (by omega) hM) _ _ _ (by omega) h)
theorem mInv_Giv {n w : Nat} {M : zM} (h : mInv n w M) : mInv n w (mGiv n w M) := by
  unfold mGiv
  split
  · exact h
  · split
    · exact mInv_Go _ _ _ h
    · exact h
theorem mInv_Tick {n w : Nat} {M : zM} (h : mInv n w M) : mInv n w (mTick n w M) := mInv_si (mInv_Giv (mInv_Tick1 h)) _ (by omega)
