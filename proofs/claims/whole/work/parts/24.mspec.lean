/-! WHAT THE REFERENCE'S METHODS DO, over numbered memory. Cell 51: the object (2 windows, 5 processes, 24 clock, 28 time, 29 lost, 30 idle); 52 owner, 53 span, 54 state, 55 action, 56 partition, 57 priority, 58 period, 59 limit, 60 size, 61 order, 62 number, 63 is, 64 at, 65 worked, 66 rounds, 67 deadline, 68 missed, 69 skipped, 70 work, 71 letter, 72 next, 73 since, 74 message, 75 messages, 76 count -/
def mRest (k : Nat) (M : zM) : zM := z_si (z_si (z_si (z_si M 63 k 0) 64 k 0) 65 k 0) 67 k (-1)
def mBec1 (k : Nat) (v : Int32) (M : zM) : zM := z_si (z_si M 63 k v) 51 24 ((z_si M 63 k v).1 51 24 + 1)
def mBec (k : Nat) (v : Int32) (M : zM) : zM := z_si (mBec1 k v M) 73 k ((mBec1 k v M).1 51 24)
def mRel1 (k : Nat) (M : zM) : zM := z_si M 66 k (M.1 66 k + 1)
def mRel2 (k : Nat) (M : zM) : zM := z_si (z_si (mRel1 k M) 64 k 0) 65 k 0
def mRelD (k : Nat) (M : zM) : Int32 := if M.1 59 k ≤ 0 then (-1) else M.1 51 28 + M.1 59 k
def mRel (k : Nat) (M : zM) : zM := if (mRel1 k M).1 60 k = 0 then mRel1 k M else mBec k 1 (z_si (mRel2 k M) 67 k (mRelD k (mRel2 k M)))
def mAdv1 (k : Nat) (M : zM) : zM := z_si (z_si M 64 k (M.1 64 k + 1)) 65 k 0
def mAdv (k : Nat) (M : zM) : zM := if (mAdv1 k M).1 64 k = (mAdv1 k M).1 60 k then mRest k (mAdv1 k M) else mAdv1 k M
def mWake (k : Nat) (M : zM) : zM := mAdv k (mBec k 1 M)
def mAt (M : zM) (k : Nat) : Nat := (M.1 64 k).toNatClampNeg
def mPt (M : zM) (k : Nat) : Nat := (M.1 56 k).toNatClampNeg
def mSz (M : zM) (q : Nat) : Nat := (M.1 75 q).toNatClampNeg
def mIsReady (M : zM) (d : Int32) (k : Nat) : Prop := M.1 63 k = 1 ∧ M.1 56 k = d
def mWaits (M : zM) (a d : Int32) (k : Nat) : Prop := M.1 63 k = 2 ∧ M.1 61 (8 * k + mAt M k) = a ∧ M.1 62 (8 * k + mAt M k) = d
def mBef (M : zM) (k : Nat) : Option Nat → Prop
  | none => True
  | some j => M.1 57 j < M.1 57 k ∨ (M.1 57 k = M.1 57 j ∧ M.1 73 k < M.1 73 j)
noncomputable def mFst (P : Nat → Prop) (M : zM) : Nat → Nat → Option Nat → Option Nat
  | 0, _, b => b
  | k + 1, i, b => mFst P M k (i + 1) (@ite _ (P i ∧ mBef M i b) (Classical.propDecidable _) (some i) b)
def mEnc : Option Nat → Int32
  | none => (-1)
  | some j => nI j
noncomputable def mFR (n : Nat) (d : Int32) (M : zM) : Option Nat := mFst (mIsReady M d) M n 0 none
noncomputable def mFW (n : Nat) (a d : Int32) (M : zM) : Option Nat := mFst (mWaits M a d) M n 0 none
theorem mFst_no {P : Nat → Prop} {M : zM} {k i : Nat} {b : Option Nat} (h : ¬ (P i ∧ mBef M i b)) : mFst P M (k + 1) i b = mFst P M k (i + 1) b := by rw [mFst, if_neg h]
theorem mFst_yes {P : Nat → Prop} {M : zM} {k i : Nat} {b : Option Nat} (h : P i ∧ mBef M i b) : mFst P M (k + 1) i b = mFst P M k (i + 1) (some i) := by rw [mFst, if_pos h]
theorem mFst_lt (P : Nat → Prop) (M : zM) : ∀ (k i : Nat) (b : Option Nat), (∀ j, b = some j → j < i) → ∀ j, mFst P M k i b = some j → j < i + k
  | 0, i, b, hb, j, h => by have := hb j h; omega
  | k + 1, i, b, hb, j, h => by
    have := mFst_lt P M k (i + 1) _ (fun j h => ?_) j h
    · omega
    · split at h
      · cases h; omega
      · have := hb j h; omega
theorem mFst_P (P : Nat → Prop) (M : zM) : ∀ (k i : Nat) (b : Option Nat), (∀ j, b = some j → P j) → ∀ j, mFst P M k i b = some j → P j
  | 0, i, b, hb, j, h => hb j h
  | k + 1, i, b, hb, j, h => by
    refine mFst_P P M k (i + 1) _ (fun j h => ?_) j h
    split at h
    · rename_i q; cases h; exact q.1
    · exact hb j h
theorem mFR_lt {n : Nat} {d : Int32} {M : zM} {j : Nat} (h : mFR n d M = some j) : j < n := by
  have := mFst_lt _ M n 0 none (fun j h => by cases h) j h
  omega
theorem mFW_lt {n : Nat} {a d : Int32} {M : zM} {j : Nat} (h : mFW n a d M = some j) : j < n := by
  have := mFst_lt _ M n 0 none (fun j h => by cases h) j h
  omega
theorem mFR_P {n : Nat} {d : Int32} {M : zM} {j : Nat} (h : mFR n d M = some j) : mIsReady M d j := mFst_P _ M n 0 none (fun j h => by cases h) j h
theorem mFW_P {n : Nat} {a d : Int32} {M : zM} {j : Nat} (h : mFW n a d M = some j) : mWaits M a d j := mFst_P _ M n 0 none (fun j h => by cases h) j h
def mMsg (M : zM) (k : Nat) : Int32 := nI k + 8 * M.1 66 k
def mPut (q z : Nat) (x : Int32) (M : zM) : zM := z_si (z_si M 74 (4 * q + z) x) 75 q (nI (z + 1))
def mSend0 (k q : Nat) (M : zM) : zM := if M.1 75 q = 4 then z_si M 51 29 (M.1 51 29 + 1) else mPut q (mSz M q) (mMsg M k) M
def mSend1 (k j : Nat) (M : zM) : zM := mWake j (z_si M 71 j (mMsg M k))
noncomputable def mSend (n k q : Nat) (M : zM) : zM := match mFW n 2 (nI q) M with
  | some j => mAdv k (mSend1 k j M)
  | none => mAdv k (mSend0 k q M)
def mSh (q i : Nat) (M : zM) : zM := z_si M 74 (4 * q + i) (M.1 74 (4 * q + (i + 1)))
def mTake0 (k q : Nat) (M : zM) : zM := kFor (mSh q) 3 0 (z_si M 71 k (M.1 74 (4 * q)))
def mTakes (k q : Nat) (M : zM) : zM := if M.1 75 q = 0 then mBec k 2 M else mAdv k (z_si (mTake0 k q M) 75 q ((mTake0 k q M).1 75 q - 1))
def mUp0 (s : Nat) (M : zM) : zM := if 9 ≤ M.1 76 s then M else z_si M 76 s (M.1 76 s + 1)
noncomputable def mUp (n k s : Nat) (M : zM) : zM := match mFW n 4 (nI s) M with
  | some j => mAdv k (mWake j M)
  | none => mAdv k (mUp0 s M)
def mDown (k s : Nat) (M : zM) : zM := if M.1 76 s = 0 then mBec k 2 M else mAdv k (z_si M 76 s (M.1 76 s - 1))
def mOrd (M : zM) (k : Nat) : Int32 := M.1 61 (8 * k + mAt M k)
def mNum (M : zM) (k : Nat) : Int32 := M.1 62 (8 * k + mAt M k)
def mWork1 (k : Nat) (M : zM) : zM := z_si M 70 k (M.1 70 k + 1)
def mWork2 (k : Nat) (M : zM) : zM := z_si (mWork1 k M) 65 k ((mWork1 k M).1 65 k + 1)
def mWork (k : Nat) (x : Int32) (M : zM) : zM := if (mWork2 k M).1 65 k = x then mAdv k (mWork2 k M) else mWork2 k M
noncomputable def mDo (n k : Nat) (M : zM) : zM :=
  if mOrd M k = 0 then mWork k (mNum M k) M else if mOrd M k = 1 then mSend n k (mNum M k).toNatClampNeg M else if mOrd M k = 2 then mTakes k (mNum M k).toNatClampNeg M else if mOrd M k = 3 then mUp n k (mNum M k).toNatClampNeg M else mDown k (mNum M k).toNatClampNeg M
def mIdle (M : zM) : zM := z_si M 51 30 (M.1 51 30 + 1)
def mRelA (k : Nat) (M : zM) : zM := if M.1 63 k = 0 then mRel k M else z_si M 69 k (M.1 69 k + 1)
def mRelOne (k : Nat) (M : zM) : zM := if M.1 54 (mPt M k) = 1 then (if M.1 58 k = 0 then M else if M.1 72 k = M.1 51 28 then z_si (mRelA k M) 72 k ((mRelA k M).1 72 k + (mRelA k M).1 58 k) else M) else M
def mRestOne (d : Int32) (k : Nat) (M : zM) : zM := if M.1 56 k = d then mRest k M else M
def mMiss1 (k : Nat) (M : zM) : zM := z_si (z_si M 68 k (M.1 68 k + 1)) 67 k (-1)
def mMiss2 (k q : Nat) (M : zM) : zM := if M.1 55 q = 1 then mBec k 1 (z_si (z_si M 64 k 0) 65 k 0) else M
def mMiss3 (n q : Nat) (M : zM) : zM := if M.1 55 q = 2 then kFor (mRestOne (nI q)) n 0 (z_si M 54 q 2) else M
def mMissOne (n k : Nat) (M : zM) : zM := if M.1 54 (mPt M k) = 1 then (if M.1 63 k = 0 then M else if M.1 67 k = M.1 51 28 then mMiss3 n (mPt M k) (mMiss2 k (mPt M k) (mMiss1 k M)) else M) else M
def mOn2 (d : Int32) (k : Nat) (M : zM) : zM := if M.1 56 k = d then (if (mRest k M).1 58 k ≤ 0 then mRest k M else z_si (mRest k M) 72 k ((mRest k M).1 51 28)) else M
def mOn (n : Nat) (a : Int32) (M : zM) : zM := kFor (mOn2 a) n 0 (z_si M 54 a.toNatClampNeg 1)
def mTell (M : zM) (i : Nat) (w : Int32) : Int32 :=
  if w = 0 then M.1 63 i else if w = 1 then M.1 64 i else if w = 2 then M.1 65 i else if w = 3 then M.1 66 i else if w = 4 then M.1 67 i
  else if w = 5 then M.1 68 i else if w = 6 then M.1 69 i else if w = 7 then M.1 70 i else if w = 8 then M.1 71 i else if w = 9 then M.1 72 i else (-1)
def mAllOff (M : zM) : Prop := M.1 54 0 = 0 ∧ M.1 54 1 = 0 ∧ M.1 54 2 = 0
def mSum (M : zM) : Nat → Nat → Int32 → Int32
  | 0, _, a => a
  | k + 1, i, a => mSum M k (i + 1) (a + M.1 53 i)
/-- the windows are passed while the rest of the time reaches over them: at most k of them, from i on -/
def mIx (M : zM) : Nat → Nat → Int32 → Nat × Int32
  | 0, i, t => (i, t)
  | k + 1, i, t => if t < M.1 53 i then (i, t) else mIx M k (i + 1) (t - M.1 53 i)
def mAll (M : zM) (w : Nat) : Int32 := mSum M w 0 0
def mRem (M : zM) (w : Nat) : Int32 := M.1 51 28 - M.1 51 28 / mAll M w * mAll M w
def mHold (M : zM) (w : Nat) (left : Bool) : Int32 := if mAll M w = 0 then (-1) else if left then M.1 53 (mIx M w 0 (mRem M w)).1 - (mIx M w 0 (mRem M w)).2 else M.1 52 (mIx M w 0 (mRem M w)).1
noncomputable def mGo (n : Nat) (p : Int32) : Nat → zM → zM
  | 0, M => M
  | f + 1, M => match mFR n p M with
    | none => mIdle M
    | some j => if mOrd M j = 0 then mDo n j M else mGo n p f (mDo n j M)
def mB (n w : Nat) (M : zM) : Prop :=
  n ≤ 8 ∧ w ≤ 8 ∧ M.1 51 5 = nI n ∧ M.1 51 2 = nI w ∧ (∀ j, j < w → ∃ v, 1 ≤ v ∧ v ≤ 30 ∧ M.1 53 j = nI v) ∧ (∀ j, j < w → ∃ q, q < 3 ∧ M.1 52 j = nI q) ∧ (∀ i, i < 8 → ∃ q, q < 3 ∧ M.1 56 i = nI q) ∧ (∀ i x, i < 8 → x < 8 → M.1 61 (8 * i + x) = 0 ∨ ∃ q, q < 4 ∧ M.1 62 (8 * i + x) = nI q) ∧ (∀ q, q < 4 → ∃ z, z ≤ 4 ∧ M.1 75 q = nI z)
/-- where each process stands; what is not RESTING stands at an order -/
def mN (M : zM) : Prop := ∀ i, i < 8 → ∃ x z, x < 8 ∧ z ≤ 8 ∧ M.1 64 i = nI x ∧ M.1 60 i = nI z ∧ (¬ M.1 63 i = 0 → x < z)
def mInv (n w : Nat) (M : zM) : Prop := mB n w M ∧ mN M
theorem mB_si {n w : Nat} {M : zM} (h : mB n w M) {c k : Nat} (x : Int32) (hc : (c = 51 ∧ k ≠ 5 ∧ k ≠ 2) ∨ c < 51 ∨ c = 54 ∨ c = 55 ∨ (57 ≤ c ∧ c < 61) ∨ (63 ≤ c ∧ c < 75) ∨ c = 76) : mB n w (z_si M c k x) := by
  obtain ⟨h1, h2, h3, h4, h5, h6, h7, h9, h10⟩ := h
  refine ⟨h1, h2, ?_, ?_, ?_, ?_, ?_, ?_, ?_⟩
  · rw [z_si_other _ _ (by omega)]; exact h3
  · rw [z_si_other _ _ (by omega)]; exact h4
  · intro j hj; rw [z_si_other _ _ (by omega)]; exact h5 j hj
  · intro j hj; rw [z_si_other _ _ (by omega)]; exact h6 j hj
  · intro j hj; rw [z_si_other _ _ (by omega)]; exact h7 j hj
  · intro j y hj hy; rw [z_si_other _ _ (by omega), z_si_other _ _ (by omega)]; exact h9 j y hj hy
  · intro j hj; rw [z_si_other _ _ (by omega)]; exact h10 j hj
theorem mB_port {n w : Nat} {M : zM} (h : mB n w M) (q : Nat) {z : Nat} (hz : z ≤ 4) : mB n w (z_si M 75 q (nI z)) := by
  obtain ⟨h1, h2, h3, h4, h5, h6, h7, h9, h10⟩ := h
  refine ⟨h1, h2, ?_, ?_, ?_, ?_, ?_, ?_, ?_⟩
  · rw [z_si_other _ _ (by omega)]; exact h3
  · rw [z_si_other _ _ (by omega)]; exact h4
  · intro j hj; rw [z_si_other _ _ (by omega)]; exact h5 j hj
  · intro j hj; rw [z_si_other _ _ (by omega)]; exact h6 j hj
  · intro j hj; rw [z_si_other _ _ (by omega)]; exact h7 j hj
  · intro j y hj hy; rw [z_si_other _ _ (by omega), z_si_other _ _ (by omega)]; exact h9 j y hj hy
  · intro j hj
    by_cases hjq : j = q
    · subst hjq
      exact ⟨z, hz, z_si_same _ _ _ _⟩
    · rw [z_si_other _ _ (by omega)]; exact h10 j hj
theorem mN_si {M : zM} (h : mN M) {c k : Nat} (x : Int32) (hc : c ≠ 64 ∧ c ≠ 60 ∧ c ≠ 63) : mN (z_si M c k x) := by
  intro j hj
  rw [z_si_other _ _ (by omega), z_si_other _ _ (by omega), z_si_other _ _ (by omega)]
  exact h j hj
theorem mInv_si {n w : Nat} {M : zM} (h : mInv n w M) {c k : Nat} (x : Int32) (hc : (c = 51 ∧ k ≠ 5 ∧ k ≠ 2) ∨ c < 51 ∨ c = 54 ∨ c = 55 ∨ (57 ≤ c ∧ c < 60) ∨ (65 ≤ c ∧ c < 75) ∨ c = 76) : mInv n w (z_si M c k x) := ⟨mB_si h.1 x (by omega), mN_si h.2 x (by omega)⟩
theorem mInv_n {n w : Nat} {M : zM} (h : mInv n w M) : n ≤ 8 := h.1.1
theorem mInv_cnt {n w : Nat} {M : zM} (h : mInv n w M) : M.1 51 5 = nI n := h.1.2.2.1
theorem mPt_lt {n w : Nat} {M : zM} (h : mInv n w M) {i : Nat} (hi : i < 8) : mPt M i < 3 := by
  obtain ⟨q, hq, e⟩ := h.1.2.2.2.2.2.2.1 i hi
  unfold mPt
  rw [e, nI_clamp (n := q) (by omega)]
  exact hq
theorem mPt_eq {n w : Nat} {M : zM} (h : mInv n w M) {i : Nat} (hi : i < 8) : M.1 56 i = nI (mPt M i) := by
  obtain ⟨q, hq, e⟩ := h.1.2.2.2.2.2.2.1 i hi
  unfold mPt
  rw [e, nI_clamp (n := q) (by omega)]
theorem mAt_lt {n w : Nat} {M : zM} (h : mInv n w M) {i : Nat} (hi : i < 8) : mAt M i < 8 := by
  obtain ⟨x, z, hx, -, e, -⟩ := h.2 i hi
  unfold mAt
  rw [e, nI_clamp (n := x) (by omega)]
  exact hx
theorem mAt_eq {n w : Nat} {M : zM} (h : mInv n w M) {i : Nat} (hi : i < 8) : M.1 64 i = nI (mAt M i) := by
  obtain ⟨x, z, hx, -, e, -⟩ := h.2 i hi
  unfold mAt
  rw [e, nI_clamp (n := x) (by omega)]
theorem mIx_eq {n w : Nat} {M : zM} (h : mInv n w M) {i : Nat} (hi : i < 8) : 8 * nI i + M.1 64 i = nI (8 * i + mAt M i) := by
  rw [mAt_eq h hi, show (8 : Int32) = nI 8 from rfl, pk_mul, nI_add]
theorem mIx_lt {n w : Nat} {M : zM} (h : mInv n w M) {i : Nat} (hi : i < 8) : 8 * i + mAt M i < 64 := by have := mAt_lt h hi; omega
theorem mSz_le {n w : Nat} {M : zM} (h : mInv n w M) {q : Nat} (hq : q < 4) : mSz M q ≤ 4 := by
  obtain ⟨z, hz, e⟩ := h.1.2.2.2.2.2.2.2.2 q hq
  unfold mSz
  rw [e, nI_clamp (n := z) (by omega)]
  exact hz
theorem mSz_eq {n w : Nat} {M : zM} (h : mInv n w M) {q : Nat} (hq : q < 4) : M.1 75 q = nI (mSz M q) := by
  obtain ⟨z, hz, e⟩ := h.1.2.2.2.2.2.2.2.2 q hq
  unfold mSz
  rw [e, nI_clamp (n := z) (by omega)]
theorem mSz_lt {n w : Nat} {M : zM} (h : mInv n w M) {q : Nat} (hq : q < 4) (h4 : ¬ M.1 75 q = 4) : mSz M q < 4 := by
  have h1 := mSz_le h hq
  have h2 := mSz_eq h hq
  rcases Nat.lt_or_ge (mSz M q) 4 with h3 | h3
  · exact h3
  · exact absurd (by rw [h2, show mSz M q = 4 by omega]; rfl) h4
theorem mNum_lt {n w : Nat} {M : zM} (h : mInv n w M) {i : Nat} (hi : i < 8) (h0 : ¬ mOrd M i = 0) : (mNum M i).toNatClampNeg < 4 ∧ mNum M i = nI (mNum M i).toNatClampNeg := by
  rcases h.1.2.2.2.2.2.2.2.1 i (mAt M i) hi (mAt_lt h hi) with h1 | ⟨q, hq, e⟩
  · exact absurd h1 h0
  · have e2 : mNum M i = nI q := e
    rw [e2, nI_clamp (n := q) (by omega)]
    exact ⟨hq, rfl⟩
