/-! the reference's invariant, step by step -/
def mPs (M : zM) (k : Nat) : Nat := (M.1 60 k).toNatClampNeg
theorem mPs_le {n w : Nat} {M : zM} (h : mInv n w M) {i : Nat} (hi : i < 8) : mPs M i ≤ 8 := by
  obtain ⟨x, z, -, hz, -, e, -⟩ := h.2 i hi
  unfold mPs
  rw [e, nI_clamp (n := z) (by omega)]
  exact hz
theorem mPs_eq {n w : Nat} {M : zM} (h : mInv n w M) {i : Nat} (hi : i < 8) : M.1 60 i = nI (mPs M i) := by
  obtain ⟨x, z, -, hz, -, e, -⟩ := h.2 i hi
  unfold mPs
  rw [e, nI_clamp (n := z) (by omega)]
theorem mN_lt {n w : Nat} {M : zM} (h : mInv n w M) {i : Nat} (hi : i < 8) (h0 : ¬ M.1 63 i = 0) : mAt M i < mPs M i := by
  obtain ⟨x, z, hx, hz, e1, e2, h3⟩ := h.2 i hi
  unfold mAt mPs
  rw [e1, e2, nI_clamp (n := x) (by omega), nI_clamp (n := z) (by omega)]
  exact h3 h0
/-- a memory that differs from one that holds at the process k alone, as far as its place goes -/
theorem mN_of {M M' : zM} (h : mN M) {k : Nat} (h1 : ∀ j, j ≠ k → M'.1 64 j = M.1 64 j ∧ M'.1 60 j = M.1 60 j ∧ M'.1 63 j = M.1 63 j) {x z : Nat} (hx : x < 8) (hz : z ≤ 8) (e1 : M'.1 64 k = nI x) (e2 : M'.1 60 k = nI z) (e3 : ¬ M'.1 63 k = 0 → x < z) : mN M' := by
  intro j hj
  by_cases hjk : j = k
  · subst hjk
    exact ⟨x, z, hx, hz, e1, e2, e3⟩
  · obtain ⟨a, b, c⟩ := h1 j hjk
    rw [a, b, c]
    exact h j hj
theorem mB_Rest {n w : Nat} {M : zM} (h : mB n w M) (k : Nat) : mB n w (mRest k M) := mB_si (mB_si (mB_si (mB_si h _ (by omega)) _ (by omega)) _ (by omega)) _ (by omega)
theorem mRest_64 (k : Nat) (M : zM) : (mRest k M).1 64 k = 0 := by
  unfold mRest
  rw [z_si_other _ _ (by omega), z_si_other _ _ (by omega), z_si_same]
theorem mRest_63 (k : Nat) (M : zM) : (mRest k M).1 63 k = 0 := by
  unfold mRest
  rw [z_si_other _ _ (by omega), z_si_other _ _ (by omega), z_si_other _ _ (by omega), z_si_same]
theorem mRest_far (k : Nat) (M : zM) {c j : Nat} (h : j ≠ k ∨ (c ≠ 63 ∧ c ≠ 64 ∧ c ≠ 65 ∧ c ≠ 67)) : (mRest k M).1 c j = M.1 c j := by
  unfold mRest
  rw [z_si_other _ _ (by omega), z_si_other _ _ (by omega), z_si_other _ _ (by omega), z_si_other _ _ (by omega)]
theorem mInv_Rest' {n w : Nat} {M M0 : zM} (hb : mB n w M) (h : mN M0) {k : Nat} (hk : k < 8) (h1 : ∀ j, j ≠ k → M.1 64 j = M0.1 64 j ∧ M.1 60 j = M0.1 60 j ∧ M.1 63 j = M0.1 63 j) (h2 : M.1 60 k = M0.1 60 k) : mInv n w (mRest k M) := by
  obtain ⟨x, z, hx, hz, e1, e2, e3⟩ := h k hk
  refine ⟨mB_Rest hb k, mN_of h (k := k) (x := 0) (z := z) (fun j hj => ?_) (by omega) hz (mRest_64 k M) ?_ (fun q => absurd (mRest_63 k M) q)⟩
  · rw [mRest_far k M (Or.inl hj), mRest_far k M (Or.inl hj), mRest_far k M (Or.inl hj)]
    exact h1 j hj
  · rw [mRest_far k M (Or.inr (by omega)), h2]
    exact e2
theorem mInv_Rest {n w : Nat} {M : zM} (h : mInv n w M) {k : Nat} (hk : k < 8) : mInv n w (mRest k M) := mInv_Rest' h.1 h.2 hk (fun _ _ => ⟨rfl, rfl, rfl⟩) rfl
theorem mBec_far (k : Nat) (v : Int32) (M : zM) {c j : Nat} (h : (c ≠ 63 ∧ c ≠ 73 ∧ (c ≠ 51 ∨ j ≠ 24)) ∨ (c ≠ 51 ∧ j ≠ k)) : (mBec k v M).1 c j = M.1 c j := by
  unfold mBec mBec1
  rw [z_si_other _ _ (by omega), z_si_other _ _ (by omega), z_si_other _ _ (by omega)]
theorem mBec_63 (k : Nat) (v : Int32) (M : zM) : (mBec k v M).1 63 k = v := by
  unfold mBec mBec1
  rw [z_si_other _ _ (by omega), z_si_other _ _ (by omega), z_si_same]
theorem mInv_Bec {n w : Nat} {M : zM} (h : mInv n w M) {k : Nat} (hk : k < 8) (v : Int32) (hlt : mAt M k < mPs M k) : mInv n w (mBec k v M) := by
  refine ⟨mB_si (mB_si (mB_si h.1 _ (by omega)) _ (by omega)) _ (by omega), mN_of h.2 (k := k) (x := mAt M k) (z := mPs M k) (fun j hj => ?_) (mAt_lt h hk) (mPs_le h hk) ?_ ?_ (fun _ => hlt)⟩
  · rw [mBec_far k v M (Or.inr ⟨by omega, hj⟩), mBec_far k v M (Or.inr ⟨by omega, hj⟩), mBec_far k v M (Or.inr ⟨by omega, hj⟩)]
    exact ⟨rfl, rfl, rfl⟩
  · rw [mBec_far k v M (Or.inl (by omega))]; exact mAt_eq h hk
  · rw [mBec_far k v M (Or.inl (by omega))]; exact mPs_eq h hk
theorem mInv_at0 {n w : Nat} {M : zM} (h : mInv n w M) {k : Nat} (hk : k < 8) : mInv n w (z_si M 64 k 0) := by
  obtain ⟨x, z, hx, hz, e1, e2, e3⟩ := h.2 k hk
  refine ⟨mB_si h.1 _ (by omega), mN_of h.2 (k := k) (x := 0) (z := z) (fun j hj => ?_) (by omega) hz (z_si_same _ _ _ _) ?_ (fun q => ?_)⟩
  · rw [z_si_other _ _ (by omega), z_si_other _ _ (by omega), z_si_other _ _ (by omega)]
    exact ⟨rfl, rfl, rfl⟩
  · rw [z_si_other _ _ (by omega)]; exact e2
  · rw [z_si_other _ _ (by omega)] at q
    have := e3 q
    omega
theorem mAt_0 {M : zM} {k : Nat} (h : M.1 64 k = 0) : mAt M k = 0 := by
  unfold mAt
  rw [h]
  rfl
theorem mInv_Rel {n w : Nat} {M : zM} (h : mInv n w M) {k : Nat} (hk : k < 8) : mInv n w (mRel k M) := by
  have h1 : mInv n w (mRel1 k M) := mInv_si h _ (by omega)
  have h2 : mInv n w (mRel2 k M) := mInv_si (mInv_at0 h1 hk) _ (by omega)
  unfold mRel
  split
  · exact h1
  · rename_i h0
    have h3 : mInv n w (z_si (mRel2 k M) 67 k (mRelD k (mRel2 k M))) := mInv_si h2 _ (by omega)
    refine mInv_Bec h3 hk _ ?_
    have a0 : mAt (z_si (mRel2 k M) 67 k (mRelD k (mRel2 k M))) k = 0 := mAt_0 (by
      unfold mRel2
      rw [z_si_other _ _ (by omega), z_si_other _ _ (by omega), z_si_same])
    rw [a0]
    have e := mPs_eq h3 hk
    rcases Nat.eq_zero_or_pos (mPs (z_si (mRel2 k M) 67 k (mRelD k (mRel2 k M))) k) with q | q
    · rw [q] at e
      unfold mRel2 at e
      rw [z_si_other _ _ (by omega), z_si_other _ _ (by omega), z_si_other _ _ (by omega)] at e
      exact absurd e h0
    · exact q
theorem mAdv1_far (k : Nat) (M : zM) {c j : Nat} (h : j ≠ k ∨ (c ≠ 64 ∧ c ≠ 65)) : (mAdv1 k M).1 c j = M.1 c j := by
  unfold mAdv1
  rw [z_si_other _ _ (by omega), z_si_other _ _ (by omega)]
theorem mAdv1_64 (k : Nat) (M : zM) : (mAdv1 k M).1 64 k = M.1 64 k + 1 := by
  unfold mAdv1
  rw [z_si_other _ _ (by omega), z_si_same]
theorem mInv_Adv {n w : Nat} {M : zM} (h : mInv n w M) {k : Nat} (hk : k < 8) (h0 : ¬ M.1 63 k = 0) : mInv n w (mAdv k M) := by
  have hlt := mN_lt h hk h0
  have hz := mPs_le h hk
  have hb : mB n w (mAdv1 k M) := mB_si (mB_si h.1 _ (by omega)) _ (by omega)
  have e1 : (mAdv1 k M).1 64 k = nI (mAt M k + 1) := by rw [mAdv1_64, mAt_eq h hk, nI_1]
  have e2 : (mAdv1 k M).1 60 k = nI (mPs M k) := by rw [mAdv1_far k M (Or.inr (by omega))]; exact mPs_eq h hk
  unfold mAdv
  split
  · exact mInv_Rest' hb h.2 hk (fun j hj => ⟨mAdv1_far k M (Or.inl hj), mAdv1_far k M (Or.inl hj), mAdv1_far k M (Or.inl hj)⟩) (mAdv1_far k M (Or.inr (by omega)))
  · rename_i hne
    rw [e1, e2, nI_eq (by omega) (by omega)] at hne
    exact ⟨hb, mN_of h.2 (k := k) (x := mAt M k + 1) (z := mPs M k) (fun j hj => ⟨mAdv1_far k M (Or.inl hj), mAdv1_far k M (Or.inl hj), mAdv1_far k M (Or.inl hj)⟩) (by omega) hz e1 e2 (fun _ => by omega)⟩
theorem mAdv_far (k : Nat) (M : zM) {c j : Nat} (h : j ≠ k ∨ (c ≠ 63 ∧ c ≠ 64 ∧ c ≠ 65 ∧ c ≠ 67)) : (mAdv k M).1 c j = M.1 c j := by
  unfold mAdv
  split
  · rw [mRest_far k _ h, mAdv1_far k M (by omega)]
  · exact mAdv1_far k M (by omega)
theorem mWake_far (k : Nat) (M : zM) {c j : Nat} (h : c ≠ 51 ∧ j ≠ k) : (mWake k M).1 c j = M.1 c j := by
  unfold mWake
  rw [mAdv_far k _ (Or.inl h.2), mBec_far k _ M (Or.inr h)]
theorem h1ne0 {x : Int32} (h : x = 1) : ¬ x = 0 := fun q => absurd (h.symm.trans q) (by decide)
theorem h2ne0 {x : Int32} (h : x = 2) : ¬ x = 0 := fun q => absurd (h.symm.trans q) (by decide)
theorem mInv_Wake {n w : Nat} {M : zM} (h : mInv n w M) {k : Nat} (hk : k < 8) (h0 : ¬ M.1 63 k = 0) : mInv n w (mWake k M) :=
  mInv_Adv (mInv_Bec h hk 1 (mN_lt h hk h0)) hk (h1ne0 (mBec_63 k 1 M))
theorem mInv_port {n w : Nat} {M : zM} (h : mInv n w M) (q : Nat) {z : Nat} (hz : z ≤ 4) : mInv n w (z_si M 75 q (nI z)) := ⟨mB_port h.1 q hz, mN_si h.2 _ (by omega)⟩
theorem mInv_Send0 {n w : Nat} {M : zM} (h : mInv n w M) (k : Nat) {q : Nat} (hq : q < 4) : mInv n w (mSend0 k q M) := by
  unfold mSend0
  split
  · exact mInv_si h _ (by omega)
  · rename_i h4
    have := mSz_lt h hq h4
    exact mInv_port (mInv_si h _ (by omega)) q (by omega)
theorem mSend0_63 (k q : Nat) (M : zM) (j : Nat) : (mSend0 k q M).1 63 j = M.1 63 j := by
  unfold mSend0 mPut
  split
  · rw [z_si_other _ _ (by omega)]
  · rw [z_si_other _ _ (by omega), z_si_other _ _ (by omega)]
theorem mInv_Send {n w : Nat} {M : zM} (h : mInv n w M) {k q : Nat} (hk : k < 8) (hq : q < 4) (hr : M.1 63 k = 1) : mInv n w (mSend n k q M) := by
  unfold mSend
  split
  · rename_i j hj
    have hj8 : j < 8 := Nat.lt_of_lt_of_le (mFW_lt hj) (mInv_n h)
    have hw := (mFW_P hj).1
    have hjk : k ≠ j := fun e => by rw [← e, hr] at hw; exact absurd hw (by decide)
    have h1 : mInv n w (z_si M 71 j (mMsg M k)) := mInv_si h _ (by omega)
    refine mInv_Adv (mInv_Wake h1 hj8 (h2ne0 (by rw [z_si_other _ _ (by omega)]; exact hw))) hk (h1ne0 ?_)
    rw [mWake_far j _ ⟨by omega, hjk⟩, z_si_other _ _ (by omega)]
    exact hr
  · exact mInv_Adv (mInv_Send0 h k hq) hk (h1ne0 (by rw [mSend0_63]; exact hr))
theorem mTake0_far (k q : Nat) (M : zM) {c j : Nat} (h : c ≠ 71 ∧ c ≠ 74) : (mTake0 k q M).1 c j = M.1 c j := by
  unfold mTake0
  show (mSh q 2 (mSh q 1 (mSh q 0 _))).1 c j = _
  unfold mSh
  rw [z_si_other _ _ (by omega), z_si_other _ _ (by omega), z_si_other _ _ (by omega), z_si_other _ _ (by omega)]
theorem mInv_Take0 {n w : Nat} {M : zM} (h : mInv n w M) (k q : Nat) : mInv n w (mTake0 k q M) := mInv_si (mInv_si (mInv_si (mInv_si h _ (by omega)) _ (by omega)) _ (by omega)) _ (by omega)
theorem mInv_Takes {n w : Nat} {M : zM} (h : mInv n w M) {k q : Nat} (hk : k < 8) (hq : q < 4) (hr : M.1 63 k = 1) : mInv n w (mTakes k q M) := by
  unfold mTakes
  split
  · exact mInv_Bec h hk _ (mN_lt h hk (h1ne0 hr))
  · rename_i h0
    have e := mSz_eq h hq
    have hz := mSz_le h hq
    have hp : mSz M q ≠ 0 := fun z => h0 (by rw [e, z]; rfl)
    rw [mTake0_far k q M (by omega), e, nI_m1 hp]
    exact mInv_Adv (mInv_port (mInv_Take0 h k q) q (by omega)) hk (h1ne0 (by rw [z_si_other _ _ (by omega), mTake0_far k q M (by omega)]; exact hr))
theorem mInv_Up {n w : Nat} {M : zM} (h : mInv n w M) {k q : Nat} (hk : k < 8) (hr : M.1 63 k = 1) : mInv n w (mUp n k q M) := by
  unfold mUp
  split
  · rename_i j hj
    have hj8 : j < 8 := Nat.lt_of_lt_of_le (mFW_lt hj) (mInv_n h)
    have hw := (mFW_P hj).1
    have hjk : k ≠ j := fun e => by rw [← e, hr] at hw; exact absurd hw (by decide)
    exact mInv_Adv (mInv_Wake h hj8 (h2ne0 hw)) hk (h1ne0 (by rw [mWake_far j _ ⟨by omega, hjk⟩]; exact hr))
  · unfold mUp0
    split
    · exact mInv_Adv h hk (h1ne0 hr)
    · exact mInv_Adv (mInv_si h _ (by omega)) hk (h1ne0 (by rw [z_si_other _ _ (by omega)]; exact hr))
theorem mInv_Down {n w : Nat} {M : zM} (h : mInv n w M) {k q : Nat} (hk : k < 8) (hr : M.1 63 k = 1) : mInv n w (mDown k q M) := by
  unfold mDown
  split
  · exact mInv_Bec h hk _ (mN_lt h hk (h1ne0 hr))
  · exact mInv_Adv (mInv_si h _ (by omega)) hk (h1ne0 (by rw [z_si_other _ _ (by omega)]; exact hr))
theorem mInv_Work {n w : Nat} {M : zM} (h : mInv n w M) {k : Nat} (hk : k < 8) (x : Int32) (hr : M.1 63 k = 1) : mInv n w (mWork k x M) := by
  have h2 : mInv n w (mWork2 k M) := mInv_si (mInv_si h _ (by omega)) _ (by omega)
  unfold mWork
  split
  · refine mInv_Adv h2 hk (h1ne0 ?_)
    unfold mWork2 mWork1
    rw [z_si_other _ _ (by omega), z_si_other _ _ (by omega)]
    exact hr
  · exact h2
theorem mInv_Do {n w : Nat} {M : zM} (h : mInv n w M) {k : Nat} (hk : k < 8) (hr : M.1 63 k = 1) : mInv n w (mDo n k M) := by
  unfold mDo
  split
  · exact mInv_Work h hk _ hr
  · rename_i h0
    have hn := (mNum_lt h hk h0).1
    split
    · exact mInv_Send h hk hn hr
    · split
      · exact mInv_Takes h hk hn hr
      · split
        · exact mInv_Up h hk hr
        · exact mInv_Down h hk hr
theorem mInv_Idle {n w : Nat} {M : zM} (h : mInv n w M) : mInv n w (mIdle M) := mInv_si h _ (by omega)
theorem mInv_Go {n w : Nat} (p : Int32) : ∀ (f : Nat) (M : zM), mInv n w M → mInv n w (mGo n p f M)
  | 0, M, h => h
  | f + 1, M, h => by
    unfold mGo
    split
    · exact mInv_Idle h
    · rename_i j hj
      have hj8 : j < 8 := Nat.lt_of_lt_of_le (mFR_lt hj) (mInv_n h)
      split
      · exact mInv_Do h hj8 (mFR_P hj).1
      · exact mInv_Go p f _ (mInv_Do h hj8 (mFR_P hj).1)
theorem mInv_For {n w : Nat} {f : Nat → zM → zM} {N : Nat} (hf : ∀ i M, i < N → mInv n w M → mInv n w (f i M)) : ∀ (k i : Nat) (M : zM), i + k ≤ N → mInv n w M → mInv n w (kFor f k i M)
  | 0, _, _, _, h => h
  | k + 1, i, M, hk, h => mInv_For hf k (i + 1) (f i M) (by omega) (hf i M (by omega) h)
theorem mInv_RelOne {n w : Nat} (k : Nat) (M : zM) (hk : k < 8) (h : mInv n w M) : mInv n w (mRelOne k M) := by
  unfold mRelOne
  split
  · split
    · exact h
    · split
      · refine mInv_si ?_ _ (by omega)
        unfold mRelA
        split
        · exact mInv_Rel h hk
        · exact mInv_si h _ (by omega)
      · exact h
  · exact h
theorem mInv_RestOne {n w : Nat} (d : Int32) (k : Nat) (M : zM) (hk : k < 8) (h : mInv n w M) : mInv n w (mRestOne d k M) := by
  unfold mRestOne
  split
  · exact mInv_Rest h hk
  · exact h
theorem mInv_Miss1 {n w : Nat} {k : Nat} {M : zM} (h : mInv n w M) : mInv n w (mMiss1 k M) := mInv_si (mInv_si h _ (by omega)) _ (by omega)
theorem mMiss1_far (k : Nat) (M : zM) {c j : Nat} (h : c ≠ 68 ∧ c ≠ 67) : (mMiss1 k M).1 c j = M.1 c j := by
  unfold mMiss1
  rw [z_si_other _ _ (by omega), z_si_other _ _ (by omega)]
theorem mInv_Miss2 {n w : Nat} {k q : Nat} {M : zM} (h : mInv n w M) (hk : k < 8) (h0 : ¬ M.1 63 k = 0) : mInv n w (mMiss2 k q M) := by
  have hlt := mN_lt h hk h0
  unfold mMiss2
  split
  · have h2 : mInv n w (z_si (z_si M 64 k 0) 65 k 0) := mInv_si (mInv_at0 h hk) _ (by omega)
    refine mInv_Bec h2 hk _ ?_
    rw [mAt_0 (by rw [z_si_other _ _ (by omega), z_si_same])]
    have e : mPs (z_si (z_si M 64 k 0) 65 k 0) k = mPs M k := by
      unfold mPs
      rw [z_si_other _ _ (by omega), z_si_other _ _ (by omega)]
    omega
  · exact h
theorem mInv_Miss3 {n w : Nat} {q : Nat} {M : zM} (h : mInv n w M) : mInv n w (mMiss3 n q M) := by
  unfold mMiss3
  split
  · exact mInv_For (N := n) (fun i M hi hM => mInv_RestOne _ i M (Nat.lt_of_lt_of_le hi (mInv_n h)) hM) _ _ _ (by omega) (mInv_si h _ (by omega))
  · exact h
theorem mInv_MissOne {n w : Nat} (k : Nat) (M : zM) (hk : k < 8) (h : mInv n w M) : mInv n w (mMissOne n k M) := by
  unfold mMissOne
  split
  · split
    · exact h
    · rename_i h0
      split
      · exact mInv_Miss3 (mInv_Miss2 (mInv_Miss1 h) hk (by rw [mMiss1_far k M (by omega)]; exact h0))
      · exact h
  · exact h
theorem mInv_On2 {n w : Nat} (d : Int32) (k : Nat) (M : zM) (hk : k < 8) (h : mInv n w M) : mInv n w (mOn2 d k M) := by
  unfold mOn2
  split
  · split
    · exact mInv_Rest h hk
    · exact mInv_si (mInv_Rest h hk) _ (by omega)
  · exact h
