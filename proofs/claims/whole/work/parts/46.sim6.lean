/-! SIM: the windows, a tick, a run -/
theorem nI_xor_nn {a b : Nat} (ha : a < 2 ^ 31) (hb : b < 2 ^ 31) : (0 : Int32) ≤ nI a ^^^ nI b := by
  have e : nI a ^^^ nI b = nI (a ^^^ b) := by
    apply Int32.toBitVec_inj.1
    show BitVec.ofNat 32 a ^^^ BitVec.ofNat 32 b = BitVec.ofNat 32 (a ^^^ b)
    apply BitVec.eq_of_toNat_eq
    have h1 : a ^^^ b < 2 ^ 31 := Nat.xor_lt_two_pow ha hb
    rw [BitVec.toNat_xor, BitVec.toNat_ofNat, BitVec.toNat_ofNat, BitVec.toNat_ofNat, Nat.mod_eq_of_lt (by omega), Nat.mod_eq_of_lt (by omega), Nat.mod_eq_of_lt (by omega)]
  rw [e]
  exact nI_pos' (Nat.xor_lt_two_pow ha hb)
theorem kMod_nI {a d : Nat} (ha : a < 2 ^ 31) (h0 : 0 < d) (hd : d < 2 ^ 31) : kMod (nI a) (nI d) = nI (a % d) := by
  unfold kMod
  rw [if_pos (nI_xor_nn ha hd), pk_rem ha h0 hd]
theorem mTl_snoc (M : zM) : ∀ k i, mTl M (k + 1) i = mTl M k i + mSp M (i + k)
  | 0, i => by show mSp M i + 0 = 0 + mSp M i; omega
  | k + 1, i => by
    show mSp M i + mTl M (k + 1) (i + 1) = mSp M i + mTl M k (i + 1) + mSp M (i + (k + 1))
    rw [mTl_snoc M k (i + 1), show i + 1 + k = i + (k + 1) by omega]
    omega
theorem mTl_mono {M : zM} {i j : Nat} (h : i ≤ j) : mTl M i 0 ≤ mTl M j 0 := by
  obtain ⟨d, rfl⟩ : ∃ d, j = i + d := ⟨j - i, by omega⟩
  clear h
  induction d with
  | zero => exact Nat.le_refl _
  | succ d ih =>
    have := mTl_snoc M (i + d) 0
    show mTl M i 0 ≤ mTl M (i + d + 1) 0
    omega
theorem sIx {n w b : Nat} {Mc Mm : zM} (h : sIM n w b Mc Mm) {o : Nat} (ho : o < mTl Mm w 0) : ∀ (k i : Nat), i + (k + 1) = w → mTl Mm i 0 ≤ o → ∃ j, j < w ∧ kIx Mc (nI o) k i = j ∧ mIx Mm (k + 1) i (nI (o - mTl Mm i 0)) = (j, nI (o - mTl Mm j 0)) := by
  have hI := h.2.1
  have h8 : w ≤ 8 := hI.1.2.1
  have hT := mTl_le hI w 0 (by omega)
  intro k
  induction k with
  | zero =>
    intro i hk hp
    have hs := mSp_ok hI (j := i) (by omega)
    have e := mTl_snoc Mm i 0
    rw [Nat.zero_add, show i + 1 = w by omega] at e
    refine ⟨i, by omega, rfl, ?_⟩
    exact mIx_yes (by rw [hs.1, nI_ltI (by omega) (by omega)]; omega)
  | succ k ih =>
    intro i hk hp
    have hs := mSp_ok hI (j := i) (by omega)
    have e := mTl_snoc Mm i 0
    rw [Nat.zero_add] at e
    have hm : mTl Mm (i + 1) 0 ≤ mTl Mm w 0 := mTl_mono (by omega)
    have he : Mc.1 3 i = nI (mTl Mm (i + 1) 0) := h.2.2.1.2.2.2.1 i (by omega)
    by_cases hlt : o < mTl Mm (i + 1) 0
    · refine ⟨i, by omega, ?_, mIx_yes (by rw [hs.1, nI_ltI (by omega) (by omega)]; omega)⟩
      show (if nI o < Mc.1 3 i then i else _) = i
      rw [if_pos (by rw [he, nI_ltI (by omega) (by omega)]; exact hlt)]
    · obtain ⟨j, hj, e1, e2⟩ := ih (i + 1) (by omega) (by omega)
      refine ⟨j, hj, ?_, ?_⟩
      · show (if nI o < Mc.1 3 i then i else kIx Mc (nI o) k (i + 1)) = j
        rw [if_neg (by rw [he, nI_ltI (by omega) (by omega)]; exact hlt)]
        exact e1
      · rw [mIx_no (by rw [hs.1, nI_ltI (by omega) (by omega)]; omega), hs.1, pk_sub (by omega), show o - mTl Mm i 0 - mSp Mm i = o - mTl Mm (i + 1) 0 by omega]
        exact e2
/-- the window that has the time, on both sides -/
theorem sWin {n w b : Nat} {Mc Mm : zM} (h : sIM n w b Mc Mm) {t : Nat} (ht : t < 2 ^ 31) (et : Mm.1 51 28 = nI t) (hw : w ≠ 0) : ∃ (j o : Nat), j < w ∧ mTl Mm j 0 ≤ o ∧ kIdx Mc w (Mc.1 0 6) = j ∧ kOff Mc w (Mc.1 0 6) = nI o ∧ mIx Mm w 0 (mRem Mm w) = (j, nI (o - mTl Mm j 0)) ∧ o < mTl Mm (j + 1) 0 := by
  have hI := h.2.1
  have h8 : w ≤ 8 := hI.1.2.1
  have hT := mTl_le hI w 0 (by omega)
  have he : Mc.1 3 (w - 1) = nI (mTl Mm w 0) := by
    have := h.2.2.1.2.2.2.1 (w - 1) (by omega)
    rw [show w - 1 + 1 = w by omega] at this
    exact this
  have ho : kOff Mc w (Mc.1 0 6) = nI (t % mTl Mm w 0) := by
    unfold kOff
    rw [he, sR_get h.2.2.1 s_time, et, kMod_nI ht (by omega) (by omega)]
  have hr := mRem_eq hI ht et hw
  obtain ⟨j, hj, e1, e2⟩ := sIx h hr.2 (w - 1) 0 (by omega) (Nat.zero_le _)
  have e2' : mIx Mm w 0 (mRem Mm w) = (j, nI (t % mTl Mm w 0 - mTl Mm j 0)) := by
    rw [hr.1]
    rw [show w - 1 + 1 = w by omega] at e2
    exact e2
  have key : ∀ k i o, i + k = w → o < mTl Mm k i → ∀ j v, mIx Mm k i (nI o) = (j, v) → ∃ r, v = nI r ∧ o = mTl Mm (j - i) i + r ∧ r < mSp Mm j ∧ i ≤ j := by
    intro k
    induction k with
    | zero => intro i o _ hlt; exact absurd hlt (by show ¬ o < 0; omega)
    | succ k ih =>
      intro i o hk hlt j v hq
      have hs := mSp_ok hI (j := i) (by omega)
      have hT2 := mTl_le hI (k + 1) i (by omega)
      have hlt2 : o < mSp Mm i + mTl Mm k (i + 1) := hlt
      by_cases c : o < mSp Mm i
      · rw [mIx_yes (by rw [hs.1, nI_ltI (by omega) (by omega)]; exact c)] at hq
        cases hq
        refine ⟨o, rfl, ?_, c, Nat.le_refl _⟩
        rw [Nat.sub_self]
        show o = 0 + o
        omega
      · rw [mIx_no (by rw [hs.1, nI_ltI (by omega) (by omega)]; exact c), hs.1, pk_sub (by omega)] at hq
        obtain ⟨r, a1, a2, a3, a4⟩ := ih (i + 1) (o - mSp Mm i) (by omega) (by omega) j v hq
        refine ⟨r, a1, ?_, a3, by omega⟩
        have : mTl Mm (j - i) i = mSp Mm i + mTl Mm (j - (i + 1)) (i + 1) := by
          rw [show j - i = (j - (i + 1)) + 1 by omega]
          rfl
        omega
  obtain ⟨r, a1, a2, a3, a4⟩ := key w 0 (t % mTl Mm w 0) (by omega) hr.2 j _ (by rw [← hr.1]; exact e2')
  rw [Nat.sub_zero] at a2
  have sn := mTl_snoc Mm j 0
  rw [Nat.zero_add] at sn
  refine ⟨j, t % mTl Mm w 0, hj, by omega, ?_, ho, e2', by omega⟩
  unfold kIdx
  rw [ho]
  exact e1
theorem sPart {n w b : Nat} {Mc Mm : zM} (h : sIM n w b Mc Mm) {t : Nat} (ht : t < 2 ^ 31) (et : Mm.1 51 28 = nI t) : kPartAt Mc w (Mc.1 0 6) = mHold Mm w false := by
  unfold kPartAt
  by_cases hw : w = 0
  · rw [if_pos hw]
    unfold mHold
    rw [if_pos ((mAll_0 h.2.1).mpr hw)]
  · obtain ⟨j, o, hj, h1, h2, h3, h4, h5⟩ := sWin h ht et hw
    have h8 : w ≤ 8 := h.2.1.1.2.1
    rw [if_neg hw, h2, mHold_f (fun q => hw ((mAll_0 h.2.1).mp q)) h4]
    exact sR_get h.2.2.1 (s_own j (by omega))
theorem sLeft {n w b : Nat} {Mc Mm : zM} (h : sIM n w b Mc Mm) {t : Nat} (ht : t < 2 ^ 31) (et : Mm.1 51 28 = nI t) : (if w = 0 then (-1) else kLeftAt Mc w (Mc.1 0 6)) = mHold Mm w true := by
  by_cases hw : w = 0
  · rw [if_pos hw]
    unfold mHold
    rw [if_pos ((mAll_0 h.2.1).mpr hw)]
  · obtain ⟨j, o, hj, h1, h2, h3, h4, h5⟩ := sWin h ht et hw
    have h8 : w ≤ 8 := h.2.1.1.2.1
    have hs := mSp_ok h.2.1 (j := j) hj
    have sn := mTl_snoc Mm j 0
    rw [Nat.zero_add] at sn
    unfold kLeftAt
    rw [if_neg hw, if_neg hw, h2, h3, mHold_t (fun q => hw ((mAll_0 h.2.1).mp q)) h4, hs.1, h.2.2.1.2.2.2.1 j hj, pk_sub (by omega), pk_sub (by omega)]
    congr 1
    omega
theorem sI_give {n w b : Nat} {Mc Mm : zM} (h : sIM n w b Mc Mm) {t : Nat} (ht : t < 2 ^ 31) (et : Mm.1 51 28 = nI t) (hb : b + 65 < 2 ^ 31) : sIM n w (b + 65) (kGive n w Mc) (mGiv n w Mm) := by
  unfold kGive mGiv
  rw [sPart h ht et]
  by_cases e : mHold Mm w false < 0
  · have hm : mHold Mm w false = (-1) := by
      unfold mHold at e ⊢
      by_cases hw : mAll Mm w = 0
      · rw [if_pos hw]
      · exfalso
        have hw0 : w ≠ 0 := fun q => hw ((mAll_0 h.2.1).mpr q)
        obtain ⟨j, o, hj, h1, h2, h3, h4, h5⟩ := sWin h ht et hw0
        rw [if_neg hw, h4] at e
        obtain ⟨q, hq, eq⟩ := h.2.1.1.2.2.2.2.2.1 j hj
        have e' : Mm.1 52 j < 0 := e
        rw [eq] at e'
        exact nI_pos (by omega) e'
    rw [if_pos hm, if_pos e]
    exact sI_mono h (by omega)
  · have hok := mHold_ok h.2.1 ht et e
    have hm : ¬ mHold Mm w false = (-1) := fun q => e (by rw [q]; decide)
    rw [if_neg hm, if_neg e, sR_get h.2.2.1 (s_mode _ hok.2)]
    split
    · have := mNu_le h.2.1 8 (by omega)
      exact sI_go _ 65 b _ _ h hb (by omega)
    · exact sI_mono h (by omega)
theorem sI_tick {n w b : Nat} {Mc Mm : zM} (h : sIM n w b Mc Mm) {t : Nat} (ht : t + 1 < 2 ^ 31) (et : Mm.1 51 28 = nI t) (hb : b + 81 < 2 ^ 31) : sIM n w (b + 81) (kTick n w Mc) (mTick n w Mm) := by
  have hn := kInv_n h.1
  have h1 := sI_for (f := kRelOne) (g := mRelOne) (fun i b Mc Mm hi hh => sI_relone hh hi) n 0 b _ _ (by omega) h
  have h2 := sI_for (f := kMissOne n) (g := mMissOne n) (fun i b Mc Mm hi hh => sI_missone hh hi) n 0 (b + n) _ _ (by omega) h1
  have h3 := sI_give (t := t) h2 (by omega) ((mTick1_t n Mm).trans et) (by omega)
  unfold kTick mTick
  show sIM n w (b + 81) _ (z_si (mGiv n w (kFor (mMissOne n) n 0 (kFor mRelOne n 0 Mm))) 51 28 _)
  rw [sR_get h3.2.2.1 s_time]
  exact sI_mono (b := b + n + n + 65) ⟨kInv_far h3.1 _ (by omega), mInv_si h3.2.1 _ (by omega), sR_w h3.2.2.1 s_time _ (by omega) (by omega) (by omega) (by omega), sV_si h3.2.2.2 _ (by omega)⟩ (by omega)
theorem sI_ticks {n w : Nat} : ∀ (k b t : Nat) (Mc Mm : zM), sIM n w b Mc Mm → Mm.1 51 28 = nI t → t + k < 2 ^ 31 → b + 81 * k < 2 ^ 31 → sIM n w (b + 81 * k) (kTicks n w k Mc) (mTicks n w k Mm) ∧ (mTicks n w k Mm).1 51 28 = nI (t + k)
  | 0, b, t, Mc, Mm, h, et, _, _ => ⟨h, et⟩
  | k + 1, b, t, Mc, Mm, h, et, ht, hb => by
    have h1 := sI_tick (t := t) h (by omega) et (by omega)
    have h2 := sI_ticks k (b + 81) (t + 1) _ _ h1 (mTick_t et) (by omega) (by omega)
    rw [show b + 81 + 81 * k = b + 81 * (k + 1) by omega, show t + 1 + k = t + (k + 1) by omega] at h2
    exact h2
