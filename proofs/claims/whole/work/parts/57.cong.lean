/-! CONGRUENCE: what is said of the class reads its own cells alone, what is said of the reference its own -/
theorem kB_u {n w : Nat} {M M' : zM} (e : uA M M') (h : kB n w M) : kB n w M' := by
  obtain ⟨h1, h2, h3, h4, h5, h6, h7, h8, h9, h10⟩ := h
  refine ⟨h1, h2, ?_, ?_, ?_, ?_, ?_, ?_, ?_, ?_⟩
  · rw [e.1 0 (by omega)]; exact h3
  · rw [e.1 1 (by omega)]; exact h4
  · rw [e.1 3 (by omega)]; exact h5
  · rw [e.1 2 (by omega)]; exact h6
  · intro i hi; rw [e.1 _ (by omega)]; exact h7 i hi
  · intro i hi; rw [e.1 _ (by omega)]; exact h8 i hi
  · intro i x hi hx; rw [e.1 (11 + 4 * i) (by omega), e.1 (12 + 4 * i) (by omega)]; exact h9 i x hi hx
  · intro q hq; rw [e.1 _ (by omega)]; exact h10 q hq
theorem kInv_u {n w : Nat} {M M' : zM} (e : uA M M') (h : kInv n w M) : kInv n w M' := by
  refine ⟨kB_u e h.1, ?_⟩
  intro i hi
  rw [e.1 _ (by omega)]
  exact h.2 i hi
theorem mInv_u {n w : Nat} {M M' : zM} (e : uB M M') (h : mInv n w M) : mInv n w M' := by
  unfold mInv mB mN at *
  rw [e 51 (by decide), e 53 (by decide), e 52 (by decide), e 56 (by decide), e 61 (by decide), e 62 (by decide), e 75 (by decide), e 64 (by decide), e 60 (by decide), e 63 (by decide)]
  exact h
theorem sV_u {n : Nat} {M M' : zM} (e : uB M M') (h : sV n M) : sV n M' := by
  unfold sV sW2 sW3 sWk sW5 mOrd mNum mPs mAt at *
  rw [e 63 (by decide), e 64 (by decide), e 65 (by decide), e 67 (by decide), e 58 (by decide), e 61 (by decide), e 62 (by decide), e 60 (by decide)]
  exact h
theorem mTl_u {M M' : zM} (e : uB M M') : ∀ k i : Nat, mTl M' k i = mTl M k i
  | 0, _ => rfl
  | k + 1, i => by
    show mSp M' i + mTl M' k (i + 1) = mSp M i + mTl M k (i + 1)
    rw [mTl_u e k (i + 1)]
    unfold mSp
    rw [e 53 (by decide)]
theorem s_side : ∀ p ∈ s_L, p.1.1 < 51 ∧ 51 ≤ p.2.1 := by decide +kernel
theorem sR_u {n w b : Nat} {Mc Mm Mc' Mm' : zM} (ea : uA Mc Mc') (eb : uB Mm Mm') (h : sR n w b Mc Mm) : sR n w b Mc' Mm' := by
  obtain ⟨h1, h2, h3, h4, h5, h6⟩ := h
  refine ⟨?_, ?_, ?_, ?_, ?_, ?_⟩
  · intro p hp
    rw [ea.1 _ (s_side p hp).1, eb _ (s_side p hp).2]
    exact h1 p hp
  · intro i hi
    rw [ea.1 _ (by omega), eb 67 (by decide), eb 72 (by decide)]
    exact h2 i hi
  · intro q hq x hx
    rw [ea.1 _ (by omega), eb 74 (by decide)]
    refine h3 q hq x ?_
    unfold mSz at *
    rw [eb 75 (by decide)] at hx
    exact hx
  · intro j hj
    rw [ea.1 3 (by decide), mTl_u eb]
    exact h4 j hj
  · intro i hi
    rw [ea.1 _ (by omega)]
    exact h5 i hi
  · unfold sRS at *
    rw [ea.2, eb 51 (by decide), eb 73 (by decide), eb 63 (by decide)]
    exact h6
theorem sIM_u {n w b : Nat} {Mc Mm Mc' Mm' : zM} (ea : uA Mc Mc') (eb : uB Mm Mm') (h : sIM n w b Mc Mm) : sIM n w b Mc' Mm' :=
  ⟨kInv_u ea h.1, mInv_u eb h.2.1, sR_u ea eb h.2.2.1, sV_u eb h.2.2.2⟩
/-- both at once, in one memory, at the time t -/
def sJ (n w b t : Nat) (M : zM) : Prop := sIM n w b M M ∧ M.1 51 28 = nI t
theorem sJ_mid {n w b t : Nat} {M M1 : zM} (h : sJ n w b t M) (u : uB M M1) : sIM n w b M M1 ∧ M1.1 51 28 = nI t := ⟨sIM_u uA.rf u h.1, by rw [u 51 (by decide)]; exact h.2⟩
theorem sJ_end {n w b t : Nat} {M1 M2 : zM} (h : sIM n w b M1 M2) (u : uA M1 M2) (ht : M2.1 51 28 = nI t) : sJ n w b t M2 := ⟨sIM_u u uB.rf h, ht⟩
def sK (b t : Nat) (M : zM) : Prop := ∃ n w b' t' : Nat, sJ n w b' t' M ∧ b' ≤ b ∧ t' ≤ t
-- at the start
theorem i_7 : ∀ i, i < 8 → mA_8.1 (9 + 4 * i) 2 = nI 0 ∧ mA_8.1 (10 + 4 * i) 2 = nI 0 ∧ mA_8.1 (9 + 4 * i) 7 = nI 0 ∧ mA_8.1 (9 + 4 * i) 0 = nI i ∧ mA_8.1 (9 + 4 * i) 11 = (-1) ∧ mA_8.1 (9 + 4 * i) 16 = (-1) := by decide +kernel
theorem i_9 : ∀ i, i < 8 → ∀ x, x < 8 → mA_8.1 (11 + 4 * i) x = 0 := by decide +kernel
theorem i_10 : ∀ q, q < 4 → mA_8.1 (42 + 2 * q) 1 = nI 0 := by decide +kernel
theorem i_0 : mA_8.1 0 5 = nI 0 ∧ mA_8.1 1 2 = nI 0 := by decide +kernel
theorem i_m {c : Nat} (h : 38 ≤ c) : mA_8.1 c = fun _ => 0 := funext fun k => mAz_8 c h k
theorem i_R0 : sR0 mA_8 mA_8 := by
  unfold sR0
  decide +kernel
theorem sJ_0 : sJ 0 0 0 0 mA_8 := by
  refine ⟨⟨⟨⟨by decide, by decide, i_0.1, i_0.2, fun h => absurd rfl h, fun j hj => absurd hj (by omega), fun i hi => ⟨0, by decide, (i_7 i hi).1⟩, fun i hi => ⟨0, by decide, (i_7 i hi).2.1⟩, fun i x hi hx => Or.inl (i_9 i hi x hx), fun q hq => ⟨0, by decide, i_10 q hq⟩⟩, fun i hi => ⟨0, by decide, (i_7 i hi).2.2.1⟩⟩, ?_, ?_, ?_⟩, ?_⟩
  · unfold mInv mB mN
    rw [i_m (c := 51) (by decide), i_m (c := 53) (by decide), i_m (c := 52) (by decide), i_m (c := 56) (by decide), i_m (c := 61) (by decide), i_m (c := 62) (by decide), i_m (c := 75) (by decide), i_m (c := 64) (by decide), i_m (c := 60) (by decide), i_m (c := 63) (by decide)]
    exact ⟨⟨by decide, by decide, rfl, rfl, fun j hj => absurd hj (by omega), fun j hj => absurd hj (by omega), fun i hi => ⟨0, by decide, rfl⟩, fun i x hi hx => Or.inl rfl, fun q hq => ⟨0, by decide, rfl⟩⟩, fun i hi => ⟨0, 0, by decide, by decide, rfl, rfl, fun q => absurd rfl q⟩⟩
  · refine ⟨i_R0, ?_, ?_, ?_, ?_, ?_⟩
    · intro i hi
      exact ⟨fun q => absurd q (by omega), fun _ => ⟨(i_7 i hi).2.2.2.2.1, (i_7 i hi).2.2.2.2.2⟩⟩
    · intro q hq x hx
      unfold mSz at hx
      rw [i_m (c := 75) (by decide)] at hx
      exact absurd hx (Nat.not_lt_zero _)
    · intro j hj
      exact absurd hj (by omega)
    · intro i hi
      exact (i_7 i hi).2.2.2.1
    · refine ⟨0, 0, fun _ => 0, fun _ => 0, by decide, by decide, rfl, ?_, ?_, ?_⟩
      · rw [i_m (c := 51) (by decide)]; rfl
      · intro i hi
        refine ⟨rfl, Nat.le_refl _, ?_, Nat.le_refl _⟩
        rw [i_m (c := 73) (by decide)]; rfl
      · intro i j hi hj hq
        rw [i_m (c := 63) (by decide)] at hq
        exact absurd rfl hq
  · unfold sV sW2 sW3 sWk sW5 mOrd mNum mPs mAt
    rw [i_m (c := 63) (by decide), i_m (c := 64) (by decide), i_m (c := 65) (by decide), i_m (c := 67) (by decide), i_m (c := 58) (by decide), i_m (c := 61) (by decide), i_m (c := 62) (by decide), i_m (c := 60) (by decide)]
    exact ⟨fun i hi _ => ⟨rfl, rfl, fun q => absurd q (by omega)⟩, fun i hi => ⟨0, by decide, rfl⟩, fun i hi q => absurd rfl q, fun i hi x hx => absurd hx (Nat.not_lt_zero _)⟩
  · rw [i_m (c := 51) (by decide)]; rfl
