/-! SIM: what else holds of the reference, and the steps of one process -/
def sW2 (n : Nat) (M : zM) : Prop := ∀ i, i < 8 → M.1 63 i = 0 → M.1 64 i = 0 ∧ M.1 65 i = 0 ∧ (i < n → M.1 67 i = (-1))
def sW3 (M : zM) : Prop := ∀ i, i < 8 → ∃ v, v ≤ 60 ∧ M.1 58 i = nI v
def sWk (M : zM) (i : Nat) : Prop := ¬ M.1 63 i = 0 → mOrd M i = 0 → ∃ y v, M.1 65 i = nI y ∧ mNum M i = nI v ∧ y < v ∧ v ≤ 20
def sW5 (M : zM) : Prop := ∀ i, i < 8 → ∀ x, x < mPs M i → M.1 61 (8 * i + x) = 0 → ∃ v, 1 ≤ v ∧ v ≤ 20 ∧ M.1 62 (8 * i + x) = nI v
def sV (n : Nat) (M : zM) : Prop := sW2 n M ∧ sW3 M ∧ (∀ i, i < 8 → sWk M i) ∧ sW5 M
def sVx (n k : Nat) (M : zM) : Prop := (∀ i, i < 8 → i ≠ k → M.1 63 i = 0 → M.1 64 i = 0 ∧ M.1 65 i = 0 ∧ (i < n → M.1 67 i = (-1))) ∧ sW3 M ∧ (∀ i, i < 8 → i ≠ k → sWk M i) ∧ sW5 M
theorem sV.x {n : Nat} {M : zM} (h : sV n M) (k : Nat) : sVx n k M := ⟨fun i hi _ q => h.1 i hi q, h.2.1, fun i hi _ => h.2.2.1 i hi, h.2.2.2⟩
def sIM (n w b : Nat) (Mc Mm : zM) : Prop := kInv n w Mc ∧ mInv n w Mm ∧ sR n w b Mc Mm ∧ sV n Mm
theorem sWk_k {M M' : zM} {i : Nat} (h : sWk M i) (h1 : M'.1 63 i = M.1 63 i) (h2 : M'.1 64 i = M.1 64 i) (h3 : M'.1 65 i = M.1 65 i) (h4 : M'.1 61 = M.1 61) (h5 : M'.1 62 = M.1 62) : sWk M' i := by
  unfold sWk mOrd mNum mAt at *
  rw [h1, h2, h3, h4, h5]
  exact h
theorem sW5_k {M M' : zM} (h : sW5 M) (h3 : M'.1 60 = M.1 60) (h4 : M'.1 61 = M.1 61) (h5 : M'.1 62 = M.1 62) : sW5 M' := by
  unfold sW5 mPs at *
  rw [h3, h4, h5]
  exact h
/-- all but the process k is as it was -/
theorem sV_of {n : Nat} {M M' : zM} {k : Nat} (h : sVx n k M) (h1 : ∀ j, j ≠ k → M'.1 63 j = M.1 63 j ∧ M'.1 64 j = M.1 64 j ∧ M'.1 65 j = M.1 65 j ∧ M'.1 67 j = M.1 67 j) (h2 : M'.1 58 = M.1 58) (h3 : M'.1 60 = M.1 60) (h4 : M'.1 61 = M.1 61) (h5 : M'.1 62 = M.1 62) (hk2 : M'.1 63 k = 0 → M'.1 64 k = 0 ∧ M'.1 65 k = 0 ∧ M'.1 67 k = (-1)) (hkw : sWk M' k) : sV n M' := by
  obtain ⟨a, b, c, d⟩ := h
  refine ⟨fun j hj q => ?_, fun j hj => by rw [h2]; exact b j hj, fun j hj => ?_, sW5_k d h3 h4 h5⟩
  · by_cases e : j = k
    · subst e; exact ⟨(hk2 q).1, (hk2 q).2.1, fun _ => (hk2 q).2.2⟩
    · obtain ⟨p1, p2, p3, p4⟩ := h1 j e
      rw [p1] at q
      rw [p2, p3, p4]
      exact a j hj e q
  · by_cases e : j = k
    · subst e; exact hkw
    · obtain ⟨p1, p2, p3, p4⟩ := h1 j e
      exact sWk_k (c j hj e) p1 p2 p3 h4 h5
/-- nothing that it looks at has changed -/
theorem sV_k {n : Nat} {M M' : zM} (h : sV n M) (h1 : M'.1 63 = M.1 63) (h2 : M'.1 64 = M.1 64) (h3 : M'.1 65 = M.1 65) (h4 : M'.1 67 = M.1 67) (h5 : M'.1 58 = M.1 58) (h6 : M'.1 60 = M.1 60) (h7 : M'.1 61 = M.1 61) (h8 : M'.1 62 = M.1 62) : sV n M' := by
  obtain ⟨a, b, c, d⟩ := h
  refine ⟨?_, ?_, fun i hi => sWk_k (c i hi) (by rw [h1]) (by rw [h2]) (by rw [h3]) h7 h8, sW5_k d h6 h7 h8⟩
  · unfold sW2; rw [h1, h2, h3, h4]; exact a
  · unfold sW3; rw [h5]; exact b
theorem sV_si {n : Nat} {M : zM} (h : sV n M) {c k : Nat} (x : Int32) (hc : c ≠ 63 ∧ c ≠ 64 ∧ c ≠ 65 ∧ c ≠ 67 ∧ c ≠ 58 ∧ c ≠ 60 ∧ c ≠ 61 ∧ c ≠ 62) : sV n (z_si M c k x) :=
  sV_k h (z_si_row _ _ _ (by omega)) (z_si_row _ _ _ (by omega)) (z_si_row _ _ _ (by omega)) (z_si_row _ _ _ (by omega)) (z_si_row _ _ _ (by omega)) (z_si_row _ _ _ (by omega)) (z_si_row _ _ _ (by omega)) (z_si_row _ _ _ (by omega))
/-- at an order with nothing worked -/
theorem sWk_0 {n w : Nat} {M : zM} (h : mInv n w M) (h5 : sW5 M) {i : Nat} (hi : i < 8) (hw : M.1 65 i = 0) : sWk M i := by
  intro q ho
  obtain ⟨v, h1, h2, e⟩ := h5 i hi (mAt M i) (mN_lt h hi q) ho
  exact ⟨0, v, hw, e, h1, h2⟩
theorem sV_Rest {n : Nat} {M : zM} (h : sV n M) (k : Nat) : sV n (mRest k M) := by
  refine sV_of (h.x k) (fun j hj => ⟨mRest_far k M (Or.inl hj), mRest_far k M (Or.inl hj), mRest_far k M (Or.inl hj), mRest_far k M (Or.inl hj)⟩) (funext fun j => mRest_far k M (Or.inr (by omega))) (funext fun j => mRest_far k M (Or.inr (by omega))) (funext fun j => mRest_far k M (Or.inr (by omega))) (funext fun j => mRest_far k M (Or.inr (by omega))) (fun _ => ⟨mRest_64 k M, ?_, ?_⟩) (fun q => absurd (mRest_63 k M) q)
  · unfold mRest; rw [z_si_other _ _ (by omega), z_si_same]
  · unfold mRest; rw [z_si_same]
theorem sV_Adv {n w : Nat} {M : zM} (hI : mInv n w M) {k : Nat} (h : sVx n k M) (hk : k < 8) (h0 : ¬ M.1 63 k = 0) : sV n (mAdv k M) := by
  have hI2 := mInv_Adv hI hk h0
  have h5 : sW5 (mAdv k M) := sW5_k h.2.2.2 (funext fun j => mAdv_far k M (Or.inr (by omega))) (funext fun j => mAdv_far k M (Or.inr (by omega))) (funext fun j => mAdv_far k M (Or.inr (by omega)))
  have hw : (mAdv k M).1 65 k = 0 := by
    unfold mAdv
    split
    · unfold mRest; rw [z_si_other _ _ (by omega), z_si_same]
    · unfold mAdv1; rw [z_si_same]
  refine sV_of h (fun j hj => ⟨mAdv_far k M (Or.inl hj), mAdv_far k M (Or.inl hj), mAdv_far k M (Or.inl hj), mAdv_far k M (Or.inl hj)⟩) (funext fun j => mAdv_far k M (Or.inr (by omega))) (funext fun j => mAdv_far k M (Or.inr (by omega))) (funext fun j => mAdv_far k M (Or.inr (by omega))) (funext fun j => mAdv_far k M (Or.inr (by omega))) (fun q => ?_) (sWk_0 hI2 h5 hk hw)
  unfold mAdv at q ⊢
  split
  · refine ⟨mRest_64 k _, ?_, ?_⟩
    · unfold mRest; rw [z_si_other _ _ (by omega), z_si_same]
    · unfold mRest; rw [z_si_same]
  · rename_i he
    rw [if_neg he, mAdv1_far k M (Or.inr (by omega))] at q
    exact absurd q h0
theorem sV_Bec {n w : Nat} {M : zM} (hI : mInv n w M) (h : sV n M) {k : Nat} (hk : k < 8) (v : Int32) (hv : ¬ v = 0) (hw : sWk (mBec k v M) k) : sV n (mBec k v M) :=
  sV_of (h.x k) (fun j hj => ⟨mBec_far k v M (Or.inr (by omega)), mBec_far k v M (Or.inr (by omega)), mBec_far k v M (Or.inr (by omega)), mBec_far k v M (Or.inr (by omega))⟩) (funext fun j => mBec_far k v M (Or.inl (by omega))) (funext fun j => mBec_far k v M (Or.inl (by omega))) (funext fun j => mBec_far k v M (Or.inl (by omega))) (funext fun j => mBec_far k v M (Or.inl (by omega))) (fun q => absurd ((mBec_63 k v M).symm.trans q) hv) hw
theorem sWk_Bec {M : zM} {k : Nat} {v : Int32} (h0 : ¬ M.1 63 k = 0) (h : sWk M k) : sWk (mBec k v M) k := by
  intro _ ho
  have e1 : mOrd (mBec k v M) k = mOrd M k := by unfold mOrd mAt; rw [mBec_far k v M (Or.inl (by omega)), mBec_far k v M (Or.inl (by omega))]
  have e2 : mNum (mBec k v M) k = mNum M k := by unfold mNum mAt; rw [mBec_far k v M (Or.inl (by omega)), mBec_far k v M (Or.inl (by omega))]
  rw [e1] at ho
  rw [e2, mBec_far k v M (Or.inl (by omega))]
  exact h h0 ho
/-! the pairs of steps -/
theorem sR_rest {n w b : Nat} {Mc Mm : zM} (h : sR n w b Mc Mm) {i : Nat} (hi : i < n) (hi8 : i < 8) : sR n w b (kRest i Mc) (mRest i Mm) :=
  sR_d (sR_t (sR_t (sR_t h hi8 (s_st i hi8) 0 (by omega) (by omega) (fun _ => rfl)) hi8 (s_at i hi8) 0 (by omega) (by omega) (by omega)) hi8 (s_wk i hi8) 0 (by omega) (by omega) (by omega)) hi hi8 (-1)
theorem sI_rest {n w b : Nat} {Mc Mm : zM} (h : sIM n w b Mc Mm) {i : Nat} (hi : i < n) : sIM n w b (kRest i Mc) (mRest i Mm) := by
  have hi8 : i < 8 := Nat.lt_of_lt_of_le hi (kInv_n h.1)
  exact ⟨kInv_Rest h.1 hi8, mInv_Rest h.2.1 hi8, sR_rest h.2.2.1 hi hi8, sV_Rest h.2.2.2 i⟩
theorem sI_advx {n w b : Nat} {Mc Mm : zM} {i : Nat} (h : kInv n w Mc ∧ mInv n w Mm ∧ sR n w b Mc Mm ∧ sVx n i Mm) (hi : i < n) (h0 : ¬ Mm.1 63 i = 0) : sIM n w b (kAdv i Mc) (mAdv i Mm) := by
  have hi8 : i < 8 := Nat.lt_of_lt_of_le hi (kInv_n h.1)
  refine ⟨kInv_Adv h.1 hi8, mInv_Adv h.2.1 hi8 h0, ?_, sV_Adv h.2.1 h.2.2.2 hi8 h0⟩
  have hlt := mN_lt h.2.1 hi8 h0
  have hz := mPs_le h.2.1 hi8
  have e1 : (mAdv1 i Mm).1 64 i = nI (mAt Mm i + 1) := by rw [mAdv1_64, mAt_eq h.2.1 hi8, nI_1]
  have e2 : (mAdv1 i Mm).1 60 i = nI (mPs Mm i) := by rw [mAdv1_far i Mm (Or.inr (by omega))]; exact mPs_eq h.2.1 hi8
  have h1 : sR n w b (kAdv1 i Mc) (mAdv1 i Mm) := by
    unfold kAdv1 mAdv1
    rw [sR_get h.2.2.1 (s_at i hi8)]
    exact sR_t (sR_t h.2.2.1 hi8 (s_at i hi8) _ (by omega) (by omega) (by omega)) hi8 (s_wk i hi8) 0 (by omega) (by omega) (by omega)
  have c1 := sR_get h1 (s_at i hi8)
  have c2 := sR_get h1 (s_siz i hi8)
  unfold kAdv mAdv
  rw [c1, c2, e1, e2]
  by_cases e : mAt Mm i + 1 = mPs Mm i
  · rw [if_neg (by rw [nI_ltI (by omega) (by omega)]; omega), if_pos (by rw [e])]
    exact sR_rest h1 hi hi8
  · rw [if_pos (by rw [nI_ltI (by omega) (by omega)]; omega), if_neg (by rw [nI_eq (by omega) (by omega)]; exact e)]
    exact h1
theorem sI_adv {n w b : Nat} {Mc Mm : zM} (h : sIM n w b Mc Mm) {i : Nat} (hi : i < n) (h0 : ¬ Mm.1 63 i = 0) : sIM n w b (kAdv i Mc) (mAdv i Mm) := sI_advx ⟨h.1, h.2.1, h.2.2.1, h.2.2.2.x i⟩ hi h0
theorem sI_wake {n w b : Nat} {Mc Mm : zM} (h : sIM n w b Mc Mm) {i : Nat} (hi : i < n) (h0 : ¬ Mm.1 63 i = 0) : sIM n w (b + 1) (kWake i Mc) (mWake i Mm) := by
  have hi8 : i < 8 := Nat.lt_of_lt_of_le hi (kInv_n h.1)
  have h1 : sIM n w (b + 1) (kReady i (Mc.2 0 9 + 1) (kTurn Mc)) (mBec i 1 Mm) :=
    ⟨kInv_Ready (kInv_Turn h.1) hi8 _, mInv_Bec h.2.1 hi8 1 (mN_lt h.2.1 hi8 h0), sR_bec h.2.2.1 hi8 1, sV_Bec h.2.1 h.2.2.2 hi8 1 (by decide) (sWk_Bec h0 (h.2.2.2.2.2.1 i hi8))⟩
  exact sI_adv h1 hi (h1ne0 (mBec_63 i 1 Mm))
theorem sI_wait {n w b : Nat} {Mc Mm : zM} (h : sIM n w b Mc Mm) {i : Nat} (hi : i < n) (h0 : ¬ Mm.1 63 i = 0) : sIM n w (b + 1) (kWait i (Mc.2 0 9 + 1) (kTurn Mc)) (mBec i 2 Mm) := by
  have hi8 : i < 8 := Nat.lt_of_lt_of_le hi (kInv_n h.1)
  exact ⟨kInv_Wait (kInv_Turn h.1) hi8 _, mInv_Bec h.2.1 hi8 2 (mN_lt h.2.1 hi8 h0), sR_bec h.2.2.1 hi8 2, sV_Bec h.2.1 h.2.2.2 hi8 2 (by decide) (sWk_Bec h0 (h.2.2.2.2.2.1 i hi8))⟩
theorem sI_mono {n w b b' : Nat} {Mc Mm : zM} (h : sIM n w b Mc Mm) (hb : b ≤ b') : sIM n w b' Mc Mm := ⟨h.1, h.2.1, sR_mono h.2.2.1 hb, h.2.2.2⟩
theorem sI_work {n w b : Nat} {Mc Mm : zM} (h : sIM n w b Mc Mm) {i : Nat} (hi : i < n) (h0 : ¬ Mm.1 63 i = 0) (ho : mOrd Mm i = 0) : sIM n w b (kWork i (mNum Mm i) Mc) (mWork i (mNum Mm i) Mm) := by
  have hi8 : i < 8 := Nat.lt_of_lt_of_le hi (kInv_n h.1)
  obtain ⟨y, v, ey, ev, hyv, hv⟩ := h.2.2.2.2.2.1 i hi8 h0 ho
  have h1 : sR n w b (kWork2 i Mc) (mWork2 i Mm) := by
    unfold kWork2 mWork2 kWork1 mWork1
    have a := sR_t h.2.2.1 hi8 (s_wrk i hi8) (Mm.1 70 i + 1) (by omega) (by omega) (by omega)
    rw [sR_get h.2.2.1 (s_wrk i hi8), sR_get a (s_wk i hi8)]
    exact sR_t a hi8 (s_wk i hi8) _ (by omega) (by omega) (by omega)
  have ew : (mWork2 i Mm).1 65 i = nI (y + 1) := by
    unfold mWork2 mWork1
    rw [z_si_same, z_si_other _ _ (by omega), ey, nI_1]
  have hk : kInv n w (kWork2 i Mc) := kInv_task (kInv_task h.1 hi8 _ (by decide) (by decide)) hi8 _ (by decide) (by decide)
  have hm : mInv n w (mWork2 i Mm) := mInv_si (mInv_si h.2.1 _ (by omega)) _ (by omega)
  have hst : (mWork2 i Mm).1 63 i = Mm.1 63 i := by unfold mWork2 mWork1; rw [z_si_other _ _ (by omega), z_si_other _ _ (by omega)]
  have hor : mOrd (mWork2 i Mm) i = mOrd Mm i := by
    unfold mOrd mAt mWork2 mWork1
    rw [z_si_other (c' := 64) _ _ (by omega), z_si_other (c' := 64) _ _ (by omega), z_si_other _ _ (by omega), z_si_other _ _ (by omega)]
  have hnu : mNum (mWork2 i Mm) i = mNum Mm i := by
    unfold mNum mAt mWork2 mWork1
    rw [z_si_other (c' := 64) _ _ (by omega), z_si_other (c' := 64) _ _ (by omega), z_si_other _ _ (by omega), z_si_other _ _ (by omega)]
  unfold kWork mWork
  rw [sR_get h1 (s_wk i hi8), ew, ev]
  by_cases e : y + 1 = v
  · rw [if_neg (by rw [nI_ltI (by omega) (by omega)]; omega), if_pos (by rw [e])]
    refine sI_advx ⟨hk, hm, h1, ?_⟩ hi (by rw [hst]; exact h0)
    obtain ⟨a2, a3, a4, a5⟩ := h.2.2.2
    have hf : ∀ c j, (c ≠ 70 ∧ c ≠ 65) ∨ j ≠ i → (mWork2 i Mm).1 c j = Mm.1 c j := fun c j q => by unfold mWork2 mWork1; rw [z_si_other _ _ (by omega), z_si_other _ _ (by omega)]
    refine ⟨fun j hj hji q => ?_, fun j hj => by rw [hf _ _ (by omega)]; exact a3 j hj, fun j hj hji => sWk_k (a4 j hj) (hf _ _ (by omega)) (hf _ _ (by omega)) (hf _ _ (by omega)) (funext fun z => hf _ _ (by omega)) (funext fun z => hf _ _ (by omega)), sW5_k a5 (funext fun z => hf _ _ (by omega)) (funext fun z => hf _ _ (by omega)) (funext fun z => hf _ _ (by omega))⟩
    rw [hf _ _ (by omega)] at q
    rw [hf _ _ (by omega), hf _ _ (by omega), hf _ _ (by omega)]
    exact a2 j hj q
  · rw [if_pos (by rw [nI_ltI (by omega) (by omega)]; omega), if_neg (by rw [nI_eq (by omega) (by omega)]; exact e)]
    refine ⟨hk, hm, h1, ?_⟩
    refine sV_of (h.2.2.2.x i) (fun j hj => ?_) ?_ ?_ ?_ ?_ (fun q => absurd (hst.symm.trans q) h0) (fun _ _ => ⟨y + 1, v, ew, by rw [hnu]; exact ev, by omega, hv⟩)
    · unfold mWork2 mWork1
      rw [z_si_other _ _ (by omega), z_si_other _ _ (by omega), z_si_other _ _ (by omega), z_si_other _ _ (by omega), z_si_other _ _ (by omega), z_si_other _ _ (by omega), z_si_other _ _ (by omega), z_si_other _ _ (by omega)]
      exact ⟨rfl, rfl, rfl, rfl⟩
    · unfold mWork2 mWork1; rw [z_si_row _ _ _ (by omega), z_si_row _ _ _ (by omega)]
    · unfold mWork2 mWork1; rw [z_si_row _ _ _ (by omega), z_si_row _ _ _ (by omega)]
    · unfold mWork2 mWork1; rw [z_si_row _ _ _ (by omega), z_si_row _ _ _ (by omega)]
    · unfold mWork2 mWork1; rw [z_si_row _ _ _ (by omega), z_si_row _ _ _ (by omega)]
