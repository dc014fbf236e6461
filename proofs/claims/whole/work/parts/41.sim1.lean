/-! SIM: pairs of writes -/
theorem sR_get {n w b : Nat} {Mc Mm : zM} (h : sR n w b Mc Mm) {c k c' k' : Nat} (hp : (((c, k), (c', k')) : sP) ∈ s_L) : Mc.1 c k = Mm.1 c' k' := h.1 _ hp
/-- the other parts of the relation look at these places alone -/
theorem sRD_k {n : Nat} {Mc Mm Mc' Mm' : zM} (h : sRD n Mc Mm) (h1 : ∀ i, i < 8 → Mc'.1 (9 + 4 * i) 11 = Mc.1 (9 + 4 * i) 11 ∧ Mc'.1 (9 + 4 * i) 16 = Mc.1 (9 + 4 * i) 16) (h2 : ∀ i, i < 8 → Mm'.1 67 i = Mm.1 67 i ∧ Mm'.1 72 i = Mm.1 72 i) : sRD n Mc' Mm' := by
  intro i hi
  rw [(h1 i hi).1, (h1 i hi).2, (h2 i hi).1, (h2 i hi).2]
  exact h i hi
theorem sRM_k {Mc Mm Mc' Mm' : zM} (h : sRM Mc Mm) (h1 : ∀ q, q < 4 → Mc'.1 (43 + 2 * q) = Mc.1 (43 + 2 * q)) (h2 : Mm'.1 74 = Mm.1 74) (h3 : Mm'.1 75 = Mm.1 75) : sRM Mc' Mm' := by
  intro q hq x hx
  unfold mSz at hx
  rw [h1 q hq, h2]
  rw [h3] at hx
  exact h q hq x hx
theorem mTl_k {M M' : zM} (h : M'.1 53 = M.1 53) : ∀ k i, mTl M' k i = mTl M k i
  | 0, _ => rfl
  | k + 1, i => by
    show mSp M' i + mTl M' k (i + 1) = mSp M i + mTl M k (i + 1)
    rw [mTl_k h k (i + 1)]
    unfold mSp
    rw [h]
theorem sRE_k {w : Nat} {Mc Mm Mc' Mm' : zM} (h : sRE w Mc Mm) (h1 : Mc'.1 3 = Mc.1 3) (h2 : Mm'.1 53 = Mm.1 53) : sRE w Mc' Mm' := by
  intro j hj
  rw [h1, mTl_k h2]
  exact h j hj
theorem sRN_k {Mc Mc' : zM} (h : sRN Mc) (h1 : ∀ i, i < 8 → Mc'.1 (9 + 4 * i) 0 = Mc.1 (9 + 4 * i) 0) : sRN Mc' := by
  intro i hi
  rw [h1 i hi]
  exact h i hi
/-- less is active, the clocks are as they were -/
theorem sRS_k {b b' : Nat} {Mc Mm Mc' Mm' : zM} (h : sRS b Mc Mm) (hb : b ≤ b') (h1 : Mc'.2 = Mc.2) (h2 : Mm'.1 51 24 = Mm.1 51 24) (h3 : Mm'.1 73 = Mm.1 73) (h4 : ∀ i, i < 8 → ¬ Mm'.1 63 i = 0 → ¬ Mm.1 63 i = 0) : sRS b' Mc' Mm' := by
  obtain ⟨a, c, fa, fc, ha, hc, e1, e2, e3, e4⟩ := h
  refine ⟨a, c, fa, fc, Nat.le_trans ha hb, Nat.le_trans hc hb, by rw [h1]; exact e1, by rw [h2]; exact e2, fun i hi => by rw [h1, h3]; exact e3 i hi, fun i j hi hj p q => e4 i j hi hj (h4 i hi p) (h4 j hj q)⟩
/-- one pair of writes that touches neither messages nor windows, and no state but to rest -/
theorem sR_w {n w b : Nat} {Mc Mm : zM} (h : sR n w b Mc Mm) {c k c' k' : Nat} (hp : (((c, k), (c', k')) : sP) ∈ s_L) (x : Int32) (hc : (c < 43 ∧ c ≠ 3 ∧ c ≠ 42) ∨ c = 50) (hk : (9 ≤ c ∧ c < 41 ∧ c % 4 = 1) → k ≠ 0 ∧ k ≠ 11 ∧ k ≠ 16) (hm : c' ≠ 67 ∧ c' ≠ 72 ∧ c' ≠ 73 ∧ c' ≠ 74 ∧ c' ≠ 75 ∧ c' ≠ 53 ∧ (c' ≠ 51 ∨ k' ≠ 24)) (h63 : c' = 63 → x = 0) : sR n w b (z_si Mc c k x) (z_si Mm c' k' x) := by
  obtain ⟨h0, hD, hM, hE, hN, hS⟩ := h
  refine ⟨sR0_w h0 hp x, sRD_k hD (fun i hi => ?_) (fun i hi => ?_), sRM_k hM (fun q hq => ?_) ?_ ?_, sRE_k hE ?_ ?_, sRN_k hN (fun i hi => ?_), sRS_k hS (Nat.le_refl b) rfl ?_ ?_ (fun i hi q => ?_)⟩
  · rw [z_si_other _ _ (by omega), z_si_other _ _ (by omega)]; exact ⟨rfl, rfl⟩
  · rw [z_si_other _ _ (by omega), z_si_other _ _ (by omega)]; exact ⟨rfl, rfl⟩
  · exact z_si_row _ _ _ (by omega)
  · exact z_si_row _ _ _ (by omega)
  · exact z_si_row _ _ _ (by omega)
  · exact z_si_row _ _ _ (by omega)
  · exact z_si_row _ _ _ (by omega)
  · rw [z_si_other _ _ (by omega)]
  · rw [z_si_other _ _ (by omega)]
  · exact z_si_row _ _ _ (by omega)
  · by_cases e : 63 = c' ∧ i = k'
    · obtain ⟨e1, e2⟩ := e
      subst e1; subst e2
      rw [z_si_same] at q
      exact absurd (h63 rfl) q
    · rw [z_si_other _ _ (by omega)] at q
      exact q
/-- a pair of writes to a task -/
theorem sR_t {n w b : Nat} {Mc Mm : zM} (h : sR n w b Mc Mm) {i k c' : Nat} (hi : i < 8) (hp : (((9 + 4 * i, k), (c', i)) : sP) ∈ s_L) (x : Int32) (hk : k ≠ 0 ∧ k ≠ 11 ∧ k ≠ 16) (hm : c' ≠ 67 ∧ c' ≠ 72 ∧ c' ≠ 73 ∧ c' ≠ 74 ∧ c' ≠ 75 ∧ c' ≠ 53 ∧ c' ≠ 51) (h63 : c' = 63 → x = 0) : sR n w b (z_si Mc (9 + 4 * i) k x) (z_si Mm c' i x) := sR_w h hp x (by omega) (fun _ => hk) (by omega) h63
/-- deadlines, next releases -/
theorem sR_d {n w b : Nat} {Mc Mm : zM} (h : sR n w b Mc Mm) {i : Nat} (hi : i < n) (hi8 : i < 8) (x : Int32) : sR n w b (z_si Mc (9 + 4 * i) 11 x) (z_si Mm 67 i x) := by
  obtain ⟨h0, hD, hM, hE, hN, hS⟩ := h
  refine ⟨sR0_m (sR0_c h0 (s_no_t i hi8 11 (by omega) (by omega)) x) (s_no_m 67 (by omega) (by omega) i (by omega)) x, fun j hj => ?_, sRM_k hM (fun q hq => z_si_row _ _ _ (by omega)) (z_si_row _ _ _ (by omega)) (z_si_row _ _ _ (by omega)), sRE_k hE (z_si_row _ _ _ (by omega)) (z_si_row _ _ _ (by omega)), sRN_k hN (fun i hi => by rw [z_si_other _ _ (by omega)]), sRS_k hS (Nat.le_refl b) rfl (by rw [z_si_other _ _ (by omega)]) (z_si_row _ _ _ (by omega)) (fun j hj q => by rw [z_si_other _ _ (by omega)] at q; exact q)⟩
  by_cases e : j = i
  · subst e
    rw [z_si_same, z_si_same, z_si_other _ _ (by omega), z_si_other _ _ (by omega)]
    exact ⟨fun _ => ⟨rfl, ((hD j hj).1 hi).2⟩, fun q => absurd hi (by omega)⟩
  · rw [z_si_other _ _ (by omega), z_si_other _ _ (by omega), z_si_other _ _ (by omega), z_si_other _ _ (by omega)]
    exact hD j hj
theorem sR_x {n w b : Nat} {Mc Mm : zM} (h : sR n w b Mc Mm) {i : Nat} (hi : i < n) (hi8 : i < 8) (x : Int32) : sR n w b (z_si Mc (9 + 4 * i) 16 x) (z_si Mm 72 i x) := by
  obtain ⟨h0, hD, hM, hE, hN, hS⟩ := h
  refine ⟨sR0_m (sR0_c h0 (s_no_t i hi8 16 (by omega) (by omega)) x) (s_no_m 72 (by omega) (by omega) i (by omega)) x, fun j hj => ?_, sRM_k hM (fun q hq => z_si_row _ _ _ (by omega)) (z_si_row _ _ _ (by omega)) (z_si_row _ _ _ (by omega)), sRE_k hE (z_si_row _ _ _ (by omega)) (z_si_row _ _ _ (by omega)), sRN_k hN (fun i hi => by rw [z_si_other _ _ (by omega)]), sRS_k hS (Nat.le_refl b) rfl (by rw [z_si_other _ _ (by omega)]) (z_si_row _ _ _ (by omega)) (fun j hj q => by rw [z_si_other _ _ (by omega)] at q; exact q)⟩
  by_cases e : j = i
  · subst e
    rw [z_si_same, z_si_same, z_si_other _ _ (by omega), z_si_other _ _ (by omega)]
    exact ⟨fun _ => ⟨((hD j hj).1 hi).1, rfl⟩, fun q => absurd hi (by omega)⟩
  · rw [z_si_other _ _ (by omega), z_si_other _ _ (by omega), z_si_other _ _ (by omega), z_si_other _ _ (by omega)]
    exact hD j hj
/-- becoming READY or WAITING -/
theorem sR_bec {n w b : Nat} {Mc Mm : zM} (h : sR n w b Mc Mm) {i : Nat} (hi : i < 8) (v : Int32) : sR n w (b + 1) (z_sj (z_si (kTurn Mc) (9 + 4 * i) 6 v) (9 + 4 * i) 9 (Mc.2 0 9 + 1)) (mBec i v Mm) := by
  obtain ⟨h0, hD, hM, hE, hN, hS⟩ := h
  have hf : ∀ c j, (c ≠ 63 ∧ c ≠ 73 ∧ (c ≠ 51 ∨ j ≠ 24)) ∨ (c ≠ 51 ∧ j ≠ i) → (mBec i v Mm).1 c j = Mm.1 c j := fun c j q => mBec_far i v Mm q
  refine ⟨?_, sRD_k hD (fun j hj => ?_) (fun j hj => ⟨hf _ _ (by omega), hf _ _ (by omega)⟩), sRM_k hM (fun q hq => ?_) (funext fun j => hf _ _ (by omega)) (funext fun j => hf _ _ (by omega)), sRE_k hE ?_ (funext fun j => hf _ _ (by omega)), sRN_k hN (fun j hj => ?_), ?_⟩
  · have h1 : sR0 (z_si Mc (9 + 4 * i) 6 v) (z_si Mm 63 i v) := sR0_w h0 (s_st i hi) v
    have h2 := sR0_m (sR0_m h1 s_no_clk ((z_si Mm 63 i v).1 51 24 + 1)) (s_no_m 73 (by omega) (by omega) i (by omega)) ((mBec1 i v Mm).1 51 24)
    exact h2
  · show (z_si Mc (9 + 4 * i) 6 v).1 _ _ = _ ∧ (z_si Mc (9 + 4 * i) 6 v).1 _ _ = _
    rw [z_si_other _ _ (by omega), z_si_other _ _ (by omega)]; exact ⟨rfl, rfl⟩
  · exact z_si_row Mc _ _ (by omega)
  · exact z_si_row Mc _ _ (by omega)
  · show (z_si Mc (9 + 4 * i) 6 v).1 _ _ = _
    rw [z_si_other _ _ (by omega)]
  · obtain ⟨a, c, fa, fc, ha, hc, e1, e2, e3, e4⟩ := hS
    refine ⟨a + 1, c + 1, va_up fa i (a + 1), va_up fc i (c + 1), by omega, by omega, ?_, ?_, fun j hj => ?_, fun j k hj hk pj pk => ?_⟩
    · rw [z_sj_other _ _ (by omega)]
      show (z_sj Mc 0 9 (Mc.2 0 9 + 1)).2 0 9 = _
      rw [z_sj_same, e1, lN_1]
    · unfold mBec mBec1
      rw [z_si_other _ _ (by omega), z_si_same, z_si_other _ _ (by omega), e2, nI_1]
    · by_cases e : j = i
      · subst e
        unfold va_up
        rw [if_pos rfl, if_pos rfl, z_sj_same, e1, lN_1]
        refine ⟨rfl, Nat.le_refl _, ?_, Nat.le_refl _⟩
        unfold mBec mBec1
        rw [z_si_same, z_si_same, z_si_other _ _ (by omega), e2, nI_1]
      · unfold va_up
        rw [if_neg e, if_neg e, z_sj_other _ _ (by omega), hf _ _ (by omega)]
        have := e3 j hj
        show (z_sj Mc 0 9 (Mc.2 0 9 + 1)).2 _ 9 = _ ∧ _
        rw [z_sj_other _ _ (by omega)]
        exact ⟨this.1, by omega, this.2.2.1, by omega⟩
    · have act : ∀ z, z ≠ i → ¬ (mBec i v Mm).1 63 z = 0 → ¬ Mm.1 63 z = 0 := fun z hz q => by rw [hf _ _ (by omega)] at q; exact q
      unfold va_up
      by_cases ej : j = i
      · by_cases ek : k = i
        · subst ej; subst ek
          rw [if_pos rfl, if_pos rfl]
          omega
        · rw [if_pos ej, if_pos ej, if_neg ek, if_neg ek]
          have := e3 k hk
          omega
      · by_cases ek : k = i
        · rw [if_neg ej, if_neg ej, if_pos ek, if_pos ek]
          have := e3 j hj
          omega
        · rw [if_neg ej, if_neg ej, if_neg ek, if_neg ek]
          exact e4 j k hj hk (act j ej pj) (act k ek pk)
theorem sR_mono {n w b b' : Nat} {Mc Mm : zM} (h : sR n w b Mc Mm) (hb : b ≤ b') : sR n w b' Mc Mm := ⟨h.1, h.2.1, h.2.2.1, h.2.2.2.1, h.2.2.2.2.1, sRS_k h.2.2.2.2.2 hb rfl rfl rfl (fun _ _ q => q)⟩
/-- a turn of the class's clock alone -/
theorem sR_turn {n w b : Nat} {Mc Mm : zM} (h : sR n w b Mc Mm) : sR n w (b + 1) (kTurn Mc) Mm := by
  obtain ⟨h0, hD, hM, hE, hN, a, c, fa, fc, ha, hc, e1, e2, e3, e4⟩ := h
  refine ⟨h0, hD, hM, hE, hN, a + 1, c, fa, fc, by omega, by omega, ?_, e2, fun i hi => ?_, e4⟩
  · show (z_sj Mc 0 9 (Mc.2 0 9 + 1)).2 0 9 = _
    rw [z_sj_same, e1, lN_1]
  · have := e3 i hi
    show (z_sj Mc 0 9 (Mc.2 0 9 + 1)).2 _ 9 = _ ∧ _
    rw [z_sj_other _ _ (by omega)]
    exact ⟨this.1, by omega, this.2.2⟩
