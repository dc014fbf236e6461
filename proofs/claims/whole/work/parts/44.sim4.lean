/-! SIM: take, up, down, one order -/
theorem s_n43 : ∀ q, q < 4 → ∀ p ∈ s_L, p.1.1 ≠ 43 + 2 * q := by decide +kernel
theorem s_n74 : ∀ p ∈ s_L, p.2.1 ≠ 74 := by decide +kernel
theorem sR0_cong {Mc Mm Mc' Mm' : zM} (h : sR0 Mc Mm) (h1 : ∀ p ∈ s_L, Mc'.1 p.1.1 p.1.2 = Mc.1 p.1.1 p.1.2) (h2 : ∀ p ∈ s_L, Mm'.1 p.2.1 p.2.2 = Mm.1 p.2.1 p.2.2) : sR0 Mc' Mm' := fun p hp => by rw [h1 p hp, h2 p hp]; exact h p hp
theorem kSh_row (q : Nat) : ∀ (k i : Nat) (M : zM) {c : Nat}, c ≠ 43 + 2 * q → (kFor (kSh q) k i M).1 c = M.1 c
  | 0, _, _, _, _ => rfl
  | k + 1, i, M, c, hc => by
    show (kFor (kSh q) k (i + 1) (kSh q i M)).1 c = M.1 c
    rw [kSh_row q k (i + 1) _ hc]
    exact z_si_row _ _ _ hc
theorem kSh_2 (q : Nat) : ∀ (k i : Nat) (M : zM), (kFor (kSh q) k i M).2 = M.2
  | 0, _, _ => rfl
  | k + 1, i, M => by
    show (kFor (kSh q) k (i + 1) (kSh q i M)).2 = M.2
    rw [kSh_2 q k (i + 1)]
    rfl
theorem kSh_lo (q : Nat) : ∀ (k i : Nat) (M : zM) {x : Nat}, x < i → (kFor (kSh q) k i M).1 (43 + 2 * q) x = M.1 (43 + 2 * q) x
  | 0, _, _, _, _ => rfl
  | k + 1, i, M, x, hx => by
    show (kFor (kSh q) k (i + 1) (kSh q i M)).1 (43 + 2 * q) x = _
    rw [kSh_lo q k (i + 1) _ (by omega)]
    unfold kSh
    rw [z_si_other _ _ (by omega)]
theorem kSh_get (q : Nat) : ∀ (k i : Nat) (M : zM) {x : Nat}, i ≤ x → x < i + k → (kFor (kSh q) k i M).1 (43 + 2 * q) x = M.1 (43 + 2 * q) (x + 1)
  | 0, i, M, x, h1, h2 => absurd h2 (by omega)
  | k + 1, i, M, x, h1, h2 => by
    show (kFor (kSh q) k (i + 1) (kSh q i M)).1 (43 + 2 * q) x = _
    by_cases e : x = i
    · subst e
      rw [kSh_lo q k (x + 1) _ (by omega)]
      unfold kSh
      rw [z_si_same]
    · rw [kSh_get q k (i + 1) _ (by omega) (by omega)]
      unfold kSh
      rw [z_si_other _ _ (by omega)]
theorem mTake0_get (k q : Nat) (M : zM) {x : Nat} (hx : x < 3) : (mTake0 k q M).1 74 (4 * q + x) = M.1 74 (4 * q + (x + 1)) := by
  unfold mTake0
  show (mSh q 2 (mSh q 1 (mSh q 0 _))).1 74 (4 * q + x) = _
  unfold mSh
  rcases (show x = 0 ∨ x = 1 ∨ x = 2 by omega) with rfl | rfl | rfl
  · rw [z_si_other _ _ (by omega), z_si_other _ _ (by omega), z_si_same, z_si_other _ _ (by omega)]
  · rw [z_si_other _ _ (by omega), z_si_same, z_si_other _ _ (by omega), z_si_other _ _ (by omega)]
  · rw [z_si_same, z_si_other _ _ (by omega), z_si_other _ _ (by omega), z_si_other _ _ (by omega)]
theorem mTake0_o (k q : Nat) (M : zM) {y : Nat} (hy : ∀ x, x < 3 → y ≠ 4 * q + x) : (mTake0 k q M).1 74 y = M.1 74 y := by
  unfold mTake0
  show (mSh q 2 (mSh q 1 (mSh q 0 _))).1 74 y = _
  unfold mSh
  have h0 := hy 0 (by omega)
  have h1 := hy 1 (by omega)
  have h2 := hy 2 (by omega)
  rw [z_si_other _ _ (by omega), z_si_other _ _ (by omega), z_si_other _ _ (by omega), z_si_other _ _ (by omega)]
theorem mTake0_71 (k q : Nat) (M : zM) : (mTake0 k q M).1 71 = (z_si M 71 k (M.1 74 (4 * q))).1 71 := by
  unfold mTake0
  show (mSh q 2 (mSh q 1 (mSh q 0 _))).1 71 = _
  unfold mSh
  rw [z_si_row _ _ _ (by omega), z_si_row _ _ _ (by omega), z_si_row _ _ _ (by omega)]
theorem sR_take {n w b : Nat} {Mc Mm : zM} (h : sR n w b Mc Mm) (hI : mInv n w Mm) {i q : Nat} (hi : i < 8) (hq : q < 4) (hz : 0 < mSz Mm q) : sR n w b (z_si (kTake q (mSz Mm q) Mc) (9 + 4 * i) 15 (Mc.1 (43 + 2 * q) 0)) (z_si (mTake0 i q Mm) 75 q (nI (mSz Mm q - 1))) := by
  obtain ⟨h0, hD, hM, hE, hN, hS⟩ := h
  have hz4 := mSz_le hI hq
  have ev : Mc.1 (43 + 2 * q) 0 = Mm.1 74 (4 * q) := hM q hq 0 hz
  have row : ∀ c, c ≠ 43 + 2 * q → (kTake q (mSz Mm q) Mc).1 c = (z_si Mc (42 + 2 * q) 1 (nI (mSz Mm q - 1))).1 c := fun c hc => kSh_row q _ _ _ hc
  have a0 : sR0 (z_si (z_si Mc (42 + 2 * q) 1 (nI (mSz Mm q - 1))) (9 + 4 * i) 15 (Mm.1 74 (4 * q))) (z_si (z_si Mm 75 q (nI (mSz Mm q - 1))) 71 i (Mm.1 74 (4 * q))) := sR0_w (sR0_w h0 (s_psz q hq) _) (s_let i hi) _
  rw [ev]
  refine ⟨sR0_cong a0 (fun p hp => ?_) (fun p hp => ?_), sRD_k hD (fun j hj => ?_) (fun j hj => ?_), fun p hp y hy => ?_, sRE_k hE ?_ ?_, sRN_k hN (fun j hj => ?_), sRS_k hS (Nat.le_refl b) ?_ ?_ ?_ (fun j hj z => ?_)⟩
  · by_cases e : p.1.1 = 9 + 4 * i ∧ p.1.2 = 15
    · rw [e.1, e.2, z_si_same, z_si_same]
    · rw [z_si_other _ _ e, z_si_other _ _ e, row _ (s_n43 q hq p hp)]
  · have n74 := s_n74 p hp
    by_cases e : p.2.1 = 75 ∧ p.2.2 = q
    · rw [e.1, e.2, z_si_same, z_si_other _ _ (by omega), z_si_same]
    · rw [z_si_other _ _ e]
      by_cases e2 : p.2.1 = 71
      · rw [e2, mTake0_71]
        by_cases e3 : p.2.2 = i
        · rw [e3, z_si_same, z_si_same]
        · rw [z_si_other _ _ (by omega), z_si_other _ _ (by omega), z_si_other _ _ (by omega)]
      · rw [mTake0_far i q Mm ⟨e2, n74⟩, z_si_other _ _ (by omega), z_si_other _ _ e]
  · rw [z_si_other _ _ (by omega), z_si_other _ _ (by omega), row _ (by omega), z_si_other _ _ (by omega), z_si_other _ _ (by omega)]; exact ⟨rfl, rfl⟩
  · rw [z_si_other _ _ (by omega), z_si_other _ _ (by omega), mTake0_far i q Mm (by omega), mTake0_far i q Mm (by omega)]; exact ⟨rfl, rfl⟩
  · have hy2 : y < ((z_si (mTake0 i q Mm) 75 q (nI (mSz Mm q - 1))).1 75 p).toNatClampNeg := hy
    have hp4 := mSz_le hI hp
    have hpe : (Mm.1 75 p).toNatClampNeg = mSz Mm p := rfl
    rw [z_si_other _ _ (by omega), z_si_other (c' := 74) _ _ (by omega)]
    by_cases e : p = q
    · subst e
      rw [z_si_same, nI_clamp (by omega)] at hy2
      rw [mTake0_get i p Mm (by omega)]
      unfold kTake
      rw [kSh_get p _ _ _ (by omega) (by omega), z_si_other _ _ (by omega)]
      exact hM p hp (y + 1) (by omega)
    · rw [z_si_other _ _ (by omega), mTake0_far i q Mm (by omega), hpe] at hy2
      rw [row _ (by omega), z_si_other _ _ (by omega), mTake0_o i q Mm (fun x hx => by omega)]
      exact hM p hp y hy2
  · rw [z_si_row _ _ _ (by omega), row _ (by omega), z_si_row _ _ _ (by omega)]
  · funext j; rw [z_si_other _ _ (by omega), mTake0_far i q Mm (by omega)]
  · rw [z_si_other _ _ (by omega), row _ (by omega), z_si_other _ _ (by omega)]
  · exact kSh_2 q _ _ _
  · rw [z_si_other _ _ (by omega), mTake0_far i q Mm (by omega)]
  · funext j; rw [z_si_other _ _ (by omega), mTake0_far i q Mm (by omega)]
  · rw [z_si_other _ _ (by omega), mTake0_far i q Mm (by omega)] at z; exact z
theorem sI_take {n w b : Nat} {Mc Mm : zM} (h : sIM n w b Mc Mm) {i q : Nat} (hi : i < n) (hq : q < 4) (hr : Mm.1 63 i = 1) : sIM n w (b + 1) (kTakes i q Mc) (mTakes i q Mm) := by
  have hi8 : i < 8 := Nat.lt_of_lt_of_le hi (kInv_n h.1)
  unfold kTakes mTakes
  rw [sR_get h.2.2.1 (s_psz q hq)]
  by_cases e : Mm.1 75 q = 0
  · rw [if_pos e, if_pos e]
    exact sI_wait h hi (h1ne0 hr)
  · rw [if_neg e, if_neg e, sSz h.2.2.1 hq, mTake0_far i q Mm (by omega), mSz_eq h.2.1 hq]
    have hp : mSz Mm q ≠ 0 := fun z => e (by rw [mSz_eq h.2.1 hq, z]; rfl)
    have hz4 := mSz_le h.2.1 hq
    rw [nI_m1 hp]
    refine sI_adv (sI_mono (b := b) ⟨?_, ?_, sR_take h.2.2.1 h.2.1 hi8 hq (by omega), ?_⟩ (by omega)) hi (h1ne0 ?_)
    · exact kInv_task (kInv_Take h.1 hq hz4) hi8 _ (by decide) (by decide)
    · exact mInv_port (mInv_Take0 h.2.1 i q) q (by omega)
    · refine sV_si (sV_k h.2.2.2 ?_ ?_ ?_ ?_ ?_ ?_ ?_ ?_) _ (by omega) <;> exact funext fun j => mTake0_far i q Mm (by omega)
    · rw [z_si_other _ _ (by omega), mTake0_far i q Mm (by omega)]; exact hr
theorem sI_up {n w b : Nat} {Mc Mm : zM} (h : sIM n w b Mc Mm) (hb : b < 2 ^ 31) {i q : Nat} (hi : i < n) (hq : q < 4) (hr : Mm.1 63 i = 1) : sIM n w (b + 1) (kUp n i q Mc) (mUp n i q Mm) := by
  have hi8 : i < 8 := Nat.lt_of_lt_of_le hi (kInv_n h.1)
  unfold kUp mUp
  rw [sFW h hb]
  cases hF : mFW n 4 (nI q) Mm with
  | some j =>
    have hj := mFW_lt hF
    have hw := (mFW_P hF).1
    have hij : i ≠ j := fun e => by rw [← e, hr] at hw; exact absurd hw (by decide)
    exact sI_adv (sI_wake h hj (h2ne0 hw)) hi (h1ne0 (by rw [mWake_far j _ ⟨by omega, hij⟩]; exact hr))
  | none =>
    show sIM n w (b + 1) (kAdv i (kUp0 q Mc)) (mAdv i (mUp0 q Mm))
    unfold kUp0 mUp0
    rw [sR_get h.2.2.1 (s_sem q hq)]
    by_cases e : 9 ≤ Mm.1 76 q
    · rw [if_pos e, if_pos e]
      exact sI_adv (sI_mono h (by omega)) hi (h1ne0 hr)
    · rw [if_neg e, if_neg e]
      exact sI_adv (sI_mono (b := b) ⟨kInv_far h.1 _ (by omega), mInv_si h.2.1 _ (by omega), sR_w h.2.2.1 (s_sem q hq) _ (by omega) (by omega) (by omega) (by omega), sV_si h.2.2.2 _ (by omega)⟩ (by omega)) hi (h1ne0 (by rw [z_si_other _ _ (by omega)]; exact hr))
theorem sI_down {n w b : Nat} {Mc Mm : zM} (h : sIM n w b Mc Mm) {i q : Nat} (hi : i < n) (hq : q < 4) (hr : Mm.1 63 i = 1) : sIM n w (b + 1) (kDown i q Mc) (mDown i q Mm) := by
  unfold kDown mDown
  rw [sR_get h.2.2.1 (s_sem q hq)]
  by_cases e : Mm.1 76 q = 0
  · rw [if_pos e, if_pos e]
    exact sI_wait h hi (h1ne0 hr)
  · rw [if_neg e, if_neg e]
    exact sI_adv (sI_mono (b := b) ⟨kInv_far h.1 _ (by omega), mInv_si h.2.1 _ (by omega), sR_w h.2.2.1 (s_sem q hq) _ (by omega) (by omega) (by omega) (by omega), sV_si h.2.2.2 _ (by omega)⟩ (by omega)) hi (h1ne0 (by rw [z_si_other _ _ (by omega)]; exact hr))
theorem sI_do {n w b : Nat} {Mc Mm : zM} (h : sIM n w b Mc Mm) (hb : b < 2 ^ 31) {i : Nat} (hi : i < n) (hr : Mm.1 63 i = 1) : sIM n w (b + 1) (kDo n i Mc) (mDo n i Mm) := by
  have hi8 : i < 8 := Nat.lt_of_lt_of_le hi (kInv_n h.1)
  unfold kDo mDo
  rw [sOrd h hi8, sNum h hi8]
  by_cases e0 : mOrd Mm i = 0
  · rw [if_pos e0, if_pos e0]
    exact sI_mono (sI_work h hi (h1ne0 hr) e0) (by omega)
  · have hq := (mNum_lt h.2.1 hi8 e0).1
    rw [if_neg e0, if_neg e0]
    by_cases e1 : mOrd Mm i = 1
    · rw [if_pos e1, if_pos e1]
      exact sI_send h hb hi hq hr
    · rw [if_neg e1, if_neg e1]
      by_cases e2 : mOrd Mm i = 2
      · rw [if_pos e2, if_pos e2]
        exact sI_take h hi hq hr
      · rw [if_neg e2, if_neg e2]
        by_cases e3 : mOrd Mm i = 3
        · rw [if_pos e3, if_pos e3]
          exact sI_up h hb hi hq hr
        · rw [if_neg e3, if_neg e3]
          exact sI_down h hi hq hr
theorem sI_idle {n w b : Nat} {Mc Mm : zM} (h : sIM n w b Mc Mm) : sIM n w b (kIdle Mc) (mIdle Mm) := by
  unfold kIdle mIdle
  rw [sR_get h.2.2.1 s_idle]
  exact ⟨kInv_far h.1 _ (by omega), mInv_si h.2.1 _ (by omega), sR_w h.2.2.1 s_idle _ (by omega) (by omega) (by omega) (by omega), sV_si h.2.2.2 _ (by omega)⟩
theorem sI_go {n w : Nat} (p : Int32) : ∀ (f : Nat) (b : Nat) (Mc Mm : zM), sIM n w b Mc Mm → b + f < 2 ^ 31 → mNu Mm 8 < f → sIM n w (b + f) (kGo n p f Mc) (mGo n p f Mm)
  | 0, b, Mc, Mm, h, hb, hf => absurd hf (by omega)
  | f + 1, b, Mc, Mm, h, hb, hf => by
    have e := sFR h (by omega) p
    cases hF : mFR n p Mm with
    | none =>
      rw [mGo_none hF, kGo_none (e.trans hF)]
      exact sI_mono (sI_idle h) (by omega)
    | some j =>
      have hj := mFR_lt hF
      have hj8 : j < 8 := Nat.lt_of_lt_of_le hj (kInv_n h.1)
      have hr := (mFR_P hF).1
      have hd := sI_do h (by omega) hj hr
      by_cases e0 : mOrd Mm j = 0
      · rw [mGo_work hF e0, kGo_work (e.trans hF) ((sOrd h hj8).trans e0)]
        exact sI_mono hd (by omega)
      · rw [mGo_on hF e0, kGo_on (e.trans hF) (fun z => e0 ((sOrd h hj8).symm.trans z))]
        have := mNu_Do h.2.1 hj8 hr e0
        exact sI_mono (sI_go p f (b + 1) _ _ hd (by omega) (by omega)) (by omega)
