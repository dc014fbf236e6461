/-! SIM: process, order -/
theorem sI_process {n w b : Nat} {Mc Mm : zM} (h : sIM n w b Mc Mm) (hn : n < 8) {a p d q : Int32} (ha : 0 ≤ a ∧ a ≤ 2) (hd : 0 ≤ d ∧ d ≤ 60) : sIM (n + 1) w b (kProc n a p d q Mc) (mProc n a p d q Mm) := by
  obtain ⟨ea, ha3⟩ := kC_ok ha
  obtain ⟨ed, hd61⟩ := kR_ok (c := 60) (N := 60) (by decide) hd
  generalize a.toNatClampNeg = aa at ea ha3
  generalize d.toNatClampNeg = dd at ed hd61
  subst ea
  subst ed
  have fc : ∀ c k, c ≠ 9 + 4 * n → (c ≠ 0 ∨ k ≠ 5) → (kProc n (nI aa) p (nI dd) q Mc).1 c k = Mc.1 c k := fun c k h1 h2 => by
    unfold kProc kDef
    rw [z_si_other _ _ (by omega), z_si_other _ _ (by omega), z_si_other _ _ (by omega), z_si_other _ _ (by omega), z_si_other _ _ (by omega)]
  have ft : ∀ k, k ≠ 2 → k ≠ 3 → k ≠ 4 → k ≠ 5 → (kProc n (nI aa) p (nI dd) q Mc).1 (9 + 4 * n) k = Mc.1 (9 + 4 * n) k := fun k h2 h3 h4 h5 => by
    unfold kProc kDef
    rw [z_si_other _ _ (by omega), z_si_other _ _ (by omega), z_si_other _ _ (by omega), z_si_other _ _ (by omega), z_si_other _ _ (by omega)]
  have fm : ∀ c k, (c ≠ 51 ∨ k ≠ 5) → (k ≠ n ∨ (c ≠ 56 ∧ c ≠ 57 ∧ c ≠ 58 ∧ c ≠ 59 ∧ c ≠ 67 ∧ c ≠ 72)) → (mProc n (nI aa) p (nI dd) q Mm).1 c k = Mm.1 c k := fun c k h1 h2 => by
    unfold mProc
    rw [z_si_other _ _ (by omega), z_si_other _ _ (by omega), z_si_other _ _ (by omega), z_si_other _ _ (by omega), z_si_other _ _ (by omega), z_si_other _ _ (by omega), z_si_other _ _ (by omega)]
  obtain ⟨⟨⟨k1, k2, k3, k4, k5, k6, k7, k8, k9, k10⟩, kn⟩, ⟨⟨m1, m2, m3, m4, m5, m6, m7, m8, m9⟩, mn⟩, ⟨r0, rD, rM, rE, rN, rS⟩, v2, v3, v4, v5⟩ := h
  refine ⟨⟨⟨by omega, k2, ?_, ?_, fun z => ?_, fun j hj => ?_, fun j hj => ?_, fun j hj => ?_, fun j y hj hy => ?_, fun j hj => ?_⟩, fun j hj => ?_⟩, ⟨⟨by omega, m2, ?_, ?_, fun j hj => ?_, fun j hj => ?_, fun j hj => ?_, fun j y hj hy => ?_, fun j hj => ?_⟩, fun j hj => ?_⟩, ⟨?_, fun j hj => ?_, ?_, ?_, ?_, ?_⟩, fun j hj z => ?_, fun j hj => ?_, fun j hj => ?_, ?_⟩
  · unfold kProc; rw [z_si_same]
  · rw [fc _ _ (by omega) (by omega)]; exact k4
  · rw [fc _ _ (by omega) (by omega)]; exact k5 z
  · rw [fc _ _ (by omega) (by omega)]; exact k6 j hj
  · by_cases e : j = n
    · subst e
      refine ⟨aa, ha3, ?_⟩
      unfold kProc kDef
      rw [z_si_other _ _ (by omega), z_si_other _ _ (by omega), z_si_other _ _ (by omega), z_si_other _ _ (by omega), z_si_same]
    · rw [fc _ _ (by omega) (by omega)]; exact k7 j hj
  · rw [fc _ _ (by omega) (by omega)]; exact k8 j hj
  · rw [fc _ _ (by omega) (by omega), fc _ _ (by omega) (by omega)]; exact k9 j y hj hy
  · rw [fc _ _ (by omega) (by omega)]; exact k10 j hj
  · by_cases e : j = n
    · subst e; rw [ft _ (by omega) (by omega) (by omega) (by omega)]; exact kn j hj
    · rw [fc _ _ (by omega) (by omega)]; exact kn j hj
  · unfold mProc; rw [z_si_same]
  · rw [fm _ _ (by omega) (by omega)]; exact m4
  · rw [fm _ _ (by omega) (by omega)]; exact m5 j hj
  · rw [fm _ _ (by omega) (by omega)]; exact m6 j hj
  · by_cases e : j = n
    · subst e
      refine ⟨aa, ha3, ?_⟩
      unfold mProc
      rw [z_si_other _ _ (by omega), z_si_other _ _ (by omega), z_si_other _ _ (by omega), z_si_other _ _ (by omega), z_si_other _ _ (by omega), z_si_other _ _ (by omega), z_si_same]
    · rw [fm _ _ (by omega) (by omega)]; exact m7 j hj
  · rw [fm _ _ (by omega) (by omega), fm _ _ (by omega) (by omega)]; exact m8 j y hj hy
  · rw [fm _ _ (by omega) (by omega)]; exact m9 j hj
  · rw [fm _ _ (by omega) (by omega), fm _ _ (by omega) (by omega), fm _ _ (by omega) (by omega)]; exact mn j hj
  · unfold kProc kDef mProc
    exact sR0_w (sR0_m (sR0_m (sR0_w (sR0_w (sR0_w (sR0_w r0 (s_part n hn) _) (s_prio n hn) _) (s_per n hn) _) (s_lim n hn) _) (s_no_m 67 (by omega) (by omega) n (by omega)) _) (s_no_m 72 (by omega) (by omega) n (by omega)) _) s_cnt _
  · by_cases e : j = n
    · subst e
      rw [ft _ (by omega) (by omega) (by omega) (by omega), ft _ (by omega) (by omega) (by omega) (by omega)]
      have := (rD j hj).2 (Nat.le_refl _)
      refine ⟨fun _ => ?_, fun z => absurd z (by omega)⟩
      unfold mProc
      rw [z_si_other (c' := 67) _ _ (by omega), z_si_other (c' := 67) _ _ (by omega), z_si_same, z_si_other (c' := 72) _ _ (by omega), z_si_same]
      exact this
    · rw [fc _ _ (by omega) (by omega), fc _ _ (by omega) (by omega), fm _ _ (by omega) (by omega), fm _ _ (by omega) (by omega)]
      exact ⟨fun z => (rD j hj).1 (by omega), fun z => (rD j hj).2 (by omega)⟩
  · exact sRM_k rM (fun z hz => funext fun y => fc _ _ (by omega) (by omega)) (funext fun y => fm _ _ (by omega) (by omega)) (funext fun y => fm _ _ (by omega) (by omega))
  · exact sRE_k rE (funext fun y => fc _ _ (by omega) (by omega)) (funext fun y => fm _ _ (by omega) (by omega))
  · refine sRN_k rN (fun j hj => ?_)
    by_cases e : j = n
    · subst e; exact ft _ (by omega) (by omega) (by omega) (by omega)
    · exact fc _ _ (by omega) (by omega)
  · exact sRS_k rS (Nat.le_refl b) rfl (fm _ _ (by omega) (by omega)) (funext fun y => fm _ _ (by omega) (by omega)) (fun j hj z => by rw [fm _ _ (by omega) (by omega)] at z; exact z)
  · rw [fm _ _ (by omega) (by omega)] at z
    rw [fm _ _ (by omega) (by omega), fm _ _ (by omega) (by omega)]
    have := v2 j hj z
    refine ⟨this.1, this.2.1, fun hjn => ?_⟩
    by_cases e : j = n
    · subst e
      unfold mProc
      rw [z_si_other _ _ (by omega), z_si_other _ _ (by omega), z_si_same]
    · rw [fm _ _ (by omega) (by omega)]
      exact this.2.2 (by omega)
  · by_cases e : j = n
    · subst e
      refine ⟨dd, by omega, ?_⟩
      unfold mProc
      rw [z_si_other _ _ (by omega), z_si_other _ _ (by omega), z_si_other _ _ (by omega), z_si_other _ _ (by omega), z_si_same]
    · rw [fm _ _ (by omega) (by omega)]; exact v3 j hj
  · exact sWk_k (v4 j hj) (fm _ _ (by omega) (by omega)) (fm _ _ (by omega) (by omega)) (fm _ _ (by omega) (by omega)) (funext fun y => fm _ _ (by omega) (by omega)) (funext fun y => fm _ _ (by omega) (by omega))
  · exact sW5_k v5 (funext fun y => fm _ _ (by omega) (by omega)) (funext fun y => fm _ _ (by omega) (by omega)) (funext fun y => fm _ _ (by omega) (by omega))
theorem sI_order {n w b : Nat} {Mc Mm : zM} (h : sIM n w b Mc Mm) {i : Nat} (hi : i < 8) (hz : mPs Mm i < 8) {o x : Int32} (ho : kIsOrd o x) : sIM n w b (kGadd i (mPs Mm i) o x Mc) (mOadd i (mPs Mm i) o x Mm) := by
  have hps := mPs_eq h.2.1 hi
  have hnl : ∀ j, j < 8 → ¬ Mm.1 63 j = 0 → mAt Mm j < mPs Mm j := fun j hj q => mN_lt h.2.1 hj q
  generalize hzz : mPs Mm i = z at hz hps
  have hval : (o = 0 ∧ ∃ v, 1 ≤ v ∧ v ≤ 20 ∧ x = nI v) ∨ (¬ o = 0 ∧ ∃ v, v < 4 ∧ x = nI v) := by
    rcases ho with ⟨e, h1, h2⟩ | ⟨e, h1, h2⟩
    · obtain ⟨ex, hx⟩ := kR_ok (a := x) (c := 20) (N := 20) (by decide) ⟨Int32.le_trans (by decide) h1, h2⟩
      refine Or.inl ⟨e, x.toNatClampNeg, ?_, by omega, ex⟩
      rw [ex, show (1 : Int32) = nI 1 from rfl, nI_leI (by omega) (by omega)] at h1
      exact h1
    · obtain ⟨ex, hx⟩ := kQ_ok (a := x) ⟨h1, h2⟩
      refine Or.inr ⟨fun q => ?_, x.toNatClampNeg, hx, ex⟩
      rcases e with e | e | e | e <;> (rw [e] at q; exact absurd q (by decide))
  have fc : ∀ c k, (c ≠ 10 + 4 * i ∨ k ≠ 2) → ((c ≠ 11 + 4 * i ∧ c ≠ 12 + 4 * i) ∨ k ≠ z) → (kGadd i z o x Mc).1 c k = Mc.1 c k := fun c k h1 h2 => by
    unfold kGadd
    rw [z_si_other _ _ (by omega), z_si_other _ _ (by omega), z_si_other _ _ (by omega)]
  have fm : ∀ c k, (c ≠ 60 ∨ k ≠ i) → ((c ≠ 61 ∧ c ≠ 62) ∨ k ≠ 8 * i + z) → (mOadd i z o x Mm).1 c k = Mm.1 c k := fun c k h1 h2 => by
    unfold mOadd
    rw [z_si_other _ _ (by omega), z_si_other _ _ (by omega), z_si_other _ _ (by omega)]
  have c11 : (kGadd i z o x Mc).1 (11 + 4 * i) z = o := by unfold kGadd; rw [z_si_other _ _ (by omega), z_si_other _ _ (by omega), z_si_same]
  have c12 : (kGadd i z o x Mc).1 (12 + 4 * i) z = x := by unfold kGadd; rw [z_si_other _ _ (by omega), z_si_same]
  have c10 : (kGadd i z o x Mc).1 (10 + 4 * i) 2 = nI (z + 1) := by unfold kGadd; rw [z_si_same]
  have m61 : (mOadd i z o x Mm).1 61 (8 * i + z) = o := by unfold mOadd; rw [z_si_other _ _ (by omega), z_si_other _ _ (by omega), z_si_same]
  have m62 : (mOadd i z o x Mm).1 62 (8 * i + z) = x := by unfold mOadd; rw [z_si_other _ _ (by omega), z_si_same]
  have m60 : (mOadd i z o x Mm).1 60 i = nI (z + 1) := by unfold mOadd; rw [z_si_same]
  obtain ⟨⟨⟨k1, k2, k3, k4, k5, k6, k7, k8, k9, k10⟩, kn⟩, ⟨⟨m1, m2, m3, m4, m5, m6, m7, m8, m9⟩, mn⟩, ⟨r0, rD, rM, rE, rN, rS⟩, v2, v3, v4, v5⟩ := h
  refine ⟨⟨⟨k1, k2, ?_, ?_, fun y => ?_, fun j hj => ?_, fun j hj => ?_, fun j hj => ?_, fun j y hj hy => ?_, fun j hj => ?_⟩, fun j hj => ?_⟩, ⟨⟨m1, m2, ?_, ?_, fun j hj => ?_, fun j hj => ?_, fun j hj => ?_, fun j y hj hy => ?_, fun j hj => ?_⟩, fun j hj => ?_⟩, ⟨?_, ?_, ?_, ?_, ?_, ?_⟩, fun j hj y => ?_, fun j hj => ?_, fun j hj => ?_, fun j hj y hy => ?_⟩
  · rw [fc _ _ (by omega) (by omega)]; exact k3
  · rw [fc _ _ (by omega) (by omega)]; exact k4
  · rw [fc _ _ (by omega) (by omega)]; exact k5 y
  · rw [fc _ _ (by omega) (by omega)]; exact k6 j hj
  · rw [fc _ _ (by omega) (by omega)]; exact k7 j hj
  · by_cases e : j = i
    · subst e; exact ⟨z + 1, by omega, c10⟩
    · rw [fc _ _ (by omega) (by omega)]; exact k8 j hj
  · by_cases e : j = i ∧ y = z
    · obtain ⟨e1, e2⟩ := e
      subst e1; subst e2
      rw [c11, c12]
      rcases hval with q | q
      · exact Or.inl q.1
      · exact Or.inr q.2
    · rw [fc _ _ (by omega) (by omega), fc _ _ (by omega) (by omega)]; exact k9 j y hj hy
  · rw [fc _ _ (by omega) (by omega)]; exact k10 j hj
  · rw [fc _ _ (by omega) (by omega)]; exact kn j hj
  · rw [fm _ _ (by omega) (by omega)]; exact m3
  · rw [fm _ _ (by omega) (by omega)]; exact m4
  · rw [fm _ _ (by omega) (by omega)]; exact m5 j hj
  · rw [fm _ _ (by omega) (by omega)]; exact m6 j hj
  · rw [fm _ _ (by omega) (by omega)]; exact m7 j hj
  · by_cases e : j = i ∧ y = z
    · obtain ⟨e1, e2⟩ := e
      subst e1; subst e2
      rw [m61, m62]
      rcases hval with q | q
      · exact Or.inl q.1
      · exact Or.inr q.2
    · rw [fm _ _ (by omega) (by omega), fm _ _ (by omega) (by omega)]; exact m8 j y hj hy
  · rw [fm _ _ (by omega) (by omega)]; exact m9 j hj
  · rw [fm 64 _ (by omega) (by omega), fm 63 _ (by omega) (by omega)]
    by_cases e : j = i
    · subst e
      obtain ⟨x1, z1, a1, a2, a3, a4, a5⟩ := mn j hj
      rw [m60]
      refine ⟨x1, z + 1, a1, by omega, a3, rfl, fun q => ?_⟩
      have := a5 q
      rw [hps, nI_eq (by omega) (by omega)] at a4
      omega
    · rw [fm _ _ (by omega) (by omega)]; exact mn j hj
  · unfold kGadd mOadd
    exact sR0_w (sR0_w (sR0_w r0 (s_ord i hi z hz) _) (s_num i hi z hz) _) (s_siz i hi) _
  · exact sRD_k rD (fun j hj => ⟨fc _ _ (by omega) (by omega), fc _ _ (by omega) (by omega)⟩) (fun j hj => ⟨fm _ _ (by omega) (by omega), fm _ _ (by omega) (by omega)⟩)
  · exact sRM_k rM (fun q hq => funext fun y => fc _ _ (by omega) (by omega)) (funext fun y => fm _ _ (by omega) (by omega)) (funext fun y => fm _ _ (by omega) (by omega))
  · exact sRE_k rE (funext fun y => fc _ _ (by omega) (by omega)) (funext fun y => fm _ _ (by omega) (by omega))
  · exact sRN_k rN (fun j hj => fc _ _ (by omega) (by omega))
  · exact sRS_k rS (Nat.le_refl b) rfl (fm _ _ (by omega) (by omega)) (funext fun y => fm _ _ (by omega) (by omega)) (fun j hj q => by rw [fm _ _ (by omega) (by omega)] at q; exact q)
  · rw [fm _ _ (by omega) (by omega)] at y
    rw [fm _ _ (by omega) (by omega), fm _ _ (by omega) (by omega), fm _ _ (by omega) (by omega)]
    exact v2 j hj y
  · rw [fm _ _ (by omega) (by omega)]; exact v3 j hj
  · intro q1 q2
    have eat : mAt (mOadd i z o x Mm) j = mAt Mm j := by unfold mAt; rw [fm _ _ (by omega) (by omega)]
    rw [fm _ _ (by omega) (by omega)] at q1
    have hlt := hnl j hj q1
    have hne : ¬ (j = i ∧ mAt Mm j = z) := fun q => by rw [q.2, q.1, hzz] at hlt; omega
    obtain ⟨x1, z1, a1, a2, a3, a4, a5⟩ := mn j hj
    have hat8 : mAt Mm j < 8 := by unfold mAt; rw [a3, nI_clamp (by omega)]; exact a1
    unfold mOrd at q2
    rw [eat, fm _ _ (by omega) (by omega)] at q2
    unfold mNum
    rw [eat, fm _ _ (by omega) (by omega), fm _ _ (by omega) (by omega)]
    exact v4 j hj q1 q2
  · intro q
    have hpz : j ≠ i → mPs (mOadd i z o x Mm) j = mPs Mm j := fun e => by unfold mPs; rw [fm _ _ (by omega) (by omega)]
    by_cases e : j = i
    · subst e
      have e2 : mPs (mOadd j z o x Mm) j = z + 1 := by unfold mPs; rw [m60, nI_clamp (by omega)]
      rw [e2] at hy
      by_cases ey : y = z
      · subst ey
        rw [m61] at q
        rw [m62]
        rcases hval with ⟨_, v, b1, b2, b3⟩ | ⟨h0, _⟩
        · exact ⟨v, b1, b2, b3⟩
        · exact absurd q h0
      · rw [fm _ _ (by omega) (by omega)] at q
        rw [fm _ _ (by omega) (by omega)]
        exact v5 j hj y (by rw [hzz]; omega) q
    · rw [hpz e] at hy
      obtain ⟨x1, z1, a1, a2, a3, a4, a5⟩ := mn j hj
      have hp8 : mPs Mm j ≤ 8 := by unfold mPs; rw [a4, nI_clamp (by omega)]; exact a2
      rw [fm _ _ (by omega) (by omega)] at q
      rw [fm _ _ (by omega) (by omega)]
      exact v5 j hj y hy q
