/-! SIM: the calls that lay the plan out -/
theorem sI_start {n w b : Nat} {Mc Mm : zM} (h : sIM n w b Mc Mm) {i : Nat} (hi : i < n) (h0 : Mm.1 63 i = 0) : sIM n w (b + 1) (kRel i (Mc.1 0 6) (Mc.2 0 9 + 1) (kTurn Mc)) (mRel i Mm) := sI_rel h hi h0
theorem sI_action {n w b : Nat} {Mc Mm : zM} (h : sIM n w b Mc Mm) {j : Nat} (hj : j < 3) (x : Int32) : sIM n w b (z_si Mc (5 + j) 1 x) (z_si Mm 55 j x) :=
  ⟨kInv_far h.1 _ (by omega), mInv_si h.2.1 _ (by omega), sR_w h.2.2.1 (s_act j hj) x (by omega) (by omega) (by omega) (by omega), sV_si h.2.2.2 _ (by omega)⟩
theorem sI_on2 {n w b : Nat} (d : Int32) {Mc Mm : zM} (h : sIM n w b Mc Mm) {i : Nat} (hi : i < n) : sIM n w b (kOn2 d i (kRestOne d i Mc)) (mOn2 d i Mm) := by
  have hi8 : i < 8 := Nat.lt_of_lt_of_le hi (kInv_n h.1)
  unfold kOn2 mOn2 kRestOne
  rw [sR_get h.2.2.1 (s_part i hi8)]
  by_cases e : Mm.1 56 i = d
  · have h1 := sI_rest h hi
    have ep : (kRest i Mc).1 (9 + 4 * i) 2 = d := by rw [sR_get h1.2.2.1 (s_part i hi8), mRest_far i Mm (by omega)]; exact e
    rw [if_pos e, if_pos e, if_pos ep, sR_get h1.2.2.1 (s_per i hi8), sR_get h1.2.2.1 s_time]
    split
    · exact h1
    · exact ⟨kInv_task h1.1 hi8 _ (by decide) (by decide), mInv_si h1.2.1 _ (by omega), sR_x h1.2.2.1 hi hi8 _, sV_si h1.2.2.2 _ (by omega)⟩
  · rw [if_neg e, if_neg e, sR_get h.2.2.1 (s_part i hi8), if_neg e]
    exact h
/-- the class rests all first, then sets the next releases: the same as one after the other -/
theorem kRest_c (i j : Nat) (M : zM) {c k : Nat} (hij : c ≠ 9 + 4 * j) : (kRest j M).1 c k = M.1 c k := by
  unfold kRest
  rw [z_si_other _ _ (by omega), z_si_other _ _ (by omega), z_si_other _ _ (by omega), z_si_other _ _ (by omega)]
theorem kOn2_comm (d : Int32) {i j : Nat} (hij : i ≠ j) (M : zM) : kOn2 d i (kRestOne d j M) = kRestOne d j (kOn2 d i M) := by
  have e1 : (kRestOne d j M).1 (9 + 4 * i) = M.1 (9 + 4 * i) := by
    unfold kRestOne
    split
    · funext k; exact kRest_c 0 j M (by omega)
    · rfl
  have e0 : (kRestOne d j M).1 0 = M.1 0 := by
    unfold kRestOne
    split
    · funext k; exact kRest_c 0 j M (by omega)
    · rfl
  have e2 : (kOn2 d i M).1 (9 + 4 * j) = M.1 (9 + 4 * j) := by
    unfold kOn2
    split
    · split
      · rfl
      · exact z_si_row _ _ _ (by omega)
    · rfl
  unfold kOn2
  rw [e1, e0]
  by_cases a : M.1 (9 + 4 * i) 2 = d
  · rw [if_pos a, if_pos a]
    by_cases c : M.1 (9 + 4 * i) 4 ≤ 0
    · rw [if_pos c, if_pos c]
    · rw [if_neg c, if_neg c]
      unfold kRestOne
      rw [z_si_row _ _ _ (show 9 + 4 * j ≠ 9 + 4 * i by omega)]
      by_cases f : M.1 (9 + 4 * j) 2 = d
      · rw [if_pos f, if_pos f]
        unfold kRest
        rw [z_si_comm _ (a := 9 + 4 * j) (b := 9 + 4 * i) _ _ (by omega), z_si_comm _ (a := 9 + 4 * j) (b := 9 + 4 * i) _ _ (by omega), z_si_comm _ (a := 9 + 4 * j) (b := 9 + 4 * i) _ _ (by omega), z_si_comm _ (a := 9 + 4 * j) (b := 9 + 4 * i) _ _ (by omega)]
      · rw [if_neg f, if_neg f]
  · rw [if_neg a, if_neg a]
theorem kOn2_for (d : Int32) {i : Nat} : ∀ (k j : Nat) (M : zM), i < j → kOn2 d i (kFor (kRestOne d) k j M) = kFor (kRestOne d) k j (kOn2 d i M)
  | 0, _, _, _ => rfl
  | k + 1, j, M, hij => by
    show kOn2 d i (kFor (kRestOne d) k (j + 1) (kRestOne d j M)) = kFor (kRestOne d) k (j + 1) (kRestOne d j (kOn2 d i M))
    rw [kOn2_for d k (j + 1) _ (by omega), kOn2_comm d (by omega)]
theorem kOn_fuse (d : Int32) : ∀ (k i : Nat) (M : zM), kFor (kOn2 d) k i (kFor (kRestOne d) k i M) = kFor (fun i M => kOn2 d i (kRestOne d i M)) k i M
  | 0, _, _ => rfl
  | k + 1, i, M => by
    show kFor (kOn2 d) k (i + 1) (kOn2 d i (kFor (kRestOne d) k (i + 1) (kRestOne d i M))) = kFor (fun i M => kOn2 d i (kRestOne d i M)) k (i + 1) (kOn2 d i (kRestOne d i M))
    rw [kOn2_for d k (i + 1) _ (by omega), kOn_fuse d k (i + 1)]
theorem sI_on {n w b : Nat} {Mc Mm : zM} (h : sIM n w b Mc Mm) {a : Int32} (ha : a.toNatClampNeg < 3) : sIM n w b (kOn n a Mc) (mOn n a Mm) := by
  unfold kOn mOn
  rw [kOn_fuse]
  have h1 : sIM n w b (z_si Mc (5 + a.toNatClampNeg) 0 1) (z_si Mm 54 a.toNatClampNeg 1) := ⟨kInv_far h.1 _ (by omega), mInv_si h.2.1 _ (by omega), sR_w h.2.2.1 (s_mode _ ha) 1 (by omega) (by omega) (by omega) (by omega), sV_si h.2.2.2 _ (by omega)⟩
  exact sI_for0 (f := fun i M => kOn2 a i (kRestOne a i M)) (g := mOn2 a) (fun i b Mc Mm hi hh => sI_on2 a hh hi) n 0 b _ _ (by omega) h1
/-! window -/
theorem sI_window {n w b : Nat} {Mc Mm : zM} (h : sIM n w b Mc Mm) (hw : w < 8) {a x : Int32} (ha : 0 ≤ a ∧ a ≤ 2) (hx : 1 ≤ x ∧ x ≤ 30) : sIM n (w + 1) b (kWadd w a x Mc) (mWadd w a x Mm) := by
  obtain ⟨ea, ha3⟩ := kC_ok ha
  have hx0 : 0 ≤ x ∧ x ≤ 30 := ⟨Int32.le_trans (by decide) hx.1, hx.2⟩
  obtain ⟨ex, hx31⟩ := kR_ok (c := 30) (N := 30) (by decide) hx0
  generalize a.toNatClampNeg = q at ea ha3
  generalize x.toNatClampNeg = v at ex hx31
  subst ea
  subst ex
  have hv : 1 ≤ v := by
    have := hx.1
    rw [show (1 : Int32) = nI 1 from rfl, nI_leI (by omega) (by omega)] at this
    exact this
  have hI := h.2.1
  have hT := mTl_le hI w 0 (by omega)
  have hpre : ∀ k, k ≤ w → mTl (mWadd w (nI q) (nI v) Mm) k 0 = mTl Mm k 0 := by
    intro k
    induction k with
    | zero => intro _; rfl
    | succ k ih =>
      intro hk
      rw [mTl_snoc, mTl_snoc, ih (by omega)]
      congr 1
      unfold mSp mWadd
      rw [z_si_other _ _ (by omega), z_si_other _ _ (by omega), z_si_other _ _ (by omega)]
  have hsp : mSp (mWadd w (nI q) (nI v) Mm) w = v := by
    unfold mSp mWadd
    rw [z_si_other _ _ (by omega), z_si_same, nI_clamp (by omega)]
  have hend : kEnd Mc w (nI v) = nI (mTl Mm w 0 + v) := by
    unfold kEnd
    by_cases e : w = 0
    · subst e
      rw [if_pos rfl]
      show nI v = nI (0 + v)
      rw [Nat.zero_add]
    · rw [if_neg e]
      have := h.2.2.1.2.2.2.1 (w - 1) (by omega)
      rw [show w - 1 + 1 = w by omega] at this
      rw [this, nI_add]
  obtain ⟨⟨k1, k2, k3, k4, k5, k6, k7, k8, k9, k10⟩, kn⟩ := h.1
  obtain ⟨⟨m1, m2, m3, m4, m5, m6, m7, m8, m9⟩, mn⟩ := hI
  refine ⟨⟨⟨k1, by omega, ?_, ?_, fun _ => ?_, fun j hj => ?_, fun j hj => ?_, fun j hj => ?_, fun j y hj hy => ?_, fun j hj => ?_⟩, fun j hj => ?_⟩, ⟨⟨m1, by omega, ?_, ?_, fun j hj => ?_, fun j hj => ?_, fun j hj => ?_, fun j y hj hy => ?_, fun j hj => ?_⟩, fun j hj => ?_⟩, ⟨?_, ?_, ?_, fun j hj => ?_, ?_, ?_⟩, ?_⟩
  · unfold kWadd; rw [z_si_other _ _ (by omega), z_si_other _ _ (by omega), z_si_other _ _ (by omega)]; exact k3
  · unfold kWadd; rw [z_si_same]
  · unfold kWadd
    rw [show w + 1 - 1 = w by omega, z_si_other _ _ (by omega), z_si_other _ _ (by omega), z_si_same, hend]
    exact nI_ne0 (by omega) (by omega)
  · unfold kWadd
    rw [z_si_other _ _ (by omega)]
    by_cases e : j = w
    · subst e; exact ⟨q, ha3, z_si_same _ _ _ _⟩
    · rw [z_si_other _ _ (by omega), z_si_other _ _ (by omega)]; exact k6 j (by omega)
  · unfold kWadd; rw [z_si_other _ _ (by omega), z_si_other _ _ (by omega), z_si_other _ _ (by omega)]; exact k7 j hj
  · unfold kWadd; rw [z_si_other _ _ (by omega), z_si_other _ _ (by omega), z_si_other _ _ (by omega)]; exact k8 j hj
  · unfold kWadd
    rw [z_si_other _ _ (by omega), z_si_other _ _ (by omega), z_si_other _ _ (by omega), z_si_other _ _ (by omega), z_si_other _ _ (by omega), z_si_other _ _ (by omega)]; exact k9 j y hj hy
  · unfold kWadd; rw [z_si_other _ _ (by omega), z_si_other _ _ (by omega), z_si_other _ _ (by omega)]; exact k10 j hj
  · unfold kWadd; rw [z_si_other _ _ (by omega), z_si_other _ _ (by omega), z_si_other _ _ (by omega)]; exact kn j hj
  · unfold mWadd; rw [z_si_other _ _ (by omega), z_si_other _ _ (by omega), z_si_other _ _ (by omega)]; exact m3
  · unfold mWadd; rw [z_si_same]
  · unfold mWadd
    rw [z_si_other _ _ (by omega)]
    by_cases e : j = w
    · subst e; exact ⟨v, hv, by omega, z_si_same _ _ _ _⟩
    · rw [z_si_other _ _ (by omega), z_si_other _ _ (by omega)]; exact m5 j (by omega)
  · unfold mWadd
    rw [z_si_other _ _ (by omega), z_si_other _ _ (by omega)]
    by_cases e : j = w
    · subst e; exact ⟨q, ha3, z_si_same _ _ _ _⟩
    · rw [z_si_other _ _ (by omega)]; exact m6 j (by omega)
  · unfold mWadd; rw [z_si_other _ _ (by omega), z_si_other _ _ (by omega), z_si_other _ _ (by omega)]; exact m7 j hj
  · unfold mWadd
    rw [z_si_other _ _ (by omega), z_si_other _ _ (by omega), z_si_other _ _ (by omega), z_si_other _ _ (by omega), z_si_other _ _ (by omega), z_si_other _ _ (by omega)]; exact m8 j y hj hy
  · unfold mWadd; rw [z_si_other _ _ (by omega), z_si_other _ _ (by omega), z_si_other _ _ (by omega)]; exact m9 j hj
  · unfold mWadd; rw [z_si_other _ _ (by omega), z_si_other _ _ (by omega), z_si_other _ _ (by omega), z_si_other _ _ (by omega), z_si_other _ _ (by omega), z_si_other _ _ (by omega), z_si_other _ _ (by omega), z_si_other _ _ (by omega), z_si_other _ _ (by omega)]; exact mn j hj
  · unfold kWadd mWadd
    rw [z_si_comm Mm (a := 52) (b := 53) _ _ (by omega)]
    exact sR0_w (sR0_w (sR0_m (sR0_c h.2.2.1.1 (s_no_3 w hw) _) (s_no_m 53 (by omega) (by omega) w (by omega)) _) (s_own w hw) _) s_win _
  · unfold kWadd mWadd
    exact sRD_k h.2.2.1.2.1 (fun i hi => by rw [z_si_other _ _ (by omega), z_si_other _ _ (by omega), z_si_other _ _ (by omega), z_si_other _ _ (by omega), z_si_other _ _ (by omega), z_si_other _ _ (by omega)]; exact ⟨rfl, rfl⟩) (fun i hi => by rw [z_si_other _ _ (by omega), z_si_other _ _ (by omega), z_si_other _ _ (by omega), z_si_other _ _ (by omega), z_si_other _ _ (by omega), z_si_other _ _ (by omega)]; exact ⟨rfl, rfl⟩)
  · unfold kWadd mWadd
    exact sRM_k h.2.2.1.2.2.1 (fun p hp => by rw [z_si_row _ _ _ (by omega), z_si_row _ _ _ (by omega), z_si_row _ _ _ (by omega)]) (by rw [z_si_row _ _ _ (by omega), z_si_row _ _ _ (by omega), z_si_row _ _ _ (by omega)]) (by rw [z_si_row _ _ _ (by omega), z_si_row _ _ _ (by omega), z_si_row _ _ _ (by omega)])
  · by_cases e : j = w
    · subst e
      rw [mTl_snoc, Nat.zero_add, hpre j (Nat.le_refl _), hsp]
      unfold kWadd
      rw [z_si_other _ _ (by omega), z_si_other _ _ (by omega), z_si_same]
      exact hend
    · rw [hpre (j + 1) (by omega)]
      unfold kWadd
      rw [z_si_other _ _ (by omega), z_si_other _ _ (by omega), z_si_other _ _ (by omega)]
      exact h.2.2.1.2.2.2.1 j (by omega)
  · unfold kWadd
    exact sRN_k h.2.2.1.2.2.2.2.1 (fun i hi => by rw [z_si_other _ _ (by omega), z_si_other _ _ (by omega), z_si_other _ _ (by omega)])
  · unfold kWadd mWadd
    exact sRS_k h.2.2.1.2.2.2.2.2 (Nat.le_refl b) rfl (by rw [z_si_other _ _ (by omega), z_si_other _ _ (by omega), z_si_other _ _ (by omega)]) (by rw [z_si_row _ _ _ (by omega), z_si_row _ _ _ (by omega), z_si_row _ _ _ (by omega)]) (fun i hi q => by rw [z_si_other _ _ (by omega), z_si_other _ _ (by omega), z_si_other _ _ (by omega)] at q; exact q)
  · unfold mWadd
    exact sV_si (sV_si (sV_si h.2.2.2 _ (by omega)) _ (by omega)) _ (by omega)
