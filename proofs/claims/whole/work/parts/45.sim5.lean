/-! SIM: releases, missed deadlines -/
theorem z_si_comm (M : zM) {a k b l : Nat} (x y : Int32) (h : ¬ (a = b ∧ k = l)) : z_si (z_si M a k x) b l y = z_si (z_si M b l y) a k x := by
  refine Prod.ext ?_ rfl
  funext c j
  show (if c = b ∧ j = l then y else if c = a ∧ j = k then x else M.1 c j) = (if c = a ∧ j = k then x else if c = b ∧ j = l then y else M.1 c j)
  by_cases h1 : c = b ∧ j = l
  · have h2 : ¬ (c = a ∧ j = k) := fun q => h ⟨q.1.symm.trans h1.1, q.2.symm.trans h1.2⟩
    rw [if_pos h1, if_neg h2, if_pos h1]
  · rw [if_neg h1, if_neg h1]
theorem sR_since {n w b : Nat} {Mc Mm : zM} (h : sR n w b Mc Mm) {i : Nat} (hi : i < 8) (h0 : Mm.1 63 i = 0) : sR n w (b + 1) (z_sj (kTurn Mc) (9 + 4 * i) 9 (Mc.2 0 9 + 1)) Mm := by
  obtain ⟨g0, hD, hM, hE, hN, a, c, fa, fc, ha, hc, e1, e2, e3, e4⟩ := h
  refine ⟨g0, hD, hM, hE, hN, a + 1, c, va_up fa i (a + 1), fc, by omega, by omega, ?_, e2, fun j hj => ?_, fun j k hj hk pj pk => ?_⟩
  · rw [z_sj_other _ _ (by omega)]
    show (z_sj Mc 0 9 (Mc.2 0 9 + 1)).2 0 9 = _
    rw [z_sj_same, e1, lN_1]
  · have := e3 j hj
    unfold va_up
    by_cases e : j = i
    · subst e
      rw [if_pos rfl, z_sj_same, e1, lN_1]
      exact ⟨rfl, Nat.le_refl _, this.2.2⟩
    · rw [if_neg e, z_sj_other _ _ (by omega)]
      show (z_sj Mc 0 9 (Mc.2 0 9 + 1)).2 _ 9 = _ ∧ _
      rw [z_sj_other _ _ (by omega)]
      exact ⟨this.1, by omega, this.2.2⟩
  · have ej : j ≠ i := fun q => pj (by rw [q]; exact h0)
    have ek : k ≠ i := fun q => pk (by rw [q]; exact h0)
    unfold va_up
    rw [if_neg ej, if_neg ek]
    exact e4 j k hj hk pj pk
theorem kAnew_eq (i : Nat) (t : Int64) (M : zM) : kAnew i t M = z_sj (z_si (z_si (z_si M (9 + 4 * i) 7 0) (9 + 4 * i) 8 0) (9 + 4 * i) 6 1) (9 + 4 * i) 9 t := by
  show z_sj (z_si (z_si (z_si M (9 + 4 * i) 6 1) (9 + 4 * i) 7 0) (9 + 4 * i) 8 0) (9 + 4 * i) 9 t = _
  rw [z_si_comm M (a := 9 + 4 * i) (k := 6) (b := 9 + 4 * i) (l := 7) _ _ (by omega), z_si_comm (z_si M (9 + 4 * i) 7 0) (a := 9 + 4 * i) (k := 6) (b := 9 + 4 * i) (l := 8) _ _ (by omega)]
/-- again, or released: at the first order, READY from now -/
theorem sR_anew {n w b : Nat} {Mc Mm : zM} (h : sR n w b Mc Mm) {i : Nat} (hi : i < 8) : sR n w (b + 1) (kAnew i (Mc.2 0 9 + 1) (kTurn Mc)) (mBec i 1 (z_si (z_si Mm 64 i 0) 65 i 0)) := by
  rw [kAnew_eq]
  exact sR_bec (sR_t (sR_t h hi (s_at i hi) 0 (by omega) (by omega) (by omega)) hi (s_wk i hi) 0 (by omega) (by omega) (by omega)) hi 1
theorem sV_anew {n w i : Nat} {M : zM} (hI : mInv n w (mBec i 1 (z_si (z_si M 64 i 0) 65 i 0))) (h : sVx n i M) (hi : i < 8) : sV n (mBec i 1 (z_si (z_si M 64 i 0) 65 i 0)) := by
  have hf : ∀ c j, (c ≠ 63 ∧ c ≠ 73 ∧ c ≠ 51 ∧ c ≠ 64 ∧ c ≠ 65) ∨ (c ≠ 51 ∧ j ≠ i) → (mBec i 1 (z_si (z_si M 64 i 0) 65 i 0)).1 c j = M.1 c j := fun c j q => by
    rw [mBec_far i 1 _ (by omega), z_si_other _ _ (by omega), z_si_other _ _ (by omega)]
  refine sV_of h (fun j hj => ⟨hf _ _ (by omega), hf _ _ (by omega), hf _ _ (by omega), hf _ _ (by omega)⟩) (funext fun j => hf _ _ (by omega)) (funext fun j => hf _ _ (by omega)) (funext fun j => hf _ _ (by omega)) (funext fun j => hf _ _ (by omega)) (fun q => absurd ((mBec_63 i 1 _).symm.trans q) (by decide)) (sWk_0 hI (sW5_k h.2.2.2 (funext fun j => hf _ _ (by omega)) (funext fun j => hf _ _ (by omega)) (funext fun j => hf _ _ (by omega))) hi ?_)
  rw [mBec_far i 1 _ (by omega), z_si_same]
theorem kRel2_1 (i : Nat) (tm : Int32) (t : Int64) (M : zM) : (kRel2 i tm t M).1 (10 + 4 * i) = M.1 (10 + 4 * i) := by
  show (z_si (z_si (z_si (z_si (z_si M (9 + 4 * i) 10 _) (9 + 4 * i) 11 _) (9 + 4 * i) 6 1) (9 + 4 * i) 7 0) (9 + 4 * i) 8 0).1 (10 + 4 * i) = _
  rw [z_si_row _ _ _ (by omega), z_si_row _ _ _ (by omega), z_si_row _ _ _ (by omega), z_si_row _ _ _ (by omega), z_si_row _ _ _ (by omega)]
theorem sI_rel {n w b : Nat} {Mc Mm : zM} (h : sIM n w b Mc Mm) {i : Nat} (hi : i < n) (h0 : Mm.1 63 i = 0) : sIM n w (b + 1) (kRel i (Mc.1 0 6) (Mc.2 0 9 + 1) (kTurn Mc)) (mRel i Mm) := by
  have hi8 : i < 8 := Nat.lt_of_lt_of_le hi (kInv_n h.1)
  refine ⟨kInv_Rel (kInv_Turn h.1) hi8 _ _, mInv_Rel h.2.1 hi8, ?_⟩
  have hR := h.2.2.1
  have h1 : sR n w b (z_si Mc (9 + 4 * i) 10 (Mm.1 66 i + 1)) (mRel1 i Mm) := sR_t hR hi8 (s_rnd i hi8) _ (by omega) (by omega) (by omega)
  have hs : (mRel1 i Mm).1 60 i = Mm.1 60 i := by unfold mRel1; rw [z_si_other _ _ (by omega)]
  have hl : (mRel2 i Mm).1 59 i = Mm.1 59 i := by unfold mRel2 mRel1; rw [z_si_other _ _ (by omega), z_si_other _ _ (by omega), z_si_other _ _ (by omega)]
  have htm : (mRel2 i Mm).1 51 28 = Mm.1 51 28 := by unfold mRel2 mRel1; rw [z_si_other _ _ (by omega), z_si_other _ _ (by omega), z_si_other _ _ (by omega)]
  have hd : kDead i (Mc.1 0 6) (kRel1 i (kTurn Mc)) = mRelD i (mRel2 i Mm) := by
    unfold kDead mRelD
    have e1 : (kRel1 i (kTurn Mc)).1 (9 + 4 * i) 5 = Mm.1 59 i := by
      show (z_si Mc (9 + 4 * i) 10 _).1 (9 + 4 * i) 5 = _
      rw [z_si_other _ _ (by omega)]
      exact sR_get hR (s_lim i hi8)
    rw [e1, hl, htm, sR_get hR s_time]
  unfold kRel mRel
  rw [kRel2_1, hs]
  show sR n w (b + 1) (if Mc.1 (10 + 4 * i) 2 = 0 then _ else _) _ ∧ _
  rw [sR_get hR (s_siz i hi8)]
  by_cases e : Mm.1 60 i = 0
  · rw [if_pos e, if_pos e]
    refine ⟨?_, sV_si h.2.2.2 _ (by omega)⟩
    obtain ⟨w1, w2, w3'⟩ := h.2.2.2.1 i hi8 h0
    have w3 := w3' hi
    have hx := (hR.2.1 i hi8).1 hi
    have key : kRest i (kRel2 i (Mc.1 0 6) (Mc.2 0 9 + 1) (kTurn Mc)) = z_sj (kTurn (z_si Mc (9 + 4 * i) 10 (Mm.1 66 i + 1))) (9 + 4 * i) 9 ((z_si Mc (9 + 4 * i) 10 (Mm.1 66 i + 1)).2 0 9 + 1) := by
      refine Prod.ext ?_ rfl
      funext c k
      show (z_si (z_si (z_si (z_si (z_si (z_si (z_si (z_si (z_si Mc (9 + 4 * i) 10 (Mc.1 (9 + 4 * i) 10 + 1)) (9 + 4 * i) 11 (kDead i (Mc.1 0 6) (kRel1 i (kTurn Mc)))) (9 + 4 * i) 6 1) (9 + 4 * i) 7 0) (9 + 4 * i) 8 0) (9 + 4 * i) 6 0) (9 + 4 * i) 7 0) (9 + 4 * i) 8 0) (9 + 4 * i) 11 (-1)).1 c k = (z_si Mc (9 + 4 * i) 10 (Mm.1 66 i + 1)).1 c k
      rw [sR_get hR (s_rnd i hi8)]
      by_cases ec : c = 9 + 4 * i
      · subst ec
        by_cases k11 : k = 11
        · subst k11
          rw [z_si_same, z_si_other _ _ (by omega), hx.1, w3]
        · rw [z_si_other _ _ (by omega)]
          by_cases k8 : k = 8
          · subst k8
            rw [z_si_same, z_si_other _ _ (by omega), sR_get hR (s_wk i hi8), w2]
          · rw [z_si_other _ _ (by omega)]
            by_cases k7 : k = 7
            · subst k7
              rw [z_si_same, z_si_other _ _ (by omega), sR_get hR (s_at i hi8), w1]
            · rw [z_si_other _ _ (by omega)]
              by_cases k6 : k = 6
              · subst k6
                rw [z_si_same, z_si_other _ _ (by omega), sR_get hR (s_st i hi8), h0]
              · rw [z_si_other _ _ (by omega), z_si_other _ _ (by omega), z_si_other _ _ (by omega), z_si_other _ _ (by omega), z_si_other _ _ (by omega)]
      · rw [z_si_other _ _ (by omega), z_si_other _ _ (by omega), z_si_other _ _ (by omega), z_si_other _ _ (by omega), z_si_other _ _ (by omega), z_si_other _ _ (by omega), z_si_other _ _ (by omega), z_si_other _ _ (by omega)]
    rw [key]
    exact sR_since h1 hi8 (by unfold mRel1; rw [z_si_other _ _ (by omega)]; exact h0)
  · rw [if_neg e, if_neg e]
    have hrel : mRel i Mm = mBec i 1 (z_si (mRel2 i Mm) 67 i (mRelD i (mRel2 i Mm))) := by
      unfold mRel
      rw [hs, if_neg e]
    have hcomm : z_si (mRel2 i Mm) 67 i (mRelD i (mRel2 i Mm)) = z_si (z_si (z_si (mRel1 i Mm) 67 i (mRelD i (mRel2 i Mm))) 64 i 0) 65 i 0 := by
      show z_si (z_si (z_si (mRel1 i Mm) 64 i 0) 65 i 0) 67 i _ = _
      rw [z_si_comm _ (a := 65) (b := 67) _ _ (by omega), z_si_comm _ (a := 64) (b := 67) _ _ (by omega)]
    have hmI : mInv n w (mRel i Mm) := mInv_Rel h.2.1 hi8
    rw [hrel, hcomm] at hmI
    rw [hcomm]
    have h2 := sR_d h1 hi hi8 (mRelD i (mRel2 i Mm))
    refine ⟨?_, sV_anew hmI ?_ hi8⟩
    · have h3 := sR_anew h2 hi8
      show sR n w (b + 1) (kAnew i (Mc.2 0 9 + 1) (z_si (kRel1 i (kTurn Mc)) (9 + 4 * i) 11 (kDead i (Mc.1 0 6) (kRel1 i (kTurn Mc))))) _
      rw [hd]
      show sR n w (b + 1) (kAnew i (Mc.2 0 9 + 1) (z_si (z_si (kTurn Mc) (9 + 4 * i) 10 (Mc.1 (9 + 4 * i) 10 + 1)) (9 + 4 * i) 11 _)) _
      rw [sR_get hR (s_rnd i hi8)]
      exact h3
    · obtain ⟨a2, a3, a4, a5⟩ := h.2.2.2
      have hf : ∀ c j, (c ≠ 66 ∧ c ≠ 67) ∨ j ≠ i → (z_si (mRel1 i Mm) 67 i (mRelD i (mRel2 i Mm))).1 c j = Mm.1 c j := fun c j q => by unfold mRel1; rw [z_si_other _ _ (by omega), z_si_other _ _ (by omega)]
      refine ⟨fun j hj hji q => ?_, fun j hj => by rw [hf _ _ (by omega)]; exact a3 j hj, fun j hj hji => sWk_k (a4 j hj) (hf _ _ (by omega)) (hf _ _ (by omega)) (hf _ _ (by omega)) (funext fun z => hf _ _ (by omega)) (funext fun z => hf _ _ (by omega)), sW5_k a5 (funext fun z => hf _ _ (by omega)) (funext fun z => hf _ _ (by omega)) (funext fun z => hf _ _ (by omega))⟩
      rw [hf _ _ (by omega)] at q
      rw [hf _ _ (by omega), hf _ _ (by omega), hf _ _ (by omega)]
      exact a2 j hj q
theorem sPt {n w b : Nat} {Mc Mm : zM} (h : sR n w b Mc Mm) {i : Nat} (hi : i < 8) : kPt Mc i = mPt Mm i := by
  unfold kPt mPt
  rw [sR_get h (s_part i hi)]
theorem mRelA_t (i : Nat) (M : zM) : (mRelA i M).1 51 28 = M.1 51 28 := by
  unfold mRelA
  split
  · exact mRel_t i M
  · rw [z_si_other _ _ (by omega)]
theorem mRel_72 (i : Nat) (M : zM) (j : Nat) : (mRel i M).1 72 j = M.1 72 j := by
  unfold mRel mRel2 mRel1
  split
  · rw [z_si_other _ _ (by omega)]
  · rw [mBec_far i 1 _ (by omega), z_si_other _ _ (by omega), z_si_other _ _ (by omega), z_si_other _ _ (by omega), z_si_other _ _ (by omega)]
theorem sI_relone {n w b : Nat} {Mc Mm : zM} (h : sIM n w b Mc Mm) {i : Nat} (hi : i < n) : sIM n w (b + 1) (kRelOne i Mc) (mRelOne i Mm) := by
  have hi8 : i < 8 := Nat.lt_of_lt_of_le hi (kInv_n h.1)
  have hR := h.2.2.1
  obtain ⟨v, hv, ev⟩ := h.2.2.2.2.1 i hi8
  have hmode : Mc.1 (5 + kPt Mc i) 0 = Mm.1 54 (mPt Mm i) := by rw [sPt hR hi8]; exact sR_get hR (s_mode _ (mPt_lt h.2.1 hi8))
  have hx := (hR.2.1 i hi8).1 hi
  unfold kRelOne mRelOne
  rw [hmode, sR_get hR (s_per i hi8), hx.2, sR_get hR s_time, ev]
  by_cases e1 : Mm.1 54 (mPt Mm i) = 1
  · rw [if_pos e1, if_pos e1]
    by_cases e2 : v = 0
    · subst e2
      rw [if_pos (show nI 0 ≤ 0 by decide), if_pos (show nI 0 = 0 from rfl)]
      exact sI_mono h (by omega)
    · rw [if_neg (nI_nle (by omega) (by omega)), if_neg (nI_ne0 (by omega) (by omega))]
      by_cases e3 : Mm.1 72 i = Mm.1 51 28
      · rw [if_pos e3, if_pos e3]
        have hA : sIM n w (b + 1) (kRelA i Mc) (mRelA i Mm) := by
          unfold kRelA mRelA
          rw [sR_get hR (s_st i hi8)]
          by_cases e4 : Mm.1 63 i = 0
          · rw [if_pos e4, if_pos e4]
            exact sI_rel h hi e4
          · rw [if_neg e4, if_neg e4, sR_get hR (s_skp i hi8)]
            exact sI_mono (b := b) ⟨kInv_task h.1 hi8 _ (by decide) (by decide), mInv_si h.2.1 _ (by omega), sR_t hR hi8 (s_skp i hi8) _ (by omega) (by omega) (by omega), sV_si h.2.2.2 _ (by omega)⟩ (by omega)
        have e72 : (mRelA i Mm).1 72 i = (mRelA i Mm).1 51 28 := by
          rw [mRelA_t, ← e3]
          unfold mRelA
          split
          · exact mRel_72 i Mm i
          · rw [z_si_other _ _ (by omega)]
        rw [e72, sR_get hA.2.2.1 s_time, sR_get hA.2.2.1 (s_per i hi8)]
        exact ⟨kInv_task hA.1 hi8 _ (by decide) (by decide), mInv_si hA.2.1 _ (by omega), sR_x hA.2.2.1 hi hi8 _, sV_si hA.2.2.2 _ (by omega)⟩
      · rw [if_neg e3, if_neg e3]
        exact sI_mono h (by omega)
  · rw [if_neg e1, if_neg e1]
    split
    · exact sI_mono h (by omega)
    · exact sI_mono h (by omega)
theorem sI_for {n w : Nat} {f g : Nat → zM → zM} (hf : ∀ i b Mc Mm, i < n → sIM n w b Mc Mm → sIM n w (b + 1) (f i Mc) (g i Mm)) : ∀ (k i b : Nat) (Mc Mm : zM), i + k ≤ n → sIM n w b Mc Mm → sIM n w (b + k) (kFor f k i Mc) (kFor g k i Mm)
  | 0, _, _, _, _, _, h => h
  | k + 1, i, b, Mc, Mm, hk, h => by
    have := sI_for hf k (i + 1) (b + 1) _ _ (by omega) (hf i b Mc Mm (by omega) h)
    rw [show b + 1 + k = b + (k + 1) by omega] at this
    exact this
theorem sI_restone {n w b : Nat} (d : Int32) {Mc Mm : zM} (h : sIM n w b Mc Mm) {i : Nat} (hi : i < n) : sIM n w b (kRestOne d i Mc) (mRestOne d i Mm) := by
  have hi8 : i < 8 := Nat.lt_of_lt_of_le hi (kInv_n h.1)
  unfold kRestOne mRestOne
  rw [sR_get h.2.2.1 (s_part i hi8)]
  split
  · exact sI_rest h hi
  · exact h
theorem sI_for0 {n w : Nat} {f g : Nat → zM → zM} (hf : ∀ i b Mc Mm, i < n → sIM n w b Mc Mm → sIM n w b (f i Mc) (g i Mm)) : ∀ (k i b : Nat) (Mc Mm : zM), i + k ≤ n → sIM n w b Mc Mm → sIM n w b (kFor f k i Mc) (kFor g k i Mm)
  | 0, _, _, _, _, _, h => h
  | k + 1, i, b, Mc, Mm, hk, h => sI_for0 hf k (i + 1) b _ _ (by omega) (hf i b Mc Mm (by omega) h)
theorem sI_missone {n w b : Nat} {Mc Mm : zM} (h : sIM n w b Mc Mm) {i : Nat} (hi : i < n) : sIM n w (b + 1) (kMissOne n i Mc) (mMissOne n i Mm) := by
  have hi8 : i < 8 := Nat.lt_of_lt_of_le hi (kInv_n h.1)
  have hR := h.2.2.1
  have hpt := mPt_lt h.2.1 hi8
  have hmode : Mc.1 (5 + kPt Mc i) 0 = Mm.1 54 (mPt Mm i) := by rw [sPt hR hi8]; exact sR_get hR (s_mode _ hpt)
  have hx := (hR.2.1 i hi8).1 hi
  unfold kMissOne mMissOne
  rw [hmode, sR_get hR (s_st i hi8), hx.1, sR_get hR s_time]
  by_cases e1 : Mm.1 54 (mPt Mm i) = 1
  · rw [if_pos e1, if_pos e1]
    by_cases e2 : Mm.1 63 i = 0
    · rw [if_pos e2, if_pos e2]
      exact sI_mono h (by omega)
    · rw [if_neg e2, if_neg e2]
      by_cases e3 : Mm.1 67 i = Mm.1 51 28
      · rw [if_pos e3, if_pos e3]
        have h1 : sIM n w b (kMiss1 i Mc) (mMiss1 i Mm) := by
          unfold kMiss1 mMiss1
          rw [sR_get hR (s_mis i hi8)]
          refine ⟨kInv_task (kInv_task h.1 hi8 _ (by decide) (by decide)) hi8 _ (by decide) (by decide), mInv_Miss1 h.2.1, sR_d (sR_t hR hi8 (s_mis i hi8) _ (by omega) (by omega) (by omega)) hi hi8 _, ?_⟩
          have a := sV_si (c := 68) (k := i) h.2.2.2 (Mm.1 68 i + 1) (by omega)
          exact sV_of (a.x i) (fun j hj => ⟨z_si_other _ _ (by omega), z_si_other _ _ (by omega), z_si_other _ _ (by omega), z_si_other _ _ (by omega)⟩) (z_si_row _ _ _ (by omega)) (z_si_row _ _ _ (by omega)) (z_si_row _ _ _ (by omega)) (z_si_row _ _ _ (by omega)) (fun q => by rw [z_si_other _ _ (by omega), z_si_other _ _ (by omega)] at q; exact absurd q e2) (sWk_k (a.2.2.1 i hi8) (by rw [z_si_other _ _ (by omega)]) (by rw [z_si_other _ _ (by omega)]) (by rw [z_si_other _ _ (by omega)]) (z_si_row _ _ _ (by omega)) (z_si_row _ _ _ (by omega)))
        have hst : (mMiss1 i Mm).1 63 i = Mm.1 63 i := mMiss1_far i Mm (by omega)
        have hac : (kMiss1 i Mc).1 (5 + kPt Mc i) 1 = (mMiss1 i Mm).1 55 (mPt Mm i) := by rw [sPt hR hi8]; exact sR_get h1.2.2.1 (s_act _ hpt)
        unfold kMiss mMiss3 mMiss2
        rw [hac]
        by_cases a1 : (mMiss1 i Mm).1 55 (mPt Mm i) = 1
        · rw [if_pos a1, if_pos a1, if_neg (by rw [mBec_far i 1 _ (by omega), z_si_other _ _ (by omega), z_si_other _ _ (by omega), a1]; decide)]
          have hm2 : mInv n w (mMiss2 i (mPt Mm i) (mMiss1 i Mm)) := mInv_Miss2 h1.2.1 hi8 (by rw [hst]; exact e2)
          unfold mMiss2 at hm2
          rw [if_pos a1] at hm2
          exact ⟨kInv_Anew (kInv_Turn h1.1) hi8 _, hm2, sR_anew h1.2.2.1 hi8, sV_anew hm2 (h1.2.2.2.x i) hi8⟩
        · rw [if_neg a1, if_neg a1]
          by_cases a2 : (mMiss1 i Mm).1 55 (mPt Mm i) = 2
          · rw [if_pos a2, if_pos a2, sPt hR hi8]
            have h2 : sIM n w b (z_si (kMiss1 i Mc) (5 + mPt Mm i) 0 2) (z_si (mMiss1 i Mm) 54 (mPt Mm i) 2) := ⟨kInv_far h1.1 _ (by omega), mInv_si h1.2.1 _ (by omega), sR_w h1.2.2.1 (s_mode _ hpt) _ (by omega) (by omega) (by omega) (by omega), sV_si h1.2.2.2 _ (by omega)⟩
            exact sI_mono (b := b) (sI_for0 (f := kRestOne (nI (mPt Mm i))) (g := mRestOne (nI (mPt Mm i))) (fun j b Mc Mm hj hh => sI_restone _ hh hj) n 0 b _ _ (by omega) h2) (by omega)
          · rw [if_neg a2, if_neg a2]
            exact sI_mono h1 (by omega)
      · rw [if_neg e3, if_neg e3]
        exact sI_mono h (by omega)
  · rw [if_neg e1, if_neg e1]
    exact sI_mono h (by omega)
