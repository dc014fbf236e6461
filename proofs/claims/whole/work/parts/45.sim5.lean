/-! SIM: releases, missed deadlines -/
theorem z_si_comm (M : zM) {a k b l : Nat} (x y : Int32) (h : ¬ (a = b ∧ k = l)) : z_si (z_si M a k x) b l y = z_si (z_si M b l y) a k x := by
  refine Prod.ext ?_ rfl
  funext c j
  show (if c = b ∧ j = l then y else if c = a ∧ j = k then x else M.1 c j) = (if c = a ∧ j = k then x else if c = b ∧ j = l then y else M.1 c j)
  by_cases h1 : c = b ∧ j = l
  · have h2 : ¬ (c = a ∧ j = k) := fun q => h ⟨q.1.symm.trans h1.1, q.2.symm.trans h1.2⟩
    rw [if_pos h1, if_neg h2, if_pos h1]
  · rw [if_neg h1, if_neg h1]
theorem sR_since {n w b : Nat} {Mc Mm : zM} (h : sR n w b Mc Mm) {i : Nat} (hi : i < 8) (h0 : Mm.1 63 i = 0) : sR n w (b + 1) (z_sj (kTurn Mc) (9 + 4 * i) 9 (Mc.2 0 9 + 1)) Mm := by
  obtain ⟨g0, hD, hM, hE, hN, a, c, fa, fc, ha, hc, e1, e2, e3, e4⟩ := h
  refine ⟨g0, hD, hM, hE, hN, a + 1, c, va_up fa i (a + 1), fc, by omega, by omega, ?_, e2, fun j hj => ?_, fun j k hj hk pj pk => ?_⟩
  · rw [z_sj_other _ _ (by omega)]
    show (z_sj Mc 0 9 (Mc.2 0 9 + 1)).2 0 9 = _
    rw [z_sj_same, e1, lN_1]
  · have := e3 j hj
    unfold va_up
    by_cases e : j = i
    · subst e
      rw [if_pos rfl, z_sj_same, e1, lN_1]
      exact ⟨rfl, Nat.le_refl _, this.2.2⟩
    · rw [if_neg e, z_sj_other _ _ (by omega)]
      show (z_sj Mc 0 9 (Mc.2 0 9 + 1)).2 _ 9 = _ ∧ _
      rw [z_sj_other _ _ (by omega)]
      exact ⟨this.1, by omega, this.2.2⟩
  · have ej : j ≠ i := fun q => pj (by rw [q]; exact h0)
    have ek : k ≠ i := fun q => pk (by rw [q]; exact h0)
    unfold va_up
    rw [if_neg ej, if_neg ek]
    exact e4 j k hj hk pj pk
theorem kAnew_eq (i : Nat) (t : Int64) (M : zM) : kAnew i t M = z_sj (z_si (z_si (z_si M (9 + 4 * i) 7 0) (9 + 4 * i) 8 0) (9 + 4 * i) 6 1) (9 + 4 * i) 9 t := by
  show z_sj (z_si (z_si (z_si M (9 + 4 * i) 6 1) (9 + 4 * i) 7 0) (9 + 4 * i) 8 0) (9 + 4 * i) 9 t = _
  rw [z_si_comm M (a := 9 + 4 * i) (k := 6) (b := 9 + 4 * i) (l := 7) _ _ (by omega), z_si_comm (z_si M (9 + 4 * i) 7 0) (a := 9 + 4 * i) (k := 6) (b := 9 + 4 * i) (l := 8) _ _ (by omega)]
/-- again, or released: at the first order, READY from now -/
theorem sR_anew {n w b : Nat} {Mc Mm : zM} (h : sR n w b Mc Mm) {i : Nat} (hi : i < 8) : sR n w (b + 1) (kAnew i (Mc.2 0 9 + 1) (kTurn Mc)) (mBec i 1 (z_si (z_si Mm 64 i 0) 65 i 0)) := by
  rw [kAnew_eq]
  exact sR_bec (sR_t (sR_t h hi (s_at i hi) 0 (by omega) (by omega) (by omega)) hi (s_wk i hi) 0 (by omega) (by omega) (by omega)) hi 1
theorem sV_anew {n w : Nat} {M : zM} (hI : mInv n w (mBec i 1 (z_si (z_si M 64 i 0) 65 i 0))) (h : sVx n i M) (hi : i < 8) : sV n (mBec i 1 (z_si (z_si M 64 i 0) 65 i 0)) := by
  have hf : ∀ c j, (c ≠ 63 ∧ c ≠ 73 ∧ c ≠ 51 ∧ c ≠ 64 ∧ c ≠ 65) ∨ (c ≠ 51 ∧ j ≠ i) → (mBec i 1 (z_si (z_si M 64 i 0) 65 i 0)).1 c j = M.1 c j := fun c j q => by
    rw [mBec_far i 1 _ (by omega), z_si_other _ _ (by omega), z_si_other _ _ (by omega)]
  refine sV_of h (fun j hj => ⟨hf _ _ (by omega), hf _ _ (by omega), hf _ _ (by omega), hf _ _ (by omega)⟩) (funext fun j => hf _ _ (by omega)) (funext fun j => hf _ _ (by omega)) (funext fun j => hf _ _ (by omega)) (funext fun j => hf _ _ (by omega)) (fun q => absurd ((mBec_63 i 1 _).symm.trans q) (by decide)) (sWk_0 hI (sW5_k h.2.2.2 (funext fun j => hf _ _ (by omega)) (funext fun j => hf _ _ (by omega)) (funext fun j => hf _ _ (by omega))) hi ?_)
  rw [mBec_far i 1 _ (by omega), z_si_same]
theorem kRel2_1 (i : Nat) (tm : Int32) (t : Int64) (M : zM) : (kRel2 i tm t M).1 (10 + 4 * i) = M.1 (10 + 4 * i) := by
  show (z_si (z_si (z_si (z_si (z_si M (9 + 4 * i) 10 _) (9 + 4 * i) 11 _) (9 + 4 * i) 6 1) (9 + 4 * i) 7 0) (9 + 4 * i) 8 0).1 (10 + 4 * i) = _
  rw [z_si_row _ _ _ (by omega), z_si_row _ _ _ (by omega), z_si_row _ _ _ (by omega), z_si_row _ _ _ (by omega), z_si_row _ _ _ (by omega)]
theorem sI_rel {n w b : Nat} {Mc Mm : zM} (h : sIM n w b Mc Mm) {i : Nat} (hi : i < n) (h0 : Mm.1 63 i = 0) : sIM n w (b + 1) (kRel i (Mc.1 0 6) (Mc.2 0 9 + 1) (kTurn Mc)) (mRel i Mm) := by
  have hi8 : i < 8 := Nat.lt_of_lt_of_le hi (kInv_n h.1)
  refine ⟨kInv_Rel (kInv_Turn h.1) hi8 _ _, mInv_Rel h.2.1 hi8, ?_⟩
  have hR := h.2.2.1
  have h1 : sR n w b (z_si Mc (9 + 4 * i) 10 (Mm.1 66 i + 1)) (mRel1 i Mm) := sR_t hR hi8 (s_rnd i hi8) _ (by omega) (by omega) (by omega)
  have hs : (mRel1 i Mm).1 60 i = Mm.1 60 i := by unfold mRel1; rw [z_si_other _ _ (by omega)]
  have hl : (mRel2 i Mm).1 59 i = Mm.1 59 i := by unfold mRel2 mRel1; rw [z_si_other _ _ (by omega), z_si_other _ _ (by omega), z_si_other _ _ (by omega)]
  have htm : (mRel2 i Mm).1 51 28 = Mm.1 51 28 := by unfold mRel2 mRel1; rw [z_si_other _ _ (by omega), z_si_other _ _ (by omega), z_si_other _ _ (by omega)]
  have hd : kDead i (Mc.1 0 6) (kRel1 i (kTurn Mc)) = mRelD i (mRel2 i Mm) := by
    unfold kDead mRelD
    have e1 : (kRel1 i (kTurn Mc)).1 (9 + 4 * i) 5 = Mm.1 59 i := by
      show (z_si Mc (9 + 4 * i) 10 _).1 (9 + 4 * i) 5 = _
      rw [z_si_other _ _ (by omega)]
      exact sR_get hR (s_lim i hi8)
    rw [e1, hl, htm, sR_get hR s_time]
  unfold kRel mRel
  rw [kRel2_1, hs]
  show sR n w (b + 1) (if Mc.1 (10 + 4 * i) 2 = 0 then _ else _) _ ∧ _
  rw [sR_get hR (s_siz i hi8)]
  by_cases e : Mm.1 60 i = 0
  · rw [if_pos e, if_pos e]
    refine ⟨?_, sV_si h.2.2.2 _ (by omega)⟩
    obtain ⟨w1, w2, w3⟩ := h.2.2.2.1 i hi h0
    have hx := (hR.2.1 i hi8).1 hi
    have key : kRest i (kRel2 i (Mc.1 0 6) (Mc.2 0 9 + 1) (kTurn Mc)) = z_sj (kTurn (z_si Mc (9 + 4 * i) 10 (Mm.1 66 i + 1))) (9 + 4 * i) 9 ((z_si Mc (9 + 4 * i) 10 (Mm.1 66 i + 1)).2 0 9 + 1) := by
      refine Prod.ext ?_ rfl
      funext c k
      show (z_si (z_si (z_si (z_si (z_si (z_si (z_si (z_si (z_si Mc (9 + 4 * i) 10 (Mc.1 (9 + 4 * i) 10 + 1)) (9 + 4 * i) 11 (kDead i (Mc.1 0 6) (kRel1 i (kTurn Mc)))) (9 + 4 * i) 6 1) (9 + 4 * i) 7 0) (9 + 4 * i) 8 0) (9 + 4 * i) 6 0) (9 + 4 * i) 7 0) (9 + 4 * i) 8 0) (9 + 4 * i) 11 (-1)).1 c k = (z_si Mc (9 + 4 * i) 10 (Mm.1 66 i + 1)).1 c k
      rw [sR_get hR (s_rnd i hi8)]
      by_cases ec : c = 9 + 4 * i
      · subst ec
        by_cases k11 : k = 11
        · subst k11
          rw [z_si_same, z_si_other _ _ (by omega), hx.1, w3]
        · rw [z_si_other _ _ (by omega)]
          by_cases k8 : k = 8
          · subst k8
            rw [z_si_same, z_si_other _ _ (by omega), sR_get hR (s_wk i hi8), w2]
          · rw [z_si_other _ _ (by omega)]
            by_cases k7 : k = 7
            · subst k7
              rw [z_si_same, z_si_other _ _ (by omega), sR_get hR (s_at i hi8), w1]
            · rw [z_si_other _ _ (by omega)]
              by_cases k6 : k = 6
              · subst k6
                rw [z_si_same, z_si_other _ _ (by omega), sR_get hR (s_st i hi8), h0]
              · rw [z_si_other _ _ (by omega), z_si_other _ _ (by omega), z_si_other _ _ (by omega), z_si_other _ _ (by omega), z_si_other _ _ (by omega)]
      · rw [z_si_other _ _ (by omega), z_si_other _ _ (by omega), z_si_other _ _ (by omega), z_si_other _ _ (by omega), z_si_other _ _ (by omega), z_si_other _ _ (by omega), z_si_other _ _ (by omega), z_si_other _ _ (by omega)]
    rw [key]
    exact sR_since h1 hi8 (by unfold mRel1; rw [z_si_other _ _ (by omega)]; exact h0)
  · rw [if_neg e, if_neg e]
    have hrel : mRel i Mm = mBec i 1 (z_si (mRel2 i Mm) 67 i (mRelD i (mRel2 i Mm))) := by
      unfold mRel
      rw [hs, if_neg e]
    have hcomm : z_si (mRel2 i Mm) 67 i (mRelD i (mRel2 i Mm)) = z_si (z_si (z_si (mRel1 i Mm) 67 i (mRelD i (mRel2 i Mm))) 64 i 0) 65 i 0 := by
      show z_si (z_si (z_si (mRel1 i Mm) 64 i 0) 65 i 0) 67 i _ = _
      rw [z_si_comm _ (a := 65) (b := 67) _ _ (by omega), z_si_comm _ (a := 64) (b := 67) _ _ (by omega)]
    have hmI : mInv n w (mRel i Mm) := mInv_Rel h.2.1 hi8
    rw [hrel, hcomm] at hmI
    rw [hcomm]
    have h2 := sR_d h1 hi hi8 (mRelD i (mRel2 i Mm))
    refine ⟨?_, sV_anew hmI ?_ hi8⟩
    · have h3 := sR_anew h2 hi8
      show sR n w (b + 1) (kAnew i (Mc.2 0 9 + 1) (z_si (kRel1 i (kTurn Mc)) (9 + 4 * i) 11 (kDead i (Mc.1 0 6) (kRel1 i (kTurn Mc))))) _
      rw [hd]
      show sR n w (b + 1) (kAnew i (Mc.2 0 9 + 1) (z_si (z_si (kTurn Mc) (9 + 4 * i) 10 (Mc.1 (9 + 4 * i) 10 + 1)) (9 + 4 * i) 11 _)) _
      rw [sR_get hR (s_rnd i hi8)]
      exact h3
    · obtain ⟨a2, a3, a4, a5⟩ := h.2.2.2
      have hf : ∀ c j, (c ≠ 66 ∧ c ≠ 67) ∨ j ≠ i → (z_si (mRel1 i Mm) 67 i (mRelD i (mRel2 i Mm))).1 c j = Mm.1 c j := fun c j q => by unfold mRel1; rw [z_si_other _ _ (by omega), z_si_other _ _ (by omega)]
      refine ⟨fun j hj q => ?_, fun j hj => by rw [hf _ _ (by omega)]; exact a3 j hj, fun j hj hji => sWk_k (a4 j hj) (hf _ _ (by omega)) (hf _ _ (by omega)) (hf _ _ (by omega)) (funext fun z => hf _ _ (by omega)) (funext fun z => hf _ _ (by omega)), sW5_k a5 (funext fun z => hf _ _ (by omega)) (funext fun z => hf _ _ (by omega)) (funext fun z => hf _ _ (by omega))⟩
      sorry
