/-! PAIRS: a call of the class and the same call of the reference, in one memory -/
theorem sK_same {n w g t : Nat} {M M2 : zM} (h : sJ n w g t M) (e : M2 = M) : sK (g + 4860) (t + 60) M2 := ⟨n, w, g, t, e ▸ h, by omega, by omega⟩
theorem p_off {n w g : Nat} {M M1 : zM} (h : sIM n w g M M1) : kAllOff M ↔ mAllOff M1 := by
  unfold kAllOff mAllOff
  rw [sR_get h.2.2.1 (s_mode 0 (by decide)), sR_get h.2.2.1 (s_mode 1 (by decide)), sR_get h.2.2.1 (s_mode 2 (by decide))]
theorem p_okW {n w g : Nat} {M M1 : zM} (h : sIM n w g M M1) (a x : Int32) : kOkW a x M ↔ mOkW a x M1 := by
  unfold kOkW mOkW
  rw [p_off h]
theorem p_okP {n w g : Nat} {M M1 : zM} (h : sIM n w g M M1) (a b d q : Int32) : kOkP a b d q M ↔ mOkP a b d q M1 := by
  unfold kOkP mOkP
  rw [p_off h]
theorem p_ord04 {o : Int32} (h : 0 ≤ o ∧ o ≤ 4) : o = 0 ∨ o = 1 ∨ o = 2 ∨ o = 3 ∨ o = 4 := by
  rw [Int32.le_iff_toInt_le, Int32.le_iff_toInt_le] at h
  have h1 : (0 : Int32).toInt = 0 := by decide
  have h2 : (4 : Int32).toInt = 4 := by decide
  rw [h1, h2] at h
  rcases (show o.toInt = 0 ∨ o.toInt = 1 ∨ o.toInt = 2 ∨ o.toInt = 3 ∨ o.toInt = 4 by omega) with q | q | q | q | q
  · exact Or.inl (Int32.toInt_inj.mp (q.trans (by decide)))
  · exact Or.inr (Or.inl (Int32.toInt_inj.mp (q.trans (by decide))))
  · exact Or.inr (Or.inr (Or.inl (Int32.toInt_inj.mp (q.trans (by decide)))))
  · exact Or.inr (Or.inr (Or.inr (Or.inl (Int32.toInt_inj.mp (q.trans (by decide))))))
  · exact Or.inr (Or.inr (Or.inr (Or.inr (Int32.toInt_inj.mp (q.trans (by decide))))))
theorem p_isOrd (o x : Int32) : kIsOrd o x ↔ ((0 ≤ o ∧ o ≤ 4) ∧ mNumOk o x) := by
  unfold kIsOrd mNumOk
  constructor
  · intro q
    rcases q with ⟨rfl, q⟩ | ⟨rfl | rfl | rfl | rfl, q⟩
    · exact ⟨by decide, fun _ => q, fun z => absurd rfl z⟩
    · exact ⟨by decide, fun z => absurd z (by decide), fun _ => q⟩
    · exact ⟨by decide, fun z => absurd z (by decide), fun _ => q⟩
    · exact ⟨by decide, fun z => absurd z (by decide), fun _ => q⟩
    · exact ⟨by decide, fun z => absurd z (by decide), fun _ => q⟩
  · rintro ⟨q, q1, q2⟩
    rcases p_ord04 q with rfl | rfl | rfl | rfl | rfl
    · exact Or.inl ⟨rfl, q1 rfl⟩
    · exact Or.inr ⟨Or.inl rfl, q2 (by decide)⟩
    · exact Or.inr ⟨Or.inr (Or.inl rfl), q2 (by decide)⟩
    · exact Or.inr ⟨Or.inr (Or.inr (Or.inl rfl)), q2 (by decide)⟩
    · exact Or.inr ⟨Or.inr (Or.inr (Or.inr rfl)), q2 (by decide)⟩
theorem p_okO {n w g : Nat} {M M1 : zM} (h : sIM n w g M M1) (a b d : Int32) : kOkO a b d M ↔ mOkO a b d M1 := by
  unfold kOkO mOkO
  rw [p_off h, p_isOrd, sR_get h.2.2.1 s_cnt]
  constructor
  · rintro ⟨q1, ⟨q2, q3⟩, q4⟩
    exact ⟨q1, q2, q4, q3⟩
  · rintro ⟨q1, q2, q4, q3⟩
    exact ⟨q1, ⟨q2, q3⟩, q4⟩
theorem p_okS {n w g : Nat} {M M1 : zM} (h : sIM n w g M M1) (a : Int32) : kOkS n a M ↔ mOkS a M1 := by
  unfold kOkS mOkS
  by_cases ha : 0 ≤ a ∧ a ≤ M.1 0 5 - 1
  · have hi := (kA_ok h.1 ha).2
    have h8 : a.toNatClampNeg < 8 := Nat.lt_of_lt_of_le hi (kInv_n h.1)
    rw [sR_get h.2.2.1 (s_per _ h8), sR_get h.2.2.1 (s_st _ h8), sPt h.2.2.1 h8, sR_get h.2.2.1 (s_mode _ (mPt_lt h.2.1 h8)), sR_get h.2.2.1 s_cnt]
  · have hb : ¬ (0 ≤ a ∧ a ≤ M1.1 51 5 - 1) := by rw [← sR_get h.2.2.1 s_cnt]; exact ha
    exact ⟨fun q => absurd q.1 ha, fun q => absurd q.1 hb⟩
theorem u_window {n w g t : Nat} {M M1 : zM} (h : sJ n w g t M) {r1 : Int32} {a x : Int32} (h1 : (¬ kOkW a x M ∧ M1 = M ∧ r1 = (-1)) ∨ (kOkW a x M ∧ w = 8 ∧ M1 = M ∧ r1 = (-2)) ∨ (kOkW a x M ∧ w < 8 ∧ M1 = kWadd w a x M ∧ r1 = nI (w + 1))) : uB M M1 := by
  rcases h1 with ⟨-, e, -⟩ | ⟨-, -, e, -⟩ | ⟨gk, g8, e, -⟩
  · rw [e]; exact uB.rf
  · rw [e]; exact uB.rf
  · rw [e]; exact u_kWadd _ _ _ uB.rf
theorem q_window {n w g t : Nat} {M M1 M2 : zM} {r1 r2 : Int32} (h : sJ n w g t M) (hm : sIM n w g M M1 ∧ M1.1 51 28 = nI t) {a x : Int32} (h1 : (¬ kOkW a x M ∧ M1 = M ∧ r1 = (-1)) ∨ (kOkW a x M ∧ w = 8 ∧ M1 = M ∧ r1 = (-2)) ∨ (kOkW a x M ∧ w < 8 ∧ M1 = kWadd w a x M ∧ r1 = nI (w + 1))) (h2 : (¬ mOkW a x M1 ∧ M2 = M1 ∧ r2 = (-1)) ∨ (mOkW a x M1 ∧ w = 8 ∧ M2 = M1 ∧ r2 = (-2)) ∨ (mOkW a x M1 ∧ w < 8 ∧ M2 = mWadd w a x M1 ∧ r2 = nI (w + 1))) : r1 = r2 ∧ sK (g + 4860) (t + 60) M2 := by
  have hk := p_okW hm.1 a x
  rcases h1 with ⟨gk, e, er⟩ | ⟨gk, g8, e, er⟩ | ⟨gk, g8, e, er⟩
  · rcases h2 with ⟨f, e2, er2⟩ | ⟨f, -⟩ | ⟨f, -⟩
    · exact ⟨er.trans er2.symm, sK_same h (e2.trans e)⟩
    · exact absurd (hk.mpr f) gk
    · exact absurd (hk.mpr f) gk
  · rcases h2 with ⟨f, -⟩ | ⟨f, f8, e2, er2⟩ | ⟨f, f8, -⟩
    · exact absurd (hk.mp gk) f
    · exact ⟨er.trans er2.symm, sK_same h (e2.trans e)⟩
    · omega
  · rcases h2 with ⟨f, -⟩ | ⟨f, f8, -⟩ | ⟨f, f8, e2, er2⟩
    · exact absurd (hk.mp gk) f
    · omega
    · have hs := sI_window hm.1 g8 gk.1 gk.2.1
      rw [← e, ← e2] at hs
      refine ⟨er.trans er2.symm, n, w + 1, g, t, sJ_end hs ?_ ?_, by omega, by omega⟩
      · rw [e2]; exact u_mWadd _ _ _ uA.rf
      · rw [e2]; unfold mWadd; rw [z_si_other _ _ (by omega), z_si_other _ _ (by omega), z_si_other _ _ (by omega)]; exact hm.2
theorem u_process {n w g t : Nat} {M M1 : zM} (h : sJ n w g t M) {r1 : Int32} {a b d q : Int32} (h1 : (¬ kOkP a b d q M ∧ M1 = M ∧ r1 = (-1)) ∨ (kOkP a b d q M ∧ n = 8 ∧ M1 = M ∧ r1 = (-2)) ∨ (kOkP a b d q M ∧ n < 8 ∧ M1 = kProc n a b d q M ∧ r1 = nI n)) : uB M M1 := by
  rcases h1 with ⟨-, e, -⟩ | ⟨-, -, e, -⟩ | ⟨gk, g8, e, -⟩
  · rw [e]; exact uB.rf
  · rw [e]; exact uB.rf
  · rw [e]; exact u_kProc _ _ _ _ g8 uB.rf
theorem q_process {n w g t : Nat} {M M1 M2 : zM} {r1 r2 : Int32} (h : sJ n w g t M) (hm : sIM n w g M M1 ∧ M1.1 51 28 = nI t) {a b d q : Int32} (h1 : (¬ kOkP a b d q M ∧ M1 = M ∧ r1 = (-1)) ∨ (kOkP a b d q M ∧ n = 8 ∧ M1 = M ∧ r1 = (-2)) ∨ (kOkP a b d q M ∧ n < 8 ∧ M1 = kProc n a b d q M ∧ r1 = nI n)) (h2 : (¬ mOkP a b d q M1 ∧ M2 = M1 ∧ r2 = (-1)) ∨ (mOkP a b d q M1 ∧ n = 8 ∧ M2 = M1 ∧ r2 = (-2)) ∨ (mOkP a b d q M1 ∧ n < 8 ∧ M2 = mProc n a b d q M1 ∧ r2 = nI n)) : r1 = r2 ∧ sK (g + 4860) (t + 60) M2 := by
  have hk := p_okP hm.1 a b d q
  rcases h1 with ⟨gk, e, er⟩ | ⟨gk, g8, e, er⟩ | ⟨gk, g8, e, er⟩
  · rcases h2 with ⟨f, e2, er2⟩ | ⟨f, -⟩ | ⟨f, -⟩
    · exact ⟨er.trans er2.symm, sK_same h (e2.trans e)⟩
    · exact absurd (hk.mpr f) gk
    · exact absurd (hk.mpr f) gk
  · rcases h2 with ⟨f, -⟩ | ⟨f, f8, e2, er2⟩ | ⟨f, f8, -⟩
    · exact absurd (hk.mp gk) f
    · exact ⟨er.trans er2.symm, sK_same h (e2.trans e)⟩
    · omega
  · rcases h2 with ⟨f, -⟩ | ⟨f, f8, -⟩ | ⟨f, f8, e2, er2⟩
    · exact absurd (hk.mp gk) f
    · omega
    · have hs := sI_process hm.1 g8 (p := b) (q := q) gk.1 gk.2.2.1
      rw [← e, ← e2] at hs
      refine ⟨er.trans er2.symm, n + 1, w, g, t, sJ_end hs ?_ ?_, by omega, by omega⟩
      · rw [e2]; exact u_mProc _ _ _ _ _ uA.rf
      · rw [e2]; unfold mProc; rw [z_si_other _ _ (by omega), z_si_other _ _ (by omega), z_si_other _ _ (by omega), z_si_other _ _ (by omega), z_si_other _ _ (by omega), z_si_other _ _ (by omega), z_si_other _ _ (by omega)]; exact hm.2
theorem u_order {n w g t : Nat} {M M1 : zM} (h : sJ n w g t M) {r1 : Int32} {a b d : Int32} (h1 : (¬ kOkO a b d M ∧ M1 = M ∧ r1 = (-1)) ∨ (kOkO a b d M ∧ kPs M a.toNatClampNeg = 8 ∧ M1 = M ∧ r1 = (-2)) ∨ (kOkO a b d M ∧ kPs M a.toNatClampNeg < 8 ∧ M1 = kGadd a.toNatClampNeg (kPs M a.toNatClampNeg) b d M ∧ r1 = nI (kPs M a.toNatClampNeg + 1))) : uB M M1 := by
  rcases h1 with ⟨-, e, -⟩ | ⟨-, -, e, -⟩ | ⟨gk, g8, e, -⟩
  · rw [e]; exact uB.rf
  · rw [e]; exact uB.rf
  · rw [e]; exact u_kGadd _ _ _ (Nat.lt_of_lt_of_le (kA_ok h.1.1 gk.1).2 (kInv_n h.1.1)) uB.rf
theorem q_order {n w g t : Nat} {M M1 M2 : zM} {r1 r2 : Int32} (h : sJ n w g t M) (hm : sIM n w g M M1 ∧ M1.1 51 28 = nI t) {a b d : Int32} (h1 : (¬ kOkO a b d M ∧ M1 = M ∧ r1 = (-1)) ∨ (kOkO a b d M ∧ kPs M a.toNatClampNeg = 8 ∧ M1 = M ∧ r1 = (-2)) ∨ (kOkO a b d M ∧ kPs M a.toNatClampNeg < 8 ∧ M1 = kGadd a.toNatClampNeg (kPs M a.toNatClampNeg) b d M ∧ r1 = nI (kPs M a.toNatClampNeg + 1))) (h2 : (¬ mOkO a b d M1 ∧ M2 = M1 ∧ r2 = (-1)) ∨ (mOkO a b d M1 ∧ mPs M1 a.toNatClampNeg = 8 ∧ M2 = M1 ∧ r2 = (-2)) ∨ (mOkO a b d M1 ∧ mPs M1 a.toNatClampNeg < 8 ∧ M2 = mOadd a.toNatClampNeg (mPs M1 a.toNatClampNeg) b d M1 ∧ r2 = nI (mPs M1 a.toNatClampNeg + 1))) : r1 = r2 ∧ sK (g + 4860) (t + 60) M2 := by
  have hk := p_okO hm.1 a b d
  have ez : a.toNatClampNeg < n → kPs M a.toNatClampNeg = mPs M1 a.toNatClampNeg := fun q => by
    unfold kPs mPs
    rw [sR_get hm.1.2.2.1 (s_siz _ (Nat.lt_of_lt_of_le q (kInv_n h.1.1)))]
  rcases h1 with ⟨gk, e, er⟩ | ⟨gk, g8, e, er⟩ | ⟨gk, g8, e, er⟩
  · rcases h2 with ⟨f, e2, er2⟩ | ⟨f, -⟩ | ⟨f, -⟩
    · exact ⟨er.trans er2.symm, sK_same h (e2.trans e)⟩
    · exact absurd (hk.mpr f) gk
    · exact absurd (hk.mpr f) gk
  · rcases h2 with ⟨f, -⟩ | ⟨f, f8, e2, er2⟩ | ⟨f, f8, -⟩
    · exact absurd (hk.mp gk) f
    · exact ⟨er.trans er2.symm, sK_same h (e2.trans e)⟩
    · (have := ez (kA_ok h.1.1 gk.1).2; omega)
  · rcases h2 with ⟨f, -⟩ | ⟨f, f8, -⟩ | ⟨f, f8, e2, er2⟩
    · exact absurd (hk.mp gk) f
    · (have := ez (kA_ok h.1.1 gk.1).2; omega)
    · have hi := (kA_ok h.1.1 gk.1).2
      have hs := sI_order hm.1 (Nat.lt_of_lt_of_le hi (kInv_n h.1.1)) f8 (o := b) (x := d) gk.2.1
      rw [ez hi] at e
      rw [← e, ← e2] at hs
      refine ⟨(er.trans (by rw [ez (kA_ok h.1.1 gk.1).2])).trans er2.symm, n, w, g, t, sJ_end hs ?_ ?_, by omega, by omega⟩
      · rw [e2]; exact u_mOadd _ _ _ _ uA.rf
      · rw [e2]; unfold mOadd; rw [z_si_other _ _ (by omega), z_si_other _ _ (by omega), z_si_other _ _ (by omega)]; exact hm.2
theorem u_action {n w g t : Nat} {M M1 : zM} (h : sJ n w g t M) {r1 : Int32} {a b : Int32} (h1 : (¬ ((0 ≤ a ∧ a ≤ 2) ∧ (0 ≤ b ∧ b ≤ 2)) ∧ M1 = M ∧ r1 = (-1)) ∨ (((0 ≤ a ∧ a ≤ 2) ∧ (0 ≤ b ∧ b ≤ 2)) ∧ M1 = z_si M (5 + a.toNatClampNeg) 1 b ∧ r1 = 0)) : uB M M1 := by
  rcases h1 with ⟨-, e, -⟩ | ⟨gk, e, -⟩
  · rw [e]; exact uB.rf
  · rw [e]; exact uB.rf.si (by have := (kC_ok gk.1).2; omega)
theorem q_action {n w g t : Nat} {M M1 M2 : zM} {r1 r2 : Int32} (h : sJ n w g t M) (hm : sIM n w g M M1 ∧ M1.1 51 28 = nI t) {a b : Int32} (h1 : (¬ ((0 ≤ a ∧ a ≤ 2) ∧ (0 ≤ b ∧ b ≤ 2)) ∧ M1 = M ∧ r1 = (-1)) ∨ (((0 ≤ a ∧ a ≤ 2) ∧ (0 ≤ b ∧ b ≤ 2)) ∧ M1 = z_si M (5 + a.toNatClampNeg) 1 b ∧ r1 = 0)) (h2 : (¬ ((0 ≤ a ∧ a ≤ 2) ∧ (0 ≤ b ∧ b ≤ 2)) ∧ M2 = M1 ∧ r2 = (-1)) ∨ (((0 ≤ a ∧ a ≤ 2) ∧ (0 ≤ b ∧ b ≤ 2)) ∧ M2 = z_si M1 55 a.toNatClampNeg b ∧ r2 = 0)) : r1 = r2 ∧ sK (g + 4860) (t + 60) M2 := by
  have hk := (Iff.rfl : ((0 ≤ a ∧ a ≤ 2) ∧ (0 ≤ b ∧ b ≤ 2)) ↔ ((0 ≤ a ∧ a ≤ 2) ∧ (0 ≤ b ∧ b ≤ 2)))
  rcases h1 with ⟨gk, e, er⟩ | ⟨gk, e, er⟩
  · rcases h2 with ⟨f, e2, er2⟩ | ⟨f, -⟩
    · exact ⟨er.trans er2.symm, sK_same h (e2.trans e)⟩
    · exact absurd (hk.mpr f) gk
  · rcases h2 with ⟨f, -⟩ | ⟨f, e2, er2⟩
    · exact absurd (hk.mp gk) f
    · have hs := sI_action hm.1 (kC_ok gk.1).2 b
      rw [← e, ← e2] at hs
      refine ⟨er.trans er2.symm, n, w, g, t, sJ_end hs ?_ ?_, by omega, by omega⟩
      · rw [e2]; exact uA.rf.si (by decide)
      · rw [e2]; rw [z_si_other _ _ (by omega)]; exact hm.2
theorem u_on {n w g t : Nat} {M M1 : zM} (h : sJ n w g t M) {r1 : Int32} {a : Int32} (h1 : (¬ ((0 ≤ a ∧ a ≤ 2) ∧ ¬ M.1 (5 + a.toNatClampNeg) 0 = 1) ∧ M1 = M ∧ r1 = (-1)) ∨ (((0 ≤ a ∧ a ≤ 2) ∧ ¬ M.1 (5 + a.toNatClampNeg) 0 = 1) ∧ M1 = kOn n a M ∧ r1 = 0)) : uB M M1 := by
  rcases h1 with ⟨-, e, -⟩ | ⟨gk, e, -⟩
  · rw [e]; exact uB.rf
  · rw [e]; exact u_kOn (kInv_n h.1.1) (kC_ok gk.1).2 uB.rf
theorem p_okN {n w g : Nat} {M M1 : zM} (h : sIM n w g M M1) (a : Int32) : ((0 ≤ a ∧ a ≤ 2) ∧ ¬ M.1 (5 + a.toNatClampNeg) 0 = 1) ↔ ((0 ≤ a ∧ a ≤ 2) ∧ ¬ M1.1 54 a.toNatClampNeg = 1) := by
  by_cases ha : 0 ≤ a ∧ a ≤ 2
  · rw [sR_get h.2.2.1 (s_mode _ (kC_ok ha).2)]
  · exact ⟨fun q => absurd q.1 ha, fun q => absurd q.1 ha⟩
theorem mRest_t (k : Nat) (M : zM) : (mRest k M).1 51 28 = M.1 51 28 := by
  unfold mRest
  rw [z_si_other _ _ (by omega), z_si_other _ _ (by omega), z_si_other _ _ (by omega), z_si_other _ _ (by omega)]
theorem mOn2_t (d : Int32) (k : Nat) (M : zM) : (mOn2 d k M).1 51 28 = M.1 51 28 := by
  unfold mOn2
  split
  · split
    · exact mRest_t k M
    · rw [z_si_other _ _ (by omega)]; exact mRest_t k M
  · rfl
theorem mOn_t (n : Nat) (a : Int32) (M : zM) : (mOn n a M).1 51 28 = M.1 51 28 := by
  unfold mOn
  rw [kFor_t (fun i M => mOn2_t a i M), z_si_other _ _ (by omega)]
theorem q_on {n w g t : Nat} {M M1 M2 : zM} {r1 r2 : Int32} (h : sJ n w g t M) (hm : sIM n w g M M1 ∧ M1.1 51 28 = nI t) {a : Int32} (h1 : (¬ ((0 ≤ a ∧ a ≤ 2) ∧ ¬ M.1 (5 + a.toNatClampNeg) 0 = 1) ∧ M1 = M ∧ r1 = (-1)) ∨ (((0 ≤ a ∧ a ≤ 2) ∧ ¬ M.1 (5 + a.toNatClampNeg) 0 = 1) ∧ M1 = kOn n a M ∧ r1 = 0)) (h2 : (¬ ((0 ≤ a ∧ a ≤ 2) ∧ ¬ M1.1 54 a.toNatClampNeg = 1) ∧ M2 = M1 ∧ r2 = (-1)) ∨ (((0 ≤ a ∧ a ≤ 2) ∧ ¬ M1.1 54 a.toNatClampNeg = 1) ∧ M2 = mOn n a M1 ∧ r2 = 0)) : r1 = r2 ∧ sK (g + 4860) (t + 60) M2 := by
  have hk := p_okN hm.1 a
  rcases h1 with ⟨gk, e, er⟩ | ⟨gk, e, er⟩
  · rcases h2 with ⟨f, e2, er2⟩ | ⟨f, -⟩
    · exact ⟨er.trans er2.symm, sK_same h (e2.trans e)⟩
    · exact absurd (hk.mpr f) gk
  · rcases h2 with ⟨f, -⟩ | ⟨f, e2, er2⟩
    · exact absurd (hk.mp gk) f
    · have hs := sI_on hm.1 (kC_ok gk.1).2
      rw [← e, ← e2] at hs
      refine ⟨er.trans er2.symm, n, w, g, t, sJ_end hs ?_ ?_, by omega, by omega⟩
      · rw [e2]; exact u_mOn _ _ uA.rf
      · rw [e2]; rw [mOn_t]; exact hm.2
theorem u_start {n w g t : Nat} {M M1 : zM} (h : sJ n w g t M) {r1 : Int32} {a : Int32} (h1 : (¬ kOkS n a M ∧ M1 = M ∧ r1 = (-1)) ∨ (kOkS n a M ∧ M1 = kRel a.toNatClampNeg (M.1 0 6) (M.2 0 9 + 1) (kTurn M) ∧ r1 = 0)) : uB M M1 := by
  rcases h1 with ⟨-, e, -⟩ | ⟨gk, e, -⟩
  · rw [e]; exact uB.rf
  · rw [e]; exact u_kRel _ _ (Nat.lt_of_lt_of_le (kA_ok h.1.1 gk.1).2 (kInv_n h.1.1)) (u_kTurn uB.rf)
theorem q_start {n w g t : Nat} {M M1 M2 : zM} {r1 r2 : Int32} (h : sJ n w g t M) (hm : sIM n w g M M1 ∧ M1.1 51 28 = nI t) {a : Int32} (h1 : (¬ kOkS n a M ∧ M1 = M ∧ r1 = (-1)) ∨ (kOkS n a M ∧ M1 = kRel a.toNatClampNeg (M.1 0 6) (M.2 0 9 + 1) (kTurn M) ∧ r1 = 0)) (h2 : (¬ mOkS a M1 ∧ M2 = M1 ∧ r2 = (-1)) ∨ (mOkS a M1 ∧ M2 = mRel a.toNatClampNeg M1 ∧ r2 = 0)) : r1 = r2 ∧ sK (g + 4860) (t + 60) M2 := by
  have hk := p_okS hm.1 a
  rcases h1 with ⟨gk, e, er⟩ | ⟨gk, e, er⟩
  · rcases h2 with ⟨f, e2, er2⟩ | ⟨f, -⟩
    · exact ⟨er.trans er2.symm, sK_same h (e2.trans e)⟩
    · exact absurd (hk.mpr f) gk
  · rcases h2 with ⟨f, -⟩ | ⟨f, e2, er2⟩
    · exact absurd (hk.mp gk) f
    · have hs := sI_start hm.1 (kA_ok h.1.1 gk.1).2 f.2.2.1
      rw [← e, ← e2] at hs
      refine ⟨er.trans er2.symm, n, w, g + 1, t, sJ_end hs ?_ ?_, by omega, by omega⟩
      · rw [e2]; exact u_mRel _ uA.rf
      · rw [e2]; rw [mRel_t]; exact hm.2
theorem u_run {n w g t : Nat} {M M1 : zM} (h : sJ n w g t M) {r1 : Int32} {d : Nat} (h1 : M1 = kTicks n w d M ∧ r1 = M1.1 0 6) : uB M M1 := by
  rw [h1.1]; exact u_kTicks _ h.1.1 uB.rf
theorem q_run {n w g t : Nat} {M M1 M2 : zM} {r1 r2 : Int32} (h : sJ n w g t M) (hm : sIM n w g M M1 ∧ M1.1 51 28 = nI t) (hg : g ≤ 3000000) (ht : t ≤ 40000) {d : Nat} (hd : d ≤ 60) (h1 : M1 = kTicks n w d M ∧ r1 = M1.1 0 6) (h2 : M2 = mTicks n w d M1 ∧ r2 = M2.1 51 28) : r1 = r2 ∧ sK (g + 4860) (t + 60) M2 := by
  have hs := sI_ticks d g t M M1 hm.1 hm.2 (by omega) (by omega)
  rw [← h1.1, ← h2.1] at hs
  refine ⟨?_, n, w, g + 81 * d, t + d, sJ_end hs.1 ?_ hs.2, by omega, by omega⟩
  · rw [h1.2, h2.2]; exact sR_get hs.1.2.2.1 s_time
  · rw [h2.1]; exact u_mTicks _ _ _ uA.rf
theorem u_run_no {n w g t : Nat} {M M1 : zM} (h : sJ n w g t M) {r1 : Int32} (h1 : M1 = M ∧ r1 = (-1)) : uB M M1 := by
  rw [h1.1]; exact uB.rf
theorem q_run_no {n w g t : Nat} {M M1 M2 : zM} {r1 r2 : Int32} (h : sJ n w g t M) (hm : sIM n w g M M1 ∧ M1.1 51 28 = nI t) (h1 : M1 = M ∧ r1 = (-1)) (h2 : M2 = M1 ∧ r2 = (-1)) : r1 = r2 ∧ sK (g + 4860) (t + 60) M2 := ⟨h1.2.trans h2.2.symm, sK_same h (h2.1.trans h1.1)⟩
theorem u_partition {n w g t : Nat} {M M1 : zM} (h : sJ n w g t M) {r1 : Int32} {a : Int32} (h1 : M1 = M ∧ ((¬ (0 ≤ a ∧ a ≤ 2) ∧ r1 = (-1)) ∨ ((0 ≤ a ∧ a ≤ 2) ∧ r1 = M.1 (5 + a.toNatClampNeg) 0))) : uB M M1 := by
  rw [h1.1]; exact uB.rf
theorem q_partition {n w g t : Nat} {M M1 M2 : zM} {r1 r2 : Int32} (h : sJ n w g t M) (hm : sIM n w g M M1 ∧ M1.1 51 28 = nI t)  {a : Int32} (h1 : M1 = M ∧ ((¬ (0 ≤ a ∧ a ≤ 2) ∧ r1 = (-1)) ∨ ((0 ≤ a ∧ a ≤ 2) ∧ r1 = M.1 (5 + a.toNatClampNeg) 0))) (h2 : M2 = M1 ∧ ((¬ (0 ≤ a ∧ a ≤ 2) ∧ r2 = (-1)) ∨ ((0 ≤ a ∧ a ≤ 2) ∧ r2 = M1.1 54 a.toNatClampNeg))) : r1 = r2 ∧ sK (g + 4860) (t + 60) M2 := by
  refine ⟨?_, sK_same h (h2.1.trans h1.1)⟩
  rcases h1.2 with ⟨gk, er⟩ | ⟨gk, er⟩
  · rcases h2.2 with ⟨f, er2⟩ | ⟨f, er2⟩
    · exact er.trans er2.symm
    · exact absurd f gk
  · rcases h2.2 with ⟨f, er2⟩ | ⟨f, er2⟩
    · exact absurd gk f
    · rw [er, er2]; exact sR_get hm.1.2.2.1 (s_mode _ (kC_ok gk).2)
theorem u_port {n w g t : Nat} {M M1 : zM} (h : sJ n w g t M) {r1 : Int32} {a : Int32} (h1 : M1 = M ∧ ((¬ (0 ≤ a ∧ a ≤ 3) ∧ r1 = (-1)) ∨ ((0 ≤ a ∧ a ≤ 3) ∧ r1 = M.1 (42 + 2 * a.toNatClampNeg) 1))) : uB M M1 := by
  rw [h1.1]; exact uB.rf
theorem q_port {n w g t : Nat} {M M1 M2 : zM} {r1 r2 : Int32} (h : sJ n w g t M) (hm : sIM n w g M M1 ∧ M1.1 51 28 = nI t)  {a : Int32} (h1 : M1 = M ∧ ((¬ (0 ≤ a ∧ a ≤ 3) ∧ r1 = (-1)) ∨ ((0 ≤ a ∧ a ≤ 3) ∧ r1 = M.1 (42 + 2 * a.toNatClampNeg) 1))) (h2 : M2 = M1 ∧ ((¬ (0 ≤ a ∧ a ≤ 3) ∧ r2 = (-1)) ∨ ((0 ≤ a ∧ a ≤ 3) ∧ r2 = M1.1 75 a.toNatClampNeg))) : r1 = r2 ∧ sK (g + 4860) (t + 60) M2 := by
  refine ⟨?_, sK_same h (h2.1.trans h1.1)⟩
  rcases h1.2 with ⟨gk, er⟩ | ⟨gk, er⟩
  · rcases h2.2 with ⟨f, er2⟩ | ⟨f, er2⟩
    · exact er.trans er2.symm
    · exact absurd f gk
  · rcases h2.2 with ⟨f, er2⟩ | ⟨f, er2⟩
    · exact absurd gk f
    · rw [er, er2]; exact sR_get hm.1.2.2.1 (s_psz _ (kQ_ok gk).2)
theorem u_semaphore {n w g t : Nat} {M M1 : zM} (h : sJ n w g t M) {r1 : Int32} {a : Int32} (h1 : M1 = M ∧ ((¬ (0 ≤ a ∧ a ≤ 3) ∧ r1 = (-1)) ∨ ((0 ≤ a ∧ a ≤ 3) ∧ r1 = M.1 50 a.toNatClampNeg))) : uB M M1 := by
  rw [h1.1]; exact uB.rf
theorem q_semaphore {n w g t : Nat} {M M1 M2 : zM} {r1 r2 : Int32} (h : sJ n w g t M) (hm : sIM n w g M M1 ∧ M1.1 51 28 = nI t)  {a : Int32} (h1 : M1 = M ∧ ((¬ (0 ≤ a ∧ a ≤ 3) ∧ r1 = (-1)) ∨ ((0 ≤ a ∧ a ≤ 3) ∧ r1 = M.1 50 a.toNatClampNeg))) (h2 : M2 = M1 ∧ ((¬ (0 ≤ a ∧ a ≤ 3) ∧ r2 = (-1)) ∨ ((0 ≤ a ∧ a ≤ 3) ∧ r2 = M1.1 76 a.toNatClampNeg))) : r1 = r2 ∧ sK (g + 4860) (t + 60) M2 := by
  refine ⟨?_, sK_same h (h2.1.trans h1.1)⟩
  rcases h1.2 with ⟨gk, er⟩ | ⟨gk, er⟩
  · rcases h2.2 with ⟨f, er2⟩ | ⟨f, er2⟩
    · exact er.trans er2.symm
    · exact absurd f gk
  · rcases h2.2 with ⟨f, er2⟩ | ⟨f, er2⟩
    · exact absurd gk f
    · rw [er, er2]; exact sR_get hm.1.2.2.1 (s_sem _ (kQ_ok gk).2)
theorem p_tell {n w g : Nat} {M M1 : zM} (h : sIM n w g M M1) {i : Nat} (hi : i < n) (x : Int32) : kTell M i x = mTell M1 i x := by
  have h8 : i < 8 := Nat.lt_of_lt_of_le hi (kInv_n h.1)
  have hR := h.2.2.1
  unfold kTell mTell
  rw [sR_get hR (s_st _ h8), sR_get hR (s_at _ h8), sR_get hR (s_wk _ h8), sR_get hR (s_rnd _ h8), sR_get hR (s_mis _ h8), sR_get hR (s_skp _ h8), sR_get hR (s_wrk _ h8), sR_get hR (s_let _ h8), ((hR.2.1 i h8).1 hi).1, ((hR.2.1 i h8).1 hi).2]
theorem p_count {n w g t : Nat} {M M1 : zM} (h : sIM n w g M M1) (ht : t < 2 ^ 31) (et : M1.1 51 28 = nI t) (x : Int32) : kCount n w x M = mCount n w x M1 := by
  have hR := h.2.2.1
  unfold kCount mCount
  rw [sPart h ht et, sLeft h ht et, sR_get hR s_time, sR_get hR s_lost, sR_get hR s_idle]
theorem u_state {n w g t : Nat} {M M1 : zM} (h : sJ n w g t M) {r1 : Int32} {a x : Int32} (h1 : M1 = M ∧ ((¬ (0 ≤ a ∧ a ≤ M.1 0 5 - 1) ∧ r1 = (-1)) ∨ ((0 ≤ a ∧ a ≤ M.1 0 5 - 1) ∧ r1 = kTell M a.toNatClampNeg x))) : uB M M1 := by
  rw [h1.1]; exact uB.rf
theorem q_state {n w g t : Nat} {M M1 M2 : zM} {r1 r2 : Int32} (h : sJ n w g t M) (hm : sIM n w g M M1 ∧ M1.1 51 28 = nI t)  {a x : Int32} (h1 : M1 = M ∧ ((¬ (0 ≤ a ∧ a ≤ M.1 0 5 - 1) ∧ r1 = (-1)) ∨ ((0 ≤ a ∧ a ≤ M.1 0 5 - 1) ∧ r1 = kTell M a.toNatClampNeg x))) (h2 : M2 = M1 ∧ ((¬ (0 ≤ a ∧ a ≤ M1.1 51 5 - 1) ∧ r2 = (-1)) ∨ ((0 ≤ a ∧ a ≤ M1.1 51 5 - 1) ∧ r2 = mTell M1 a.toNatClampNeg x))) : r1 = r2 ∧ sK (g + 4860) (t + 60) M2 := by
  refine ⟨?_, sK_same h (h2.1.trans h1.1)⟩
  have ec := sR_get hm.1.2.2.1 s_cnt
  rcases h1.2 with ⟨gk, er⟩ | ⟨gk, er⟩
  · rcases h2.2 with ⟨f, er2⟩ | ⟨f, er2⟩
    · exact er.trans er2.symm
    · exact absurd (by rw [ec]; exact f) gk
  · rcases h2.2 with ⟨f, er2⟩ | ⟨f, er2⟩
    · exact absurd (by rw [← ec]; exact gk) f
    · rw [er, er2]; exact p_tell hm.1 (kA_ok h.1.1 gk).2 x
theorem u_count {n w g t : Nat} {M M1 : zM} (h : sJ n w g t M) {r1 : Int32} {x : Int32} (h1 : M1 = M ∧ r1 = kCount n w x M) : uB M M1 := by
  rw [h1.1]; exact uB.rf
theorem q_count {n w g t : Nat} {M M1 M2 : zM} {r1 r2 : Int32} (h : sJ n w g t M) (hm : sIM n w g M M1 ∧ M1.1 51 28 = nI t) (ht : t ≤ 40000) {x : Int32} (h1 : M1 = M ∧ r1 = kCount n w x M) (h2 : M2 = M1 ∧ r2 = mCount n w x M1) : r1 = r2 ∧ sK (g + 4860) (t + 60) M2 := by
  refine ⟨?_, sK_same h (h2.1.trans h1.1)⟩
  rw [h1.2, h2.2]; exact p_count hm.1 (t := t) (by omega) hm.2 x
