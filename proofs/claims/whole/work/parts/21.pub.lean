/-! the class's public methods: words for their contracts -/
theorem kR_ok {a c : Int32} {N : Nat} (hc : c.toInt = N) (h : 0 ≤ a ∧ a ≤ c) : a = nI a.toNatClampNeg ∧ a.toNatClampNeg < N + 1 := by
  obtain ⟨j, hj, e⟩ := nI_of2 (x := a) hc (Int32.not_lt.mpr h.1) h.2
  have hN : (N : Int) < 2 ^ 31 := by rw [← hc]; exact Int32.toInt_lt c
  rw [e, nI_clamp (n := j) (by omega)]
  exact ⟨rfl, by omega⟩
theorem kC_ok {a : Int32} (h : 0 ≤ a ∧ a ≤ 2) : a = nI a.toNatClampNeg ∧ a.toNatClampNeg < 3 := kR_ok (c := 2) (N := 2) (by decide) h
theorem kQ_ok {a : Int32} (h : 0 ≤ a ∧ a ≤ 3) : a = nI a.toNatClampNeg ∧ a.toNatClampNeg < 4 := kR_ok (c := 3) (N := 3) (by decide) h
theorem kA_ok {n w : Nat} {M : zM} (hI : kInv n w M) {a : Int32} (h : 0 ≤ a ∧ a ≤ M.1 0 5 - 1) : a = nI a.toNatClampNeg ∧ a.toNatClampNeg < n := by
  have hn := kInv_n hI
  rw [kInv_cnt hI] at h
  rcases Nat.eq_zero_or_pos n with h0 | h0
  · subst h0
    have h1 := h.1
    have h2 := h.2
    rw [Int32.le_iff_toInt_le] at h1 h2
    have e : (nI 0 - 1).toInt = -1 := by decide
    have e0 : (0 : Int32).toInt = 0 := by decide
    omega
  · rw [nI_m1 (by omega)] at h
    have := kR_ok (c := nI (n - 1)) (N := n - 1) (nI_toInt (by omega)) h
    exact ⟨this.1, by omega⟩
theorem nI_8 {w : Nat} (h : w ≤ 8) (e : nI w = 8) : w = 8 := (nI_eq (b := 8) (by omega) (by omega)).mp e
theorem nI_n8 {w : Nat} (h : w ≤ 8) (e : ¬ nI w = 8) : w < 8 := by
  rcases Nat.lt_or_ge w 8 with q | q
  · exact q
  · exact absurd (show nI w = 8 by rw [show w = 8 by omega]; rfl) e
def kPs (M : zM) (i : Nat) : Nat := (M.1 (10 + 4 * i) 2).toNatClampNeg
theorem kPs_le {n w : Nat} {M : zM} (h : kInv n w M) {i : Nat} (hi : i < 8) : kPs M i ≤ 8 := by
  obtain ⟨z, hz, e⟩ := h.1.2.2.2.2.2.2.2.1 i hi
  unfold kPs
  rw [e, nI_clamp (n := z) (by omega)]
  exact hz
theorem kPs_eq {n w : Nat} {M : zM} (h : kInv n w M) {i : Nat} (hi : i < 8) : M.1 (10 + 4 * i) 2 = nI (kPs M i) := by
  obtain ⟨z, hz, e⟩ := h.1.2.2.2.2.2.2.2.1 i hi
  unfold kPs
  rw [e, nI_clamp (n := z) (by omega)]
def kIsOrd (b d : Int32) : Prop := (b = 0 ∧ 1 ≤ d ∧ d ≤ 20) ∨ ((b = 1 ∨ b = 2 ∨ b = 3 ∨ b = 4) ∧ 0 ≤ d ∧ d ≤ 3)
def kOkW (a x : Int32) (M : zM) : Prop := (0 ≤ a ∧ a ≤ 2) ∧ (1 ≤ x ∧ x ≤ 30) ∧ kAllOff M
def kOkP (a b d q : Int32) (M : zM) : Prop := (0 ≤ a ∧ a ≤ 2) ∧ (0 ≤ b ∧ b ≤ 9) ∧ (0 ≤ d ∧ d ≤ 60) ∧ (0 ≤ q ∧ q ≤ 60) ∧ kAllOff M
def kOkO (a b d : Int32) (M : zM) : Prop := (0 ≤ a ∧ a ≤ M.1 0 5 - 1) ∧ kIsOrd b d ∧ kAllOff M
def kProc (n : Nat) (a b d q : Int32) (M : zM) : zM := z_si (kDef n a b d q M) 0 5 (nI (n + 1))
def kOn2 (part : Int32) (i : Nat) (M : zM) : zM := if M.1 (9 + 4 * i) 2 = part then (if M.1 (9 + 4 * i) 4 ≤ 0 then M else z_si M (9 + 4 * i) 16 (M.1 0 6)) else M
theorem kInv_On2 {n w : Nat} (part : Int32) (i : Nat) (M : zM) (hi : i < 8) (h : kInv n w M) : kInv n w (kOn2 part i M) := by
  unfold kOn2
  split
  · split
    · exact h
    · exact kInv_task h hi _ (by decide) (by decide)
  · exact h
def kOn (n : Nat) (a : Int32) (M : zM) : zM := kFor (kOn2 a) n 0 (kFor (kRestOne a) n 0 (z_si M (5 + a.toNatClampNeg) 0 1))
theorem kInv_On1 {n w : Nat} {M : zM} (h : kInv n w M) {a : Int32} (ha : a.toNatClampNeg < 3) : kInv n w (kFor (kRestOne a) n 0 (z_si M (5 + a.toNatClampNeg) 0 1)) :=
  kInv_For (N := n) (fun i M hi hM => kInv_RestOne _ i M (Nat.lt_of_lt_of_le hi (kInv_n h)) hM) _ _ _ (by omega) (kInv_far h _ (by omega))
def kOkS (n : Nat) (a : Int32) (M : zM) : Prop := (0 ≤ a ∧ a ≤ M.1 0 5 - 1) ∧ ¬ 0 < M.1 (9 + 4 * a.toNatClampNeg) 4 ∧ M.1 (9 + 4 * a.toNatClampNeg) 6 = 0 ∧ M.1 (5 + kPt M a.toNatClampNeg) 0 = 1
def kCount (n w : Nat) (x : Int32) (M : zM) : Int32 :=
  if x = 0 then M.1 0 6 else if x = 1 then kPartAt M w (M.1 0 6) else if x = 2 then (if w = 0 then (-1) else kLeftAt M w (M.1 0 6)) else if x = 3 then M.1 0 7 else if x = 4 then M.1 0 8 else if x = 5 then nI n else if x = 6 then nI w else (-1)
theorem kDef_0 (i : Nat) (a b d q : Int32) (M : zM) : (kDef i a b d q M).1 0 = M.1 0 := by
  unfold kDef
  rw [z_si_row _ _ _ (by omega), z_si_row _ _ _ (by omega), z_si_row _ _ _ (by omega), z_si_row _ _ _ (by omega)]
