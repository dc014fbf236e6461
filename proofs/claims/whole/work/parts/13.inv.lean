/-! WHAT ALWAYS HOLDS of the class's memory, as far as its indices need it: n processes, w windows -/
def kB (n w : Nat) (M : zM) : Prop :=
  n ≤ 8 ∧ w ≤ 8 ∧ M.1 0 5 = nI n ∧ M.1 1 2 = nI w ∧ (w ≠ 0 → ¬ M.1 3 (w - 1) = 0) ∧ (∀ j, j < w → ∃ q, q < 3 ∧ M.1 2 j = nI q) ∧ (∀ i, i < 8 → ∃ q, q < 3 ∧ M.1 (9 + 4 * i) 2 = nI q) ∧ (∀ i, i < 8 → ∃ z, z ≤ 8 ∧ M.1 (10 + 4 * i) 2 = nI z) ∧ (∀ i x, i < 8 → x < 8 → M.1 (11 + 4 * i) x = 0 ∨ ∃ q, q < 4 ∧ M.1 (12 + 4 * i) x = nI q) ∧ (∀ q, q < 4 → ∃ z, z ≤ 4 ∧ M.1 (42 + 2 * q) 1 = nI z)
def kN (M : zM) : Prop := ∀ i, i < 8 → ∃ x, x < 8 ∧ M.1 (9 + 4 * i) 7 = nI x
def kInv (n w : Nat) (M : zM) : Prop := kB n w M ∧ kN M
theorem kB_si {n w : Nat} {M : zM} (h : kB n w M) {c k : Nat} (x : Int32) (hc : (c = 0 ∧ k ≠ 5) ∨ (5 ≤ c ∧ c < 9) ∨ (9 ≤ c ∧ c < 41 ∧ c % 4 = 1 ∧ k ≠ 2) ∨ (43 ≤ c ∧ c % 2 = 1) ∨ c = 50 ∨ 51 ≤ c) : kB n w (z_si M c k x) := by
  obtain ⟨h1, h2, h3, h4, h5, h6, h7, h8, h9, h10⟩ := h
  refine ⟨h1, h2, ?_, ?_, ?_, ?_, ?_, ?_, ?_, ?_⟩
  · rw [z_si_other _ _ (by omega)]; exact h3
  · rw [z_si_other _ _ (by omega)]; exact h4
  · rw [z_si_other _ _ (by omega)]; exact h5
  · intro j hj; rw [z_si_other _ _ (by omega)]; exact h6 j hj
  · intro j hj; rw [z_si_other _ _ (by omega)]; exact h7 j hj
  · intro j hj; rw [z_si_other _ _ (by omega)]; exact h8 j hj
  · intro j y hj hy; rw [z_si_other _ _ (by omega), z_si_other _ _ (by omega)]; exact h9 j y hj hy
  · intro j hj; rw [z_si_other _ _ (by omega)]; exact h10 j hj
theorem kB_port {n w : Nat} {M : zM} (h : kB n w M) (q : Nat) {z : Nat} (hz : z ≤ 4) (hq : q < 4) : kB n w (z_si M (42 + 2 * q) 1 (nI z)) := by
  obtain ⟨h1, h2, h3, h4, h5, h6, h7, h8, h9, h10⟩ := h
  refine ⟨h1, h2, ?_, ?_, ?_, ?_, ?_, ?_, ?_, ?_⟩
  · rw [z_si_other _ _ (by omega)]; exact h3
  · rw [z_si_other _ _ (by omega)]; exact h4
  · rw [z_si_other _ _ (by omega)]; exact h5
  · intro j hj; rw [z_si_other _ _ (by omega)]; exact h6 j hj
  · intro j hj; rw [z_si_other _ _ (by omega)]; exact h7 j hj
  · intro j hj; rw [z_si_other _ _ (by omega)]; exact h8 j hj
  · intro j y hj hy; rw [z_si_other _ _ (by omega), z_si_other _ _ (by omega)]; exact h9 j y hj hy
  · intro j hj
    by_cases hjq : j = q
    · subst hjq
      exact ⟨z, hz, z_si_same _ _ _ _⟩
    · rw [z_si_other _ _ (by omega)]; exact h10 j hj
theorem kN_si {M : zM} (h : kN M) {c k : Nat} (x : Int32) (hc : ¬ (9 ≤ c ∧ c < 41 ∧ c % 4 = 1 ∧ k = 7)) : kN (z_si M c k x) := by
  intro j hj
  rw [z_si_other _ _ (by omega)]
  exact h j hj
theorem kN_7 {M : zM} {i : Nat} (h : ∀ j, j < 8 → j ≠ i → ∃ x, x < 8 ∧ M.1 (9 + 4 * j) 7 = nI x) {y : Nat} (hy : y < 8) : kN (z_si M (9 + 4 * i) 7 (nI y)) := by
  intro j hj
  by_cases hji : j = i
  · subst hji
    exact ⟨y, hy, z_si_same _ _ _ _⟩
  · rw [z_si_other _ _ (by omega)]
    exact h j hj hji
theorem kB_task {n w : Nat} {M : zM} (h : kB n w M) {i : Nat} (hi : i < 8) {k : Nat} (x : Int32) (hk : k ≠ 2) : kB n w (z_si M (9 + 4 * i) k x) := kB_si h x (by omega)
theorem kB_Rest {n w : Nat} {M : zM} (h : kB n w M) {i : Nat} (hi : i < 8) : kB n w (kRest i M) := kB_task (kB_task (kB_task (kB_task h hi _ (by decide)) hi _ (by decide)) hi _ (by decide)) hi _ (by decide)
theorem kN_Rest' {M : zM} {i : Nat} (hi : i < 8) (h : ∀ j, j < 8 → j ≠ i → ∃ x, x < 8 ∧ M.1 (9 + 4 * j) 7 = nI x) : kN (kRest i M) := by
  refine kN_si (kN_si (kN_7 (y := 0) (fun j hj hji => ?_) (by decide)) _ (by omega)) _ (by omega)
  rw [z_si_other _ _ (by omega)]
  exact h j hj hji
theorem kInv_Rest {n w : Nat} {M : zM} (h : kInv n w M) {i : Nat} (hi : i < 8) : kInv n w (kRest i M) := ⟨kB_Rest h.1 hi, kN_Rest' hi (fun j hj _ => h.2 j hj)⟩
theorem kInv_task {n w : Nat} {M : zM} (h : kInv n w M) {i : Nat} (hi : i < 8) {k : Nat} (x : Int32) (hk : k ≠ 2) (hk7 : k ≠ 7) : kInv n w (z_si M (9 + 4 * i) k x) := ⟨kB_task h.1 hi x hk, kN_si h.2 x (by omega)⟩
theorem kInv_sj {n w : Nat} {M : zM} (h : kInv n w M) (c k : Nat) (x : Int64) : kInv n w (z_sj M c k x) := h
theorem kInv_far {n w : Nat} {M : zM} (h : kInv n w M) {c k : Nat} (x : Int32) (hc : (c = 0 ∧ k ≠ 5) ∨ (5 ≤ c ∧ c < 9) ∨ (43 ≤ c ∧ c % 2 = 1) ∨ c = 50 ∨ 51 ≤ c) : kInv n w (z_si M c k x) := ⟨kB_si h.1 x (by omega), kN_si h.2 x (by omega)⟩
theorem kInv_port {n w : Nat} {M : zM} (h : kInv n w M) (q : Nat) {z : Nat} (hz : z ≤ 4) (hq : q < 4) : kInv n w (z_si M (42 + 2 * q) 1 (nI z)) := ⟨kB_port h.1 q hz hq, kN_si h.2 _ (by omega)⟩
theorem kInv_next {n w : Nat} {M : zM} (h : kInv n w M) {i : Nat} (hi : i < 8) {y : Nat} (hy : y < 8) : kInv n w (z_si M (9 + 4 * i) 7 (nI y)) := ⟨kB_task h.1 hi _ (by decide), kN_7 (fun j hj _ => h.2 j hj) hy⟩
theorem kInv_Ready {n w : Nat} {M : zM} (h : kInv n w M) {i : Nat} (hi : i < 8) (t : Int64) : kInv n w (kReady i t M) := kInv_sj (kInv_task h hi _ (by decide) (by decide)) _ _ _
theorem kInv_Wait {n w : Nat} {M : zM} (h : kInv n w M) {i : Nat} (hi : i < 8) (t : Int64) : kInv n w (kWait i t M) := kInv_sj (kInv_task h hi _ (by decide) (by decide)) _ _ _
theorem kInv_Anew {n w : Nat} {M : zM} (h : kInv n w M) {i : Nat} (hi : i < 8) (t : Int64) : kInv n w (kAnew i t M) := kInv_task (kInv_next (y := 0) (kInv_Ready h hi t) hi (by decide)) hi _ (by decide) (by decide)
theorem kInv_Rel {n w : Nat} {M : zM} (h : kInv n w M) {i : Nat} (hi : i < 8) (tm : Int32) (t : Int64) : kInv n w (kRel i tm t M) := by
  have h2 : kInv n w (kRel2 i tm t M) := kInv_Anew (kInv_task (kInv_task h hi _ (by decide) (by decide)) hi _ (by decide) (by decide)) hi t
  unfold kRel
  split
  · exact kInv_Rest h2 hi
  · exact h2
theorem kInv_Adv {n w : Nat} {M : zM} (h : kInv n w M) {i : Nat} (hi : i < 8) : kInv n w (kAdv i M) := by
  obtain ⟨x, hx, ex⟩ := h.2 i hi
  obtain ⟨z, hz, ez⟩ := h.1.2.2.2.2.2.2.2.1 i hi
  have hb : kB n w (kAdv1 i M) := kB_task (kB_task h.1 hi _ (by decide)) hi _ (by decide)
  have e1 : (kAdv1 i M).1 (9 + 4 * i) 7 = nI (x + 1) := by
    unfold kAdv1
    rw [z_si_other _ _ (by omega), z_si_same, ex, nI_1]
  have e2 : (kAdv1 i M).1 (10 + 4 * i) 2 = nI z := by
    unfold kAdv1
    rw [z_si_other _ _ (by omega), z_si_other _ _ (by omega), ez]
  have ho : ∀ j, j < 8 → j ≠ i → ∃ x, x < 8 ∧ (kAdv1 i M).1 (9 + 4 * j) 7 = nI x := by
    intro j hj hji
    unfold kAdv1
    rw [z_si_other _ _ (by omega), z_si_other _ _ (by omega)]
    exact h.2 j hj
  unfold kAdv
  split
  · rename_i hlt
    rw [e1, e2, nI_ltI (by omega) (by omega)] at hlt
    refine ⟨hb, fun j hj => ?_⟩
    by_cases hji : j = i
    · subst hji
      exact ⟨x + 1, by omega, e1⟩
    · exact ho j hj hji
  · exact ⟨kB_Rest hb hi, kN_Rest' hi ho⟩
theorem kInv_Work {n w : Nat} {M : zM} (h : kInv n w M) {i : Nat} (hi : i < 8) (x : Int32) : kInv n w (kWork i x M) := by
  have h2 : kInv n w (kWork2 i M) := kInv_task (kInv_task h hi _ (by decide) (by decide)) hi _ (by decide) (by decide)
  unfold kWork
  split
  · exact h2
  · exact kInv_Adv h2 hi
theorem kInv_Turn {n w : Nat} {M : zM} (h : kInv n w M) : kInv n w (kTurn M) := h
theorem kInv_For {n w : Nat} {f : Nat → zM → zM} {N : Nat} (hf : ∀ i M, i < N → kInv n w M → kInv n w (f i M)) : ∀ (k i : Nat) (M : zM), i + k ≤ N → kInv n w M → kInv n w (kFor f k i M)
  | 0, _, _, _, h => h
  | k + 1, i, M, hk, h => kInv_For hf k (i + 1) (f i M) (by omega) (hf i M (by omega) h)
theorem kInv_cnt {n w : Nat} {M : zM} (h : kInv n w M) : M.1 0 5 = nI n := h.1.2.2.1
theorem kInv_RestOne {n w : Nat} (part : Int32) (i : Nat) (M : zM) (hi : i < 8) (h : kInv n w M) : kInv n w (kRestOne part i M) := by
  unfold kRestOne
  split
  · exact kInv_Rest h hi
  · exact h
theorem kInv_OnOne {n w : Nat} (part : Int32) (i : Nat) (M : zM) (hi : i < 8) (h : kInv n w M) : kInv n w (kOnOne part i M) := by
  unfold kOnOne
  split
  · exact kInv_task h hi _ (by decide) (by decide)
  · exact h
