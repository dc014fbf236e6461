/-! what the class's larger methods do -/
def kPt (M : zM) (i : Nat) : Nat := (M.1 (9 + 4 * i) 2).toNatClampNeg
def kNx (M : zM) (i : Nat) : Nat := (M.1 (9 + 4 * i) 7).toNatClampNeg
def kSz (M : zM) (q : Nat) : Nat := (M.1 (42 + 2 * q) 1).toNatClampNeg
theorem kPt_lt {n w : Nat} {M : zM} (h : kInv n w M) {i : Nat} (hi : i < 8) : kPt M i < 3 := by
  obtain ⟨q, hq, e⟩ := h.1.2.2.2.2.2.2.1 i hi
  unfold kPt
  rw [e, nI_clamp (n := q) (by omega)]
  exact hq
theorem kPt_eq {n w : Nat} {M : zM} (h : kInv n w M) {i : Nat} (hi : i < 8) : M.1 (9 + 4 * i) 2 = nI (kPt M i) := by
  obtain ⟨q, hq, e⟩ := h.1.2.2.2.2.2.2.1 i hi
  unfold kPt
  rw [e, nI_clamp (n := q) (by omega)]
theorem kNx_lt {n w : Nat} {M : zM} (h : kInv n w M) {i : Nat} (hi : i < 8) : kNx M i < 8 := by
  obtain ⟨q, hq, e⟩ := h.2 i hi
  unfold kNx
  rw [e, nI_clamp (n := q) (by omega)]
  exact hq
theorem kNx_eq {n w : Nat} {M : zM} (h : kInv n w M) {i : Nat} (hi : i < 8) : M.1 (9 + 4 * i) 7 = nI (kNx M i) := by
  obtain ⟨q, hq, e⟩ := h.2 i hi
  unfold kNx
  rw [e, nI_clamp (n := q) (by omega)]
theorem kSz_le {n w : Nat} {M : zM} (h : kInv n w M) {q : Nat} (hq : q < 4) : kSz M q ≤ 4 := by
  obtain ⟨z, hz, e⟩ := h.1.2.2.2.2.2.2.2.2.2 q hq
  unfold kSz
  rw [e, nI_clamp (n := z) (by omega)]
  exact hz
theorem kSz_eq {n w : Nat} {M : zM} (h : kInv n w M) {q : Nat} (hq : q < 4) : M.1 (42 + 2 * q) 1 = nI (kSz M q) := by
  obtain ⟨z, hz, e⟩ := h.1.2.2.2.2.2.2.2.2.2 q hq
  unfold kSz
  rw [e, nI_clamp (n := z) (by omega)]
theorem kSz_lt {n w : Nat} {M : zM} (h : kInv n w M) {q : Nat} (hq : q < 4) (h4 : ¬ M.1 (42 + 2 * q) 1 = 4) : kSz M q < 4 := by
  have h1 := kSz_le h hq
  have h2 := kSz_eq h hq
  rcases Nat.lt_or_ge (kSz M q) 4 with h3 | h3
  · exact h3
  · exact absurd (by rw [h2, show kSz M q = 4 by omega]; rfl) h4
theorem kSz_pos {n w : Nat} {M : zM} (h : kInv n w M) {q : Nat} (hq : q < 4) (h0 : ¬ M.1 (42 + 2 * q) 1 = 0) : 0 < kSz M q := by
  have h2 := kSz_eq h hq
  rcases Nat.eq_zero_or_pos (kSz M q) with h3 | h3
  · exact absurd (by rw [h2, h3]; rfl) h0
  · exact h3
def kMsg (M : zM) (i : Nat) : Int32 := M.1 (9 + 4 * i) 0 + 8 * M.1 (9 + 4 * i) 10
def kWake (j : Nat) (M : zM) : zM := kAdv j (kReady j (M.2 0 9 + 1) (kTurn M))
noncomputable def kFR (n : Nat) (p : Int32) (M : zM) : Option Nat := kFst (kIsReady M p) M n 0 none
noncomputable def kFW (n : Nat) (o x : Int32) (M : zM) : Option Nat := kFst (kWaits M o x) M n 0 none
def kSend0 (i q : Nat) (M : zM) : zM := if M.1 (42 + 2 * q) 1 = 4 then z_si M 0 7 (M.1 0 7 + 1) else kPut q (kSz M q) (kMsg M i) M
def kSend1 (i j : Nat) (M : zM) : zM := kWake j (z_si M (9 + 4 * j) 15 (kMsg M i))
noncomputable def kSend (n i q : Nat) (M : zM) : zM := match kFW n 2 (nI q) M with
  | some j => kAdv i (kSend1 i j M)
  | none => kAdv i (kSend0 i q M)
def kTakes (i q : Nat) (M : zM) : zM := if M.1 (42 + 2 * q) 1 = 0 then kWait i (M.2 0 9 + 1) (kTurn M) else kAdv i (z_si (kTake q (kSz M q) M) (9 + 4 * i) 15 (M.1 (43 + 2 * q) 0))
def kUp0 (s : Nat) (M : zM) : zM := if 9 ≤ M.1 50 s then M else z_si M 50 s (M.1 50 s + 1)
noncomputable def kUp (n i s : Nat) (M : zM) : zM := match kFW n 4 (nI s) M with
  | some j => kAdv i (kWake j M)
  | none => kAdv i (kUp0 s M)
def kDown (i s : Nat) (M : zM) : zM := if M.1 50 s = 0 then kWait i (M.2 0 9 + 1) (kTurn M) else kAdv i (z_si M 50 s (M.1 50 s - 1))
def kOrd (M : zM) (i : Nat) : Int32 := M.1 (11 + 4 * i) (kNx M i)
def kNum (M : zM) (i : Nat) : Int32 := M.1 (12 + 4 * i) (kNx M i)
noncomputable def kDo (n i : Nat) (M : zM) : zM :=
  if kOrd M i = 0 then kWork i (kNum M i) M else if kOrd M i = 1 then kSend n i (kNum M i).toNatClampNeg M else if kOrd M i = 2 then kTakes i (kNum M i).toNatClampNeg M else if kOrd M i = 3 then kUp n i (kNum M i).toNatClampNeg M else kDown i (kNum M i).toNatClampNeg M
def kIdle (M : zM) : zM := z_si M 0 8 (M.1 0 8 + 1)
noncomputable def kGo (n : Nat) (p : Int32) : Nat → zM → zM
  | 0, M => kIdle M
  | f + 1, M => match kFR n p M with
    | none => kIdle M
    | some j => if kOrd M j = 0 then kDo n j M else kGo n p f (kDo n j M)
noncomputable def kGive (n w : Nat) (M : zM) : zM := if kPartAt M w (M.1 0 6) = (-1) then M else if M.1 (5 + (kPartAt M w (M.1 0 6)).toNatClampNeg) 0 = 1 then kGo n (kPartAt M w (M.1 0 6)) 65 M else M
def kMiss1 (i : Nat) (M : zM) : zM := z_si (z_si M (9 + 4 * i) 12 (M.1 (9 + 4 * i) 12 + 1)) (9 + 4 * i) 11 (-1)
def kMiss (n i : Nat) (M : zM) : zM :=
  if (kMiss1 i M).1 (5 + kPt M i) 1 = 1 then kAnew i ((kMiss1 i M).2 0 9 + 1) (kTurn (kMiss1 i M))
  else if (kMiss1 i M).1 (5 + kPt M i) 1 = 2 then kFor (kRestOne (nI (kPt M i))) n 0 (z_si (kMiss1 i M) (5 + kPt M i) 0 2) else kMiss1 i M
def kMissOne (n i : Nat) (M : zM) : zM := if M.1 (5 + kPt M i) 0 = 1 then (if M.1 (9 + 4 * i) 6 = 0 then M else if M.1 (9 + 4 * i) 11 = M.1 0 6 then kMiss n i M else M) else M
def kRelA (i : Nat) (M : zM) : zM := if M.1 (9 + 4 * i) 6 = 0 then kRel i (M.1 0 6) (M.2 0 9 + 1) (kTurn M) else z_si M (9 + 4 * i) 13 (M.1 (9 + 4 * i) 13 + 1)
def kRelOne (i : Nat) (M : zM) : zM := if M.1 (9 + 4 * i) 4 ≤ 0 then M else if M.1 (5 + kPt M i) 0 = 1 then (if M.1 (9 + 4 * i) 16 = M.1 0 6 then z_si (kRelA i M) (9 + 4 * i) 16 ((kRelA i M).1 0 6 + (kRelA i M).1 (9 + 4 * i) 4) else M) else M
noncomputable def kTick (n w : Nat) (M : zM) : zM := z_si (kGive n w (kFor (kMissOne n) n 0 (kFor kRelOne n 0 M))) 0 6 ((kGive n w (kFor (kMissOne n) n 0 (kFor kRelOne n 0 M))).1 0 6 + 1)
noncomputable def kTicks (n w : Nat) : Nat → zM → zM
  | 0, M => M
  | k + 1, M => kTicks n w k (kTick n w M)
theorem kInv_Put {n w : Nat} {M : zM} (h : kInv n w M) {q z : Nat} (hq : q < 4) (hz : z < 4) (x : Int32) : kInv n w (kPut q z x M) := kInv_port (kInv_far h _ (by omega)) q (by omega) hq
theorem kInv_Take {n w : Nat} {M : zM} (h : kInv n w M) {q z : Nat} (hq : q < 4) (hz : z ≤ 4) : kInv n w (kTake q z M) :=
  kInv_For (N := z) (fun i M _ hM => kInv_far hM _ (by omega)) _ _ _ (by omega) (kInv_port h q (by omega) hq)
theorem kInv_Wake {n w : Nat} {M : zM} (h : kInv n w M) {j : Nat} (hj : j < 8) : kInv n w (kWake j M) := kInv_Adv (kInv_Ready (kInv_Turn h) hj _) hj
theorem kFst_lt (P : Nat → Prop) (M : zM) : ∀ (k i : Nat) (b : Option Nat), (∀ j, b = some j → j < i) → ∀ j, kFst P M k i b = some j → j < i + k
  | 0, i, b, hb, j, h => by have := hb j h; omega
  | k + 1, i, b, hb, j, h => by
    have := kFst_lt P M k (i + 1) _ (fun j h => ?_) j h
    · omega
    · split at h
      · cases h; omega
      · have := hb j h; omega
theorem kFR_lt {n : Nat} {p : Int32} {M : zM} {j : Nat} (h : kFR n p M = some j) : j < n := by
  have := kFst_lt _ M n 0 none (fun j h => by cases h) j h
  omega
theorem kFW_lt {n : Nat} {o x : Int32} {M : zM} {j : Nat} (h : kFW n o x M = some j) : j < n := by
  have := kFst_lt _ M n 0 none (fun j h => by cases h) j h
  omega
theorem kInv_n {n w : Nat} {M : zM} (h : kInv n w M) : n ≤ 8 := h.1.1
theorem kInv_Send0 {n w : Nat} {M : zM} (h : kInv n w M) (i : Nat) {q : Nat} (hq : q < 4) : kInv n w (kSend0 i q M) := by
  unfold kSend0
  split
  · exact kInv_far h _ (by omega)
  · rename_i h4; exact kInv_Put h hq (kSz_lt h hq h4) _
theorem kInv_Send1 {n w : Nat} {M : zM} (h : kInv n w M) (i : Nat) {j : Nat} (hj : j < 8) : kInv n w (kSend1 i j M) := kInv_Wake (kInv_task h hj _ (by decide) (by decide)) hj
theorem kInv_Send {n w : Nat} {M : zM} (h : kInv n w M) {i q : Nat} (hi : i < 8) (hq : q < 4) : kInv n w (kSend n i q M) := by
  unfold kSend
  split
  · rename_i j hj; exact kInv_Adv (kInv_Send1 h i (Nat.lt_of_lt_of_le (kFW_lt hj) (kInv_n h))) hi
  · exact kInv_Adv (kInv_Send0 h i hq) hi
theorem kInv_Takes {n w : Nat} {M : zM} (h : kInv n w M) {i q : Nat} (hi : i < 8) (hq : q < 4) : kInv n w (kTakes i q M) := by
  unfold kTakes
  split
  · exact kInv_Wait (kInv_Turn h) hi _
  · exact kInv_Adv (kInv_task (kInv_Take h hq (kSz_le h hq)) hi _ (by decide) (by decide)) hi
theorem kInv_Up {n w : Nat} {M : zM} (h : kInv n w M) {i q : Nat} (hi : i < 8) : kInv n w (kUp n i q M) := by
  unfold kUp
  split
  · rename_i j hj; exact kInv_Adv (kInv_Wake h (Nat.lt_of_lt_of_le (kFW_lt hj) (kInv_n h))) hi
  · refine kInv_Adv ?_ hi
    unfold kUp0
    split
    · exact h
    · exact kInv_far h _ (by omega)
theorem kInv_Down {n w : Nat} {M : zM} (h : kInv n w M) {i q : Nat} (hi : i < 8) : kInv n w (kDown i q M) := by
  unfold kDown
  split
  · exact kInv_Wait (kInv_Turn h) hi _
  · exact kInv_Adv (kInv_far h _ (by omega)) hi
theorem kNum_lt {n w : Nat} {M : zM} (h : kInv n w M) {i : Nat} (hi : i < 8) (h0 : ¬ kOrd M i = 0) : (kNum M i).toNatClampNeg < 4 ∧ kNum M i = nI (kNum M i).toNatClampNeg := by
  rcases h.1.2.2.2.2.2.2.2.2.1 i (kNx M i) hi (kNx_lt h hi) with h1 | ⟨q, hq, e⟩
  · exact absurd h1 h0
  · have e2 : kNum M i = nI q := e
    rw [e2, nI_clamp (n := q) (by omega)]
    exact ⟨hq, rfl⟩
theorem kInv_Do {n w : Nat} {M : zM} (h : kInv n w M) {i : Nat} (hi : i < 8) : kInv n w (kDo n i M) := by
  unfold kDo
  split
  · exact kInv_Work h hi _
  · rename_i h0
    have hn := (kNum_lt h hi h0).1
    split
    · exact kInv_Send h hi hn
    · split
      · exact kInv_Takes h hi hn
      · split
        · exact kInv_Up h hi
        · exact kInv_Down h hi
theorem kInv_Idle {n w : Nat} {M : zM} (h : kInv n w M) : kInv n w (kIdle M) := kInv_far h _ (by omega)
theorem kInv_Go {n w : Nat} (p : Int32) : ∀ (f : Nat) (M : zM), kInv n w M → kInv n w (kGo n p f M)
  | 0, M, h => kInv_Idle h
  | f + 1, M, h => by
    unfold kGo
    split
    · exact kInv_Idle h
    · rename_i j hj
      have hj8 : j < 8 := Nat.lt_of_lt_of_le (kFR_lt hj) (kInv_n h)
      split
      · exact kInv_Do h hj8
      · exact kInv_Go p f _ (kInv_Do h hj8)
theorem kInv_Give {n w : Nat} {M : zM} (h : kInv n w M) : kInv n w (kGive n w M) := by
  unfold kGive
  split
  · exact h
  · split
    · exact kInv_Go _ _ _ h
    · exact h
theorem kInv_Miss {n w : Nat} {M : zM} (h : kInv n w M) {i : Nat} (hi : i < 8) : kInv n w (kMiss n i M) := by
  have h1 : kInv n w (kMiss1 i M) := kInv_task (kInv_task h hi _ (by decide) (by decide)) hi _ (by decide) (by decide)
  have hp := kPt_lt h hi
  unfold kMiss
  split
  · exact kInv_Anew (kInv_Turn h1) hi _
  · split
    · exact kInv_For (N := n) (fun i M hi hM => kInv_RestOne _ i M (Nat.lt_of_lt_of_le hi (kInv_n h)) hM) _ _ _ (by omega) (kInv_far h1 _ (by omega))
    · exact h1
theorem kInv_MissOne {n w : Nat} (i : Nat) (M : zM) (hi : i < 8) (h : kInv n w M) : kInv n w (kMissOne n i M) := by
  unfold kMissOne
  split
  · split
    · exact h
    · split
      · exact kInv_Miss h hi
      · exact h
  · exact h
theorem kInv_RelA {n w : Nat} {i : Nat} {M : zM} (hi : i < 8) (h : kInv n w M) : kInv n w (kRelA i M) := by
  unfold kRelA
  split
  · exact kInv_Rel (kInv_Turn h) hi _ _
  · exact kInv_task h hi _ (by decide) (by decide)
theorem kInv_RelOne {n w : Nat} (i : Nat) (M : zM) (hi : i < 8) (h : kInv n w M) : kInv n w (kRelOne i M) := by
  unfold kRelOne
  split
  · exact h
  · split
    · split
      · exact kInv_task (kInv_RelA hi h) hi _ (by decide) (by decide)
      · exact h
    · exact h
theorem kInv_Tick {n w : Nat} {M : zM} (h : kInv n w M) : kInv n w (kTick n w M) := by
  have hn := kInv_n h
  exact kInv_far (kInv_Give (kInv_For (N := n) (fun i M hi hM => kInv_MissOne i M (by omega) hM) _ _ _ (by omega) (kInv_For (N := n) (fun i M hi hM => kInv_RelOne i M (by omega) hM) _ _ _ (by omega) h))) _ (by omega)
theorem kInv_Ticks {n w : Nat} : ∀ (k : Nat) (M : zM), kInv n w M → kInv n w (kTicks n w k M)
  | 0, _, h => h
  | k + 1, M, h => kInv_Ticks k _ (kInv_Tick h)
