/-! FRAMES: what the class's steps leave of the reference's cells (51 ..), and the other way round -/
def uB (M M' : zM) : Prop := ∀ c, 51 ≤ c → M'.1 c = M.1 c
def uA (M M' : zM) : Prop := (∀ c, c < 51 → M'.1 c = M.1 c) ∧ M'.2 = M.2
theorem uB.rf {M : zM} : uB M M := fun _ _ => rfl
theorem uA.rf {M : zM} : uA M M := ⟨fun _ _ => rfl, rfl⟩
theorem uB.si {M0 M : zM} (h : uB M0 M) {c k : Nat} {x : Int32} (hc : c < 51) : uB M0 (z_si M c k x) := fun d hd => (z_si_row M k x (by omega)).trans (h d hd)
theorem uB.sj {M0 M : zM} (h : uB M0 M) {c k : Nat} {x : Int64} : uB M0 (z_sj M c k x) := h
theorem uA.si {M0 M : zM} (h : uA M0 M) {c k : Nat} {x : Int32} (hc : 51 ≤ c) : uA M0 (z_si M c k x) := ⟨fun d hd => (z_si_row M k x (by omega)).trans (h.1 d hd), h.2⟩
theorem uB.ite {M0 A B : zM} {p : Prop} [Decidable p] (ha : p → uB M0 A) (hb : ¬ p → uB M0 B) : uB M0 (if p then A else B) := by
  split
  · exact ha ‹_›
  · exact hb ‹_›
theorem uA.ite {M0 A B : zM} {p : Prop} [Decidable p] (ha : uA M0 A) (hb : uA M0 B) : uA M0 (if p then A else B) := by
  split
  · exact ha
  · exact hb
theorem uB_For {n w N : Nat} {f : Nat → zM → zM} (hf : ∀ i M0 M, i < N → kInv n w M → uB M0 M → uB M0 (f i M)) (hk : ∀ i M, i < N → kInv n w M → kInv n w (f i M)) : ∀ (k i : Nat) (M0 M : zM), i + k ≤ N → kInv n w M → uB M0 M → uB M0 (kFor f k i M)
  | 0, i, M0, M, _, _, h => h
  | k + 1, i, M0, M, hi, hI, h => uB_For hf hk k (i + 1) M0 (f i M) (by omega) (hk i M (by omega) hI) (hf i M0 M (by omega) hI h)
theorem uB_For0 {N : Nat} {f : Nat → zM → zM} (hf : ∀ i M0 M, i < N → uB M0 M → uB M0 (f i M)) : ∀ (k i : Nat) (M0 M : zM), i + k ≤ N → uB M0 M → uB M0 (kFor f k i M)
  | 0, i, M0, M, _, h => h
  | k + 1, i, M0, M, hi, h => uB_For0 hf k (i + 1) M0 (f i M) (by omega) (hf i M0 M (by omega) h)
theorem uA_For {f : Nat → zM → zM} (hf : ∀ i M0 M, uA M0 M → uA M0 (f i M)) : ∀ (k i : Nat) (M0 M : zM), uA M0 M → uA M0 (kFor f k i M)
  | 0, i, M0, M, h => h
  | k + 1, i, M0, M, h => uA_For hf k (i + 1) M0 (f i M) (hf i M0 M h)
theorem u_kRest {M0 M : zM} {i : Nat} (hi : i < 8) (h : uB M0 M) : uB M0 (kRest i M) := by
  unfold kRest
  repeat (with_reducible (first | exact h | refine uB.sj ?_ | refine uB.si ?_ (by omega) | refine uB.ite (fun _ => ?_) (fun _ => ?_)))
theorem u_kReady {M0 M : zM} {i : Nat} (t : Int64) (hi : i < 8) (h : uB M0 M) : uB M0 (kReady i t M) := by
  unfold kReady
  repeat (with_reducible (first | exact h | refine uB.sj ?_ | refine uB.si ?_ (by omega) | refine uB.ite (fun _ => ?_) (fun _ => ?_)))
theorem u_kWait {M0 M : zM} {i : Nat} (t : Int64) (hi : i < 8) (h : uB M0 M) : uB M0 (kWait i t M) := by
  unfold kWait
  repeat (with_reducible (first | exact h | refine uB.sj ?_ | refine uB.si ?_ (by omega) | refine uB.ite (fun _ => ?_) (fun _ => ?_)))
theorem u_kAnew {M0 M : zM} {i : Nat} (t : Int64) (hi : i < 8) (h : uB M0 M) : uB M0 (kAnew i t M) := by
  unfold kAnew
  repeat (with_reducible (first | exact h | refine uB.sj ?_ | refine uB.si ?_ (by omega) | refine u_kReady _ hi ?_ | refine uB.ite (fun _ => ?_) (fun _ => ?_)))
theorem u_kRel1 {M0 M : zM} {i : Nat} (hi : i < 8) (h : uB M0 M) : uB M0 (kRel1 i M) := by
  unfold kRel1
  repeat (with_reducible (first | exact h | refine uB.sj ?_ | refine uB.si ?_ (by omega) | refine uB.ite (fun _ => ?_) (fun _ => ?_)))
theorem u_kRel2 {M0 M : zM} {i : Nat} (tm : Int32) (t : Int64) (hi : i < 8) (h : uB M0 M) : uB M0 (kRel2 i tm t M) := by
  unfold kRel2
  repeat (with_reducible (first | exact h | refine uB.sj ?_ | refine uB.si ?_ (by omega) | refine u_kAnew _ hi ?_ | refine u_kRel1 hi ?_ | refine uB.ite (fun _ => ?_) (fun _ => ?_)))
theorem u_kRel {M0 M : zM} {i : Nat} (tm : Int32) (t : Int64) (hi : i < 8) (h : uB M0 M) : uB M0 (kRel i tm t M) := by
  unfold kRel
  repeat (with_reducible (first | exact h | refine uB.sj ?_ | refine uB.si ?_ (by omega) | refine u_kRest hi ?_ | refine u_kRel2 _ _ hi ?_ | refine uB.ite (fun _ => ?_) (fun _ => ?_)))
theorem u_kAdv1 {M0 M : zM} {i : Nat} (hi : i < 8) (h : uB M0 M) : uB M0 (kAdv1 i M) := by
  unfold kAdv1
  repeat (with_reducible (first | exact h | refine uB.sj ?_ | refine uB.si ?_ (by omega) | refine uB.ite (fun _ => ?_) (fun _ => ?_)))
theorem u_kAdv {M0 M : zM} {i : Nat} (hi : i < 8) (h : uB M0 M) : uB M0 (kAdv i M) := by
  unfold kAdv
  repeat (with_reducible (first | exact h | refine uB.sj ?_ | refine uB.si ?_ (by omega) | refine u_kRest hi ?_ | refine u_kAdv1 hi ?_ | refine uB.ite (fun _ => ?_) (fun _ => ?_)))
theorem u_kWork1 {M0 M : zM} {i : Nat} (hi : i < 8) (h : uB M0 M) : uB M0 (kWork1 i M) := by
  unfold kWork1
  repeat (with_reducible (first | exact h | refine uB.sj ?_ | refine uB.si ?_ (by omega) | refine uB.ite (fun _ => ?_) (fun _ => ?_)))
theorem u_kWork2 {M0 M : zM} {i : Nat} (hi : i < 8) (h : uB M0 M) : uB M0 (kWork2 i M) := by
  unfold kWork2
  repeat (with_reducible (first | exact h | refine uB.sj ?_ | refine uB.si ?_ (by omega) | refine u_kWork1 hi ?_ | refine uB.ite (fun _ => ?_) (fun _ => ?_)))
theorem u_kWork {M0 M : zM} {i : Nat} (x : Int32) (hi : i < 8) (h : uB M0 M) : uB M0 (kWork i x M) := by
  unfold kWork
  repeat (with_reducible (first | exact h | refine uB.sj ?_ | refine uB.si ?_ (by omega) | refine u_kAdv hi ?_ | refine u_kWork2 hi ?_ | refine uB.ite (fun _ => ?_) (fun _ => ?_)))
theorem u_kTurn {M0 M : zM}   (h : uB M0 M) : uB M0 (kTurn  M) := by
  unfold kTurn
  repeat (with_reducible (first | exact h | refine uB.sj ?_ | refine uB.si ?_ (by omega) | refine uB.ite (fun _ => ?_) (fun _ => ?_)))
theorem u_kRestOne {M0 M : zM} {i : Nat} (d : Int32) (hi : i < 8) (h : uB M0 M) : uB M0 (kRestOne d i M) := by
  unfold kRestOne
  repeat (with_reducible (first | exact h | refine uB.sj ?_ | refine uB.si ?_ (by omega) | refine u_kRest hi ?_ | refine uB.ite (fun _ => ?_) (fun _ => ?_)))
theorem u_kDef {M0 M : zM} {i : Nat} (a b d q : Int32) (hi : i < 8) (h : uB M0 M) : uB M0 (kDef i a b d q M) := by
  unfold kDef
  repeat (with_reducible (first | exact h | refine uB.sj ?_ | refine uB.si ?_ (by omega) | refine uB.ite (fun _ => ?_) (fun _ => ?_)))
theorem u_kGadd {M0 M : zM} {i : Nat} (z : Nat) (a b : Int32) (hi : i < 8) (h : uB M0 M) : uB M0 (kGadd i z a b M) := by
  unfold kGadd
  repeat (with_reducible (first | exact h | refine uB.sj ?_ | refine uB.si ?_ (by omega) | refine uB.ite (fun _ => ?_) (fun _ => ?_)))
theorem u_kPut {M0 M : zM} {q : Nat} (z : Nat) (x : Int32) (hq : q < 4) (h : uB M0 M) : uB M0 (kPut q z x M) := by
  unfold kPut
  repeat (with_reducible (first | exact h | refine uB.sj ?_ | refine uB.si ?_ (by omega) | refine uB.ite (fun _ => ?_) (fun _ => ?_)))
theorem u_kSh {M0 M : zM} {q : Nat} (i : Nat) (hq : q < 4) (h : uB M0 M) : uB M0 (kSh q i M) := by
  unfold kSh
  repeat (with_reducible (first | exact h | refine uB.sj ?_ | refine uB.si ?_ (by omega) | refine uB.ite (fun _ => ?_) (fun _ => ?_)))
theorem u_kTake {M0 M : zM} {q : Nat} (z : Nat) (hq : q < 4) (h : uB M0 M) : uB M0 (kTake q z M) := by
  unfold kTake
  exact uB_For0 (N := 0 + (z - 1)) (fun i M0 M _ h => u_kSh i hq h) _ _ _ _ (by omega) (h.si (by omega))
theorem u_kWadd {M0 M : zM} (z : Nat) (a x : Int32)  (h : uB M0 M) : uB M0 (kWadd z a x M) := by
  unfold kWadd
  repeat (with_reducible (first | exact h | refine uB.sj ?_ | refine uB.si ?_ (by omega) | refine uB.ite (fun _ => ?_) (fun _ => ?_)))
theorem u_kWake {M0 M : zM} {i : Nat} (hi : i < 8) (h : uB M0 M) : uB M0 (kWake i M) := by
  unfold kWake
  repeat (with_reducible (first | exact h | refine uB.sj ?_ | refine uB.si ?_ (by omega) | refine u_kAdv hi ?_ | refine u_kReady _ hi ?_ | refine u_kTurn ?_ | refine uB.ite (fun _ => ?_) (fun _ => ?_)))
theorem u_kSend0 {M0 M : zM} (i : Nat) {q : Nat} (hq : q < 4) (h : uB M0 M) : uB M0 (kSend0 i q M) := by
  unfold kSend0
  repeat (with_reducible (first | exact h | refine uB.sj ?_ | refine uB.si ?_ (by omega) | refine u_kPut _ _ hq ?_ | refine uB.ite (fun _ => ?_) (fun _ => ?_)))
theorem u_kSend1 {M0 M : zM} (i : Nat) {j : Nat} (hj : j < 8) (h : uB M0 M) : uB M0 (kSend1 i j M) := by
  unfold kSend1
  repeat (with_reducible (first | exact h | refine uB.sj ?_ | refine uB.si ?_ (by omega) | refine u_kWake hj ?_ | refine uB.ite (fun _ => ?_) (fun _ => ?_)))
theorem u_kSend {n : Nat} {M0 M : zM} {i q : Nat} (hn : n ≤ 8) (hi : i < 8) (hq : q < 4) (h : uB M0 M) : uB M0 (kSend n i q M) := by
  unfold kSend
  split
  · rename_i j hj
    have hj8 : j < 8 := Nat.lt_of_lt_of_le (kFW_lt hj) hn
    exact u_kAdv hi (u_kSend1 i hj8 h)
  · exact u_kAdv hi (u_kSend0 i hq h)
theorem u_kTakes {M0 M : zM} {i : Nat} {q : Nat} (hi : i < 8) (hq : q < 4) (h : uB M0 M) : uB M0 (kTakes i q M) := by
  unfold kTakes
  repeat (with_reducible (first | exact h | refine uB.sj ?_ | refine uB.si ?_ (by omega) | refine u_kWait _ hi ?_ | refine u_kTurn ?_ | refine u_kAdv hi ?_ | refine u_kTake _ hq ?_ | refine uB.ite (fun _ => ?_) (fun _ => ?_)))
theorem u_kUp0 {M0 M : zM} (s : Nat)  (h : uB M0 M) : uB M0 (kUp0 s M) := by
  unfold kUp0
  repeat (with_reducible (first | exact h | refine uB.sj ?_ | refine uB.si ?_ (by omega) | refine uB.ite (fun _ => ?_) (fun _ => ?_)))
theorem u_kUp {n : Nat} {M0 M : zM} {i : Nat} (s : Nat) (hn : n ≤ 8) (hi : i < 8) (h : uB M0 M) : uB M0 (kUp n i s M) := by
  unfold kUp
  split
  · rename_i j hj
    have hj8 : j < 8 := Nat.lt_of_lt_of_le (kFW_lt hj) hn
    exact u_kAdv hi (u_kWake hj8 h)
  · exact u_kAdv hi (u_kUp0 s h)
theorem u_kDown {M0 M : zM} {i : Nat} (s : Nat) (hi : i < 8) (h : uB M0 M) : uB M0 (kDown i s M) := by
  unfold kDown
  repeat (with_reducible (first | exact h | refine uB.sj ?_ | refine uB.si ?_ (by omega) | refine u_kWait _ hi ?_ | refine u_kTurn ?_ | refine u_kAdv hi ?_ | refine uB.ite (fun _ => ?_) (fun _ => ?_)))
theorem u_kDo {n w : Nat} {M0 M : zM} {i : Nat} (hI : kInv n w M) (hi : i < 8) (h : uB M0 M) : uB M0 (kDo n i M) := by
  unfold kDo
  refine uB.ite (fun _ => u_kWork _ hi h) (fun h0 => ?_)
  have hq := (kNum_lt hI hi h0).1
  exact uB.ite (fun _ => u_kSend (kInv_n hI) hi hq h) (fun _ => uB.ite (fun _ => u_kTakes hi hq h) (fun _ => uB.ite (fun _ => u_kUp _ (kInv_n hI) hi h) (fun _ => u_kDown _ hi h)))
theorem u_kIdle {M0 M : zM}   (h : uB M0 M) : uB M0 (kIdle  M) := by
  unfold kIdle
  repeat (with_reducible (first | exact h | refine uB.sj ?_ | refine uB.si ?_ (by omega) | refine uB.ite (fun _ => ?_) (fun _ => ?_)))
theorem u_kGo {n w : Nat} (p : Int32) : ∀ (f : Nat) {M0 M : zM}, kInv n w M → uB M0 M → uB M0 (kGo n p f M)
  | 0, M0, M, _, h => u_kIdle h
  | f + 1, M0, M, hI, h => by
    unfold kGo
    split
    · exact u_kIdle h
    · rename_i j hj
      have hj8 : j < 8 := Nat.lt_of_lt_of_le (kFR_lt hj) (kInv_n hI)
      exact uB.ite (fun _ => u_kDo hI hj8 h) (fun _ => u_kGo p f (kInv_Do hI hj8) (u_kDo hI hj8 h))
theorem u_kGive {n w : Nat} {M0 M : zM} (hI : kInv n w M) (h : uB M0 M) : uB M0 (kGive n w M) := by
  unfold kGive
  exact uB.ite (fun _ => h) (fun _ => uB.ite (fun _ => u_kGo _ _ hI h) (fun _ => h))
theorem u_kMiss1 {M0 M : zM} {i : Nat} (hi : i < 8) (h : uB M0 M) : uB M0 (kMiss1 i M) := by
  unfold kMiss1
  repeat (with_reducible (first | exact h | refine uB.sj ?_ | refine uB.si ?_ (by omega) | refine uB.ite (fun _ => ?_) (fun _ => ?_)))
theorem u_kMiss {n w : Nat} {M0 M : zM} {i : Nat} (hI : kInv n w M) (hi : i < 8) (h : uB M0 M) : uB M0 (kMiss n i M) := by
  unfold kMiss
  have hp := kPt_lt hI hi
  have hn := kInv_n hI
  exact uB.ite (fun _ => u_kAnew _ hi (u_kTurn (u_kMiss1 hi h))) (fun _ => uB.ite (fun _ => uB_For0 (N := n) (fun i M0 M hi h => u_kRestOne _ (by omega) h) _ _ _ _ (by omega) ((u_kMiss1 hi h).si (by omega))) (fun _ => u_kMiss1 hi h))
theorem u_kMissOne {n w : Nat} {M0 M : zM} {i : Nat} (hI : kInv n w M) (hi : i < 8) (h : uB M0 M) : uB M0 (kMissOne n i M) := by
  unfold kMissOne
  exact uB.ite (fun _ => uB.ite (fun _ => h) (fun _ => uB.ite (fun _ => u_kMiss hI hi h) (fun _ => h))) (fun _ => h)
theorem u_kRelA {M0 M : zM} {i : Nat} (hi : i < 8) (h : uB M0 M) : uB M0 (kRelA i M) := by
  unfold kRelA
  repeat (with_reducible (first | exact h | refine uB.sj ?_ | refine uB.si ?_ (by omega) | refine u_kRel _ _ hi ?_ | refine u_kTurn ?_ | refine uB.ite (fun _ => ?_) (fun _ => ?_)))
theorem u_kRelOne {M0 M : zM} {i : Nat} (hi : i < 8) (h : uB M0 M) : uB M0 (kRelOne i M) := by
  unfold kRelOne
  repeat (with_reducible (first | exact h | refine uB.sj ?_ | refine uB.si ?_ (by omega) | refine u_kRelA hi ?_ | refine uB.ite (fun _ => ?_) (fun _ => ?_)))
theorem u_kTick {n w : Nat} {M0 M : zM} (hI : kInv n w M) (h : uB M0 M) : uB M0 (kTick n w M) := by
  unfold kTick
  have hn := kInv_n hI
  have h1 : uB M0 (kFor kRelOne n 0 M) := uB_For0 (N := n) (fun i M0 M hi h => u_kRelOne (by omega) h) _ _ _ _ (by omega) h
  have i1 : kInv n w (kFor kRelOne n 0 M) := kInv_For (N := n) (fun i M hi hM => kInv_RelOne i M (by omega) hM) _ _ _ (by omega) hI
  have h2 : uB M0 (kFor (kMissOne n) n 0 (kFor kRelOne n 0 M)) := uB_For (n := n) (w := w) (N := n) (fun i M0 M hi hI h => u_kMissOne hI (by omega) h) (fun i M hi hM => kInv_MissOne i M (by omega) hM) _ _ _ _ (by omega) i1 h1
  have i2 : kInv n w (kFor (kMissOne n) n 0 (kFor kRelOne n 0 M)) := kInv_For (N := n) (fun i M hi hM => kInv_MissOne i M (by omega) hM) _ _ _ (by omega) i1
  exact (u_kGive i2 h2).si (by omega)
theorem u_kTicks {n w : Nat} : ∀ (k : Nat) {M0 M : zM}, kInv n w M → uB M0 M → uB M0 (kTicks n w k M)
  | 0, M0, M, _, h => h
  | k + 1, M0, M, hI, h => u_kTicks k (kInv_Tick hI) (u_kTick hI h)
theorem u_kProc {M0 M : zM} {n : Nat} (a b d q : Int32) (hn : n < 8) (h : uB M0 M) : uB M0 (kProc n a b d q M) := by
  unfold kProc
  repeat (with_reducible (first | exact h | refine uB.sj ?_ | refine uB.si ?_ (by omega) | refine u_kDef _ _ _ _ hn ?_ | refine uB.ite (fun _ => ?_) (fun _ => ?_)))
theorem u_kOn2 {M0 M : zM} {i : Nat} (d : Int32) (hi : i < 8) (h : uB M0 M) : uB M0 (kOn2 d i M) := by
  unfold kOn2
  repeat (with_reducible (first | exact h | refine uB.sj ?_ | refine uB.si ?_ (by omega) | refine uB.ite (fun _ => ?_) (fun _ => ?_)))
theorem u_kOn {n : Nat} {M0 M : zM} {a : Int32} (hn : n ≤ 8) (ha : a.toNatClampNeg < 3) (h : uB M0 M) : uB M0 (kOn n a M) := by
  unfold kOn
  exact uB_For0 (N := n) (fun i M0 M hi h => u_kOn2 _ (by omega) h) _ _ _ _ (by omega) (uB_For0 (N := n) (fun i M0 M hi h => u_kRestOne _ (by omega) h) _ _ _ _ (by omega) (h.si (by omega)))
theorem u_mRest {M0 M : zM} (k : Nat) (h : uA M0 M) : uA M0 (mRest k M) := by
  unfold mRest
  repeat (with_reducible (first | exact h | refine uA.si ?_ (by omega) | refine uA.ite ?_ ?_))
theorem u_mBec1 {M0 M : zM} (k : Nat) (v : Int32) (h : uA M0 M) : uA M0 (mBec1 k v M) := by
  unfold mBec1
  repeat (with_reducible (first | exact h | refine uA.si ?_ (by omega) | refine uA.ite ?_ ?_))
theorem u_mBec {M0 M : zM} (k : Nat) (v : Int32) (h : uA M0 M) : uA M0 (mBec k v M) := by
  unfold mBec
  repeat (with_reducible (first | exact h | refine uA.si ?_ (by omega) | refine u_mBec1 _ _ ?_ | refine uA.ite ?_ ?_))
theorem u_mRel1 {M0 M : zM} (k : Nat) (h : uA M0 M) : uA M0 (mRel1 k M) := by
  unfold mRel1
  repeat (with_reducible (first | exact h | refine uA.si ?_ (by omega) | refine uA.ite ?_ ?_))
theorem u_mRel2 {M0 M : zM} (k : Nat) (h : uA M0 M) : uA M0 (mRel2 k M) := by
  unfold mRel2
  repeat (with_reducible (first | exact h | refine uA.si ?_ (by omega) | refine u_mRel1 _ ?_ | refine uA.ite ?_ ?_))
theorem u_mRel {M0 M : zM} (k : Nat) (h : uA M0 M) : uA M0 (mRel k M) := by
  unfold mRel
  repeat (with_reducible (first | exact h | refine uA.si ?_ (by omega) | refine u_mBec _ _ ?_ | refine u_mRel1 _ ?_ | refine u_mRel2 _ ?_ | refine uA.ite ?_ ?_))
theorem u_mAdv1 {M0 M : zM} (k : Nat) (h : uA M0 M) : uA M0 (mAdv1 k M) := by
  unfold mAdv1
  repeat (with_reducible (first | exact h | refine uA.si ?_ (by omega) | refine uA.ite ?_ ?_))
theorem u_mAdv {M0 M : zM} (k : Nat) (h : uA M0 M) : uA M0 (mAdv k M) := by
  unfold mAdv
  repeat (with_reducible (first | exact h | refine uA.si ?_ (by omega) | refine u_mRest _ ?_ | refine u_mAdv1 _ ?_ | refine uA.ite ?_ ?_))
theorem u_mWake {M0 M : zM} (k : Nat) (h : uA M0 M) : uA M0 (mWake k M) := by
  unfold mWake
  repeat (with_reducible (first | exact h | refine uA.si ?_ (by omega) | refine u_mAdv _ ?_ | refine u_mBec _ _ ?_ | refine uA.ite ?_ ?_))
theorem u_mPut {M0 M : zM} (q z : Nat) (x : Int32) (h : uA M0 M) : uA M0 (mPut q z x M) := by
  unfold mPut
  repeat (with_reducible (first | exact h | refine uA.si ?_ (by omega) | refine uA.ite ?_ ?_))
theorem u_mSend0 {M0 M : zM} (k q : Nat) (h : uA M0 M) : uA M0 (mSend0 k q M) := by
  unfold mSend0
  repeat (with_reducible (first | exact h | refine uA.si ?_ (by omega) | refine u_mPut _ _ _ ?_ | refine uA.ite ?_ ?_))
theorem u_mSend1 {M0 M : zM} (k j : Nat) (h : uA M0 M) : uA M0 (mSend1 k j M) := by
  unfold mSend1
  repeat (with_reducible (first | exact h | refine uA.si ?_ (by omega) | refine u_mWake _ ?_ | refine uA.ite ?_ ?_))
theorem u_mSend {M0 M : zM} (n k q : Nat) (h : uA M0 M) : uA M0 (mSend n k q M) := by
  unfold mSend
  split
  · exact u_mAdv _ (u_mSend1 _ _ h)
  · exact u_mAdv _ (u_mSend0 _ _ h)
theorem u_mSh {M0 M : zM} (q i : Nat) (h : uA M0 M) : uA M0 (mSh q i M) := by
  unfold mSh
  repeat (with_reducible (first | exact h | refine uA.si ?_ (by omega) | refine uA.ite ?_ ?_))
theorem u_mTake0 {M0 M : zM} (k q : Nat) (h : uA M0 M) : uA M0 (mTake0 k q M) := by
  unfold mTake0
  exact uA_For (fun i M0 M h => u_mSh q i h) _ _ _ _ (h.si (by decide))
theorem u_mTakes {M0 M : zM} (k q : Nat) (h : uA M0 M) : uA M0 (mTakes k q M) := by
  unfold mTakes
  repeat (with_reducible (first | exact h | refine uA.si ?_ (by omega) | refine u_mBec _ _ ?_ | refine u_mAdv _ ?_ | refine u_mTake0 _ _ ?_ | refine uA.ite ?_ ?_))
theorem u_mUp0 {M0 M : zM} (s : Nat) (h : uA M0 M) : uA M0 (mUp0 s M) := by
  unfold mUp0
  repeat (with_reducible (first | exact h | refine uA.si ?_ (by omega) | refine uA.ite ?_ ?_))
theorem u_mUp {M0 M : zM} (n k s : Nat) (h : uA M0 M) : uA M0 (mUp n k s M) := by
  unfold mUp
  split
  · exact u_mAdv _ (u_mWake _ h)
  · exact u_mAdv _ (u_mUp0 _ h)
theorem u_mDown {M0 M : zM} (k s : Nat) (h : uA M0 M) : uA M0 (mDown k s M) := by
  unfold mDown
  repeat (with_reducible (first | exact h | refine uA.si ?_ (by omega) | refine u_mBec _ _ ?_ | refine u_mAdv _ ?_ | refine uA.ite ?_ ?_))
theorem u_mWork1 {M0 M : zM} (k : Nat) (h : uA M0 M) : uA M0 (mWork1 k M) := by
  unfold mWork1
  repeat (with_reducible (first | exact h | refine uA.si ?_ (by omega) | refine uA.ite ?_ ?_))
theorem u_mWork2 {M0 M : zM} (k : Nat) (h : uA M0 M) : uA M0 (mWork2 k M) := by
  unfold mWork2
  repeat (with_reducible (first | exact h | refine uA.si ?_ (by omega) | refine u_mWork1 _ ?_ | refine uA.ite ?_ ?_))
theorem u_mWork {M0 M : zM} (k : Nat) (x : Int32) (h : uA M0 M) : uA M0 (mWork k x M) := by
  unfold mWork
  repeat (with_reducible (first | exact h | refine uA.si ?_ (by omega) | refine u_mAdv _ ?_ | refine u_mWork2 _ ?_ | refine uA.ite ?_ ?_))
theorem u_mDo {M0 M : zM} (n k : Nat) (h : uA M0 M) : uA M0 (mDo n k M) := by
  unfold mDo
  exact uA.ite (u_mWork _ _ h) (uA.ite (u_mSend _ _ _ h) (uA.ite (u_mTakes _ _ h) (uA.ite (u_mUp _ _ _ h) (u_mDown _ _ h))))
theorem u_mIdle {M0 M : zM}  (h : uA M0 M) : uA M0 (mIdle  M) := by
  unfold mIdle
  repeat (with_reducible (first | exact h | refine uA.si ?_ (by omega) | refine uA.ite ?_ ?_))
theorem u_mRelA {M0 M : zM} (k : Nat) (h : uA M0 M) : uA M0 (mRelA k M) := by
  unfold mRelA
  repeat (with_reducible (first | exact h | refine uA.si ?_ (by omega) | refine u_mRel _ ?_ | refine uA.ite ?_ ?_))
theorem u_mRelOne {M0 M : zM} (k : Nat) (h : uA M0 M) : uA M0 (mRelOne k M) := by
  unfold mRelOne
  repeat (with_reducible (first | exact h | refine uA.si ?_ (by omega) | refine u_mRelA _ ?_ | refine uA.ite ?_ ?_))
theorem u_mRestOne {M0 M : zM} (d : Int32) (k : Nat) (h : uA M0 M) : uA M0 (mRestOne d k M) := by
  unfold mRestOne
  repeat (with_reducible (first | exact h | refine uA.si ?_ (by omega) | refine u_mRest _ ?_ | refine uA.ite ?_ ?_))
theorem u_mMiss1 {M0 M : zM} (k : Nat) (h : uA M0 M) : uA M0 (mMiss1 k M) := by
  unfold mMiss1
  repeat (with_reducible (first | exact h | refine uA.si ?_ (by omega) | refine uA.ite ?_ ?_))
theorem u_mMiss2 {M0 M : zM} (k q : Nat) (h : uA M0 M) : uA M0 (mMiss2 k q M) := by
  unfold mMiss2
  repeat (with_reducible (first | exact h | refine uA.si ?_ (by omega) | refine u_mBec _ _ ?_ | refine uA.ite ?_ ?_))
theorem u_mMiss3 {M0 M : zM} (n q : Nat) (h : uA M0 M) : uA M0 (mMiss3 n q M) := by
  unfold mMiss3
  exact uA.ite (uA_For (fun i M0 M h => u_mRestOne _ i h) _ _ _ _ (h.si (by decide))) h
theorem u_mMissOne {M0 M : zM} (n k : Nat) (h : uA M0 M) : uA M0 (mMissOne n k M) := by
  unfold mMissOne
  exact uA.ite (uA.ite h (uA.ite (u_mMiss3 _ _ (u_mMiss2 _ _ (u_mMiss1 _ h))) h)) h
theorem u_mOn2 {M0 M : zM} (d : Int32) (k : Nat) (h : uA M0 M) : uA M0 (mOn2 d k M) := by
  unfold mOn2
  repeat (with_reducible (first | exact h | refine uA.si ?_ (by omega) | refine u_mRest _ ?_ | refine uA.ite ?_ ?_))
theorem u_mOn {M0 M : zM} (n : Nat) (a : Int32) (h : uA M0 M) : uA M0 (mOn n a M) := by
  unfold mOn
  exact uA_For (fun i M0 M h => u_mOn2 _ i h) _ _ _ _ (h.si (by decide))
theorem u_mGo (n : Nat) (p : Int32) : ∀ (f : Nat) {M0 M : zM}, uA M0 M → uA M0 (mGo n p f M)
  | 0, M0, M, h => h
  | f + 1, M0, M, h => by
    unfold mGo
    split
    · exact u_mIdle h
    · exact uA.ite (u_mDo _ _ h) (u_mGo n p f (u_mDo _ _ h))
theorem u_mGiv {M0 M : zM} (n w : Nat) (h : uA M0 M) : uA M0 (mGiv n w M) := by
  unfold mGiv
  exact uA.ite h (uA.ite (u_mGo _ _ _ h) h)
theorem u_mTick1 {M0 M : zM} (n : Nat) (h : uA M0 M) : uA M0 (mTick1 n M) := by
  unfold mTick1
  exact uA_For (fun i M0 M h => u_mMissOne _ i h) _ _ _ _ (uA_For (fun i M0 M h => u_mRelOne i h) _ _ _ _ h)
theorem u_mTick {M0 M : zM} (n w : Nat) (h : uA M0 M) : uA M0 (mTick n w M) := by
  unfold mTick
  exact (u_mGiv n w (u_mTick1 n h)).si (by decide)
theorem u_mTicks (n w : Nat) : ∀ (k : Nat) {M0 M : zM}, uA M0 M → uA M0 (mTicks n w k M)
  | 0, M0, M, h => h
  | k + 1, M0, M, h => u_mTicks n w k (u_mTick n w h)
theorem u_mWadd {M0 M : zM} (w : Nat) (a x : Int32) (h : uA M0 M) : uA M0 (mWadd w a x M) := by
  unfold mWadd
  repeat (with_reducible (first | exact h | refine uA.si ?_ (by omega) | refine uA.ite ?_ ?_))
theorem u_mProc {M0 M : zM} (n : Nat) (a b d q : Int32) (h : uA M0 M) : uA M0 (mProc n a b d q M) := by
  unfold mProc
  repeat (with_reducible (first | exact h | refine uA.si ?_ (by omega) | refine uA.ite ?_ ?_))
theorem u_mOadd {M0 M : zM} (k z : Nat) (b d : Int32) (h : uA M0 M) : uA M0 (mOadd k z b d M) := by
  unfold mOadd
  repeat (with_reducible (first | exact h | refine uA.si ?_ (by omega) | refine uA.ite ?_ ?_))
