/-! WHAT THE CLASS'S METHODS DO, over numbered memory. Cells: 0 the object (windows, partitions, tasks, ports, semaphores, 5 taskCount, 6 time, 7 lost, 8 idle, 9 turns: long), 1 the row of windows (2 size), 2 its partitions, 3 its ends, 5+i partition i (0 mode, 1 action), 9+4i task i (0 number, 2 partition, 3 priority, 4 period, 5 limit, 6 stage, 7 next, 8 ticksDone, 9 since: long, 10 rounds, 11 deadline, 12 missed, 13 skipped, 14 worked, 15 letter, 16 nextRelease), 10+4i its program (2 size), 11+4i orders, 12+4i numbers, 42+2i port i (1 size), 43+2i its messages, 50 semaphores. -/
def kRest (i : Nat) (M : zM) : zM := z_si (z_si (z_si (z_si M (9 + 4 * i) 6 0) (9 + 4 * i) 7 0) (9 + 4 * i) 8 0) (9 + 4 * i) 11 (-1)
def kReady (i : Nat) (t : Int64) (M : zM) : zM := z_sj (z_si M (9 + 4 * i) 6 1) (9 + 4 * i) 9 t
def kWait (i : Nat) (t : Int64) (M : zM) : zM := z_sj (z_si M (9 + 4 * i) 6 2) (9 + 4 * i) 9 t
def kAnew (i : Nat) (t : Int64) (M : zM) : zM := z_si (z_si (kReady i t M) (9 + 4 * i) 7 0) (9 + 4 * i) 8 0
def kDead (i : Nat) (tm : Int32) (M : zM) : Int32 := if M.1 (9 + 4 * i) 5 ≤ 0 then (-1) else tm + M.1 (9 + 4 * i) 5
def kRel1 (i : Nat) (M : zM) : zM := z_si M (9 + 4 * i) 10 (M.1 (9 + 4 * i) 10 + 1)
def kRel2 (i : Nat) (tm : Int32) (t : Int64) (M : zM) : zM := kAnew i t (z_si (kRel1 i M) (9 + 4 * i) 11 (kDead i tm (kRel1 i M)))
def kRel (i : Nat) (tm : Int32) (t : Int64) (M : zM) : zM := if (kRel2 i tm t M).1 (10 + 4 * i) 2 = 0 then kRest i (kRel2 i tm t M) else kRel2 i tm t M
def kAdv1 (i : Nat) (M : zM) : zM := z_si (z_si M (9 + 4 * i) 7 (M.1 (9 + 4 * i) 7 + 1)) (9 + 4 * i) 8 0
def kAdv (i : Nat) (M : zM) : zM := if (kAdv1 i M).1 (9 + 4 * i) 7 < (kAdv1 i M).1 (10 + 4 * i) 2 then kAdv1 i M else kRest i (kAdv1 i M)
def kWork1 (i : Nat) (M : zM) : zM := z_si M (9 + 4 * i) 14 (M.1 (9 + 4 * i) 14 + 1)
def kWork2 (i : Nat) (M : zM) : zM := z_si (kWork1 i M) (9 + 4 * i) 8 ((kWork1 i M).1 (9 + 4 * i) 8 + 1)
def kWork (i : Nat) (n : Int32) (M : zM) : zM := if (kWork2 i M).1 (9 + 4 * i) 8 < n then kWork2 i M else kAdv i (kWork2 i M)
/-- newTurn -/
def kTurn (M : zM) : zM := z_sj M 0 9 (M.2 0 9 + 1)
/-- does task i come before another -/
def kBef (M : zM) (i : Nat) : Option Nat → Prop
  | none => True
  | some j => if M.1 (9 + 4 * i) 3 = M.1 (9 + 4 * j) 3 then M.2 (9 + 4 * i) 9 < M.2 (9 + 4 * j) 9 else M.1 (9 + 4 * j) 3 < M.1 (9 + 4 * i) 3
/-- the first by rank among those of i, i+1 .. that P lets in, and b: k steps -/
noncomputable def kFst (P : Nat → Prop) (M : zM) : Nat → Nat → Option Nat → Option Nat
  | 0, _, b => b
  | k + 1, i, b => kFst P M k (i + 1) (@ite _ (P i ∧ kBef M i b) (Classical.propDecidable _) (some i) b)
def kIsReady (M : zM) (part : Int32) (i : Nat) : Prop := M.1 (9 + 4 * i) 2 = part ∧ M.1 (9 + 4 * i) 6 = 1
def kWaits (M : zM) (o n : Int32) (i : Nat) : Prop := M.1 (9 + 4 * i) 6 = 2 ∧ M.1 (11 + 4 * i) (M.1 (9 + 4 * i) 7).toNatClampNeg = o ∧ M.1 (12 + 4 * i) (M.1 (9 + 4 * i) 7).toNatClampNeg = n
/-- a step for each of i, i+1 ..: k steps -/
def kFor (f : Nat → zM → zM) : Nat → Nat → zM → zM
  | 0, _, M => M
  | k + 1, i, M => kFor f k (i + 1) (f i M)
def kRestOne (part : Int32) (i : Nat) (M : zM) : zM := if M.1 (9 + 4 * i) 2 = part then kRest i M else M
def kOnOne (part : Int32) (i : Nat) (M : zM) : zM := if M.1 (9 + 4 * i) 2 = part ∧ 0 < M.1 (9 + 4 * i) 4 then z_si M (9 + 4 * i) 16 (M.1 0 6) else M
def kDef (i : Nat) (a b c d : Int32) (M : zM) : zM := z_si (z_si (z_si (z_si M (9 + 4 * i) 2 a) (9 + 4 * i) 3 b) (9 + 4 * i) 4 c) (9 + 4 * i) 5 d
/-- state(what) of task i -/
def kTell (M : zM) (i : Nat) (w : Int32) : Int32 :=
  if w = 0 then M.1 (9 + 4 * i) 6 else if w = 1 then M.1 (9 + 4 * i) 7 else if w = 2 then M.1 (9 + 4 * i) 8 else if w = 3 then M.1 (9 + 4 * i) 10 else if w = 4 then M.1 (9 + 4 * i) 11
  else if w = 5 then M.1 (9 + 4 * i) 12 else if w = 6 then M.1 (9 + 4 * i) 13 else if w = 7 then M.1 (9 + 4 * i) 14 else if w = 8 then M.1 (9 + 4 * i) 15 else if w = 9 then M.1 (9 + 4 * i) 16 else (-1)
theorem h_lt_of {x y : Int64} (h : ¬ 0 ≤ lg_cmp x y) : x < y := by
  rw [lg_cmp_ge, Int64.le_iff_toInt_le] at h
  rw [Int64.lt_iff_toInt_lt]
  omega
theorem h_nlt_of {x y : Int64} (h : 0 ≤ lg_cmp x y) : ¬ x < y := by
  rw [lg_cmp_ge, Int64.le_iff_toInt_le] at h
  rw [Int64.lt_iff_toInt_lt]
  omega
def kAllOff (M : zM) : Prop := M.1 (5 + 0) 0 = 0 ∧ M.1 (5 + 1) 0 = 0 ∧ M.1 (5 + 2) 0 = 0
/-- Math.floorMod -/
def kMod (x y : Int32) : Int32 := if 0 ≤ x ^^^ y then x - x / y * y else if x - x / y * y = 0 then x - x / y * y else x - x / y * y + y
/-- indexOf: k windows at most are passed from i on -/
def kIx (M : zM) (off : Int32) : Nat → Nat → Nat
  | 0, i => i
  | k + 1, i => if off < M.1 3 i then i else kIx M off k (i + 1)
theorem kIx_le (M : zM) (off : Int32) : ∀ k i, kIx M off k i ≤ i + k
  | 0, i => Nat.le_refl i
  | k + 1, i => by
    have h := kIx_le M off k (i + 1)
    show (if off < M.1 3 i then i else kIx M off k (i + 1)) ≤ i + (k + 1)
    split <;> omega
def kOff (M : zM) (w : Nat) (t : Int32) : Int32 := kMod t (M.1 3 (w - 1))
def kIdx (M : zM) (w : Nat) (t : Int32) : Nat := kIx M (kOff M w t) (w - 1) 0
def kPartAt (M : zM) (w : Nat) (t : Int32) : Int32 := if w = 0 then (-1) else M.1 2 (kIdx M w t)
def kLeftAt (M : zM) (w : Nat) (t : Int32) : Int32 := if w = 0 then 0 else M.1 3 (kIdx M w t) - kOff M w t
theorem kIdx_lt (M : zM) {w : Nat} (h0 : w ≠ 0) (t : Int32) : kIdx M w t < w := by
  have := kIx_le M (kOff M w t) (w - 1) 0
  unfold kIdx
  omega
def kGadd (i n : Nat) (a b : Int32) (M : zM) : zM := z_si (z_si (z_si M (11 + 4 * i) n a) (12 + 4 * i) n b) (10 + 4 * i) 2 (nI (n + 1))
def kPut (q n : Nat) (x : Int32) (M : zM) : zM := z_si (z_si M (43 + 2 * q) n x) (42 + 2 * q) 1 (nI (n + 1))
/-- one step of the shifting in takeOldest -/
def kSh (q : Nat) (i : Nat) (M : zM) : zM := z_si M (43 + 2 * q) i (M.1 (43 + 2 * q) (i + 1))
def kTake (q n : Nat) (M : zM) : zM := kFor (kSh q) (n - 1) 0 (z_si M (42 + 2 * q) 1 (nI (n - 1)))
def kEnd (M : zM) (n : Nat) (x : Int32) : Int32 := if n = 0 then x else M.1 3 (n - 1) + x
def kWadd (n : Nat) (a x : Int32) (M : zM) : zM := z_si (z_si (z_si M 3 n (kEnd M n x)) 2 n a) 1 2 (nI (n + 1))
theorem kRest_0 (i : Nat) (M : zM) : (kRest i M).1 0 = M.1 0 := by
  unfold kRest
  rw [z_si_row _ _ _ (by omega), z_si_row _ _ _ (by omega), z_si_row _ _ _ (by omega), z_si_row _ _ _ (by omega)]
theorem nI_z {n : Nat} (h : n < 2 ^ 31) (q : nI n = 0) : n = 0 := by
  rcases Nat.eq_zero_or_pos n with h0 | h0
  · exact h0
  · exact absurd q (nI_ne0 h0 h)
theorem nI_m1 {n : Nat} (h : n ≠ 0) : nI n - 1 = nI (n - 1) := by
  obtain ⟨m, rfl⟩ : ∃ m, n = m + 1 := ⟨n - 1, by omega⟩
  exact nI_pred m
