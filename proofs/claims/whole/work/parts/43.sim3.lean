/-! SIM: who comes first -/
theorem sBef {n w b : Nat} {Mc Mm : zM} (h : sR n w b Mc Mm) (hb : b < 2 ^ 31) {i j : Nat} (hi : i < 8) (hj : j < 8) (h0 : ¬ Mm.1 63 i = 0) (h1 : ¬ Mm.1 63 j = 0) : kBef Mc i (some j) ↔ mBef Mm i (some j) := by
  obtain ⟨a, c, fa, fc, ha, hc, e1, e2, e3, e4⟩ := h.2.2.2.2.2
  have hi3 := e3 i hi
  have hj3 := e3 j hj
  have key : Mc.2 (9 + 4 * i) 9 < Mc.2 (9 + 4 * j) 9 ↔ Mm.1 73 i < Mm.1 73 j := by
    rw [hi3.1, hj3.1, hi3.2.2.1, hj3.2.2.1, lN_lt (by omega) (by omega), nI_ltI (by omega) (by omega)]
    exact e4 i j hi hj h0 h1
  show (if Mc.1 (9 + 4 * i) 3 = Mc.1 (9 + 4 * j) 3 then Mc.2 (9 + 4 * i) 9 < Mc.2 (9 + 4 * j) 9 else Mc.1 (9 + 4 * j) 3 < Mc.1 (9 + 4 * i) 3) ↔ (Mm.1 57 j < Mm.1 57 i ∨ (Mm.1 57 i = Mm.1 57 j ∧ Mm.1 73 i < Mm.1 73 j))
  rw [sR_get h (s_prio i hi), sR_get h (s_prio j hj)]
  by_cases e : Mm.1 57 i = Mm.1 57 j
  · rw [if_pos e, key]
    constructor
    · intro q; exact Or.inr ⟨e, q⟩
    · intro q
      rcases q with q | q
      · rw [e] at q; exact absurd q Int32.lt_irrefl
      · exact q.2
  · rw [if_neg e]
    constructor
    · intro q; exact Or.inl q
    · intro q
      rcases q with q | q
      · exact q
      · exact absurd q.1 e
theorem sFst {n w b : Nat} {Mc Mm : zM} (h : sR n w b Mc Mm) (hb : b < 2 ^ 31) {P Q : Nat → Prop} (hPQ : ∀ i, i < 8 → (P i ↔ Q i)) (hQ : ∀ i, i < 8 → Q i → ¬ Mm.1 63 i = 0) : ∀ (k i : Nat) (o : Option Nat), i + k ≤ 8 → (∀ j, o = some j → j < 8 ∧ Q j) → kFst P Mc k i o = mFst Q Mm k i o
  | 0, _, _, _, _ => rfl
  | k + 1, i, o, hk, ho => by
    have hi : i < 8 := by omega
    have hbef : Q i → (kBef Mc i o ↔ mBef Mm i o) := by
      intro q
      cases o with
      | none => exact Iff.rfl
      | some j => exact sBef h hb hi (ho j rfl).1 (hQ i hi q) (hQ j (ho j rfl).1 (ho j rfl).2)
    by_cases q : Q i ∧ mBef Mm i o
    · rw [mFst_yes q, kFst_yes ⟨(hPQ i hi).mpr q.1, (hbef q.1).mpr q.2⟩]
      exact sFst h hb hPQ hQ k (i + 1) (some i) (by omega) (fun j e => by cases e; exact ⟨hi, q.1⟩)
    · rw [mFst_no q, kFst_no (fun z => q ⟨(hPQ i hi).mp z.1, (hbef ((hPQ i hi).mp z.1)).mp z.2⟩)]
      exact sFst h hb hPQ hQ k (i + 1) o (by omega) ho
theorem sNx {n w b : Nat} {Mc Mm : zM} (h : sR n w b Mc Mm) {i : Nat} (hi : i < 8) : kNx Mc i = mAt Mm i := by
  unfold kNx mAt
  rw [sR_get h (s_at i hi)]
theorem sOrd {n w b : Nat} {Mc Mm : zM} (h : sIM n w b Mc Mm) {i : Nat} (hi : i < 8) : kOrd Mc i = mOrd Mm i := by
  unfold kOrd mOrd
  rw [sNx h.2.2.1 hi, sR_get h.2.2.1 (s_ord i hi _ (mAt_lt h.2.1 hi))]
theorem sNum {n w b : Nat} {Mc Mm : zM} (h : sIM n w b Mc Mm) {i : Nat} (hi : i < 8) : kNum Mc i = mNum Mm i := by
  unfold kNum mNum
  rw [sNx h.2.2.1 hi, sR_get h.2.2.1 (s_num i hi _ (mAt_lt h.2.1 hi))]
theorem sFR {n w b : Nat} {Mc Mm : zM} (h : sIM n w b Mc Mm) (hb : b < 2 ^ 31) (p : Int32) : kFR n p Mc = mFR n p Mm := by
  refine sFst h.2.2.1 hb (fun i hi => ?_) (fun i hi q => h1ne0 q.1) n 0 none (by have := kInv_n h.1; omega) (fun j e => by cases e)
  unfold kIsReady mIsReady
  rw [sR_get h.2.2.1 (s_part i hi), sR_get h.2.2.1 (s_st i hi)]
  exact And.comm
theorem sFW {n w b : Nat} {Mc Mm : zM} (h : sIM n w b Mc Mm) (hb : b < 2 ^ 31) (o x : Int32) : kFW n o x Mc = mFW n o x Mm := by
  refine sFst h.2.2.1 hb (fun i hi => ?_) (fun i hi q => h2ne0 q.1) n 0 none (by have := kInv_n h.1; omega) (fun j e => by cases e)
  have e1 := sOrd h hi
  have e2 := sNum h hi
  unfold kOrd kNx mOrd at e1
  unfold kNum kNx mNum at e2
  unfold kWaits mWaits
  rw [sR_get h.2.2.1 (s_st i hi), e1, e2]
theorem sSz {n w b : Nat} {Mc Mm : zM} (h : sR n w b Mc Mm) {q : Nat} (hq : q < 4) : kSz Mc q = mSz Mm q := by
  unfold kSz mSz
  rw [sR_get h (s_psz q hq)]
theorem sMsg {n w b : Nat} {Mc Mm : zM} (h : sR n w b Mc Mm) {i : Nat} (hi : i < 8) : kMsg Mc i = mMsg Mm i := by
  unfold kMsg mMsg
  rw [h.2.2.2.2.1 i hi, sR_get h (s_rnd i hi)]
/-- a message goes into a port -/
theorem sR_put {n w b : Nat} {Mc Mm : zM} (h : sR n w b Mc Mm) (hI : mInv n w Mm) {q : Nat} (hq : q < 4) (hz : mSz Mm q < 4) (x : Int32) : sR n w b (kPut q (mSz Mm q) x Mc) (mPut q (mSz Mm q) x Mm) := by
  obtain ⟨h0, hD, hM, hE, hN, hS⟩ := h
  have a0 : sR0 (z_si Mc (43 + 2 * q) (mSz Mm q) x) (z_si Mm 74 (4 * q + mSz Mm q) x) := sR0_m (sR0_c h0 (s_no_me q hq _ hz) x) (s_no_m 74 (by omega) (by omega) _ (by omega)) x
  unfold kPut mPut
  refine ⟨sR0_w a0 (s_psz q hq) _, sRD_k hD (fun i hi => ?_) (fun i hi => ?_), fun p hp y hy => ?_, sRE_k hE ?_ ?_, sRN_k hN (fun i hi => ?_), sRS_k hS (Nat.le_refl b) rfl ?_ ?_ (fun i hi z => ?_)⟩
  · rw [z_si_other _ _ (by omega), z_si_other _ _ (by omega), z_si_other _ _ (by omega), z_si_other _ _ (by omega)]; exact ⟨rfl, rfl⟩
  · rw [z_si_other _ _ (by omega), z_si_other _ _ (by omega), z_si_other _ _ (by omega), z_si_other _ _ (by omega)]; exact ⟨rfl, rfl⟩
  · have hy2 : y < ((z_si (z_si Mm 74 (4 * q + mSz Mm q) x) 75 q (nI (mSz Mm q + 1))).1 75 p).toNatClampNeg := hy
    have hp4 := mSz_le hI hp
    have hpe : (Mm.1 75 p).toNatClampNeg = mSz Mm p := rfl
    rw [z_si_other _ _ (by omega), z_si_other (c' := 74) _ _ (by omega)]
    by_cases e : p = q
    · subst e
      rw [z_si_same, nI_clamp (by omega)] at hy2
      by_cases e2 : y = mSz Mm p
      · subst e2
        rw [z_si_same, z_si_same]
      · rw [z_si_other _ _ (by omega), z_si_other _ _ (by omega)]
        exact hM p hp y (by omega)
    · rw [z_si_other _ _ (by omega), z_si_other _ _ (by omega), hpe] at hy2
      rw [z_si_other _ _ (by omega), z_si_other _ _ (by omega)]
      exact hM p hp y hy2
  · rw [z_si_row _ _ _ (by omega), z_si_row _ _ _ (by omega)]
  · rw [z_si_row _ _ _ (by omega), z_si_row _ _ _ (by omega)]
  · rw [z_si_other _ _ (by omega), z_si_other _ _ (by omega)]
  · rw [z_si_other _ _ (by omega), z_si_other _ _ (by omega)]
  · rw [z_si_row _ _ _ (by omega), z_si_row _ _ _ (by omega)]
  · rw [z_si_other _ _ (by omega), z_si_other _ _ (by omega)] at z; exact z
theorem sI_send {n w b : Nat} {Mc Mm : zM} (h : sIM n w b Mc Mm) (hb : b < 2 ^ 31) {i q : Nat} (hi : i < n) (hq : q < 4) (hr : Mm.1 63 i = 1) : sIM n w (b + 1) (kSend n i q Mc) (mSend n i q Mm) := by
  have hi8 : i < 8 := Nat.lt_of_lt_of_le hi (kInv_n h.1)
  unfold kSend mSend
  rw [sFW h hb]
  cases hF : mFW n 2 (nI q) Mm with
  | some j =>
    have hj := mFW_lt hF
    have hj8 : j < 8 := Nat.lt_of_lt_of_le hj (kInv_n h.1)
    have hw := (mFW_P hF).1
    have hij : i ≠ j := fun e => by rw [← e, hr] at hw; exact absurd hw (by decide)
    have h1 : sIM n w b (z_si Mc (9 + 4 * j) 15 (kMsg Mc i)) (z_si Mm 71 j (mMsg Mm i)) := by
      rw [sMsg h.2.2.1 hi8]
      exact ⟨kInv_task h.1 hj8 _ (by decide) (by decide), mInv_si h.2.1 _ (by omega), sR_t h.2.2.1 hj8 (s_let j hj8) _ (by omega) (by omega) (by omega), sV_si h.2.2.2 _ (by omega)⟩
    have h2 := sI_wake h1 hj (h2ne0 (by rw [z_si_other _ _ (by omega)]; exact hw))
    exact sI_adv h2 hi (h1ne0 (by rw [mWake_far j _ ⟨by omega, hij⟩, z_si_other _ _ (by omega)]; exact hr))
  | none =>
    refine sI_adv (sI_mono (b := b) ?_ (by omega)) hi (h1ne0 (by rw [mSend0_63]; exact hr))
    refine ⟨kInv_Send0 h.1 i hq, mInv_Send0 h.2.1 i hq, ?_, ?_⟩
    · unfold kSend0 mSend0
      rw [sR_get h.2.2.1 (s_psz q hq)]
      by_cases e : Mm.1 75 q = 4
      · rw [if_pos e, if_pos e, sR_get h.2.2.1 s_lost]
        exact sR_w h.2.2.1 s_lost _ (by omega) (by omega) (by omega) (by omega)
      · rw [if_neg e, if_neg e, sSz h.2.2.1 hq, sMsg h.2.2.1 hi8]
        exact sR_put h.2.2.1 h.2.1 hq (mSz_lt h.2.1 hq e) _
    · unfold mSend0 mPut
      split
      · exact sV_si h.2.2.2 _ (by omega)
      · exact sV_si (sV_si h.2.2.2 _ (by omega)) _ (by omega)
