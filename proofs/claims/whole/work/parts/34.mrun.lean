set_option maxHeartbeats 4000000 in
set_option maxRecDepth 100000 in
theorem c_B_run (l : Launch) (D : va_G) (cA : Nat → ClassId) (ad : Nat → Nat) (M : zM) (n w : Nat) (hI : mInv n w M) (tm : Nat) (ht : tm + 60 < 2 ^ 31) (et : M.1 51 28 = nI tm) (d : Nat) (h1 : 1 ≤ d) (h2 : d ≤ 60) : Ci l D cA ad y_B_run b_B_run 6 (some (.int)) (zr 5 110) [zR 51, zI (nI d)] M (fun r M' => M' = mTicks n w d M ∧ r = M'.1 51 28) := by
  refine zMi_of (plainFor_of_name (by decide)) (Nat.le_of_ble_eq_true rfl) ?_
  intro p e s m args below meth c A X
  have inner : ∀ (i : Nat) (pp : Int32) (R : zM), zW p l e (zr 5 110) s m args below meth c 0 0 (MQ below (va_Qi (fun r M' => M' = mTicks n w d M ∧ r = M'.1 51 28) (fun M' t => va_P D cls (z_w cA ad M' 0 EE) t.heap) A) args s 0 0 A) A D cls cA ad EE 6 R 107 [(3, zI pp), (2, zI (nI i)), (0, zR 51), (1, zI (nI d))] [] → ∀ (f : Nat) (N : zM), mInv n w N → mNu N 8 < f → mGo n pp f N = R → zW p l e (zr 5 110) s m args below meth c 0 0 (MQ below (va_Qi (fun r M' => M' = mTicks n w d M ∧ r = M'.1 51 28) (fun M' t => va_P D cls (z_w cA ad M' 0 EE) t.heap) A) args s 0 0 A) A D cls cA ad EE 6 N 58 [(5, zI (mEnc (mFR n pp N))), (4, zI 0), (3, zI pp), (2, zI (nI i)), (0, zR 51), (1, zI (nI d))] [] := by
    intro i pp R hR f
    induction f with
    | zero =>
      intro N hN hf
      exact absurd hf (by omega)
    | succ f ih =>
      intro N hN hf hq
      rcases hF : mFR n pp N with _ | j
      · refine z_iload X 1 d_B_run_58 rfl ?_
        refine z_if_ne X 92 d_B_run_60 (by decide) (fun h => absurd h (by decide)) (fun _ => ?_)
        refine z_iload X 0 d_B_run_63 rfl ?_
        refine z_if_lt X 92 d_B_run_65 (by decide) (fun _ => ?_) (fun h => absurd h (by decide))
        refine z_iload X 1 d_B_run_92 rfl ?_
        refine z_if_ne X 107 d_B_run_94 (by decide) (fun h => absurd h (by decide)) (fun _ => ?_)
        refine z_aload_n X 4 d_B_run_97 rfl rfl ?_
        refine z_dup X d_B_run_98 rfl ?_
        refine z_get X fl_B_156 51 e_B rfl rfl d_B_run_99 ?_
        refine z_iconst X (v := 1) d_B_run_102 (by decide) ?_
        refine z_iadd X d_B_run_103 ?_
        refine z_puti X fl_B_156 51 e_B rfl rfl rfl d_B_run_104 ?_
        have hE : z_si N 51 30 ((N.1 51 30) + 1) = R := (mGo_none hF).symm.trans hq
        rw [hE]
        exact z_keep (ks := [2, 3, 4, 5]) (L' := [(3, zI pp), (2, zI (nI i)), (0, zR 51), (1, zI (nI d))]) rfl (hR)
      · have hj : j < 8 := Nat.lt_of_lt_of_le (mFR_lt hF) (mInv_n hN)
        refine z_iload X 1 d_B_run_58 rfl ?_
        refine z_if_ne X 92 d_B_run_60 (by decide) (fun h => absurd h (by decide)) (fun _ => ?_)
        refine z_iload X 0 d_B_run_63 rfl ?_
        refine z_if_lt X 92 d_B_run_65 (by decide) (fun c_65 => absurd c_65 (nI_pos (by omega))) (fun c_65 => ?_)
        refine z_aload_n X 4 d_B_run_68 rfl rfl ?_
        refine z_iload X 0 d_B_run_69 rfl ?_
        refine z_Vi X GG_ok cf_B_152 51 [zI (nI j)] [] (c_B_one l D cA ad _ n w hN _ j hj rfl) ⟨rfl, rfl⟩ (by decide) e_B rfl rfl rfl rfl (Nat.le_of_ble_eq_true rfl) ⟨Nat.zero_le _, Nat.zero_le _⟩ d_B_run_71 (fun r1 M2 h3 => ?_)
        have qh3 := h3.1.symm
        subst qh3
        obtain ⟨-, ⟨rfl, po⟩ | ⟨rfl, po⟩⟩ := h3
        · refine z_istore X (L' := [(4, zI 1), (5, zI (nI j)), (3, zI pp), (2, zI (nI i)), (0, zR 51), (1, zI (nI d))]) d_B_run_74 (by decide) rfl ?_
          refine z_iload X 0 d_B_run_76 rfl ?_
          refine z_if_ne X 58 d_B_run_78 (by decide) (fun _ => ?_) (fun h => absurd h (by decide))
          refine z_iload X 0 d_B_run_58 rfl ?_
          refine z_if_ne X 92 d_B_run_60 (by decide) (fun _ => ?_) (fun h => absurd h (by decide))
          refine z_iload X 0 d_B_run_92 rfl ?_
          refine z_if_ne X 107 d_B_run_94 (by decide) (fun _ => ?_) (fun h => absurd h (by decide))
          have hE : mDo n j N = R := (mGo_work hF po).symm.trans hq
          rw [hE]
          exact z_keep (ks := [2, 3, 4, 5]) (L' := [(3, zI pp), (2, zI (nI i)), (0, zR 51), (1, zI (nI d))]) rfl (hR)
        · refine z_istore X (L' := [(4, zI 0), (5, zI (nI j)), (3, zI pp), (2, zI (nI i)), (0, zR 51), (1, zI (nI d))]) d_B_run_74 (by decide) rfl ?_
          refine z_iload X 0 d_B_run_76 rfl ?_
          refine z_if_ne X 58 d_B_run_78 (by decide) (fun h => absurd h (by decide)) (fun _ => ?_)
          refine z_aload_n X 4 d_B_run_81 rfl rfl ?_
          refine z_iconst X (v := 0) d_B_run_82 (by decide) ?_
          refine z_iload_n X 2 d_B_run_83 rfl rfl ?_
          refine z_Vi X GG_ok cf_B_120 51 [zI 0, zI pp] [] (c_B_first_R l D cA ad _ n w (mInv_Do hN hj (mFR_P hF).1) _) ⟨rfl, rfl⟩ (by decide) e_B rfl rfl rfl rfl (Nat.le_of_ble_eq_true rfl) ⟨Nat.zero_le _, Nat.zero_le _⟩ d_B_run_84 (fun r6 M7 h8 => ?_)
          have qh8 := h8.1.symm
          subst qh8
          obtain ⟨-, rfl⟩ := h8
          refine z_istore X (L' := [(5, zI (mEnc (mFR n pp (mDo n j N)))), (4, zI 0), (3, zI pp), (2, zI (nI i)), (0, zR 51), (1, zI (nI d))]) d_B_run_87 (by decide) rfl ?_
          refine z_goto X 58 d_B_run_89 (by decide) ?_
          exact ih (mDo n j N) (mInv_Do hN hj (mFR_P hF).1) (by have := mNu_Do hN hj (mFR_P hF).1 po; omega) ((mGo_on hF po).symm.trans hq)
  have loop : ∀ (k i : Nat) (N : zM), i + k = d → mInv n w N → N.1 51 28 = nI (tm + i) → mTicks n w k N = mTicks n w d M → zW p l e (zr 5 110) s m args below meth c 0 0 (MQ below (va_Qi (fun r M' => M' = mTicks n w d M ∧ r = M'.1 51 28) (fun M' t => va_P D cls (z_w cA ad M' 0 EE) t.heap) A) args s 0 0 A) A D cls cA ad EE 6 N 14 [(2, zI (nI i)), (0, zR 51), (1, zI (nI d))] [] := by
    intro k
    induction k with
    | zero =>
      intro i N hk hN hT hq
      refine z_iload_n X 0 d_B_run_14 rfl rfl ?_
      refine z_iload_n X 2 d_B_run_15 rfl rfl ?_
      refine z_icmp_ge X 123 d_B_run_16 (by decide) (fun c_16 => ?_) (fun c_16 => absurd (by rw [show i = d by omega]; exact nI_le (Nat.le_refl _) (by omega)) c_16)
      refine z_aload_n X 1 d_B_run_123 rfl rfl ?_
      refine z_get X fl_B_104 51 e_B rfl rfl d_B_run_124 ?_
      exact z_iret X (⟨hq, rfl⟩) d_B_run_127
    | succ k ih =>
      intro i N hk hN hT hq
      have hA : mInv n w (kFor (mMissOne n) n 0 (kFor mRelOne n 0 N)) := mInv_Tick1 hN
      have hR : mInv n w (kFor mRelOne n 0 N) := mInv_For (N := n) (fun i M hi hM => mInv_RelOne i M (Nat.lt_of_lt_of_le hi (mInv_n hN)) hM) _ _ _ (by omega) hN
      have hAt : (kFor (mMissOne n) n 0 (kFor mRelOne n 0 N)).1 51 28 = nI (tm + i) := (mTick1_t n N).trans hT
      refine z_iload_n X 0 d_B_run_14 rfl rfl ?_
      refine z_iload_n X 2 d_B_run_15 rfl rfl ?_
      refine z_icmp_ge X 123 d_B_run_16 (by decide) (fun c_16 => absurd c_16 (nI_ge (by omega) (by omega))) (fun c_16 => ?_)
      refine z_aload_n X 1 d_B_run_19 rfl rfl ?_
      refine z_Vv X GG_ok cf_B_142 51 [] [] (c_B_releases l D cA ad _ n w hN) ⟨rfl, rfl⟩ (by decide) e_B rfl rfl rfl rfl (Nat.le_of_ble_eq_true rfl) ⟨Nat.zero_le _, Nat.zero_le _⟩ d_B_run_20 (fun M2 h3 => ?_)
      have qh3 := h3.symm
      subst qh3
      refine z_aload_n X 1 d_B_run_23 rfl rfl ?_
      refine z_Vv X GG_ok cf_B_145 51 [] [] (c_B_monitor l D cA ad _ n w hR) ⟨rfl, rfl⟩ (by decide) e_B rfl rfl rfl rfl (Nat.le_of_ble_eq_true rfl) ⟨Nat.zero_le _, Nat.zero_le _⟩ d_B_run_24 (fun M5 h6 => ?_)
      have qh6 := h6.symm
      subst qh6
      refine z_aload_n X 1 d_B_run_27 rfl rfl ?_
      refine z_iconst X (v := 0) d_B_run_28 (by decide) ?_
      refine z_Vi X GG_ok cf_B_148 51 [zI 0] [] (c_B_holder_0 l D cA ad _ n w hA (tm + i) (by omega) hAt) ⟨rfl, rfl⟩ (by decide) e_B rfl rfl rfl rfl (Nat.le_of_ble_eq_true rfl) ⟨Nat.zero_le _, Nat.zero_le _⟩ d_B_run_29 (fun r7 M8 h9 => ?_)
      have qh9 := h9.1.symm
      subst qh9
      obtain ⟨-, rfl⟩ := h9
      refine z_istore_n X (L' := [(3, zI (mHold (kFor (mMissOne n) n 0 (kFor mRelOne n 0 N)) w false)), (2, zI (nI i)), (0, zR 51), (1, zI (nI d))]) d_B_run_32 rfl (by decide) rfl ?_
      refine z_iload_n X 0 d_B_run_33 rfl rfl ?_
      refine z_if_lt X 107 d_B_run_34 (by decide) (fun c_34 => ?_) (fun c_34 => ?_)
      · refine z_aload_n X 2 d_B_run_107 rfl rfl ?_
        refine z_dup X d_B_run_108 rfl ?_
        refine z_get X fl_B_104 51 e_B rfl rfl d_B_run_109 ?_
        refine z_iconst X (v := 1) d_B_run_112 (by decide) ?_
        refine z_iadd X d_B_run_113 ?_
        refine z_puti X fl_B_104 51 e_B rfl rfl rfl d_B_run_114 ?_
        refine z_iinc X 1 (v := nI (i + 1)) (L' := [(2, zI (nI (i + 1))), (3, zI (mHold (kFor (mMissOne n) n 0 (kFor mRelOne n 0 N)) w false)), (0, zR 51), (1, zI (nI d))]) d_B_run_117 rfl (nI_1 i) (by decide) rfl ?_
        refine z_goto X 14 d_B_run_120 (by decide) ?_
        have hX10 : mTick n w N = z_si (kFor (mMissOne n) n 0 (kFor mRelOne n 0 N)) 51 28 (((kFor (mMissOne n) n 0 (kFor mRelOne n 0 N)).1 51 28) + 1) := by unfold mTick mGiv mTick1; rw [if_pos c_34]
        exact z_keep (ks := [0, 2, 3]) (L' := [(2, zI (nI (i + 1))), (0, zR 51), (1, zI (nI d))]) rfl (ih (i + 1) (z_si (kFor (mMissOne n) n 0 (kFor mRelOne n 0 N)) 51 28 (((kFor (mMissOne n) n 0 (kFor mRelOne n 0 N)).1 51 28) + 1)) (by omega) (hX10 ▸ mInv_Tick hN) (hX10 ▸ mTick_t hT) (hX10 ▸ hq))
      · refine z_aload_n X 2 d_B_run_37 rfl rfl ?_
        refine z_get X fl_B_16 51 e_B rfl rfl d_B_run_38 ?_
        refine z_iload_n X 0 d_B_run_41 rfl rfl ?_
        refine z_iald X 54 e_B_state rfl ((mHold (kFor (mMissOne n) n 0 (kFor mRelOne n 0 N)) w false).toNatClampNeg) ((mHold_ok hA (t := tm + i) (by omega) hAt c_34).1) ((mHold_ok hA (t := tm + i) (by omega) hAt c_34).2) (by decide) d_B_run_42 ?_
        refine z_iconst X (v := 1) d_B_run_43 (by decide) ?_
        refine z_icmp_ne X 107 d_B_run_44 (by decide) (fun c_44 => ?_) (fun c_44 => ?_)
        · refine z_aload_n X 2 d_B_run_107 rfl rfl ?_
          refine z_dup X d_B_run_108 rfl ?_
          refine z_get X fl_B_104 51 e_B rfl rfl d_B_run_109 ?_
          refine z_iconst X (v := 1) d_B_run_112 (by decide) ?_
          refine z_iadd X d_B_run_113 ?_
          refine z_puti X fl_B_104 51 e_B rfl rfl rfl d_B_run_114 ?_
          refine z_iinc X 1 (v := nI (i + 1)) (L' := [(2, zI (nI (i + 1))), (3, zI (mHold (kFor (mMissOne n) n 0 (kFor mRelOne n 0 N)) w false)), (0, zR 51), (1, zI (nI d))]) d_B_run_117 rfl (nI_1 i) (by decide) rfl ?_
          refine z_goto X 14 d_B_run_120 (by decide) ?_
          have hX11 : mTick n w N = z_si (kFor (mMissOne n) n 0 (kFor mRelOne n 0 N)) 51 28 (((kFor (mMissOne n) n 0 (kFor mRelOne n 0 N)).1 51 28) + 1) := by unfold mTick mGiv mTick1; rw [if_neg c_34, if_neg c_44]
          exact z_keep (ks := [0, 2, 3]) (L' := [(2, zI (nI (i + 1))), (0, zR 51), (1, zI (nI d))]) rfl (ih (i + 1) (z_si (kFor (mMissOne n) n 0 (kFor mRelOne n 0 N)) 51 28 (((kFor (mMissOne n) n 0 (kFor mRelOne n 0 N)).1 51 28) + 1)) (by omega) (hX11 ▸ mInv_Tick hN) (hX11 ▸ mTick_t hT) (hX11 ▸ hq))
        · refine z_iconst X (v := 0) d_B_run_47 (by decide) ?_
          refine z_istore X (L' := [(4, zI 0), (3, zI (mHold (kFor (mMissOne n) n 0 (kFor mRelOne n 0 N)) w false)), (2, zI (nI i)), (0, zR 51), (1, zI (nI d))]) d_B_run_48 (by decide) rfl ?_
          refine z_aload_n X 3 d_B_run_50 rfl rfl ?_
          refine z_iconst X (v := 0) d_B_run_51 (by decide) ?_
          refine z_iload_n X 1 d_B_run_52 rfl rfl ?_
          refine z_Vi X GG_ok cf_B_120 51 [zI 0, zI (mHold (kFor (mMissOne n) n 0 (kFor mRelOne n 0 N)) w false)] [] (c_B_first_R l D cA ad _ n w hA _) ⟨rfl, rfl⟩ (by decide) e_B rfl rfl rfl rfl (Nat.le_of_ble_eq_true rfl) ⟨Nat.zero_le _, Nat.zero_le _⟩ d_B_run_53 (fun r12 M13 h14 => ?_)
          have qh14 := h14.1.symm
          subst qh14
          obtain ⟨-, rfl⟩ := h14
          refine z_istore X (L' := [(5, zI (mEnc (mFR n (mHold (kFor (mMissOne n) n 0 (kFor mRelOne n 0 N)) w false) (kFor (mMissOne n) n 0 (kFor mRelOne n 0 N))))), (4, zI 0), (3, zI (mHold (kFor (mMissOne n) n 0 (kFor mRelOne n 0 N)) w false)), (2, zI (nI i)), (0, zR 51), (1, zI (nI d))]) d_B_run_56 (by decide) rfl ?_
          refine z_keep (ks := [0, 1, 2, 3, 4, 5]) (L' := [(5, zI (mEnc (mFR n (mHold (kFor (mMissOne n) n 0 (kFor mRelOne n 0 N)) w false) (kFor (mMissOne n) n 0 (kFor mRelOne n 0 N))))), (4, zI 0), (3, zI (mHold (kFor (mMissOne n) n 0 (kFor mRelOne n 0 N)) w false)), (2, zI (nI i)), (0, zR 51), (1, zI (nI d))]) rfl (inner i (mHold (kFor (mMissOne n) n 0 (kFor mRelOne n 0 N)) w false) (mGo n (mHold (kFor (mMissOne n) n 0 (kFor mRelOne n 0 N)) w false) 65 (kFor (mMissOne n) n 0 (kFor mRelOne n 0 N))) ?_ 65 _ hA (by have := mNu_le hA 8 (by omega); omega) rfl)
          refine z_aload_n X 2 d_B_run_107 rfl rfl ?_
          refine z_dup X d_B_run_108 rfl ?_
          refine z_get X fl_B_104 51 e_B rfl rfl d_B_run_109 ?_
          refine z_iconst X (v := 1) d_B_run_112 (by decide) ?_
          refine z_iadd X d_B_run_113 ?_
          refine z_puti X fl_B_104 51 e_B rfl rfl rfl d_B_run_114 ?_
          refine z_iinc X 1 (v := nI (i + 1)) (L' := [(2, zI (nI (i + 1))), (3, zI (mHold (kFor (mMissOne n) n 0 (kFor mRelOne n 0 N)) w false)), (0, zR 51), (1, zI (nI d))]) d_B_run_117 rfl (nI_1 i) (by decide) rfl ?_
          refine z_goto X 14 d_B_run_120 (by decide) ?_
          have hX15 : mTick n w N = z_si (mGo n (mHold (kFor (mMissOne n) n 0 (kFor mRelOne n 0 N)) w false) 65 (kFor (mMissOne n) n 0 (kFor mRelOne n 0 N))) 51 28 (((mGo n (mHold (kFor (mMissOne n) n 0 (kFor mRelOne n 0 N)) w false) 65 (kFor (mMissOne n) n 0 (kFor mRelOne n 0 N))).1 51 28) + 1) := by unfold mTick mGiv mTick1; rw [if_neg c_34, if_pos c_44]
          exact z_keep (ks := [0, 2, 3]) (L' := [(2, zI (nI (i + 1))), (0, zR 51), (1, zI (nI d))]) rfl (ih (i + 1) (z_si (mGo n (mHold (kFor (mMissOne n) n 0 (kFor mRelOne n 0 N)) w false) 65 (kFor (mMissOne n) n 0 (kFor mRelOne n 0 N))) 51 28 (((mGo n (mHold (kFor (mMissOne n) n 0 (kFor mRelOne n 0 N)) w false) 65 (kFor (mMissOne n) n 0 (kFor mRelOne n 0 N))).1 51 28) + 1)) (by omega) (hX15 ▸ mInv_Tick hN) (hX15 ▸ mTick_t hT) (hX15 ▸ hq))
  refine z_iload_n X 1 d_B_run_0 rfl rfl ?_
  refine z_iconst X (v := 1) d_B_run_1 (by decide) ?_
  refine z_bipush X (v := 60) d_B_run_2 (by decide) ?_
  refine z_Si X GG_ok cf_B_85 [zI (nI d), zI 1, zI 60] [] (c_B_in l D cA ad _ _ _ _) ⟨rfl, rfl⟩ (by decide) rfl rfl (Nat.le_of_ble_eq_true rfl) ⟨Nat.zero_le _, Nat.zero_le _⟩ d_B_run_4 (fun r1 M2 h3 => ?_)
  have qh3 := h3.1.symm
  subst qh3
  obtain ⟨-, ⟨rfl, p4⟩ | ⟨rfl, p4⟩⟩ := h3
  · refine z_if_ne X 12 d_B_run_7 (by decide) (fun _ => ?_) (fun h => absurd h (by decide))
    refine z_iconst X (v := 0) d_B_run_12 (by decide) ?_
    refine z_istore_n X (L' := [(2, zI 0), (0, zR 51), (1, zI (nI d))]) d_B_run_13 rfl (by decide) rfl ?_
    exact loop d 0 M (by omega) hI et rfl
  · refine z_if_ne X 12 d_B_run_7 (by decide) (fun h => absurd h (by decide)) (fun _ => ?_)
    refine z_iconst X (v := (-1)) d_B_run_10 (by decide) ?_
    exact z_iret X (absurd ⟨(show (1 : Int32) = nI 1 from rfl) ▸ nI_le h1 (by omega), (show (60 : Int32) = nI 60 from rfl) ▸ nI_le h2 (by omega)⟩ p4) d_B_run_11

set_option maxHeartbeats 4000000 in
set_option maxRecDepth 100000 in
theorem c_B_run_no (l : Launch) (D : va_G) (cA : Nat → ClassId) (ad : Nat → Nat) (M : zM) (x : Int32) (hx : ¬ (1 ≤ x ∧ x ≤ 60)) : Ci l D cA ad y_B_run b_B_run 6 (some (.int)) (zr 5 110) [zR 51, zI x] M (fun r M' => M' = M ∧ r = (-1)) := by
  refine zMi_of (plainFor_of_name (by decide)) (Nat.le_of_ble_eq_true rfl) ?_
  intro p e s m args below meth c A X
  refine z_iload_n X 1 d_B_run_0 rfl rfl ?_
  refine z_iconst X (v := 1) d_B_run_1 (by decide) ?_
  refine z_bipush X (v := 60) d_B_run_2 (by decide) ?_
  refine z_Si X GG_ok cf_B_85 [zI x, zI 1, zI 60] [] (c_B_in l D cA ad _ _ _ _) ⟨rfl, rfl⟩ (by decide) rfl rfl (Nat.le_of_ble_eq_true rfl) ⟨Nat.zero_le _, Nat.zero_le _⟩ d_B_run_4 (fun r1 M2 h3 => ?_)
  have qh3 := h3.1.symm
  subst qh3
  obtain ⟨-, ⟨rfl, p4⟩ | ⟨rfl, p4⟩⟩ := h3
  · refine z_if_ne X 12 d_B_run_7 (by decide) (fun _ => ?_) (fun h => absurd h (by decide))
    exact absurd p4 hx
  · refine z_if_ne X 12 d_B_run_7 (by decide) (fun h => absurd h (by decide)) (fun _ => ?_)
    refine z_iconst X (v := (-1)) d_B_run_10 (by decide) ?_
    exact z_iret X (⟨rfl, rfl⟩) d_B_run_11
