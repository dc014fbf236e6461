set_option maxHeartbeats 4000000 in
set_option maxRecDepth 100000 in
theorem c_B_monitor (l : Launch) (D : va_G) (cA : Nat → ClassId) (ad : Nat → Nat) (M : zM) (n w : Nat) (hI : mInv n w M) : Cv l D cA ad y_B_monitor b_B_monitor 4 none (zr 1 22) [zR 51] M (fun M' => M' = kFor (mMissOne n) n 0 M) := by
  refine zMv_of (plainFor_of_name (by decide)) (Nat.le_of_ble_eq_true rfl) ?_
  intro p e s m args below meth c A X
  have inner : ∀ (i : Nat) (d : Int32) (R : zM), zW p l e (zr 1 22) s m args below meth c 0 0 (MQ below (va_Qv (fun M' => M' = kFor (mMissOne n) n 0 M) (fun M' t => va_P D cls (z_w cA ad M' 0 EE) t.heap) A) args s 0 0 A) A D cls cA ad EE 4 R 147 [(1, zI (nI i)), (2, zI d), (0, zR 51)] [] → ∀ (k j : Nat) (N : zM), j + k = n → mInv n w N → kFor (mRestOne d) k j N = R → zW p l e (zr 1 22) s m args below meth c 0 0 (MQ below (va_Qv (fun M' => M' = kFor (mMissOne n) n 0 M) (fun M' t => va_P D cls (z_w cA ad M' 0 EE) t.heap) A) args s 0 0 A) A D cls cA ad EE 4 N 118 [(3, zI (nI j)), (1, zI (nI i)), (2, zI d), (0, zR 51)] [] := by
    intro i d R hR k
    induction k with
    | zero =>
      intro j N hk hN hq
      have hn := mInv_n hN
      have hq : N = R := hq
      subst hq
      refine z_iload_n X 0 d_B_monitor_118 rfl rfl ?_
      refine z_aload_n X 3 d_B_monitor_119 rfl rfl ?_
      refine z_get X fl_B_97 51 e_B rfl rfl d_B_monitor_120 ?_
      refine z_icmp_ge X 147 d_B_monitor_123 (by decide) (fun c_123 => ?_) (fun c_123 => absurd (by rw [mInv_cnt hN, show j = n by omega]; exact nI_le (Nat.le_refl _) (by omega)) c_123)
      exact z_keep (ks := [1, 2, 3]) (L' := [(1, zI (nI i)), (2, zI d), (0, zR 51)]) rfl (hR)
    | succ k ih =>
      intro j N hk hN hq
      have hn := mInv_n hN
      have hj : j < 8 := by omega
      refine z_iload_n X 0 d_B_monitor_118 rfl rfl ?_
      refine z_aload_n X 3 d_B_monitor_119 rfl rfl ?_
      refine z_get X fl_B_97 51 e_B rfl rfl d_B_monitor_120 ?_
      refine z_icmp_ge X 147 d_B_monitor_123 (by decide) (fun c_123 => absurd c_123 (by rw [mInv_cnt hN]; exact nI_ge (by omega) (by omega))) (fun c_123 => ?_)
      refine z_aload_n X 3 d_B_monitor_126 rfl rfl ?_
      refine z_get X fl_B_22 51 e_B rfl rfl d_B_monitor_127 ?_
      refine z_iload_n X 0 d_B_monitor_130 rfl rfl ?_
      refine z_iald X 56 e_B_partition rfl j rfl hj (by decide) d_B_monitor_131 ?_
      refine z_iload_n X 2 d_B_monitor_132 rfl rfl ?_
      refine z_icmp_ne X 141 d_B_monitor_133 (by decide) (fun c_133 => ?_) (fun c_133 => ?_)
      · refine z_iinc X 0 (v := nI (j + 1)) (L' := [(3, zI (nI (j + 1))), (1, zI (nI i)), (2, zI d), (0, zR 51)]) d_B_monitor_141 rfl (nI_1 j) (by decide) rfl ?_
        refine z_goto X 118 d_B_monitor_144 (by decide) ?_
        have hX1 : mRestOne d j N = N := by simp only [mRestOne, c_133, if_true, if_false]
        exact ih (j + 1) N (by omega) (hX1 ▸ mInv_RestOne d j N hj hN) (hX1 ▸ hq)
      · refine z_aload_n X 3 d_B_monitor_136 rfl rfl ?_
        refine z_iload_n X 0 d_B_monitor_137 rfl rfl ?_
        refine z_Vv X GG_ok cf_B_100 51 [zI (nI j)] [] (c_B_rest l D cA ad _ _ j hj rfl ) ⟨rfl, rfl⟩ (by decide) e_B rfl rfl rfl rfl (Nat.le_of_ble_eq_true rfl) ⟨Nat.zero_le _, Nat.zero_le _⟩ d_B_monitor_138 (fun M3 h4 => ?_)
        have qh4 := h4.symm
        subst qh4
        refine z_iinc X 0 (v := nI (j + 1)) (L' := [(3, zI (nI (j + 1))), (1, zI (nI i)), (2, zI d), (0, zR 51)]) d_B_monitor_141 rfl (nI_1 j) (by decide) rfl ?_
        refine z_goto X 118 d_B_monitor_144 (by decide) ?_
        have hX5 : mRestOne d j N = mRest j  N := by simp only [mRestOne, c_133, if_true, if_false]
        exact ih (j + 1) (mRest j  N) (by omega) (hX5 ▸ mInv_RestOne d j N hj hN) (hX5 ▸ hq)
  have loop : ∀ (k i : Nat) (N : zM), i + k = n → mInv n w N → kFor (mMissOne n) k i N = kFor (mMissOne n) n 0 M → zW p l e (zr 1 22) s m args below meth c 0 0 (MQ below (va_Qv (fun M' => M' = kFor (mMissOne n) n 0 M) (fun M' t => va_P D cls (z_w cA ad M' 0 EE) t.heap) A) args s 0 0 A) A D cls cA ad EE 4 N 2 [(1, zI (nI i)), (0, zR 51)] [] := by
    intro k
    induction k with
    | zero =>
      intro i N hk hN hq
      have hn := mInv_n hN
      refine z_iload_n X 0 d_B_monitor_2 rfl rfl ?_
      refine z_aload_n X 1 d_B_monitor_3 rfl rfl ?_
      refine z_get X fl_B_97 51 e_B rfl rfl d_B_monitor_4 ?_
      refine z_icmp_ge X 153 d_B_monitor_7 (by decide) (fun c_7 => ?_) (fun c_7 => absurd (by rw [mInv_cnt hN, show i = n by omega]; exact nI_le (Nat.le_refl _) (by omega)) c_7)
      exact z_vret X hq d_B_monitor_153
    | succ k ih =>
      intro i N hk hN hq
      have hn := mInv_n hN
      have hi : i < 8 := by omega
      refine z_iload_n X 0 d_B_monitor_2 rfl rfl ?_
      refine z_aload_n X 1 d_B_monitor_3 rfl rfl ?_
      refine z_get X fl_B_97 51 e_B rfl rfl d_B_monitor_4 ?_
      refine z_icmp_ge X 153 d_B_monitor_7 (by decide) (fun c_7 => absurd c_7 (by rw [mInv_cnt hN]; exact nI_ge (by omega) (by omega))) (fun c_7 => ?_)
      refine z_aload_n X 1 d_B_monitor_10 rfl rfl ?_
      refine z_get X fl_B_22 51 e_B rfl rfl d_B_monitor_11 ?_
      refine z_iload_n X 0 d_B_monitor_14 rfl rfl ?_
      refine z_iald X 56 e_B_partition rfl i rfl hi (by decide) d_B_monitor_15 ?_
      refine z_istore_n X (L' := [(2, zI (N.1 56 i)), (1, zI (nI i)), (0, zR 51)]) d_B_monitor_16 rfl (by decide) rfl ?_
      refine z_aload_n X 2 d_B_monitor_17 rfl rfl ?_
      refine z_get X fl_B_16 51 e_B rfl rfl d_B_monitor_18 ?_
      refine z_iload_n X 0 d_B_monitor_21 rfl rfl ?_
      refine z_iald X 54 e_B_state rfl (mPt N i) (mPt_eq hN hi) (mPt_lt hN hi) (by decide) d_B_monitor_22 ?_
      refine z_iconst X (v := 1) d_B_monitor_23 (by decide) ?_
      refine z_icmp_ne X 147 d_B_monitor_24 (by decide) (fun c_24 => ?_) (fun c_24 => ?_)
      · refine z_iinc X 1 (v := nI (i + 1)) (L' := [(1, zI (nI (i + 1))), (2, zI (N.1 56 i)), (0, zR 51)]) d_B_monitor_147 rfl (nI_1 i) (by decide) rfl ?_
        refine z_goto X 2 d_B_monitor_150 (by decide) ?_
        have hX1 : mMissOne n i N = N := by simp only [mMissOne, mMiss3, mMiss2, mMiss1, c_24, h21, h12, if_true, if_false]
        exact z_keep (ks := [0, 2]) (L' := [(1, zI (nI (i + 1))), (0, zR 51)]) rfl (ih (i + 1) N (by omega) (hX1 ▸ mInv_MissOne i N hi hN) (hX1 ▸ hq))
      · refine z_aload_n X 2 d_B_monitor_27 rfl rfl ?_
        refine z_get X fl_B_43 51 e_B rfl rfl d_B_monitor_28 ?_
        refine z_iload_n X 1 d_B_monitor_31 rfl rfl ?_
        refine z_iald X 63 e_B_is rfl i rfl hi (by decide) d_B_monitor_32 ?_
        refine z_if_eq X 147 d_B_monitor_33 (by decide) (fun c_33 => ?_) (fun c_33 => ?_)
        · refine z_iinc X 1 (v := nI (i + 1)) (L' := [(1, zI (nI (i + 1))), (2, zI (N.1 56 i)), (0, zR 51)]) d_B_monitor_147 rfl (nI_1 i) (by decide) rfl ?_
          refine z_goto X 2 d_B_monitor_150 (by decide) ?_
          have hX2 : mMissOne n i N = N := by simp only [mMissOne, mMiss3, mMiss2, mMiss1, c_24, c_33, h21, h12, if_true, if_false]
          exact z_keep (ks := [0, 2]) (L' := [(1, zI (nI (i + 1))), (0, zR 51)]) rfl (ih (i + 1) N (by omega) (hX2 ▸ mInv_MissOne i N hi hN) (hX2 ▸ hq))
        · refine z_aload_n X 2 d_B_monitor_36 rfl rfl ?_
          refine z_get X fl_B_55 51 e_B rfl rfl d_B_monitor_37 ?_
          refine z_iload_n X 1 d_B_monitor_40 rfl rfl ?_
          refine z_iald X 67 e_B_deadline rfl i rfl hi (by decide) d_B_monitor_41 ?_
          refine z_aload_n X 2 d_B_monitor_42 rfl rfl ?_
          refine z_get X fl_B_104 51 e_B rfl rfl d_B_monitor_43 ?_
          refine z_icmp_eq X 52 d_B_monitor_46 (by decide) (fun c_46 => ?_) (fun c_46 => ?_)
          · refine z_aload_n X 2 d_B_monitor_52 rfl rfl ?_
            refine z_get X fl_B_58 51 e_B rfl rfl d_B_monitor_53 ?_
            refine z_iload_n X 1 d_B_monitor_56 rfl rfl ?_
            refine z_dup2 X d_B_monitor_57 rfl rfl ?_
            refine z_iald X 68 e_B_missed rfl i rfl hi (by decide) d_B_monitor_58 ?_
            refine z_iconst X (v := 1) d_B_monitor_59 (by decide) ?_
            refine z_iadd X d_B_monitor_60 ?_
            refine z_iast X 68 e_B_missed rfl i rfl hi (by decide) d_B_monitor_61 ?_
            refine z_aload_n X 2 d_B_monitor_62 rfl rfl ?_
            refine z_get X fl_B_55 51 e_B rfl rfl d_B_monitor_63 ?_
            refine z_iload_n X 1 d_B_monitor_66 rfl rfl ?_
            refine z_iconst X (v := (-1)) d_B_monitor_67 (by decide) ?_
            refine z_iast X 67 e_B_deadline rfl i rfl hi (by decide) d_B_monitor_68 ?_
            refine z_aload_n X 2 d_B_monitor_69 rfl rfl ?_
            refine z_get X fl_B_19 51 e_B rfl rfl d_B_monitor_70 ?_
            refine z_iload_n X 0 d_B_monitor_73 rfl rfl ?_
            refine z_iald X 55 e_B_action rfl (mPt N i) (mPt_eq hN hi) (mPt_lt hN hi) (by decide) d_B_monitor_74 ?_
            refine z_iconst X (v := 1) d_B_monitor_75 (by decide) ?_
            refine z_icmp_ne X 99 d_B_monitor_76 (by decide) (fun c_76 => ?_) (fun c_76 => ?_)
            · refine z_aload_n X 2 d_B_monitor_99 rfl rfl ?_
              refine z_get X fl_B_19 51 e_B rfl rfl d_B_monitor_100 ?_
              refine z_iload_n X 0 d_B_monitor_103 rfl rfl ?_
              refine z_iald X 55 e_B_action rfl (mPt N i) (mPt_eq hN hi) (mPt_lt hN hi) (by decide) d_B_monitor_104 ?_
              refine z_iconst X (v := 2) d_B_monitor_105 (by decide) ?_
              refine z_icmp_ne X 147 d_B_monitor_106 (by decide) (fun c_106 => ?_) (fun c_106 => ?_)
              · refine z_iinc X 1 (v := nI (i + 1)) (L' := [(1, zI (nI (i + 1))), (2, zI (N.1 56 i)), (0, zR 51)]) d_B_monitor_147 rfl (nI_1 i) (by decide) rfl ?_
                refine z_goto X 2 d_B_monitor_150 (by decide) ?_
                have hX3 : mMissOne n i N = z_si (z_si N 68 i ((N.1 68 i) + 1)) 67 i (-1) := by simp only [mMissOne, mMiss3, mMiss2, mMiss1, c_24, c_33, c_46, c_76, c_106, h21, h12, if_true, if_false]
                exact z_keep (ks := [0, 2]) (L' := [(1, zI (nI (i + 1))), (0, zR 51)]) rfl (ih (i + 1) (z_si (z_si N 68 i ((N.1 68 i) + 1)) 67 i (-1)) (by omega) (hX3 ▸ mInv_MissOne i N hi hN) (hX3 ▸ hq))
              · refine z_aload_n X 2 d_B_monitor_109 rfl rfl ?_
                refine z_get X fl_B_16 51 e_B rfl rfl d_B_monitor_110 ?_
                refine z_iload_n X 0 d_B_monitor_113 rfl rfl ?_
                refine z_iconst X (v := 2) d_B_monitor_114 (by decide) ?_
                refine z_iast X 54 e_B_state rfl (mPt N i) (mPt_eq hN hi) (mPt_lt hN hi) (by decide) d_B_monitor_115 ?_
                refine z_iconst X (v := 0) d_B_monitor_116 (by decide) ?_
                refine z_istore_n X (L' := [(3, zI 0), (2, zI (N.1 56 i)), (1, zI (nI i)), (0, zR 51)]) d_B_monitor_117 rfl (by decide) rfl ?_
                refine z_keep (ks := [0, 2, 1, 3]) (L' := [(3, zI 0), (1, zI (nI i)), (2, zI (N.1 56 i)), (0, zR 51)]) rfl (inner i (N.1 56 i) (kFor (mRestOne (N.1 56 i)) n 0 (z_si (z_si (z_si N 68 i ((N.1 68 i) + 1)) 67 i (-1)) 54 (mPt N i) 2)) ?_ n 0 _ (by omega) (mInv_si (mInv_Miss1 (k := i) hN) _ (by have := mPt_lt hN hi; omega)) rfl)
                refine z_iinc X 0 (v := nI (i + 1)) (L' := [(1, zI (nI (i + 1))), (2, zI (N.1 56 i)), (0, zR 51)]) d_B_monitor_147 rfl (nI_1 i) (by decide) rfl ?_
                refine z_goto X 2 d_B_monitor_150 (by decide) ?_
                have hX4 : mMissOne n i N = kFor (mRestOne (N.1 56 i)) n 0 (z_si (z_si (z_si N 68 i ((N.1 68 i) + 1)) 67 i (-1)) 54 (mPt N i) 2) := by simp only [mMissOne, mMiss3, mMiss2, mMiss1, c_24, c_33, c_46, c_76, c_106, h21, h12, if_true, if_false]; try rw [mPt_eq hN hi]
                exact z_keep (ks := [0, 2]) (L' := [(1, zI (nI (i + 1))), (0, zR 51)]) rfl (ih (i + 1) (kFor (mRestOne (N.1 56 i)) n 0 (z_si (z_si (z_si N 68 i ((N.1 68 i) + 1)) 67 i (-1)) 54 (mPt N i) 2)) (by omega) (hX4 ▸ mInv_MissOne i N hi hN) (hX4 ▸ hq))
            · have hps : 0 < mPs (z_si (z_si (z_si (z_si N 68 i ((N.1 68 i) + 1)) 67 i (-1)) 64 i 0) 65 i 0) i := by have := mN_lt hN hi c_33; unfold mPs at this ⊢; rw [z_si_other _ _ (by omega), z_si_other _ _ (by omega), z_si_other _ _ (by omega), z_si_other _ _ (by omega)]; omega
              refine z_aload_n X 2 d_B_monitor_79 rfl rfl ?_
              refine z_get X fl_B_46 51 e_B rfl rfl d_B_monitor_80 ?_
              refine z_iload_n X 1 d_B_monitor_83 rfl rfl ?_
              refine z_iconst X (v := 0) d_B_monitor_84 (by decide) ?_
              refine z_iast X 64 e_B_at rfl i rfl hi (by decide) d_B_monitor_85 ?_
              refine z_aload_n X 2 d_B_monitor_86 rfl rfl ?_
              refine z_get X fl_B_49 51 e_B rfl rfl d_B_monitor_87 ?_
              refine z_iload_n X 1 d_B_monitor_90 rfl rfl ?_
              refine z_iconst X (v := 0) d_B_monitor_91 (by decide) ?_
              refine z_iast X 65 e_B_worked rfl i rfl hi (by decide) d_B_monitor_92 ?_
              refine z_aload_n X 2 d_B_monitor_93 rfl rfl ?_
              refine z_iload_n X 1 d_B_monitor_94 rfl rfl ?_
              refine z_iconst X (v := 1) d_B_monitor_95 (by decide) ?_
              refine z_Vv X GG_ok cf_B_110 51 [zI (nI i), zI 1] [] (c_B_become l D cA ad _ _ i hi rfl _) ⟨rfl, rfl⟩ (by decide) e_B rfl rfl rfl rfl (Nat.le_of_ble_eq_true rfl) ⟨Nat.zero_le _, Nat.zero_le _⟩ d_B_monitor_96 (fun M6 h7 => ?_)
              have qh7 := h7.symm
              subst qh7
              refine z_aload_n X 2 d_B_monitor_99 rfl rfl ?_
              refine z_get X fl_B_19 51 e_B rfl rfl d_B_monitor_100 ?_
              refine z_iload_n X 0 d_B_monitor_103 rfl rfl ?_
              refine z_iald X 55 e_B_action rfl (mPt N i) (mPt_eq hN hi) (mPt_lt hN hi) (by decide) d_B_monitor_104 ?_
              refine z_iconst X (v := 2) d_B_monitor_105 (by decide) ?_
              refine z_icmp_ne X 147 d_B_monitor_106 (by decide) (fun c_106_8 => ?_) (fun c_106_8 => ?_)
              · refine z_iinc X 1 (v := nI (i + 1)) (L' := [(1, zI (nI (i + 1))), (2, zI (N.1 56 i)), (0, zR 51)]) d_B_monitor_147 rfl (nI_1 i) (by decide) rfl ?_
                refine z_goto X 2 d_B_monitor_150 (by decide) ?_
                have hX9 : mMissOne n i N = mBec i 1 (z_si (z_si (z_si (z_si N 68 i ((N.1 68 i) + 1)) 67 i (-1)) 64 i 0) 65 i 0) := by simp only [mMissOne, mMiss3, mMiss2, mMiss1, c_24, c_33, c_46, c_76, c_106_8, h21, h12, if_true, if_false]
                exact z_keep (ks := [0, 2]) (L' := [(1, zI (nI (i + 1))), (0, zR 51)]) rfl (ih (i + 1) (mBec i 1 (z_si (z_si (z_si (z_si N 68 i ((N.1 68 i) + 1)) 67 i (-1)) 64 i 0) 65 i 0)) (by omega) (hX9 ▸ mInv_MissOne i N hi hN) (hX9 ▸ hq))
              · refine z_aload_n X 2 d_B_monitor_109 rfl rfl ?_
                refine z_get X fl_B_16 51 e_B rfl rfl d_B_monitor_110 ?_
                refine z_iload_n X 0 d_B_monitor_113 rfl rfl ?_
                refine z_iconst X (v := 2) d_B_monitor_114 (by decide) ?_
                refine z_iast X 54 e_B_state rfl (mPt N i) (mPt_eq hN hi) (mPt_lt hN hi) (by decide) d_B_monitor_115 ?_
                refine z_iconst X (v := 0) d_B_monitor_116 (by decide) ?_
                refine z_istore_n X (L' := [(3, zI 0), (2, zI (N.1 56 i)), (1, zI (nI i)), (0, zR 51)]) d_B_monitor_117 rfl (by decide) rfl ?_
                refine z_keep (ks := [0, 2, 1, 3]) (L' := [(3, zI 0), (1, zI (nI i)), (2, zI (N.1 56 i)), (0, zR 51)]) rfl (inner i (N.1 56 i) (kFor (mRestOne (N.1 56 i)) n 0 (z_si (mBec i 1 (z_si (z_si (z_si (z_si N 68 i ((N.1 68 i) + 1)) 67 i (-1)) 64 i 0) 65 i 0)) 54 (mPt N i) 2)) ?_ n 0 _ (by omega) (mInv_si (mInv_Bec (mInv_si (mInv_at0 (mInv_Miss1 (k := i) hN) hi) _ (by omega)) hi _ (by rw [mAt_0 (by rw [z_si_other _ _ (by omega), z_si_same])]; exact hps)) _ (by have := mPt_lt hN hi; omega)) rfl)
                refine z_iinc X 0 (v := nI (i + 1)) (L' := [(1, zI (nI (i + 1))), (2, zI (N.1 56 i)), (0, zR 51)]) d_B_monitor_147 rfl (nI_1 i) (by decide) rfl ?_
                refine z_goto X 2 d_B_monitor_150 (by decide) ?_
                have hX10 : mMissOne n i N = kFor (mRestOne (N.1 56 i)) n 0 (z_si (mBec i 1 (z_si (z_si (z_si (z_si N 68 i ((N.1 68 i) + 1)) 67 i (-1)) 64 i 0) 65 i 0)) 54 (mPt N i) 2) := by simp only [mMissOne, mMiss3, mMiss2, mMiss1, c_24, c_33, c_46, c_76, c_106_8, h21, h12, if_true, if_false]; try rw [mPt_eq hN hi]
                exact z_keep (ks := [0, 2]) (L' := [(1, zI (nI (i + 1))), (0, zR 51)]) rfl (ih (i + 1) (kFor (mRestOne (N.1 56 i)) n 0 (z_si (mBec i 1 (z_si (z_si (z_si (z_si N 68 i ((N.1 68 i) + 1)) 67 i (-1)) 64 i 0) 65 i 0)) 54 (mPt N i) 2)) (by omega) (hX10 ▸ mInv_MissOne i N hi hN) (hX10 ▸ hq))
          · refine z_goto X 147 d_B_monitor_49 (by decide) ?_
            refine z_iinc X 1 (v := nI (i + 1)) (L' := [(1, zI (nI (i + 1))), (2, zI (N.1 56 i)), (0, zR 51)]) d_B_monitor_147 rfl (nI_1 i) (by decide) rfl ?_
            refine z_goto X 2 d_B_monitor_150 (by decide) ?_
            have hX11 : mMissOne n i N = N := by simp only [mMissOne, mMiss3, mMiss2, mMiss1, c_24, c_33, c_46, h21, h12, if_true, if_false]
            exact z_keep (ks := [0, 2]) (L' := [(1, zI (nI (i + 1))), (0, zR 51)]) rfl (ih (i + 1) N (by omega) (hX11 ▸ mInv_MissOne i N hi hN) (hX11 ▸ hq))
  refine z_iconst X (v := 0) d_B_monitor_0 (by decide) ?_
  refine z_istore_n X (L' := [(1, zI 0), (0, zR 51)]) d_B_monitor_1 rfl (by decide) rfl ?_
  exact loop n 0 M (by omega) hI rfl
