set_option maxHeartbeats 4000000 in
set_option maxRecDepth 100000 in
theorem c_B_one (l : Launch) (D : va_G) (cA : Nat → ClassId) (ad : Nat → Nat) (M : zM) (n w : Nat) (hI : mInv n w M) (x : Int32) (k : Nat) (hk : k < 8) (ex : x = nI k) : Ci l D cA ad y_B_one b_B_one 4 (some (.boolean)) (zr 4 87) [zR 51, zI x] M (fun r M' => M' = mDo n k M ∧ ((r = 1 ∧ mOrd M k = 0) ∨ (r = 0 ∧ ¬ mOrd M k = 0))) := by
  refine zMi_of (plainFor_of_name (by decide)) (Nat.le_of_ble_eq_true rfl) ?_
  intro p e s m args below meth c A X
  subst ex
  refine z_bipush X (v := 8) d_B_one_0 (by decide) ?_
  refine z_iload_n X 1 d_B_one_2 rfl rfl ?_
  refine z_imul X d_B_one_3 ?_
  refine z_aload_n X 0 d_B_one_4 rfl rfl ?_
  refine z_get X fl_B_46 51 e_B rfl rfl d_B_one_5 ?_
  refine z_iload_n X 1 d_B_one_8 rfl rfl ?_
  refine z_iald X 64 e_B_at rfl k rfl hk (by decide) d_B_one_9 ?_
  refine z_iadd X d_B_one_10 ?_
  refine z_istore_n X (L' := [(2, zI ((8 * (nI k)) + (M.1 64 k))), (0, zR 51), (1, zI (nI k))]) d_B_one_11 rfl (by decide) rfl ?_
  refine z_aload_n X 1 d_B_one_12 rfl rfl ?_
  refine z_get X fl_B_40 51 e_B rfl rfl d_B_one_13 ?_
  refine z_iload_n X 0 d_B_one_16 rfl rfl ?_
  refine z_iald X 62 e_B_number rfl (8 * k + mAt M k) (mIx_eq hI hk) (mIx_lt hI hk) (by decide) d_B_one_17 ?_
  refine z_istore_n X (L' := [(3, zI (M.1 62 (8 * k + mAt M k))), (2, zI ((8 * (nI k)) + (M.1 64 k))), (0, zR 51), (1, zI (nI k))]) d_B_one_18 rfl (by decide) rfl ?_
  refine z_aload_n X 2 d_B_one_19 rfl rfl ?_
  refine z_get X fl_B_37 51 e_B rfl rfl d_B_one_20 ?_
  refine z_iload_n X 1 d_B_one_23 rfl rfl ?_
  refine z_iald X 61 e_B_order rfl (8 * k + mAt M k) (mIx_eq hI hk) (mIx_lt hI hk) (by decide) d_B_one_24 ?_
  refine z_if_ne X 65 d_B_one_25 (by decide) (fun c_25 => ?_) (fun c_25 => ?_)
  · refine z_aload_n X 2 d_B_one_65 rfl rfl ?_
    refine z_get X fl_B_37 51 e_B rfl rfl d_B_one_66 ?_
    refine z_iload_n X 1 d_B_one_69 rfl rfl ?_
    refine z_iald X 61 e_B_order rfl (8 * k + mAt M k) (mIx_eq hI hk) (mIx_lt hI hk) (by decide) d_B_one_70 ?_
    refine z_iconst X (v := 1) d_B_one_71 (by decide) ?_
    refine z_icmp_ne X 84 d_B_one_72 (by decide) (fun c_72 => ?_) (fun c_72 => ?_)
    · refine z_aload_n X 2 d_B_one_84 rfl rfl ?_
      refine z_get X fl_B_37 51 e_B rfl rfl d_B_one_85 ?_
      refine z_iload_n X 1 d_B_one_88 rfl rfl ?_
      refine z_iald X 61 e_B_order rfl (8 * k + mAt M k) (mIx_eq hI hk) (mIx_lt hI hk) (by decide) d_B_one_89 ?_
      refine z_iconst X (v := 2) d_B_one_90 (by decide) ?_
      refine z_icmp_ne X 103 d_B_one_91 (by decide) (fun c_91 => ?_) (fun c_91 => ?_)
      · refine z_aload_n X 2 d_B_one_103 rfl rfl ?_
        refine z_get X fl_B_37 51 e_B rfl rfl d_B_one_104 ?_
        refine z_iload_n X 1 d_B_one_107 rfl rfl ?_
        refine z_iald X 61 e_B_order rfl (8 * k + mAt M k) (mIx_eq hI hk) (mIx_lt hI hk) (by decide) d_B_one_108 ?_
        refine z_iconst X (v := 3) d_B_one_109 (by decide) ?_
        refine z_icmp_ne X 122 d_B_one_110 (by decide) (fun c_110 => ?_) (fun c_110 => ?_)
        · refine z_aload_n X 2 d_B_one_122 rfl rfl ?_
          refine z_iload_n X 3 d_B_one_123 rfl rfl ?_
          refine z_iload_n X 0 d_B_one_124 rfl rfl ?_
          refine z_Vv X GG_ok cf_B_139 51 [zI (nI k), zI (M.1 62 (8 * k + mAt M k))] [] (c_B_down l D cA ad _ n w hI _ k hk rfl _ (mNum M k).toNatClampNeg (mNum_lt hI hk c_25).1 (mNum_lt hI hk c_25).2) ⟨rfl, rfl⟩ (by decide) e_B rfl rfl rfl rfl (Nat.le_of_ble_eq_true rfl) ⟨Nat.zero_le _, Nat.zero_le _⟩ d_B_one_125 (fun M2 h3 => ?_)
          have qh3 := h3.symm
          subst qh3
          refine z_iconst X (v := 0) d_B_one_128 (by decide) ?_
          exact z_zret X rfl (⟨by rw [mDo, if_neg (show ¬ mOrd M k = 0 from c_25), if_neg (show ¬ mOrd M k = 1 from c_72), if_neg (show ¬ mOrd M k = 2 from c_91), if_neg (show ¬ mOrd M k = 3 from c_110)], Or.inr ⟨rfl, c_25⟩⟩) d_B_one_129
        · refine z_aload_n X 2 d_B_one_113 rfl rfl ?_
          refine z_iload_n X 3 d_B_one_114 rfl rfl ?_
          refine z_iload_n X 0 d_B_one_115 rfl rfl ?_
          refine z_Vv X GG_ok cf_B_136 51 [zI (nI k), zI (M.1 62 (8 * k + mAt M k))] [] (c_B_up l D cA ad _ n w hI _ k hk rfl _ (mNum M k).toNatClampNeg (mNum_lt hI hk c_25).1 (mNum_lt hI hk c_25).2) ⟨rfl, rfl⟩ (by decide) e_B rfl rfl rfl rfl (Nat.le_of_ble_eq_true rfl) ⟨Nat.zero_le _, Nat.zero_le _⟩ d_B_one_116 (fun M5 h6 => ?_)
          have qh6 := h6.symm
          subst qh6
          refine z_goto X 128 d_B_one_119 (by decide) ?_
          refine z_iconst X (v := 0) d_B_one_128 (by decide) ?_
          exact z_zret X rfl (⟨by rw [mDo, if_neg (show ¬ mOrd M k = 0 from c_25), if_neg (show ¬ mOrd M k = 1 from c_72), if_neg (show ¬ mOrd M k = 2 from c_91), if_pos (show mOrd M k = 3 from c_110)], Or.inr ⟨rfl, c_25⟩⟩) d_B_one_129
      · refine z_aload_n X 2 d_B_one_94 rfl rfl ?_
        refine z_iload_n X 3 d_B_one_95 rfl rfl ?_
        refine z_iload_n X 0 d_B_one_96 rfl rfl ?_
        refine z_Vv X GG_ok cf_B_133 51 [zI (nI k), zI (M.1 62 (8 * k + mAt M k))] [] (c_B_take l D cA ad _ n w hI _ k hk rfl _ (mNum M k).toNatClampNeg (mNum_lt hI hk c_25).1 (mNum_lt hI hk c_25).2) ⟨rfl, rfl⟩ (by decide) e_B rfl rfl rfl rfl (Nat.le_of_ble_eq_true rfl) ⟨Nat.zero_le _, Nat.zero_le _⟩ d_B_one_97 (fun M8 h9 => ?_)
        have qh9 := h9.symm
        subst qh9
        refine z_goto X 128 d_B_one_100 (by decide) ?_
        refine z_iconst X (v := 0) d_B_one_128 (by decide) ?_
        exact z_zret X rfl (⟨by rw [mDo, if_neg (show ¬ mOrd M k = 0 from c_25), if_neg (show ¬ mOrd M k = 1 from c_72), if_pos (show mOrd M k = 2 from c_91)], Or.inr ⟨rfl, c_25⟩⟩) d_B_one_129
    · refine z_aload_n X 2 d_B_one_75 rfl rfl ?_
      refine z_iload_n X 3 d_B_one_76 rfl rfl ?_
      refine z_iload_n X 0 d_B_one_77 rfl rfl ?_
      refine z_Vv X GG_ok cf_B_130 51 [zI (nI k), zI (M.1 62 (8 * k + mAt M k))] [] (c_B_send l D cA ad _ n w hI _ k hk rfl _ (mNum M k).toNatClampNeg (mNum_lt hI hk c_25).1 (mNum_lt hI hk c_25).2) ⟨rfl, rfl⟩ (by decide) e_B rfl rfl rfl rfl (Nat.le_of_ble_eq_true rfl) ⟨Nat.zero_le _, Nat.zero_le _⟩ d_B_one_78 (fun M11 h12 => ?_)
      have qh12 := h12.symm
      subst qh12
      refine z_goto X 128 d_B_one_81 (by decide) ?_
      refine z_iconst X (v := 0) d_B_one_128 (by decide) ?_
      exact z_zret X rfl (⟨by rw [mDo, if_neg (show ¬ mOrd M k = 0 from c_25), if_pos (show mOrd M k = 1 from c_72)], Or.inr ⟨rfl, c_25⟩⟩) d_B_one_129
  · refine z_aload_n X 2 d_B_one_28 rfl rfl ?_
    refine z_get X fl_B_64 51 e_B rfl rfl d_B_one_29 ?_
    refine z_iload_n X 3 d_B_one_32 rfl rfl ?_
    refine z_dup2 X d_B_one_33 rfl rfl ?_
    refine z_iald X 70 e_B_work rfl k rfl hk (by decide) d_B_one_34 ?_
    refine z_iconst X (v := 1) d_B_one_35 (by decide) ?_
    refine z_iadd X d_B_one_36 ?_
    refine z_iast X 70 e_B_work rfl k rfl hk (by decide) d_B_one_37 ?_
    refine z_aload_n X 2 d_B_one_38 rfl rfl ?_
    refine z_get X fl_B_49 51 e_B rfl rfl d_B_one_39 ?_
    refine z_iload_n X 3 d_B_one_42 rfl rfl ?_
    refine z_dup2 X d_B_one_43 rfl rfl ?_
    refine z_iald X 65 e_B_worked rfl k rfl hk (by decide) d_B_one_44 ?_
    refine z_iconst X (v := 1) d_B_one_45 (by decide) ?_
    refine z_iadd X d_B_one_46 ?_
    refine z_iast X 65 e_B_worked rfl k rfl hk (by decide) d_B_one_47 ?_
    refine z_aload_n X 2 d_B_one_48 rfl rfl ?_
    refine z_get X fl_B_49 51 e_B rfl rfl d_B_one_49 ?_
    refine z_iload_n X 3 d_B_one_52 rfl rfl ?_
    refine z_iald X 65 e_B_worked rfl k rfl hk (by decide) d_B_one_53 ?_
    refine z_iload_n X 0 d_B_one_54 rfl rfl ?_
    refine z_icmp_ne X 63 d_B_one_55 (by decide) (fun c_55 => ?_) (fun c_55 => ?_)
    · refine z_iconst X (v := 1) d_B_one_63 (by decide) ?_
      exact z_zret X rfl (⟨by rw [mDo, if_pos (show mOrd M k = 0 from c_25)]; unfold mWork; first | (rw [if_pos (show (mWork2 k M).1 65 k = mNum M k from c_55)]; rfl) | (rw [if_neg (show ¬ (mWork2 k M).1 65 k = mNum M k from c_55)]; rfl), Or.inl ⟨rfl, c_25⟩⟩) d_B_one_64
    · refine z_aload_n X 2 d_B_one_58 rfl rfl ?_
      refine z_iload_n X 3 d_B_one_59 rfl rfl ?_
      refine z_Vv X GG_ok cf_B_117 51 [zI (nI k)] [] (c_B_advance l D cA ad _ _ k hk rfl ) ⟨rfl, rfl⟩ (by decide) e_B rfl rfl rfl rfl (Nat.le_of_ble_eq_true rfl) ⟨Nat.zero_le _, Nat.zero_le _⟩ d_B_one_60 (fun M14 h15 => ?_)
      have qh15 := h15.symm
      subst qh15
      refine z_iconst X (v := 1) d_B_one_63 (by decide) ?_
      exact z_zret X rfl (⟨by rw [mDo, if_pos (show mOrd M k = 0 from c_25)]; unfold mWork; first | (rw [if_pos (show (mWork2 k M).1 65 k = mNum M k from c_55)]; rfl) | (rw [if_neg (show ¬ (mWork2 k M).1 65 k = mNum M k from c_55)]; rfl), Or.inl ⟨rfl, c_25⟩⟩) d_B_one_64

set_option maxHeartbeats 4000000 in
set_option maxRecDepth 100000 in
theorem c_B_releases (l : Launch) (D : va_G) (cA : Nat → ClassId) (ad : Nat → Nat) (M : zM) (n w : Nat) (hI : mInv n w M) : Cv l D cA ad y_B_releases b_B_releases 2 none (zr 2 43) [zR 51] M (fun M' => M' = kFor mRelOne n 0 M) := by
  refine zMv_of (plainFor_of_name (by decide)) (Nat.le_of_ble_eq_true rfl) ?_
  intro p e s m args below meth c A X
  have loop : ∀ (k i : Nat) (N : zM), i + k = n → mInv n w N → kFor mRelOne k i N = kFor mRelOne n 0 M → zW p l e (zr 2 43) s m args below meth c 0 0 (MQ below (va_Qv (fun M' => M' = kFor mRelOne n 0 M) (fun M' t => va_P D cls (z_w cA ad M' 0 EE) t.heap) A) args s 0 0 A) A D cls cA ad EE 2 N 2 [(1, zI (nI i)), (0, zR 51)] [] := by
    intro k
    induction k with
    | zero =>
      intro i N hk hN hq
      have hn := mInv_n hN
      refine z_iload_n X 0 d_B_releases_2 rfl rfl ?_
      refine z_aload_n X 1 d_B_releases_3 rfl rfl ?_
      refine z_get X fl_B_97 51 e_B rfl rfl d_B_releases_4 ?_
      refine z_icmp_ge X 98 d_B_releases_7 (by decide) (fun c_7 => ?_) (fun c_7 => absurd (by rw [mInv_cnt hN, show i = n by omega]; exact nI_le (Nat.le_refl _) (by omega)) c_7)
      exact z_vret X hq d_B_releases_98
    | succ k ih =>
      intro i N hk hN hq
      have hn := mInv_n hN
      have hi : i < 8 := by omega
      refine z_iload_n X 0 d_B_releases_2 rfl rfl ?_
      refine z_aload_n X 1 d_B_releases_3 rfl rfl ?_
      refine z_get X fl_B_97 51 e_B rfl rfl d_B_releases_4 ?_
      refine z_icmp_ge X 98 d_B_releases_7 (by decide) (fun c_7 => absurd c_7 (by rw [mInv_cnt hN]; exact nI_ge (by omega) (by omega))) (fun c_7 => ?_)
      refine z_aload_n X 1 d_B_releases_10 rfl rfl ?_
      refine z_get X fl_B_16 51 e_B rfl rfl d_B_releases_11 ?_
      refine z_aload_n X 1 d_B_releases_14 rfl rfl ?_
      refine z_get X fl_B_22 51 e_B rfl rfl d_B_releases_15 ?_
      refine z_iload_n X 0 d_B_releases_18 rfl rfl ?_
      refine z_iald X 56 e_B_partition rfl i rfl hi (by decide) d_B_releases_19 ?_
      refine z_iald X 54 e_B_state rfl (mPt N i) (mPt_eq hN hi) (mPt_lt hN hi) (by decide) d_B_releases_20 ?_
      refine z_iconst X (v := 1) d_B_releases_21 (by decide) ?_
      refine z_icmp_ne X 92 d_B_releases_22 (by decide) (fun c_22 => ?_) (fun c_22 => ?_)
      · refine z_iinc X 0 (v := nI (i + 1)) (L' := [(1, zI (nI (i + 1))), (0, zR 51)]) d_B_releases_92 rfl (nI_1 i) (by decide) rfl ?_
        refine z_goto X 2 d_B_releases_95 (by decide) ?_
        have hX1 : mRelOne i N = N := by simp only [mRelOne, mRelA, c_22, if_true, if_false]
        exact ih (i + 1) N (by omega) (hX1 ▸ mInv_RelOne i N hi hN) (hX1 ▸ hq)
      · refine z_aload_n X 1 d_B_releases_25 rfl rfl ?_
        refine z_get X fl_B_28 51 e_B rfl rfl d_B_releases_26 ?_
        refine z_iload_n X 0 d_B_releases_29 rfl rfl ?_
        refine z_iald X 58 e_B_period rfl i rfl hi (by decide) d_B_releases_30 ?_
        refine z_if_eq X 92 d_B_releases_31 (by decide) (fun c_31 => ?_) (fun c_31 => ?_)
        · refine z_iinc X 0 (v := nI (i + 1)) (L' := [(1, zI (nI (i + 1))), (0, zR 51)]) d_B_releases_92 rfl (nI_1 i) (by decide) rfl ?_
          refine z_goto X 2 d_B_releases_95 (by decide) ?_
          have hX2 : mRelOne i N = N := by simp only [mRelOne, mRelA, c_22, c_31, if_true, if_false]
          exact ih (i + 1) N (by omega) (hX2 ▸ mInv_RelOne i N hi hN) (hX2 ▸ hq)
        · refine z_aload_n X 1 d_B_releases_34 rfl rfl ?_
          refine z_get X fl_B_70 51 e_B rfl rfl d_B_releases_35 ?_
          refine z_iload_n X 0 d_B_releases_38 rfl rfl ?_
          refine z_iald X 72 e_B_next rfl i rfl hi (by decide) d_B_releases_39 ?_
          refine z_aload_n X 1 d_B_releases_40 rfl rfl ?_
          refine z_get X fl_B_104 51 e_B rfl rfl d_B_releases_41 ?_
          refine z_icmp_eq X 50 d_B_releases_44 (by decide) (fun c_44 => ?_) (fun c_44 => ?_)
          · refine z_aload_n X 1 d_B_releases_50 rfl rfl ?_
            refine z_get X fl_B_43 51 e_B rfl rfl d_B_releases_51 ?_
            refine z_iload_n X 0 d_B_releases_54 rfl rfl ?_
            refine z_iald X 63 e_B_is rfl i rfl hi (by decide) d_B_releases_55 ?_
            refine z_if_ne X 67 d_B_releases_56 (by decide) (fun c_56 => ?_) (fun c_56 => ?_)
            · refine z_aload_n X 1 d_B_releases_67 rfl rfl ?_
              refine z_get X fl_B_61 51 e_B rfl rfl d_B_releases_68 ?_
              refine z_iload_n X 0 d_B_releases_71 rfl rfl ?_
              refine z_dup2 X d_B_releases_72 rfl rfl ?_
              refine z_iald X 69 e_B_skipped rfl i rfl hi (by decide) d_B_releases_73 ?_
              refine z_iconst X (v := 1) d_B_releases_74 (by decide) ?_
              refine z_iadd X d_B_releases_75 ?_
              refine z_iast X 69 e_B_skipped rfl i rfl hi (by decide) d_B_releases_76 ?_
              refine z_aload_n X 1 d_B_releases_77 rfl rfl ?_
              refine z_get X fl_B_70 51 e_B rfl rfl d_B_releases_78 ?_
              refine z_iload_n X 0 d_B_releases_81 rfl rfl ?_
              refine z_dup2 X d_B_releases_82 rfl rfl ?_
              refine z_iald X 72 e_B_next rfl i rfl hi (by decide) d_B_releases_83 ?_
              refine z_aload_n X 1 d_B_releases_84 rfl rfl ?_
              refine z_get X fl_B_28 51 e_B rfl rfl d_B_releases_85 ?_
              refine z_iload_n X 0 d_B_releases_88 rfl rfl ?_
              refine z_iald X 58 e_B_period rfl i rfl hi (by decide) d_B_releases_89 ?_
              refine z_iadd X d_B_releases_90 ?_
              refine z_iast X 72 e_B_next rfl i rfl hi (by decide) d_B_releases_91 ?_
              refine z_iinc X 0 (v := nI (i + 1)) (L' := [(1, zI (nI (i + 1))), (0, zR 51)]) d_B_releases_92 rfl (nI_1 i) (by decide) rfl ?_
              refine z_goto X 2 d_B_releases_95 (by decide) ?_
              have hX3 : mRelOne i N = z_si (z_si N 69 i ((N.1 69 i) + 1)) 72 i (((z_si N 69 i ((N.1 69 i) + 1)).1 72 i) + ((z_si N 69 i ((N.1 69 i) + 1)).1 58 i)) := by simp only [mRelOne, mRelA, c_22, c_31, c_44, c_56, if_true, if_false]
              exact ih (i + 1) (z_si (z_si N 69 i ((N.1 69 i) + 1)) 72 i (((z_si N 69 i ((N.1 69 i) + 1)).1 72 i) + ((z_si N 69 i ((N.1 69 i) + 1)).1 58 i))) (by omega) (hX3 ▸ mInv_RelOne i N hi hN) (hX3 ▸ hq)
            · refine z_aload_n X 1 d_B_releases_59 rfl rfl ?_
              refine z_iload_n X 0 d_B_releases_60 rfl rfl ?_
              refine z_Vv X GG_ok cf_B_114 51 [zI (nI i)] [] (c_B_release l D cA ad _ _ i hi rfl ) ⟨rfl, rfl⟩ (by decide) e_B rfl rfl rfl rfl (Nat.le_of_ble_eq_true rfl) ⟨Nat.zero_le _, Nat.zero_le _⟩ d_B_releases_61 (fun M5 h6 => ?_)
              have qh6 := h6.symm
              subst qh6
              refine z_goto X 77 d_B_releases_64 (by decide) ?_
              refine z_aload_n X 1 d_B_releases_77 rfl rfl ?_
              refine z_get X fl_B_70 51 e_B rfl rfl d_B_releases_78 ?_
              refine z_iload_n X 0 d_B_releases_81 rfl rfl ?_
              refine z_dup2 X d_B_releases_82 rfl rfl ?_
              refine z_iald X 72 e_B_next rfl i rfl hi (by decide) d_B_releases_83 ?_
              refine z_aload_n X 1 d_B_releases_84 rfl rfl ?_
              refine z_get X fl_B_28 51 e_B rfl rfl d_B_releases_85 ?_
              refine z_iload_n X 0 d_B_releases_88 rfl rfl ?_
              refine z_iald X 58 e_B_period rfl i rfl hi (by decide) d_B_releases_89 ?_
              refine z_iadd X d_B_releases_90 ?_
              refine z_iast X 72 e_B_next rfl i rfl hi (by decide) d_B_releases_91 ?_
              refine z_iinc X 0 (v := nI (i + 1)) (L' := [(1, zI (nI (i + 1))), (0, zR 51)]) d_B_releases_92 rfl (nI_1 i) (by decide) rfl ?_
              refine z_goto X 2 d_B_releases_95 (by decide) ?_
              have hX7 : mRelOne i N = z_si (mRel i  N) 72 i (((mRel i  N).1 72 i) + ((mRel i  N).1 58 i)) := by simp only [mRelOne, mRelA, c_22, c_31, c_44, c_56, if_true, if_false]
              exact ih (i + 1) (z_si (mRel i  N) 72 i (((mRel i  N).1 72 i) + ((mRel i  N).1 58 i))) (by omega) (hX7 ▸ mInv_RelOne i N hi hN) (hX7 ▸ hq)
          · refine z_goto X 92 d_B_releases_47 (by decide) ?_
            refine z_iinc X 0 (v := nI (i + 1)) (L' := [(1, zI (nI (i + 1))), (0, zR 51)]) d_B_releases_92 rfl (nI_1 i) (by decide) rfl ?_
            refine z_goto X 2 d_B_releases_95 (by decide) ?_
            have hX8 : mRelOne i N = N := by simp only [mRelOne, mRelA, c_22, c_31, c_44, if_true, if_false]
            exact ih (i + 1) N (by omega) (hX8 ▸ mInv_RelOne i N hi hN) (hX8 ▸ hq)
  refine z_iconst X (v := 0) d_B_releases_0 (by decide) ?_
  refine z_istore_n X (L' := [(1, zI 0), (0, zR 51)]) d_B_releases_1 rfl (by decide) rfl ?_
  exact loop n 0 M (by omega) hI rfl

set_option maxHeartbeats 4000000 in
set_option maxRecDepth 100000 in
theorem c_B_on (l : Launch) (D : va_G) (cA : Nat → ClassId) (ad : Nat → Nat) (M : zM) (n w : Nat) (hI : mInv n w M) (a : Int32) : Ci l D cA ad y_B_on b_B_on 3 (some (.int)) (zr 1 22) [zR 51, zI a] M (fun r M' => (¬ ((0 ≤ a ∧ a ≤ 2) ∧ ¬ M.1 54 a.toNatClampNeg = 1) ∧ M' = M ∧ r = (-1)) ∨ (((0 ≤ a ∧ a ≤ 2) ∧ ¬ M.1 54 a.toNatClampNeg = 1) ∧ M' = mOn n a M ∧ r = 0)) := by
  refine zMi_of (plainFor_of_name (by decide)) (Nat.le_of_ble_eq_true rfl) ?_
  intro p e s m args below meth c A X
  have loop : ∀ (k i : Nat) (N : zM), i + k = n → mInv n w N → ((0 ≤ a ∧ a ≤ 2) ∧ ¬ M.1 54 a.toNatClampNeg = 1) → kFor (mOn2 a) k i N = mOn n a M → zW p l e (zr 1 22) s m args below meth c 0 0 (MQ below (va_Qi (fun r M' => (¬ ((0 ≤ a ∧ a ≤ 2) ∧ ¬ M.1 54 a.toNatClampNeg = 1) ∧ M' = M ∧ r = (-1)) ∨ (((0 ≤ a ∧ a ≤ 2) ∧ ¬ M.1 54 a.toNatClampNeg = 1) ∧ M' = mOn n a M ∧ r = 0)) (fun M' t => va_P D cls (z_w cA ad M' 0 EE) t.heap) A) args s 0 0 A) A D cls cA ad EE 3 N 30 [(2, zI (nI i)), (0, zR 51), (1, zI a)] [] := by
    intro k
    induction k with
    | zero =>
      intro i N hk hN ho hq
      have hn := mInv_n hN
      refine z_iload_n X 0 d_B_on_30 rfl rfl ?_
      refine z_aload_n X 1 d_B_on_31 rfl rfl ?_
      refine z_get X fl_B_97 51 e_B rfl rfl d_B_on_32 ?_
      refine z_icmp_ge X 81 d_B_on_35 (by decide) (fun c_35 => ?_) (fun c_35 => absurd (by rw [mInv_cnt hN, show i = n by omega]; exact nI_le (Nat.le_refl _) (by omega)) c_35)
      refine z_iconst X (v := 0) d_B_on_81 (by decide) ?_
      exact z_iret X (Or.inr ⟨ho, hq, rfl⟩) d_B_on_82
    | succ k ih =>
      intro i N hk hN ho hq
      have hn := mInv_n hN
      have hi : i < 8 := by omega
      refine z_iload_n X 0 d_B_on_30 rfl rfl ?_
      refine z_aload_n X 1 d_B_on_31 rfl rfl ?_
      refine z_get X fl_B_97 51 e_B rfl rfl d_B_on_32 ?_
      refine z_icmp_ge X 81 d_B_on_35 (by decide) (fun c_35 => absurd c_35 (by rw [mInv_cnt hN]; exact nI_ge (by omega) (by omega))) (fun c_35 => ?_)
      refine z_aload_n X 1 d_B_on_38 rfl rfl ?_
      refine z_get X fl_B_22 51 e_B rfl rfl d_B_on_39 ?_
      refine z_iload_n X 0 d_B_on_42 rfl rfl ?_
      refine z_iald X 56 e_B_partition rfl i rfl hi (by decide) d_B_on_43 ?_
      refine z_iload_n X 2 d_B_on_44 rfl rfl ?_
      refine z_icmp_eq X 51 d_B_on_45 (by decide) (fun c_45 => ?_) (fun c_45 => ?_)
      · refine z_aload_n X 1 d_B_on_51 rfl rfl ?_
        refine z_iload_n X 0 d_B_on_52 rfl rfl ?_
        refine z_Vv X GG_ok cf_B_100 51 [zI (nI i)] [] (c_B_rest l D cA ad _ _ i hi rfl ) ⟨rfl, rfl⟩ (by decide) e_B rfl rfl rfl rfl (Nat.le_of_ble_eq_true rfl) ⟨Nat.zero_le _, Nat.zero_le _⟩ d_B_on_53 (fun M2 h3 => ?_)
        have qh3 := h3.symm
        subst qh3
        refine z_aload_n X 1 d_B_on_56 rfl rfl ?_
        refine z_get X fl_B_28 51 e_B rfl rfl d_B_on_57 ?_
        refine z_iload_n X 0 d_B_on_60 rfl rfl ?_
        refine z_iald X 58 e_B_period rfl i rfl hi (by decide) d_B_on_61 ?_
        refine z_if_le X 75 d_B_on_62 (by decide) (fun c_62 => ?_) (fun c_62 => ?_)
        · refine z_iinc X 0 (v := nI (i + 1)) (L' := [(2, zI (nI (i + 1))), (0, zR 51), (1, zI a)]) d_B_on_75 rfl (nI_1 i) (by decide) rfl ?_
          refine z_goto X 30 d_B_on_78 (by decide) ?_
          have hX4 : mOn2 a i N = mRest i  N := by simp only [mOn2, c_45, c_62, if_true, if_false]
          exact ih (i + 1) (mRest i  N) (by omega) (hX4 ▸ mInv_On2 a i N hi hN) ho (hX4 ▸ hq)
        · refine z_aload_n X 1 d_B_on_65 rfl rfl ?_
          refine z_get X fl_B_70 51 e_B rfl rfl d_B_on_66 ?_
          refine z_iload_n X 0 d_B_on_69 rfl rfl ?_
          refine z_aload_n X 1 d_B_on_70 rfl rfl ?_
          refine z_get X fl_B_104 51 e_B rfl rfl d_B_on_71 ?_
          refine z_iast X 72 e_B_next rfl i rfl hi (by decide) d_B_on_74 ?_
          refine z_iinc X 0 (v := nI (i + 1)) (L' := [(2, zI (nI (i + 1))), (0, zR 51), (1, zI a)]) d_B_on_75 rfl (nI_1 i) (by decide) rfl ?_
          refine z_goto X 30 d_B_on_78 (by decide) ?_
          have hX5 : mOn2 a i N = z_si (mRest i  N) 72 i ((mRest i  N).1 51 28) := by simp only [mOn2, c_45, c_62, if_true, if_false]
          exact ih (i + 1) (z_si (mRest i  N) 72 i ((mRest i  N).1 51 28)) (by omega) (hX5 ▸ mInv_On2 a i N hi hN) ho (hX5 ▸ hq)
      · refine z_goto X 75 d_B_on_48 (by decide) ?_
        refine z_iinc X 0 (v := nI (i + 1)) (L' := [(2, zI (nI (i + 1))), (0, zR 51), (1, zI a)]) d_B_on_75 rfl (nI_1 i) (by decide) rfl ?_
        refine z_goto X 30 d_B_on_78 (by decide) ?_
        have hX6 : mOn2 a i N = N := by simp only [mOn2, c_45, if_true, if_false]
        exact ih (i + 1) N (by omega) (hX6 ▸ mInv_On2 a i N hi hN) ho (hX6 ▸ hq)
  refine z_iload_n X 1 d_B_on_0 rfl rfl ?_
  refine z_iconst X (v := 0) d_B_on_1 (by decide) ?_
  refine z_iconst X (v := 2) d_B_on_2 (by decide) ?_
  refine z_Si X GG_ok cf_B_85 [zI a, zI 0, zI 2] [] (c_B_in l D cA ad _ _ _ _) ⟨rfl, rfl⟩ (by decide) rfl rfl (Nat.le_of_ble_eq_true rfl) ⟨Nat.zero_le _, Nat.zero_le _⟩ d_B_on_3 (fun r1 M2 h3 => ?_)
  have qh3 := h3.1.symm
  subst qh3
  obtain ⟨-, ⟨rfl, p4⟩ | ⟨rfl, p4⟩⟩ := h3
  · refine z_if_eq X 19 d_B_on_6 (by decide) (fun h => absurd h (by decide)) (fun _ => ?_)
    have ha := kC_ok p4
    refine z_aload_n X 0 d_B_on_9 rfl rfl ?_
    refine z_get X fl_B_16 51 e_B rfl rfl d_B_on_10 ?_
    refine z_iload_n X 1 d_B_on_13 rfl rfl ?_
    refine z_iald X 54 e_B_state rfl a.toNatClampNeg ha.1 ha.2 (by decide) d_B_on_14 ?_
    refine z_iconst X (v := 1) d_B_on_15 (by decide) ?_
    refine z_icmp_ne X 21 d_B_on_16 (by decide) (fun c_16 => ?_) (fun c_16 => ?_)
    · refine z_aload_n X 0 d_B_on_21 rfl rfl ?_
      refine z_get X fl_B_16 51 e_B rfl rfl d_B_on_22 ?_
      refine z_iload_n X 1 d_B_on_25 rfl rfl ?_
      refine z_iconst X (v := 1) d_B_on_26 (by decide) ?_
      refine z_iast X 54 e_B_state rfl a.toNatClampNeg ha.1 ha.2 (by decide) d_B_on_27 ?_
      refine z_iconst X (v := 0) d_B_on_28 (by decide) ?_
      refine z_istore_n X (L' := [(2, zI 0), (0, zR 51), (1, zI a)]) d_B_on_29 rfl (by decide) rfl ?_
      exact loop n 0 (z_si M 54 a.toNatClampNeg 1) (by omega) (mInv_si hI _ (by omega)) ⟨p4, c_16⟩ rfl
    · refine z_iconst X (v := (-1)) d_B_on_19 (by decide) ?_
      exact z_iret X (Or.inl ⟨fun q => q.2 c_16, rfl, rfl⟩) d_B_on_20
  · refine z_if_eq X 19 d_B_on_6 (by decide) (fun _ => ?_) (fun h => absurd h (by decide))
    refine z_iconst X (v := (-1)) d_B_on_19 (by decide) ?_
    exact z_iret X (Or.inl ⟨fun q => p4 q.1, rfl, rfl⟩) d_B_on_20
