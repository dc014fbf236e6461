set_option maxHeartbeats 4000000 in
set_option maxRecDepth 100000 in
theorem c_B_window (l : Launch) (D : va_G) (cA : Nat → ClassId) (ad : Nat → Nat) (M : zM) (n w : Nat) (hI : mInv n w M) (a x : Int32) : Ci l D cA ad y_B_window b_B_window 3 (some (.int)) (zr 1 22) [zR 51, zI a, zI x] M (fun r M' => (¬ mOkW a x M ∧ M' = M ∧ r = (-1)) ∨ (mOkW a x M ∧ w = 8 ∧ M' = M ∧ r = (-2)) ∨ (mOkW a x M ∧ w < 8 ∧ M' = mWadd w a x M ∧ r = nI (w + 1))) := by
  refine zMi_of (plainFor_of_name (by decide)) (Nat.le_of_ble_eq_true rfl) ?_
  intro p e s m args below meth c A X
  refine z_iload_n X 1 d_B_window_0 rfl rfl ?_
  refine z_iconst X (v := 0) d_B_window_1 (by decide) ?_
  refine z_iconst X (v := 2) d_B_window_2 (by decide) ?_
  refine z_Si X GG_ok cf_B_85 [zI a, zI 0, zI 2] [] (c_B_in l D cA ad _ _ _ _) ⟨rfl, rfl⟩ (by decide) rfl rfl (Nat.le_of_ble_eq_true rfl) ⟨Nat.zero_le _, Nat.zero_le _⟩ d_B_window_3 (fun r1 M2 h3 => ?_)
  have qh3 := h3.1.symm
  subst qh3
  obtain ⟨-, ⟨rfl, p4⟩ | ⟨rfl, p4⟩⟩ := h3
  · refine z_if_eq X 26 d_B_window_6 (by decide) (fun h => absurd h (by decide)) (fun _ => ?_)
    refine z_iload_n X 2 d_B_window_9 rfl rfl ?_
    refine z_iconst X (v := 1) d_B_window_10 (by decide) ?_
    refine z_bipush X (v := 30) d_B_window_11 (by decide) ?_
    refine z_Si X GG_ok cf_B_85 [zI x, zI 1, zI 30] [] (c_B_in l D cA ad _ _ _ _) ⟨rfl, rfl⟩ (by decide) rfl rfl (Nat.le_of_ble_eq_true rfl) ⟨Nat.zero_le _, Nat.zero_le _⟩ d_B_window_13 (fun r5 M6 h7 => ?_)
    have qh7 := h7.1.symm
    subst qh7
    obtain ⟨-, ⟨rfl, p8⟩ | ⟨rfl, p8⟩⟩ := h7
    · refine z_if_eq X 26 d_B_window_16 (by decide) (fun h => absurd h (by decide)) (fun _ => ?_)
      refine z_aload_n X 0 d_B_window_19 rfl rfl ?_
      refine z_Vi X GG_ok cf_B_89 51 [] [] (c_B_allOff l D cA ad _) ⟨rfl, rfl⟩ (by decide) e_B rfl rfl rfl rfl (Nat.le_of_ble_eq_true rfl) ⟨Nat.zero_le _, Nat.zero_le _⟩ d_B_window_20 (fun r9 M10 h11 => ?_)
      have qh11 := h11.1.symm
      subst qh11
      obtain ⟨-, ⟨rfl, p12⟩ | ⟨rfl, p12⟩⟩ := h11
      · refine z_if_ne X 28 d_B_window_23 (by decide) (fun _ => ?_) (fun h => absurd h (by decide))
        refine z_aload_n X 0 d_B_window_28 rfl rfl ?_
        refine z_get X fl_B_93 51 e_B rfl rfl d_B_window_29 ?_
        refine z_bipush X (v := 8) d_B_window_32 (by decide) ?_
        refine z_icmp_ne X 40 d_B_window_34 (by decide) (fun c_34 => ?_) (fun c_34 => ?_)
        · have hw8 : w < 8 := nI_n8 hI.1.2.1 (hI.1.2.2.2.1 ▸ c_34)
          refine z_aload_n X 0 d_B_window_40 rfl rfl ?_
          refine z_get X fl_B_7 51 e_B rfl rfl d_B_window_41 ?_
          refine z_aload_n X 0 d_B_window_44 rfl rfl ?_
          refine z_get X fl_B_93 51 e_B rfl rfl d_B_window_45 ?_
          refine z_iload_n X 1 d_B_window_48 rfl rfl ?_
          refine z_iast X 52 e_B_owner rfl w hI.1.2.2.2.1 hw8 (by decide) d_B_window_49 ?_
          refine z_aload_n X 0 d_B_window_50 rfl rfl ?_
          refine z_get X fl_B_13 51 e_B rfl rfl d_B_window_51 ?_
          refine z_aload_n X 0 d_B_window_54 rfl rfl ?_
          refine z_get X fl_B_93 51 e_B rfl rfl d_B_window_55 ?_
          refine z_iload_n X 2 d_B_window_58 rfl rfl ?_
          refine z_iast X 53 e_B_span rfl w (by rw [z_si_other _ _ (by omega)]; exact hI.1.2.2.2.1) hw8 (by decide) d_B_window_59 ?_
          refine z_aload_n X 0 d_B_window_60 rfl rfl ?_
          refine z_dup X d_B_window_61 rfl ?_
          refine z_get X fl_B_93 51 e_B rfl rfl d_B_window_62 ?_
          refine z_iconst X (v := 1) d_B_window_65 (by decide) ?_
          refine z_iadd X d_B_window_66 ?_
          refine z_puti X fl_B_93 51 e_B rfl rfl rfl d_B_window_67 ?_
          refine z_aload_n X 0 d_B_window_70 rfl rfl ?_
          refine z_get X fl_B_93 51 e_B rfl rfl d_B_window_71 ?_
          exact z_iret X (Or.inr (Or.inr ⟨⟨p4, p8, p12⟩, hw8, by unfold mWadd; rw [z_si_other (c := 53) (c' := 51) _ _ (by omega), z_si_other (c := 52) (c' := 51) _ _ (by omega), hI.1.2.2.2.1, nI_1], by rw [z_si_same, z_si_other _ _ (by omega), z_si_other _ _ (by omega), hI.1.2.2.2.1, nI_1]⟩)) d_B_window_74
        · refine z_bipush X (v := (-2)) d_B_window_37 (by decide) ?_
          exact z_iret X (Or.inr (Or.inl ⟨⟨p4, p8, p12⟩, nI_8 hI.1.2.1 (hI.1.2.2.2.1 ▸ c_34), rfl, rfl⟩)) d_B_window_39
      · refine z_if_ne X 28 d_B_window_23 (by decide) (fun h => absurd h (by decide)) (fun _ => ?_)
        refine z_iconst X (v := (-1)) d_B_window_26 (by decide) ?_
        exact z_iret X (Or.inl ⟨fun q => p12 q.2.2, rfl, rfl⟩) d_B_window_27
    · refine z_if_eq X 26 d_B_window_16 (by decide) (fun _ => ?_) (fun h => absurd h (by decide))
      refine z_iconst X (v := (-1)) d_B_window_26 (by decide) ?_
      exact z_iret X (Or.inl ⟨fun q => p8 q.2.1, rfl, rfl⟩) d_B_window_27
  · refine z_if_eq X 26 d_B_window_6 (by decide) (fun _ => ?_) (fun h => absurd h (by decide))
    refine z_iconst X (v := (-1)) d_B_window_26 (by decide) ?_
    exact z_iret X (Or.inl ⟨fun q => p4 q.1, rfl, rfl⟩) d_B_window_27

set_option maxHeartbeats 4000000 in
set_option maxRecDepth 100000 in
theorem c_B_process (l : Launch) (D : va_G) (cA : Nat → ClassId) (ad : Nat → Nat) (M : zM) (n w : Nat) (hI : mInv n w M) (a b d q : Int32) : Ci l D cA ad y_B_process b_B_process 6 (some (.int)) (zr 1 22) [zR 51, zI a, zI b, zI d, zI q] M (fun r M' => (¬ mOkP a b d q M ∧ M' = M ∧ r = (-1)) ∨ (mOkP a b d q M ∧ n = 8 ∧ M' = M ∧ r = (-2)) ∨ (mOkP a b d q M ∧ n < 8 ∧ M' = mProc n a b d q M ∧ r = nI n)) := by
  refine zMi_of (plainFor_of_name (by decide)) (Nat.le_of_ble_eq_true rfl) ?_
  intro p e s m args below meth c A X
  refine z_iload_n X 1 d_B_process_0 rfl rfl ?_
  refine z_iconst X (v := 0) d_B_process_1 (by decide) ?_
  refine z_iconst X (v := 2) d_B_process_2 (by decide) ?_
  refine z_Si X GG_ok cf_B_85 [zI a, zI 0, zI 2] [] (c_B_in l D cA ad _ _ _ _) ⟨rfl, rfl⟩ (by decide) rfl rfl (Nat.le_of_ble_eq_true rfl) ⟨Nat.zero_le _, Nat.zero_le _⟩ d_B_process_3 (fun r1 M2 h3 => ?_)
  have qh3 := h3.1.symm
  subst qh3
  obtain ⟨-, ⟨rfl, p4⟩ | ⟨rfl, p4⟩⟩ := h3
  · refine z_if_eq X 47 d_B_process_6 (by decide) (fun h => absurd h (by decide)) (fun _ => ?_)
    refine z_iload_n X 2 d_B_process_9 rfl rfl ?_
    refine z_iconst X (v := 0) d_B_process_10 (by decide) ?_
    refine z_bipush X (v := 9) d_B_process_11 (by decide) ?_
    refine z_Si X GG_ok cf_B_85 [zI b, zI 0, zI 9] [] (c_B_in l D cA ad _ _ _ _) ⟨rfl, rfl⟩ (by decide) rfl rfl (Nat.le_of_ble_eq_true rfl) ⟨Nat.zero_le _, Nat.zero_le _⟩ d_B_process_13 (fun r5 M6 h7 => ?_)
    have qh7 := h7.1.symm
    subst qh7
    obtain ⟨-, ⟨rfl, p8⟩ | ⟨rfl, p8⟩⟩ := h7
    · refine z_if_eq X 47 d_B_process_16 (by decide) (fun h => absurd h (by decide)) (fun _ => ?_)
      refine z_iload_n X 3 d_B_process_19 rfl rfl ?_
      refine z_iconst X (v := 0) d_B_process_20 (by decide) ?_
      refine z_bipush X (v := 60) d_B_process_21 (by decide) ?_
      refine z_Si X GG_ok cf_B_85 [zI d, zI 0, zI 60] [] (c_B_in l D cA ad _ _ _ _) ⟨rfl, rfl⟩ (by decide) rfl rfl (Nat.le_of_ble_eq_true rfl) ⟨Nat.zero_le _, Nat.zero_le _⟩ d_B_process_23 (fun r9 M10 h11 => ?_)
      have qh11 := h11.1.symm
      subst qh11
      obtain ⟨-, ⟨rfl, p12⟩ | ⟨rfl, p12⟩⟩ := h11
      · refine z_if_eq X 47 d_B_process_26 (by decide) (fun h => absurd h (by decide)) (fun _ => ?_)
        refine z_iload X 4 d_B_process_29 rfl ?_
        refine z_iconst X (v := 0) d_B_process_31 (by decide) ?_
        refine z_bipush X (v := 60) d_B_process_32 (by decide) ?_
        refine z_Si X GG_ok cf_B_85 [zI q, zI 0, zI 60] [] (c_B_in l D cA ad _ _ _ _) ⟨rfl, rfl⟩ (by decide) rfl rfl (Nat.le_of_ble_eq_true rfl) ⟨Nat.zero_le _, Nat.zero_le _⟩ d_B_process_34 (fun r13 M14 h15 => ?_)
        have qh15 := h15.1.symm
        subst qh15
        obtain ⟨-, ⟨rfl, p16⟩ | ⟨rfl, p16⟩⟩ := h15
        · refine z_if_eq X 47 d_B_process_37 (by decide) (fun h => absurd h (by decide)) (fun _ => ?_)
          refine z_aload_n X 0 d_B_process_40 rfl rfl ?_
          refine z_Vi X GG_ok cf_B_89 51 [] [] (c_B_allOff l D cA ad _) ⟨rfl, rfl⟩ (by decide) e_B rfl rfl rfl rfl (Nat.le_of_ble_eq_true rfl) ⟨Nat.zero_le _, Nat.zero_le _⟩ d_B_process_41 (fun r17 M18 h19 => ?_)
          have qh19 := h19.1.symm
          subst qh19
          obtain ⟨-, ⟨rfl, p20⟩ | ⟨rfl, p20⟩⟩ := h19
          · refine z_if_ne X 49 d_B_process_44 (by decide) (fun _ => ?_) (fun h => absurd h (by decide))
            refine z_aload_n X 0 d_B_process_49 rfl rfl ?_
            refine z_get X fl_B_97 51 e_B rfl rfl d_B_process_50 ?_
            refine z_bipush X (v := 8) d_B_process_53 (by decide) ?_
            refine z_icmp_ne X 61 d_B_process_55 (by decide) (fun c_55 => ?_) (fun c_55 => ?_)
            · have hn8 : n < 8 := nI_n8 (mInv_n hI) (mInv_cnt hI ▸ c_55)
              refine z_aload_n X 0 d_B_process_61 rfl rfl ?_
              refine z_get X fl_B_97 51 e_B rfl rfl d_B_process_62 ?_
              refine z_istore X (L' := [(5, zI (M.1 51 5)), (0, zR 51), (1, zI a), (2, zI b), (3, zI d), (4, zI q)]) d_B_process_65 (by decide) rfl ?_
              refine z_aload_n X 1 d_B_process_67 rfl rfl ?_
              refine z_get X fl_B_22 51 e_B rfl rfl d_B_process_68 ?_
              refine z_iload X 0 d_B_process_71 rfl ?_
              refine z_iload_n X 2 d_B_process_73 rfl rfl ?_
              refine z_iast X 56 e_B_partition rfl n (mInv_cnt hI) hn8 (by decide) d_B_process_74 ?_
              refine z_aload_n X 1 d_B_process_75 rfl rfl ?_
              refine z_get X fl_B_25 51 e_B rfl rfl d_B_process_76 ?_
              refine z_iload X 0 d_B_process_79 rfl ?_
              refine z_iload_n X 3 d_B_process_81 rfl rfl ?_
              refine z_iast X 57 e_B_priority rfl n (mInv_cnt hI) hn8 (by decide) d_B_process_82 ?_
              refine z_aload_n X 1 d_B_process_83 rfl rfl ?_
              refine z_get X fl_B_28 51 e_B rfl rfl d_B_process_84 ?_
              refine z_iload X 0 d_B_process_87 rfl ?_
              refine z_iload_n X 4 d_B_process_89 rfl rfl ?_
              refine z_iast X 58 e_B_period rfl n (mInv_cnt hI) hn8 (by decide) d_B_process_90 ?_
              refine z_aload_n X 1 d_B_process_91 rfl rfl ?_
              refine z_get X fl_B_31 51 e_B rfl rfl d_B_process_92 ?_
              refine z_iload X 0 d_B_process_95 rfl ?_
              refine z_iload X 5 d_B_process_97 rfl ?_
              refine z_iast X 59 e_B_limit rfl n (mInv_cnt hI) hn8 (by decide) d_B_process_99 ?_
              refine z_aload_n X 1 d_B_process_100 rfl rfl ?_
              refine z_get X fl_B_55 51 e_B rfl rfl d_B_process_101 ?_
              refine z_iload X 0 d_B_process_104 rfl ?_
              refine z_iconst X (v := (-1)) d_B_process_106 (by decide) ?_
              refine z_iast X 67 e_B_deadline rfl n (mInv_cnt hI) hn8 (by decide) d_B_process_107 ?_
              refine z_aload_n X 1 d_B_process_108 rfl rfl ?_
              refine z_get X fl_B_70 51 e_B rfl rfl d_B_process_109 ?_
              refine z_iload X 0 d_B_process_112 rfl ?_
              refine z_iconst X (v := (-1)) d_B_process_114 (by decide) ?_
              refine z_iast X 72 e_B_next rfl n (mInv_cnt hI) hn8 (by decide) d_B_process_115 ?_
              refine z_aload_n X 1 d_B_process_116 rfl rfl ?_
              refine z_dup X d_B_process_117 rfl ?_
              refine z_get X fl_B_97 51 e_B rfl rfl d_B_process_118 ?_
              refine z_iconst X (v := 1) d_B_process_121 (by decide) ?_
              refine z_iadd X d_B_process_122 ?_
              refine z_puti X fl_B_97 51 e_B rfl rfl rfl d_B_process_123 ?_
              refine z_iload X 0 d_B_process_126 rfl ?_
              exact z_iret X (Or.inr (Or.inr ⟨⟨p4, p8, p12, p16, p20⟩, hn8, by unfold mProc; rw [z_si_row (c := 72) (c' := 51) _ _ _ (by omega), z_si_row (c := 67) (c' := 51) _ _ _ (by omega), z_si_row (c := 59) (c' := 51) _ _ _ (by omega), z_si_row (c := 58) (c' := 51) _ _ _ (by omega), z_si_row (c := 57) (c' := 51) _ _ _ (by omega), z_si_row (c := 56) (c' := 51) _ _ _ (by omega), mInv_cnt hI, nI_1], mInv_cnt hI⟩)) d_B_process_128
            · refine z_bipush X (v := (-2)) d_B_process_58 (by decide) ?_
              exact z_iret X (Or.inr (Or.inl ⟨⟨p4, p8, p12, p16, p20⟩, nI_8 (mInv_n hI) (mInv_cnt hI ▸ c_55), rfl, rfl⟩)) d_B_process_60
          · refine z_if_ne X 49 d_B_process_44 (by decide) (fun h => absurd h (by decide)) (fun _ => ?_)
            refine z_iconst X (v := (-1)) d_B_process_47 (by decide) ?_
            exact z_iret X (Or.inl ⟨fun q => p20 q.2.2.2.2, rfl, rfl⟩) d_B_process_48
        · refine z_if_eq X 47 d_B_process_37 (by decide) (fun _ => ?_) (fun h => absurd h (by decide))
          refine z_iconst X (v := (-1)) d_B_process_47 (by decide) ?_
          exact z_iret X (Or.inl ⟨fun q => p16 q.2.2.2.1, rfl, rfl⟩) d_B_process_48
      · refine z_if_eq X 47 d_B_process_26 (by decide) (fun _ => ?_) (fun h => absurd h (by decide))
        refine z_iconst X (v := (-1)) d_B_process_47 (by decide) ?_
        exact z_iret X (Or.inl ⟨fun q => p12 q.2.2.1, rfl, rfl⟩) d_B_process_48
    · refine z_if_eq X 47 d_B_process_16 (by decide) (fun _ => ?_) (fun h => absurd h (by decide))
      refine z_iconst X (v := (-1)) d_B_process_47 (by decide) ?_
      exact z_iret X (Or.inl ⟨fun q => p8 q.2.1, rfl, rfl⟩) d_B_process_48
  · refine z_if_eq X 47 d_B_process_6 (by decide) (fun _ => ?_) (fun h => absurd h (by decide))
    refine z_iconst X (v := (-1)) d_B_process_47 (by decide) ?_
    exact z_iret X (Or.inl ⟨fun q => p4 q.1, rfl, rfl⟩) d_B_process_48

set_option maxHeartbeats 4000000 in
set_option maxRecDepth 100000 in
theorem c_B_order (l : Launch) (D : va_G) (cA : Nat → ClassId) (ad : Nat → Nat) (M : zM) (n w : Nat) (hI : mInv n w M) (a b d : Int32) : Ci l D cA ad y_B_order b_B_order 4 (some (.int)) (zr 1 22) [zR 51, zI a, zI b, zI d] M (fun r M' => (¬ mOkO a b d M ∧ M' = M ∧ r = (-1)) ∨ (mOkO a b d M ∧ mPs M a.toNatClampNeg = 8 ∧ M' = M ∧ r = (-2)) ∨ (mOkO a b d M ∧ mPs M a.toNatClampNeg < 8 ∧ M' = mOadd a.toNatClampNeg (mPs M a.toNatClampNeg) b d M ∧ r = nI (mPs M a.toNatClampNeg + 1))) := by
  refine zMi_of (plainFor_of_name (by decide)) (Nat.le_of_ble_eq_true rfl) ?_
  intro p e s m args below meth c A X
  refine z_iload_n X 1 d_B_order_0 rfl rfl ?_
  refine z_iconst X (v := 0) d_B_order_1 (by decide) ?_
  refine z_aload_n X 0 d_B_order_2 rfl rfl ?_
  refine z_get X fl_B_97 51 e_B rfl rfl d_B_order_3 ?_
  refine z_iconst X (v := 1) d_B_order_6 (by decide) ?_
  refine z_isub X d_B_order_7 ?_
  refine z_Si X GG_ok cf_B_85 [zI a, zI 0, zI ((M.1 51 5) - 1)] [] (c_B_in l D cA ad _ _ _ _) ⟨rfl, rfl⟩ (by decide) rfl rfl (Nat.le_of_ble_eq_true rfl) ⟨Nat.zero_le _, Nat.zero_le _⟩ d_B_order_8 (fun r1 M2 h3 => ?_)
  have qh3 := h3.1.symm
  subst qh3
  obtain ⟨-, ⟨rfl, p4⟩ | ⟨rfl, p4⟩⟩ := h3
  · refine z_if_eq X 30 d_B_order_11 (by decide) (fun h => absurd h (by decide)) (fun _ => ?_)
    refine z_iload_n X 2 d_B_order_14 rfl rfl ?_
    refine z_iconst X (v := 0) d_B_order_15 (by decide) ?_
    refine z_iconst X (v := 4) d_B_order_16 (by decide) ?_
    refine z_Si X GG_ok cf_B_85 [zI b, zI 0, zI 4] [] (c_B_in l D cA ad _ _ _ _) ⟨rfl, rfl⟩ (by decide) rfl rfl (Nat.le_of_ble_eq_true rfl) ⟨Nat.zero_le _, Nat.zero_le _⟩ d_B_order_17 (fun r5 M6 h7 => ?_)
    have qh7 := h7.1.symm
    subst qh7
    obtain ⟨-, ⟨rfl, p8⟩ | ⟨rfl, p8⟩⟩ := h7
    · refine z_if_eq X 30 d_B_order_20 (by decide) (fun h => absurd h (by decide)) (fun _ => ?_)
      refine z_aload_n X 0 d_B_order_23 rfl rfl ?_
      refine z_Vi X GG_ok cf_B_89 51 [] [] (c_B_allOff l D cA ad _) ⟨rfl, rfl⟩ (by decide) e_B rfl rfl rfl rfl (Nat.le_of_ble_eq_true rfl) ⟨Nat.zero_le _, Nat.zero_le _⟩ d_B_order_24 (fun r9 M10 h11 => ?_)
      have qh11 := h11.1.symm
      subst qh11
      obtain ⟨-, ⟨rfl, p12⟩ | ⟨rfl, p12⟩⟩ := h11
      · refine z_if_ne X 32 d_B_order_27 (by decide) (fun _ => ?_) (fun h => absurd h (by decide))
        refine z_iload_n X 2 d_B_order_32 rfl rfl ?_
        refine z_if_ne X 49 d_B_order_33 (by decide) (fun c_33 => ?_) (fun c_33 => ?_)
        · refine z_iload_n X 3 d_B_order_49 rfl rfl ?_
          refine z_iconst X (v := 0) d_B_order_50 (by decide) ?_
          refine z_iconst X (v := 3) d_B_order_51 (by decide) ?_
          refine z_Si X GG_ok cf_B_85 [zI d, zI 0, zI 3] [] (c_B_in l D cA ad _ _ _ _) ⟨rfl, rfl⟩ (by decide) rfl rfl (Nat.le_of_ble_eq_true rfl) ⟨Nat.zero_le _, Nat.zero_le _⟩ d_B_order_52 (fun r13 M14 h15 => ?_)
          have qh15 := h15.1.symm
          subst qh15
          obtain ⟨-, ⟨rfl, p16⟩ | ⟨rfl, p16⟩⟩ := h15
          · refine z_if_ne X 60 d_B_order_55 (by decide) (fun _ => ?_) (fun h => absurd h (by decide))
            have ha := mA_ok hI p4
            have ha8 : a.toNatClampNeg < 8 := Nat.lt_of_lt_of_le ha.2 (mInv_n hI)
            refine z_aload_n X 0 d_B_order_60 rfl rfl ?_
            refine z_get X fl_B_34 51 e_B rfl rfl d_B_order_61 ?_
            refine z_iload_n X 1 d_B_order_64 rfl rfl ?_
            refine z_iald X 60 e_B_size rfl a.toNatClampNeg ha.1 ha8 (by decide) d_B_order_65 ?_
            refine z_bipush X (v := 8) d_B_order_66 (by decide) ?_
            refine z_icmp_ne X 74 d_B_order_68 (by decide) (fun c_68 => ?_) (fun c_68 => ?_)
            · have hz8 : mPs M a.toNatClampNeg < 8 := nI_n8 (mPs_le hI ha8) (mPs_eq hI ha8 ▸ c_68)
              refine z_aload_n X 0 d_B_order_74 rfl rfl ?_
              refine z_get X fl_B_37 51 e_B rfl rfl d_B_order_75 ?_
              refine z_bipush X (v := 8) d_B_order_78 (by decide) ?_
              refine z_iload_n X 1 d_B_order_80 rfl rfl ?_
              refine z_imul X d_B_order_81 ?_
              refine z_aload_n X 0 d_B_order_82 rfl rfl ?_
              refine z_get X fl_B_34 51 e_B rfl rfl d_B_order_83 ?_
              refine z_iload_n X 1 d_B_order_86 rfl rfl ?_
              refine z_iald X 60 e_B_size rfl a.toNatClampNeg ha.1 ha8 (by decide) d_B_order_87 ?_
              refine z_iadd X d_B_order_88 ?_
              refine z_iload_n X 2 d_B_order_89 rfl rfl ?_
              refine z_iast X 61 e_B_order rfl (8 * a.toNatClampNeg + mPs M a.toNatClampNeg) ((congrArg (fun z => 8 * z + M.1 60 a.toNatClampNeg) ha.1).trans (by rw [mPs_eq hI ha8]; rw [show (8 : Int32) = nI 8 from rfl, pk_mul, nI_add])) (by omega) (by decide) d_B_order_90 ?_
              refine z_aload_n X 0 d_B_order_91 rfl rfl ?_
              refine z_get X fl_B_40 51 e_B rfl rfl d_B_order_92 ?_
              refine z_bipush X (v := 8) d_B_order_95 (by decide) ?_
              refine z_iload_n X 1 d_B_order_97 rfl rfl ?_
              refine z_imul X d_B_order_98 ?_
              refine z_aload_n X 0 d_B_order_99 rfl rfl ?_
              refine z_get X fl_B_34 51 e_B rfl rfl d_B_order_100 ?_
              refine z_iload_n X 1 d_B_order_103 rfl rfl ?_
              refine z_iald X 60 e_B_size rfl a.toNatClampNeg ha.1 ha8 (by decide) d_B_order_104 ?_
              refine z_iadd X d_B_order_105 ?_
              refine z_iload_n X 3 d_B_order_106 rfl rfl ?_
              refine z_iast X 62 e_B_number rfl (8 * a.toNatClampNeg + mPs M a.toNatClampNeg) ((congrArg (fun z => 8 * z + (z_si M 61 (8 * a.toNatClampNeg + mPs M a.toNatClampNeg) b).1 60 a.toNatClampNeg) ha.1).trans (by rw [z_si_row (c := 61) (c' := 60) _ _ _ (by omega), mPs_eq hI ha8]; rw [show (8 : Int32) = nI 8 from rfl, pk_mul, nI_add])) (by omega) (by decide) d_B_order_107 ?_
              refine z_aload_n X 0 d_B_order_108 rfl rfl ?_
              refine z_get X fl_B_34 51 e_B rfl rfl d_B_order_109 ?_
              refine z_iload_n X 1 d_B_order_112 rfl rfl ?_
              refine z_dup2 X d_B_order_113 rfl rfl ?_
              refine z_iald X 60 e_B_size rfl a.toNatClampNeg ha.1 ha8 (by decide) d_B_order_114 ?_
              refine z_iconst X (v := 1) d_B_order_115 (by decide) ?_
              refine z_iadd X d_B_order_116 ?_
              refine z_iast X 60 e_B_size rfl a.toNatClampNeg ha.1 ha8 (by decide) d_B_order_117 ?_
              refine z_aload_n X 0 d_B_order_118 rfl rfl ?_
              refine z_get X fl_B_34 51 e_B rfl rfl d_B_order_119 ?_
              refine z_iload_n X 1 d_B_order_122 rfl rfl ?_
              refine z_iald X 60 e_B_size rfl a.toNatClampNeg ha.1 ha8 (by decide) d_B_order_123 ?_
              exact z_iret X (Or.inr (Or.inr ⟨⟨p4, p8, p12, ⟨fun q => absurd q c_33, fun _ => p16⟩⟩, hz8, by unfold mOadd; rw [z_si_row (c := 62) (c' := 60) _ _ _ (by omega), z_si_row (c := 61) (c' := 60) _ _ _ (by omega), mPs_eq hI ha8, nI_1], by rw [z_si_same, z_si_row (c := 62) (c' := 60) _ _ _ (by omega), z_si_row (c := 61) (c' := 60) _ _ _ (by omega), mPs_eq hI ha8, nI_1]⟩)) d_B_order_124
            · refine z_bipush X (v := (-2)) d_B_order_71 (by decide) ?_
              exact z_iret X (Or.inr (Or.inl ⟨⟨p4, p8, p12, ⟨fun q => absurd q c_33, fun _ => p16⟩⟩, nI_8 (mPs_le hI ha8) (mPs_eq hI ha8 ▸ c_68), rfl, rfl⟩)) d_B_order_73
          · refine z_if_ne X 60 d_B_order_55 (by decide) (fun h => absurd h (by decide)) (fun _ => ?_)
            refine z_iconst X (v := (-1)) d_B_order_58 (by decide) ?_
            exact z_iret X (Or.inl ⟨fun q => p16 (q.2.2.2.2 c_33), rfl, rfl⟩) d_B_order_59
        · refine z_iload_n X 3 d_B_order_36 rfl rfl ?_
          refine z_iconst X (v := 1) d_B_order_37 (by decide) ?_
          refine z_bipush X (v := 20) d_B_order_38 (by decide) ?_
          refine z_Si X GG_ok cf_B_85 [zI d, zI 1, zI 20] [] (c_B_in l D cA ad _ _ _ _) ⟨rfl, rfl⟩ (by decide) rfl rfl (Nat.le_of_ble_eq_true rfl) ⟨Nat.zero_le _, Nat.zero_le _⟩ d_B_order_40 (fun r18 M19 h20 => ?_)
          have qh20 := h20.1.symm
          subst qh20
          obtain ⟨-, ⟨rfl, p21⟩ | ⟨rfl, p21⟩⟩ := h20
          · refine z_if_ne X 60 d_B_order_43 (by decide) (fun _ => ?_) (fun h => absurd h (by decide))
            have ha := mA_ok hI p4
            have ha8 : a.toNatClampNeg < 8 := Nat.lt_of_lt_of_le ha.2 (mInv_n hI)
            refine z_aload_n X 0 d_B_order_60 rfl rfl ?_
            refine z_get X fl_B_34 51 e_B rfl rfl d_B_order_61 ?_
            refine z_iload_n X 1 d_B_order_64 rfl rfl ?_
            refine z_iald X 60 e_B_size rfl a.toNatClampNeg ha.1 ha8 (by decide) d_B_order_65 ?_
            refine z_bipush X (v := 8) d_B_order_66 (by decide) ?_
            refine z_icmp_ne X 74 d_B_order_68 (by decide) (fun c_68_22 => ?_) (fun c_68_22 => ?_)
            · have hz8 : mPs M a.toNatClampNeg < 8 := nI_n8 (mPs_le hI ha8) (mPs_eq hI ha8 ▸ c_68_22)
              refine z_aload_n X 0 d_B_order_74 rfl rfl ?_
              refine z_get X fl_B_37 51 e_B rfl rfl d_B_order_75 ?_
              refine z_bipush X (v := 8) d_B_order_78 (by decide) ?_
              refine z_iload_n X 1 d_B_order_80 rfl rfl ?_
              refine z_imul X d_B_order_81 ?_
              refine z_aload_n X 0 d_B_order_82 rfl rfl ?_
              refine z_get X fl_B_34 51 e_B rfl rfl d_B_order_83 ?_
              refine z_iload_n X 1 d_B_order_86 rfl rfl ?_
              refine z_iald X 60 e_B_size rfl a.toNatClampNeg ha.1 ha8 (by decide) d_B_order_87 ?_
              refine z_iadd X d_B_order_88 ?_
              refine z_iload_n X 2 d_B_order_89 rfl rfl ?_
              refine z_iast X 61 e_B_order rfl (8 * a.toNatClampNeg + mPs M a.toNatClampNeg) ((congrArg (fun z => 8 * z + M.1 60 a.toNatClampNeg) ha.1).trans (by rw [mPs_eq hI ha8]; rw [show (8 : Int32) = nI 8 from rfl, pk_mul, nI_add])) (by omega) (by decide) d_B_order_90 ?_
              refine z_aload_n X 0 d_B_order_91 rfl rfl ?_
              refine z_get X fl_B_40 51 e_B rfl rfl d_B_order_92 ?_
              refine z_bipush X (v := 8) d_B_order_95 (by decide) ?_
              refine z_iload_n X 1 d_B_order_97 rfl rfl ?_
              refine z_imul X d_B_order_98 ?_
              refine z_aload_n X 0 d_B_order_99 rfl rfl ?_
              refine z_get X fl_B_34 51 e_B rfl rfl d_B_order_100 ?_
              refine z_iload_n X 1 d_B_order_103 rfl rfl ?_
              refine z_iald X 60 e_B_size rfl a.toNatClampNeg ha.1 ha8 (by decide) d_B_order_104 ?_
              refine z_iadd X d_B_order_105 ?_
              refine z_iload_n X 3 d_B_order_106 rfl rfl ?_
              refine z_iast X 62 e_B_number rfl (8 * a.toNatClampNeg + mPs M a.toNatClampNeg) ((congrArg (fun z => 8 * z + (z_si M 61 (8 * a.toNatClampNeg + mPs M a.toNatClampNeg) b).1 60 a.toNatClampNeg) ha.1).trans (by rw [z_si_row (c := 61) (c' := 60) _ _ _ (by omega), mPs_eq hI ha8]; rw [show (8 : Int32) = nI 8 from rfl, pk_mul, nI_add])) (by omega) (by decide) d_B_order_107 ?_
              refine z_aload_n X 0 d_B_order_108 rfl rfl ?_
              refine z_get X fl_B_34 51 e_B rfl rfl d_B_order_109 ?_
              refine z_iload_n X 1 d_B_order_112 rfl rfl ?_
              refine z_dup2 X d_B_order_113 rfl rfl ?_
              refine z_iald X 60 e_B_size rfl a.toNatClampNeg ha.1 ha8 (by decide) d_B_order_114 ?_
              refine z_iconst X (v := 1) d_B_order_115 (by decide) ?_
              refine z_iadd X d_B_order_116 ?_
              refine z_iast X 60 e_B_size rfl a.toNatClampNeg ha.1 ha8 (by decide) d_B_order_117 ?_
              refine z_aload_n X 0 d_B_order_118 rfl rfl ?_
              refine z_get X fl_B_34 51 e_B rfl rfl d_B_order_119 ?_
              refine z_iload_n X 1 d_B_order_122 rfl rfl ?_
              refine z_iald X 60 e_B_size rfl a.toNatClampNeg ha.1 ha8 (by decide) d_B_order_123 ?_
              exact z_iret X (Or.inr (Or.inr ⟨⟨p4, p8, p12, ⟨fun _ => p21, fun q => absurd c_33 q⟩⟩, hz8, by unfold mOadd; rw [z_si_row (c := 62) (c' := 60) _ _ _ (by omega), z_si_row (c := 61) (c' := 60) _ _ _ (by omega), mPs_eq hI ha8, nI_1], by rw [z_si_same, z_si_row (c := 62) (c' := 60) _ _ _ (by omega), z_si_row (c := 61) (c' := 60) _ _ _ (by omega), mPs_eq hI ha8, nI_1]⟩)) d_B_order_124
            · refine z_bipush X (v := (-2)) d_B_order_71 (by decide) ?_
              exact z_iret X (Or.inr (Or.inl ⟨⟨p4, p8, p12, ⟨fun _ => p21, fun q => absurd c_33 q⟩⟩, nI_8 (mPs_le hI ha8) (mPs_eq hI ha8 ▸ c_68_22), rfl, rfl⟩)) d_B_order_73
          · refine z_if_ne X 60 d_B_order_43 (by decide) (fun h => absurd h (by decide)) (fun _ => ?_)
            refine z_goto X 58 d_B_order_46 (by decide) ?_
            refine z_iconst X (v := (-1)) d_B_order_58 (by decide) ?_
            exact z_iret X (Or.inl ⟨fun q => p21 (q.2.2.2.1 c_33), rfl, rfl⟩) d_B_order_59
      · refine z_if_ne X 32 d_B_order_27 (by decide) (fun h => absurd h (by decide)) (fun _ => ?_)
        refine z_iconst X (v := (-1)) d_B_order_30 (by decide) ?_
        exact z_iret X (Or.inl ⟨fun q => p12 q.2.2.1, rfl, rfl⟩) d_B_order_31
    · refine z_if_eq X 30 d_B_order_20 (by decide) (fun _ => ?_) (fun h => absurd h (by decide))
      refine z_iconst X (v := (-1)) d_B_order_30 (by decide) ?_
      exact z_iret X (Or.inl ⟨fun q => p8 q.2.1, rfl, rfl⟩) d_B_order_31
  · refine z_if_eq X 30 d_B_order_11 (by decide) (fun _ => ?_) (fun h => absurd h (by decide))
    refine z_iconst X (v := (-1)) d_B_order_30 (by decide) ?_
    exact z_iret X (Or.inl ⟨fun q => p4 q.1, rfl, rfl⟩) d_B_order_31
