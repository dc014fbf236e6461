set_option maxHeartbeats 4000000 in
set_option maxRecDepth 100000 in
theorem c_A_isOrder (l : Launch) (D : va_G) (cA : Nat → ClassId) (ad : Nat → Nat) (M : zM) (b d : Int32) : Ci l D cA ad y_A_isOrder b_A_isOrder 2 (some (.boolean)) (zr 1 22) [zI b, zI d] M (fun r M' => M' = M ∧ ((r = 1 ∧ kIsOrd b d) ∨ (r = 0 ∧ ¬ (kIsOrd b d)))) := by
  refine zMi_of (plainFor_of_name (by decide)) (Nat.le_of_ble_eq_true rfl) ?_
  intro p e s m args below meth c A X
  refine z_iload_n X 0 d_A_isOrder_0 rfl rfl ?_
  by_cases s1_0 : b = 0
  · refine z_tabIn X 36 d_A_isOrder_1 (by rw [s1_0]; decide) (by rw [s1_0]; decide) (by rw [s1_0]; rfl) (by decide) ?_
    refine z_iload_n X 1 d_A_isOrder_36 rfl rfl ?_
    refine z_iconst X (v := 1) d_A_isOrder_37 (by decide) ?_
    refine z_bipush X (v := 20) d_A_isOrder_38 (by decide) ?_
    refine z_Si X GG_ok cf_A_47 [zI d, zI 1, zI 20] [] (c_A_within l D cA ad _ _ _ _) ⟨rfl, rfl⟩ (by decide) rfl rfl (Nat.le_of_ble_eq_true rfl) ⟨Nat.zero_le _, Nat.zero_le _⟩ d_A_isOrder_40 (fun r2 M3 h4 => ?_)
    have qh4 := h4.1.symm
    subst qh4
    obtain ⟨-, ⟨rfl, p5⟩ | ⟨rfl, p5⟩⟩ := h4
    · exact z_zret X rfl (⟨rfl, Or.inl ⟨rfl, Or.inl ⟨s1_0, p5⟩⟩⟩) d_A_isOrder_43
    · exact z_zret X rfl (⟨rfl, Or.inr ⟨rfl, fun q => q.elim (fun z => p5 z.2) (fun z => by rw [s1_0] at z; exact absurd z.1 (by decide))⟩⟩) d_A_isOrder_43
  by_cases s1_1 : b = 1
  · refine z_tabIn X 44 d_A_isOrder_1 (by rw [s1_1]; decide) (by rw [s1_1]; decide) (by rw [s1_1]; rfl) (by decide) ?_
    refine z_iload_n X 1 d_A_isOrder_44 rfl rfl ?_
    refine z_iconst X (v := 0) d_A_isOrder_45 (by decide) ?_
    refine z_iconst X (v := 3) d_A_isOrder_46 (by decide) ?_
    refine z_Si X GG_ok cf_A_47 [zI d, zI 0, zI 3] [] (c_A_within l D cA ad _ _ _ _) ⟨rfl, rfl⟩ (by decide) rfl rfl (Nat.le_of_ble_eq_true rfl) ⟨Nat.zero_le _, Nat.zero_le _⟩ d_A_isOrder_47 (fun r6 M7 h8 => ?_)
    have qh8 := h8.1.symm
    subst qh8
    obtain ⟨-, ⟨rfl, p9⟩ | ⟨rfl, p9⟩⟩ := h8
    · exact z_zret X rfl (⟨rfl, Or.inl ⟨rfl, Or.inr ⟨Or.inl s1_1, p9⟩⟩⟩) d_A_isOrder_50
    · exact z_zret X rfl (⟨rfl, Or.inr ⟨rfl, fun q => q.elim (fun z => s1_0 z.1) (fun z => p9 z.2)⟩⟩) d_A_isOrder_50
  by_cases s1_2 : b = 2
  · refine z_tabIn X 44 d_A_isOrder_1 (by rw [s1_2]; decide) (by rw [s1_2]; decide) (by rw [s1_2]; rfl) (by decide) ?_
    refine z_iload_n X 1 d_A_isOrder_44 rfl rfl ?_
    refine z_iconst X (v := 0) d_A_isOrder_45 (by decide) ?_
    refine z_iconst X (v := 3) d_A_isOrder_46 (by decide) ?_
    refine z_Si X GG_ok cf_A_47 [zI d, zI 0, zI 3] [] (c_A_within l D cA ad _ _ _ _) ⟨rfl, rfl⟩ (by decide) rfl rfl (Nat.le_of_ble_eq_true rfl) ⟨Nat.zero_le _, Nat.zero_le _⟩ d_A_isOrder_47 (fun r10 M11 h12 => ?_)
    have qh12 := h12.1.symm
    subst qh12
    obtain ⟨-, ⟨rfl, p13⟩ | ⟨rfl, p13⟩⟩ := h12
    · exact z_zret X rfl (⟨rfl, Or.inl ⟨rfl, Or.inr ⟨Or.inr (Or.inl s1_2), p13⟩⟩⟩) d_A_isOrder_50
    · exact z_zret X rfl (⟨rfl, Or.inr ⟨rfl, fun q => q.elim (fun z => s1_0 z.1) (fun z => p13 z.2)⟩⟩) d_A_isOrder_50
  by_cases s1_3 : b = 3
  · refine z_tabIn X 51 d_A_isOrder_1 (by rw [s1_3]; decide) (by rw [s1_3]; decide) (by rw [s1_3]; rfl) (by decide) ?_
    refine z_iload_n X 1 d_A_isOrder_51 rfl rfl ?_
    refine z_iconst X (v := 0) d_A_isOrder_52 (by decide) ?_
    refine z_iconst X (v := 3) d_A_isOrder_53 (by decide) ?_
    refine z_Si X GG_ok cf_A_47 [zI d, zI 0, zI 3] [] (c_A_within l D cA ad _ _ _ _) ⟨rfl, rfl⟩ (by decide) rfl rfl (Nat.le_of_ble_eq_true rfl) ⟨Nat.zero_le _, Nat.zero_le _⟩ d_A_isOrder_54 (fun r14 M15 h16 => ?_)
    have qh16 := h16.1.symm
    subst qh16
    obtain ⟨-, ⟨rfl, p17⟩ | ⟨rfl, p17⟩⟩ := h16
    · exact z_zret X rfl (⟨rfl, Or.inl ⟨rfl, Or.inr ⟨Or.inr (Or.inr (Or.inl s1_3)), p17⟩⟩⟩) d_A_isOrder_57
    · exact z_zret X rfl (⟨rfl, Or.inr ⟨rfl, fun q => q.elim (fun z => s1_0 z.1) (fun z => p17 z.2)⟩⟩) d_A_isOrder_57
  by_cases s1_4 : b = 4
  · refine z_tabIn X 51 d_A_isOrder_1 (by rw [s1_4]; decide) (by rw [s1_4]; decide) (by rw [s1_4]; rfl) (by decide) ?_
    refine z_iload_n X 1 d_A_isOrder_51 rfl rfl ?_
    refine z_iconst X (v := 0) d_A_isOrder_52 (by decide) ?_
    refine z_iconst X (v := 3) d_A_isOrder_53 (by decide) ?_
    refine z_Si X GG_ok cf_A_47 [zI d, zI 0, zI 3] [] (c_A_within l D cA ad _ _ _ _) ⟨rfl, rfl⟩ (by decide) rfl rfl (Nat.le_of_ble_eq_true rfl) ⟨Nat.zero_le _, Nat.zero_le _⟩ d_A_isOrder_54 (fun r18 M19 h20 => ?_)
    have qh20 := h20.1.symm
    subst qh20
    obtain ⟨-, ⟨rfl, p21⟩ | ⟨rfl, p21⟩⟩ := h20
    · exact z_zret X rfl (⟨rfl, Or.inl ⟨rfl, Or.inr ⟨Or.inr (Or.inr (Or.inr s1_4)), p21⟩⟩⟩) d_A_isOrder_57
    · exact z_zret X rfl (⟨rfl, Or.inr ⟨rfl, fun q => q.elim (fun z => s1_0 z.1) (fun z => p21 z.2)⟩⟩) d_A_isOrder_57
  refine z_tabOut X 58 d_A_isOrder_1 (by have q0 := lv_neT s1_0 (k := 0) (a := 0) (by decide); have q1 := lv_neT s1_1 (k := 1) (a := 1) (by decide); have q2 := lv_neT s1_2 (k := 2) (a := 2) (by decide); have q3 := lv_neT s1_3 (k := 3) (a := 3) (by decide); have q4 := lv_neT s1_4 (k := 4) (a := 4) (by decide); omega) (by decide) ?_
  refine z_iconst X (v := 0) d_A_isOrder_58 (by decide) ?_
  exact z_zret X rfl (⟨rfl, Or.inr ⟨rfl, fun q => q.elim (fun z => s1_0 z.1) (fun z => z.1.elim s1_1 (fun z => z.elim s1_2 (fun z => z.elim s1_3 s1_4)))⟩⟩) d_A_isOrder_59

set_option maxHeartbeats 4000000 in
set_option maxRecDepth 100000 in
theorem c_A_window (l : Launch) (D : va_G) (cA : Nat → ClassId) (ad : Nat → Nat) (M : zM) (n w : Nat) (hI : kInv n w M) (a x : Int32) : Ci l D cA ad y_A_window b_A_window 3 (some (.int)) (zr 2 42) [zR 0, zI a, zI x] M (fun r M' => (¬ kOkW a x M ∧ M' = M ∧ r = (-1)) ∨ (kOkW a x M ∧ w = 8 ∧ M' = M ∧ r = (-2)) ∨ (kOkW a x M ∧ w < 8 ∧ M' = kWadd w a x M ∧ r = nI (w + 1))) := by
  refine zMi_of (plainFor_of_name (by decide)) (Nat.le_of_ble_eq_true rfl) ?_
  intro p e s m args below meth c A X
  refine z_iload_n X 1 d_A_window_0 rfl rfl ?_
  refine z_Si X GG_ok cf_A_43 [zI a] [] (c_A_isPartition l D cA ad _ _) ⟨rfl, rfl⟩ (by decide) rfl rfl (Nat.le_of_ble_eq_true rfl) ⟨Nat.zero_le _, Nat.zero_le _⟩ d_A_window_1 (fun r1 M2 h3 => ?_)
  have qh3 := h3.1.symm
  subst qh3
  obtain ⟨-, ⟨rfl, p4⟩ | ⟨rfl, p4⟩⟩ := h3
  · refine z_if_eq X 24 d_A_window_4 (by decide) (fun h => absurd h (by decide)) (fun _ => ?_)
    refine z_iload_n X 2 d_A_window_7 rfl rfl ?_
    refine z_iconst X (v := 1) d_A_window_8 (by decide) ?_
    refine z_bipush X (v := 30) d_A_window_9 (by decide) ?_
    refine z_Si X GG_ok cf_A_47 [zI x, zI 1, zI 30] [] (c_A_within l D cA ad _ _ _ _) ⟨rfl, rfl⟩ (by decide) rfl rfl (Nat.le_of_ble_eq_true rfl) ⟨Nat.zero_le _, Nat.zero_le _⟩ d_A_window_11 (fun r5 M6 h7 => ?_)
    have qh7 := h7.1.symm
    subst qh7
    obtain ⟨-, ⟨rfl, p8⟩ | ⟨rfl, p8⟩⟩ := h7
    · refine z_if_eq X 24 d_A_window_14 (by decide) (fun h => absurd h (by decide)) (fun _ => ?_)
      refine z_aload_n X 0 d_A_window_17 rfl rfl ?_
      refine z_Vi X GG_ok cf_A_51 0 [] [] (c_A_allOff l D cA ad _) ⟨rfl, rfl⟩ (by decide) e_A rfl rfl rfl rfl (Nat.le_of_ble_eq_true rfl) ⟨Nat.zero_le _, Nat.zero_le _⟩ d_A_window_18 (fun r9 M10 h11 => ?_)
      have qh11 := h11.1.symm
      subst qh11
      obtain ⟨-, ⟨rfl, p12⟩ | ⟨rfl, p12⟩⟩ := h11
      · refine z_if_ne X 26 d_A_window_21 (by decide) (fun _ => ?_) (fun h => absurd h (by decide))
        refine z_aload_n X 0 d_A_window_26 rfl rfl ?_
        refine z_get X fl_A_10 0 e_A rfl rfl d_A_window_27 ?_
        refine z_get X fl_A_55 1 e_Wr rfl rfl d_A_window_30 ?_
        refine z_bipush X (v := 8) d_A_window_33 (by decide) ?_
        refine z_icmp_ne X 41 d_A_window_35 (by decide) (fun c_35 => ?_) (fun c_35 => ?_)
        · have hw8 : w < 8 := nI_n8 hI.1.2.1 (hI.1.2.2.2.1 ▸ c_35)
          refine z_aload_n X 0 d_A_window_41 rfl rfl ?_
          refine z_get X fl_A_10 0 e_A rfl rfl d_A_window_42 ?_
          refine z_iload_n X 1 d_A_window_45 rfl rfl ?_
          refine z_iload_n X 2 d_A_window_46 rfl rfl ?_
          refine z_Vv X GG_ok cf_A_59 1 [zI a, zI x] [] (c_Wr_add l D cA ad _ w hw8 hI.1.2.2.2.1 _ _) ⟨rfl, rfl⟩ (by decide) e_Wr rfl rfl rfl rfl (Nat.le_of_ble_eq_true rfl) ⟨Nat.zero_le _, Nat.zero_le _⟩ d_A_window_47 (fun M14 h15 => ?_)
          have qh15 := h15.symm
          subst qh15
          refine z_aload_n X 0 d_A_window_50 rfl rfl ?_
          refine z_get X fl_A_10 0 e_A rfl rfl d_A_window_51 ?_
          refine z_get X fl_A_55 1 e_Wr rfl rfl d_A_window_54 ?_
          exact z_iret X (Or.inr (Or.inr ⟨⟨p4, p8, p12⟩, hw8, rfl, z_si_same _ _ _ _⟩)) d_A_window_57
        · refine z_bipush X (v := (-2)) d_A_window_38 (by decide) ?_
          exact z_iret X (Or.inr (Or.inl ⟨⟨p4, p8, p12⟩, nI_8 hI.1.2.1 (hI.1.2.2.2.1 ▸ c_35), rfl, rfl⟩)) d_A_window_40
      · refine z_if_ne X 26 d_A_window_21 (by decide) (fun h => absurd h (by decide)) (fun _ => ?_)
        refine z_iconst X (v := (-1)) d_A_window_24 (by decide) ?_
        exact z_iret X (Or.inl ⟨fun q => p12 q.2.2, rfl, rfl⟩) d_A_window_25
    · refine z_if_eq X 24 d_A_window_14 (by decide) (fun _ => ?_) (fun h => absurd h (by decide))
      refine z_iconst X (v := (-1)) d_A_window_24 (by decide) ?_
      exact z_iret X (Or.inl ⟨fun q => p8 q.2.1, rfl, rfl⟩) d_A_window_25
  · refine z_if_eq X 24 d_A_window_4 (by decide) (fun _ => ?_) (fun h => absurd h (by decide))
    refine z_iconst X (v := (-1)) d_A_window_24 (by decide) ?_
    exact z_iret X (Or.inl ⟨fun q => p4 q.1, rfl, rfl⟩) d_A_window_25

set_option maxHeartbeats 4000000 in
set_option maxRecDepth 100000 in
theorem c_A_process (l : Launch) (D : va_G) (cA : Nat → ClassId) (ad : Nat → Nat) (M : zM) (n w : Nat) (hI : kInv n w M) (a b d q : Int32) : Ci l D cA ad y_A_process b_A_process 5 (some (.int)) (zr 2 42) [zR 0, zI a, zI b, zI d, zI q] M (fun r M' => (¬ kOkP a b d q M ∧ M' = M ∧ r = (-1)) ∨ (kOkP a b d q M ∧ n = 8 ∧ M' = M ∧ r = (-2)) ∨ (kOkP a b d q M ∧ n < 8 ∧ M' = kProc n a b d q M ∧ r = nI n)) := by
  refine zMi_of (plainFor_of_name (by decide)) (Nat.le_of_ble_eq_true rfl) ?_
  intro p e s m args below meth c A X
  refine z_iload_n X 1 d_A_process_0 rfl rfl ?_
  refine z_Si X GG_ok cf_A_43 [zI a] [] (c_A_isPartition l D cA ad _ _) ⟨rfl, rfl⟩ (by decide) rfl rfl (Nat.le_of_ble_eq_true rfl) ⟨Nat.zero_le _, Nat.zero_le _⟩ d_A_process_1 (fun r1 M2 h3 => ?_)
  have qh3 := h3.1.symm
  subst qh3
  obtain ⟨-, ⟨rfl, p4⟩ | ⟨rfl, p4⟩⟩ := h3
  · refine z_if_eq X 17 d_A_process_4 (by decide) (fun h => absurd h (by decide)) (fun _ => ?_)
    refine z_iload_n X 2 d_A_process_7 rfl rfl ?_
    refine z_iconst X (v := 0) d_A_process_8 (by decide) ?_
    refine z_bipush X (v := 9) d_A_process_9 (by decide) ?_
    refine z_Si X GG_ok cf_A_47 [zI b, zI 0, zI 9] [] (c_A_within l D cA ad _ _ _ _) ⟨rfl, rfl⟩ (by decide) rfl rfl (Nat.le_of_ble_eq_true rfl) ⟨Nat.zero_le _, Nat.zero_le _⟩ d_A_process_11 (fun r5 M6 h7 => ?_)
    have qh7 := h7.1.symm
    subst qh7
    obtain ⟨-, ⟨rfl, p8⟩ | ⟨rfl, p8⟩⟩ := h7
    · refine z_if_ne X 19 d_A_process_14 (by decide) (fun _ => ?_) (fun h => absurd h (by decide))
      refine z_iload_n X 3 d_A_process_19 rfl rfl ?_
      refine z_iconst X (v := 0) d_A_process_20 (by decide) ?_
      refine z_bipush X (v := 60) d_A_process_21 (by decide) ?_
      refine z_Si X GG_ok cf_A_47 [zI d, zI 0, zI 60] [] (c_A_within l D cA ad _ _ _ _) ⟨rfl, rfl⟩ (by decide) rfl rfl (Nat.le_of_ble_eq_true rfl) ⟨Nat.zero_le _, Nat.zero_le _⟩ d_A_process_23 (fun r9 M10 h11 => ?_)
      have qh11 := h11.1.symm
      subst qh11
      obtain ⟨-, ⟨rfl, p12⟩ | ⟨rfl, p12⟩⟩ := h11
      · refine z_if_eq X 47 d_A_process_26 (by decide) (fun h => absurd h (by decide)) (fun _ => ?_)
        refine z_iload X 4 d_A_process_29 rfl ?_
        refine z_iconst X (v := 0) d_A_process_31 (by decide) ?_
        refine z_bipush X (v := 60) d_A_process_32 (by decide) ?_
        refine z_Si X GG_ok cf_A_47 [zI q, zI 0, zI 60] [] (c_A_within l D cA ad _ _ _ _) ⟨rfl, rfl⟩ (by decide) rfl rfl (Nat.le_of_ble_eq_true rfl) ⟨Nat.zero_le _, Nat.zero_le _⟩ d_A_process_34 (fun r13 M14 h15 => ?_)
        have qh15 := h15.1.symm
        subst qh15
        obtain ⟨-, ⟨rfl, p16⟩ | ⟨rfl, p16⟩⟩ := h15
        · refine z_if_eq X 47 d_A_process_37 (by decide) (fun h => absurd h (by decide)) (fun _ => ?_)
          refine z_aload_n X 0 d_A_process_40 rfl rfl ?_
          refine z_Vi X GG_ok cf_A_51 0 [] [] (c_A_allOff l D cA ad _) ⟨rfl, rfl⟩ (by decide) e_A rfl rfl rfl rfl (Nat.le_of_ble_eq_true rfl) ⟨Nat.zero_le _, Nat.zero_le _⟩ d_A_process_41 (fun r17 M18 h19 => ?_)
          have qh19 := h19.1.symm
          subst qh19
          obtain ⟨-, ⟨rfl, p20⟩ | ⟨rfl, p20⟩⟩ := h19
          · refine z_if_ne X 49 d_A_process_44 (by decide) (fun _ => ?_) (fun h => absurd h (by decide))
            refine z_aload_n X 0 d_A_process_49 rfl rfl ?_
            refine z_get X fl_A_63 0 e_A rfl rfl d_A_process_50 ?_
            refine z_bipush X (v := 8) d_A_process_53 (by decide) ?_
            refine z_icmp_ne X 61 d_A_process_55 (by decide) (fun c_55 => ?_) (fun c_55 => ?_)
            · have hn8 : n < 8 := nI_n8 (kInv_n hI) (kInv_cnt hI ▸ c_55)
              refine z_aload_n X 0 d_A_process_61 rfl rfl ?_
              refine z_get X fl_A_25 0 e_A rfl rfl d_A_process_62 ?_
              refine z_aload_n X 0 d_A_process_65 rfl rfl ?_
              refine z_get X fl_A_63 0 e_A rfl rfl d_A_process_66 ?_
              refine z_aald X 8 e_TA rfl n (kInv_cnt hI) hn8 (by decide) (g_TA hn8) d_A_process_69 ?_
              refine z_iload_n X 1 d_A_process_70 rfl rfl ?_
              refine z_iload_n X 2 d_A_process_71 rfl rfl ?_
              refine z_iload_n X 3 d_A_process_72 rfl rfl ?_
              refine z_iload X 4 d_A_process_73 rfl ?_
              refine z_Vv X GG_ok cf_A_66 (9 + 4 * n) [zI a, zI b, zI d, zI q] [] (c_K_define l D cA ad _ n hn8 _ _ _ _) ⟨rfl, rfl⟩ (by decide) (e_K hn8) rfl rfl rfl rfl (Nat.le_of_ble_eq_true rfl) ⟨Nat.zero_le _, Nat.zero_le _⟩ d_A_process_75 (fun M22 h23 => ?_)
              have qh23 := h23.symm
              subst qh23
              refine z_aload_n X 0 d_A_process_78 rfl rfl ?_
              refine z_dup X d_A_process_79 rfl ?_
              refine z_get X fl_A_63 0 e_A rfl rfl d_A_process_80 ?_
              refine z_iconst X (v := 1) d_A_process_83 (by decide) ?_
              refine z_iadd X d_A_process_84 ?_
              refine z_puti X fl_A_63 0 e_A rfl rfl rfl d_A_process_85 ?_
              refine z_aload_n X 0 d_A_process_88 rfl rfl ?_
              refine z_get X fl_A_63 0 e_A rfl rfl d_A_process_89 ?_
              refine z_iconst X (v := 1) d_A_process_92 (by decide) ?_
              refine z_isub X d_A_process_93 ?_
              exact z_iret X (Or.inr (Or.inr ⟨⟨p4, p8, p12, p16, p20⟩, hn8, by unfold kProc; rw [kDef_0, kInv_cnt hI, nI_1], by rw [z_si_same, kDef_0, kInv_cnt hI]; exact (congrArg (fun z => z - 1) (nI_1 n)).trans (nI_pred n)⟩)) d_A_process_94
            · refine z_bipush X (v := (-2)) d_A_process_58 (by decide) ?_
              exact z_iret X (Or.inr (Or.inl ⟨⟨p4, p8, p12, p16, p20⟩, nI_8 (kInv_n hI) (kInv_cnt hI ▸ c_55), rfl, rfl⟩)) d_A_process_60
          · refine z_if_ne X 49 d_A_process_44 (by decide) (fun h => absurd h (by decide)) (fun _ => ?_)
            refine z_iconst X (v := (-1)) d_A_process_47 (by decide) ?_
            exact z_iret X (Or.inl ⟨fun q => p20 q.2.2.2.2, rfl, rfl⟩) d_A_process_48
        · refine z_if_eq X 47 d_A_process_37 (by decide) (fun _ => ?_) (fun h => absurd h (by decide))
          refine z_iconst X (v := (-1)) d_A_process_47 (by decide) ?_
          exact z_iret X (Or.inl ⟨fun q => p16 q.2.2.2.1, rfl, rfl⟩) d_A_process_48
      · refine z_if_eq X 47 d_A_process_26 (by decide) (fun _ => ?_) (fun h => absurd h (by decide))
        refine z_iconst X (v := (-1)) d_A_process_47 (by decide) ?_
        exact z_iret X (Or.inl ⟨fun q => p12 q.2.2.1, rfl, rfl⟩) d_A_process_48
    · refine z_if_ne X 19 d_A_process_14 (by decide) (fun h => absurd h (by decide)) (fun _ => ?_)
      refine z_iconst X (v := (-1)) d_A_process_17 (by decide) ?_
      exact z_iret X (Or.inl ⟨fun q => p8 q.2.1, rfl, rfl⟩) d_A_process_18
  · refine z_if_eq X 17 d_A_process_4 (by decide) (fun _ => ?_) (fun h => absurd h (by decide))
    refine z_iconst X (v := (-1)) d_A_process_17 (by decide) ?_
    exact z_iret X (Or.inl ⟨fun q => p4 q.1, rfl, rfl⟩) d_A_process_18

set_option maxHeartbeats 4000000 in
set_option maxRecDepth 100000 in
theorem c_A_order (l : Launch) (D : va_G) (cA : Nat → ClassId) (ad : Nat → Nat) (M : zM) (n w : Nat) (hI : kInv n w M) (a b d : Int32) : Ci l D cA ad y_A_order b_A_order 5 (some (.int)) (zr 2 43) [zR 0, zI a, zI b, zI d] M (fun r M' => (¬ kOkO a b d M ∧ M' = M ∧ r = (-1)) ∨ (kOkO a b d M ∧ kPs M a.toNatClampNeg = 8 ∧ M' = M ∧ r = (-2)) ∨ (kOkO a b d M ∧ kPs M a.toNatClampNeg < 8 ∧ M' = kGadd a.toNatClampNeg (kPs M a.toNatClampNeg) b d M ∧ r = nI (kPs M a.toNatClampNeg + 1))) := by
  refine zMi_of (plainFor_of_name (by decide)) (Nat.le_of_ble_eq_true rfl) ?_
  intro p e s m args below meth c A X
  refine z_aload_n X 0 d_A_order_0 rfl rfl ?_
  refine z_iload_n X 1 d_A_order_1 rfl rfl ?_
  refine z_Vi X GG_ok cf_A_70 0 [zI a] [] (c_A_isProcess l D cA ad _ _) ⟨rfl, rfl⟩ (by decide) e_A rfl rfl rfl rfl (Nat.le_of_ble_eq_true rfl) ⟨Nat.zero_le _, Nat.zero_le _⟩ d_A_order_2 (fun r1 M2 h3 => ?_)
  have qh3 := h3.1.symm
  subst qh3
  obtain ⟨-, ⟨rfl, p4⟩ | ⟨rfl, p4⟩⟩ := h3
  · refine z_if_eq X 23 d_A_order_5 (by decide) (fun h => absurd h (by decide)) (fun _ => ?_)
    refine z_iload_n X 2 d_A_order_8 rfl rfl ?_
    refine z_iload_n X 3 d_A_order_9 rfl rfl ?_
    refine z_Si X GG_ok cf_A_73 [zI b, zI d] [] (c_A_isOrder l D cA ad _ _ _) ⟨rfl, rfl⟩ (by decide) rfl rfl (Nat.le_of_ble_eq_true rfl) ⟨Nat.zero_le _, Nat.zero_le _⟩ d_A_order_10 (fun r5 M6 h7 => ?_)
    have qh7 := h7.1.symm
    subst qh7
    obtain ⟨-, ⟨rfl, p8⟩ | ⟨rfl, p8⟩⟩ := h7
    · refine z_if_eq X 23 d_A_order_13 (by decide) (fun h => absurd h (by decide)) (fun _ => ?_)
      refine z_aload_n X 0 d_A_order_16 rfl rfl ?_
      refine z_Vi X GG_ok cf_A_51 0 [] [] (c_A_allOff l D cA ad _) ⟨rfl, rfl⟩ (by decide) e_A rfl rfl rfl rfl (Nat.le_of_ble_eq_true rfl) ⟨Nat.zero_le _, Nat.zero_le _⟩ d_A_order_17 (fun r9 M10 h11 => ?_)
      have qh11 := h11.1.symm
      subst qh11
      obtain ⟨-, ⟨rfl, p12⟩ | ⟨rfl, p12⟩⟩ := h11
      · refine z_if_ne X 25 d_A_order_20 (by decide) (fun _ => ?_) (fun h => absurd h (by decide))
        have ha := kA_ok hI p4
        have ha8 : a.toNatClampNeg < 8 := Nat.lt_of_lt_of_le ha.2 (kInv_n hI)
        refine z_aload_n X 0 d_A_order_25 rfl rfl ?_
        refine z_get X fl_A_25 0 e_A rfl rfl d_A_order_26 ?_
        refine z_iload_n X 1 d_A_order_29 rfl rfl ?_
        refine z_aald X 8 e_TA rfl a.toNatClampNeg ha.1 ha8 (by decide) (g_TA ha8) d_A_order_30 ?_
        refine z_get X fl_A_77 (9 + 4 * a.toNatClampNeg) (e_K ha8) rfl rfl d_A_order_31 ?_
        refine z_astore X (L' := [(4, zR (10 + 4 * a.toNatClampNeg)), (0, zR 0), (1, zI a), (2, zI b), (3, zI d)]) d_A_order_34 (by decide) rfl ?_
        refine z_aload X 0 d_A_order_36 rfl ?_
        refine z_get X fl_A_81 (10 + 4 * a.toNatClampNeg) (e_G ha8) rfl rfl d_A_order_38 ?_
        refine z_bipush X (v := 8) d_A_order_41 (by decide) ?_
        refine z_icmp_ne X 49 d_A_order_43 (by decide) (fun c_43 => ?_) (fun c_43 => ?_)
        · have hz8 : kPs M a.toNatClampNeg < 8 := nI_n8 (kPs_le hI ha8) (kPs_eq hI ha8 ▸ c_43)
          refine z_aload X 0 d_A_order_49 rfl ?_
          refine z_iload_n X 3 d_A_order_51 rfl rfl ?_
          refine z_iload_n X 4 d_A_order_52 rfl rfl ?_
          refine z_Vv X GG_ok cf_A_84 (10 + 4 * a.toNatClampNeg) [zI b, zI d] [] (c_G_add l D cA ad _ a.toNatClampNeg ha8 (kPs M a.toNatClampNeg) hz8 (kPs_eq hI ha8) _ _) ⟨rfl, rfl⟩ (by decide) (e_G ha8) rfl rfl rfl rfl (Nat.le_of_ble_eq_true rfl) ⟨Nat.zero_le _, Nat.zero_le _⟩ d_A_order_53 (fun M14 h15 => ?_)
          have qh15 := h15.symm
          subst qh15
          refine z_aload X 0 d_A_order_56 rfl ?_
          refine z_get X fl_A_81 (10 + 4 * a.toNatClampNeg) (e_G ha8) rfl rfl d_A_order_58 ?_
          exact z_iret X (Or.inr (Or.inr ⟨⟨p4, p8, p12⟩, hz8, rfl, z_si_same _ _ _ _⟩)) d_A_order_61
        · refine z_bipush X (v := (-2)) d_A_order_46 (by decide) ?_
          exact z_iret X (Or.inr (Or.inl ⟨⟨p4, p8, p12⟩, nI_8 (kPs_le hI ha8) (kPs_eq hI ha8 ▸ c_43), rfl, rfl⟩)) d_A_order_48
      · refine z_if_ne X 25 d_A_order_20 (by decide) (fun h => absurd h (by decide)) (fun _ => ?_)
        refine z_iconst X (v := (-1)) d_A_order_23 (by decide) ?_
        exact z_iret X (Or.inl ⟨fun q => p12 q.2.2, rfl, rfl⟩) d_A_order_24
    · refine z_if_eq X 23 d_A_order_13 (by decide) (fun _ => ?_) (fun h => absurd h (by decide))
      refine z_iconst X (v := (-1)) d_A_order_23 (by decide) ?_
      exact z_iret X (Or.inl ⟨fun q => p8 q.2.1, rfl, rfl⟩) d_A_order_24
  · refine z_if_eq X 23 d_A_order_5 (by decide) (fun _ => ?_) (fun h => absurd h (by decide))
    refine z_iconst X (v := (-1)) d_A_order_23 (by decide) ?_
    exact z_iret X (Or.inl ⟨fun q => p4 q.1, rfl, rfl⟩) d_A_order_24

set_option maxHeartbeats 4000000 in
set_option maxRecDepth 100000 in
theorem c_A_action (l : Launch) (D : va_G) (cA : Nat → ClassId) (ad : Nat → Nat) (M : zM) (a b : Int32) : Ci l D cA ad y_A_action b_A_action 3 (some (.int)) (zr 2 42) [zR 0, zI a, zI b] M (fun r M' => (¬ ((0 ≤ a ∧ a ≤ 2) ∧ (0 ≤ b ∧ b ≤ 2)) ∧ M' = M ∧ r = (-1)) ∨ (((0 ≤ a ∧ a ≤ 2) ∧ (0 ≤ b ∧ b ≤ 2)) ∧ M' = z_si M (5 + a.toNatClampNeg) 1 b ∧ r = 0)) := by
  refine zMi_of (plainFor_of_name (by decide)) (Nat.le_of_ble_eq_true rfl) ?_
  intro p e s m args below meth c A X
  refine z_iload_n X 1 d_A_action_0 rfl rfl ?_
  refine z_Si X GG_ok cf_A_43 [zI a] [] (c_A_isPartition l D cA ad _ _) ⟨rfl, rfl⟩ (by decide) rfl rfl (Nat.le_of_ble_eq_true rfl) ⟨Nat.zero_le _, Nat.zero_le _⟩ d_A_action_1 (fun r1 M2 h3 => ?_)
  have qh3 := h3.1.symm
  subst qh3
  obtain ⟨-, ⟨rfl, p4⟩ | ⟨rfl, p4⟩⟩ := h3
  · refine z_if_eq X 16 d_A_action_4 (by decide) (fun h => absurd h (by decide)) (fun _ => ?_)
    refine z_iload_n X 2 d_A_action_7 rfl rfl ?_
    refine z_iconst X (v := 0) d_A_action_8 (by decide) ?_
    refine z_iconst X (v := 2) d_A_action_9 (by decide) ?_
    refine z_Si X GG_ok cf_A_47 [zI b, zI 0, zI 2] [] (c_A_within l D cA ad _ _ _ _) ⟨rfl, rfl⟩ (by decide) rfl rfl (Nat.le_of_ble_eq_true rfl) ⟨Nat.zero_le _, Nat.zero_le _⟩ d_A_action_10 (fun r5 M6 h7 => ?_)
    have qh7 := h7.1.symm
    subst qh7
    obtain ⟨-, ⟨rfl, p8⟩ | ⟨rfl, p8⟩⟩ := h7
    · refine z_if_ne X 18 d_A_action_13 (by decide) (fun _ => ?_) (fun h => absurd h (by decide))
      have ha := kC_ok p4
      refine z_aload_n X 0 d_A_action_18 rfl rfl ?_
      refine z_get X fl_A_18 0 e_A rfl rfl d_A_action_19 ?_
      refine z_iload_n X 1 d_A_action_22 rfl rfl ?_
      refine z_aald X 4 e_PA rfl a.toNatClampNeg ha.1 ha.2 (by decide) (g_PA ha.2) d_A_action_23 ?_
      refine z_iload_n X 2 d_A_action_24 rfl rfl ?_
      refine z_puti X fl_A_85 (5 + a.toNatClampNeg) (e_P ha.2) rfl rfl rfl d_A_action_25 ?_
      refine z_iconst X (v := 0) d_A_action_28 (by decide) ?_
      exact z_iret X (Or.inr ⟨⟨p4, p8⟩, rfl, rfl⟩) d_A_action_29
    · refine z_if_ne X 18 d_A_action_13 (by decide) (fun h => absurd h (by decide)) (fun _ => ?_)
      refine z_iconst X (v := (-1)) d_A_action_16 (by decide) ?_
      exact z_iret X (Or.inl ⟨fun q => p8 q.2, rfl, rfl⟩) d_A_action_17
  · refine z_if_eq X 16 d_A_action_4 (by decide) (fun _ => ?_) (fun h => absurd h (by decide))
    refine z_iconst X (v := (-1)) d_A_action_16 (by decide) ?_
    exact z_iret X (Or.inl ⟨fun q => p4 q.1, rfl, rfl⟩) d_A_action_17

set_option maxHeartbeats 4000000 in
set_option maxRecDepth 100000 in
theorem c_A_partition (l : Launch) (D : va_G) (cA : Nat → ClassId) (ad : Nat → Nat) (M : zM) (a : Int32) : Ci l D cA ad y_A_partition b_A_partition 2 (some (.int)) (zr 2 42) [zR 0, zI a] M (fun r M' => M' = M ∧ ((¬ (0 ≤ a ∧ a ≤ 2) ∧ r = (-1)) ∨ ((0 ≤ a ∧ a ≤ 2) ∧ r = M.1 (5 + a.toNatClampNeg) 0))) := by
  refine zMi_of (plainFor_of_name (by decide)) (Nat.le_of_ble_eq_true rfl) ?_
  intro p e s m args below meth c A X
  refine z_iload_n X 1 d_A_partition_0 rfl rfl ?_
  refine z_Si X GG_ok cf_A_43 [zI a] [] (c_A_isPartition l D cA ad _ _) ⟨rfl, rfl⟩ (by decide) rfl rfl (Nat.le_of_ble_eq_true rfl) ⟨Nat.zero_le _, Nat.zero_le _⟩ d_A_partition_1 (fun r1 M2 h3 => ?_)
  have qh3 := h3.1.symm
  subst qh3
  obtain ⟨-, ⟨rfl, p4⟩ | ⟨rfl, p4⟩⟩ := h3
  · refine z_if_eq X 19 d_A_partition_4 (by decide) (fun h => absurd h (by decide)) (fun _ => ?_)
    have ha := kC_ok p4
    refine z_aload_n X 0 d_A_partition_7 rfl rfl ?_
    refine z_get X fl_A_18 0 e_A rfl rfl d_A_partition_8 ?_
    refine z_iload_n X 1 d_A_partition_11 rfl rfl ?_
    refine z_aald X 4 e_PA rfl a.toNatClampNeg ha.1 ha.2 (by decide) (g_PA ha.2) d_A_partition_12 ?_
    refine z_get X fl_A_91 (5 + a.toNatClampNeg) (e_P ha.2) rfl rfl d_A_partition_13 ?_
    refine z_goto X 20 d_A_partition_16 (by decide) ?_
    exact z_iret X (⟨rfl, Or.inr ⟨p4, rfl⟩⟩) d_A_partition_20
  · refine z_if_eq X 19 d_A_partition_4 (by decide) (fun _ => ?_) (fun h => absurd h (by decide))
    refine z_iconst X (v := (-1)) d_A_partition_19 (by decide) ?_
    exact z_iret X (⟨rfl, Or.inl ⟨p4, rfl⟩⟩) d_A_partition_20

set_option maxHeartbeats 4000000 in
set_option maxRecDepth 100000 in
theorem c_A_state (l : Launch) (D : va_G) (cA : Nat → ClassId) (ad : Nat → Nat) (M : zM) (n w : Nat) (hI : kInv n w M) (a x : Int32) : Ci l D cA ad y_A_state b_A_state 3 (some (.int)) (zr 2 43) [zR 0, zI a, zI x] M (fun r M' => M' = M ∧ ((¬ (0 ≤ a ∧ a ≤ M.1 0 5 - 1) ∧ r = (-1)) ∨ ((0 ≤ a ∧ a ≤ M.1 0 5 - 1) ∧ r = kTell M a.toNatClampNeg x))) := by
  refine zMi_of (plainFor_of_name (by decide)) (Nat.le_of_ble_eq_true rfl) ?_
  intro p e s m args below meth c A X
  refine z_aload_n X 0 d_A_state_0 rfl rfl ?_
  refine z_iload_n X 1 d_A_state_1 rfl rfl ?_
  refine z_Vi X GG_ok cf_A_70 0 [zI a] [] (c_A_isProcess l D cA ad _ _) ⟨rfl, rfl⟩ (by decide) e_A rfl rfl rfl rfl (Nat.le_of_ble_eq_true rfl) ⟨Nat.zero_le _, Nat.zero_le _⟩ d_A_state_2 (fun r1 M2 h3 => ?_)
  have qh3 := h3.1.symm
  subst qh3
  obtain ⟨-, ⟨rfl, p4⟩ | ⟨rfl, p4⟩⟩ := h3
  · refine z_if_eq X 21 d_A_state_5 (by decide) (fun h => absurd h (by decide)) (fun _ => ?_)
    have ha := kA_ok hI p4
    have ha8 : a.toNatClampNeg < 8 := Nat.lt_of_lt_of_le ha.2 (kInv_n hI)
    refine z_aload_n X 0 d_A_state_8 rfl rfl ?_
    refine z_get X fl_A_25 0 e_A rfl rfl d_A_state_9 ?_
    refine z_iload_n X 1 d_A_state_12 rfl rfl ?_
    refine z_aald X 8 e_TA rfl a.toNatClampNeg ha.1 ha8 (by decide) (g_TA ha8) d_A_state_13 ?_
    refine z_iload_n X 2 d_A_state_14 rfl rfl ?_
    refine z_Vi X GG_ok cf_A_123 (9 + 4 * a.toNatClampNeg) [zI x] [] (c_K_tell l D cA ad _ a.toNatClampNeg ha8 _) ⟨rfl, rfl⟩ (by decide) (e_K ha8) rfl rfl rfl rfl (Nat.le_of_ble_eq_true rfl) ⟨Nat.zero_le _, Nat.zero_le _⟩ d_A_state_15 (fun r5 M6 h7 => ?_)
    have qh7 := h7.1.symm
    subst qh7
    obtain ⟨-, rfl⟩ := h7
    refine z_goto X 22 d_A_state_18 (by decide) ?_
    exact z_iret X (⟨rfl, Or.inr ⟨p4, rfl⟩⟩) d_A_state_22
  · refine z_if_eq X 21 d_A_state_5 (by decide) (fun _ => ?_) (fun h => absurd h (by decide))
    refine z_iconst X (v := (-1)) d_A_state_21 (by decide) ?_
    exact z_iret X (⟨rfl, Or.inl ⟨p4, rfl⟩⟩) d_A_state_22

set_option maxHeartbeats 4000000 in
set_option maxRecDepth 100000 in
theorem c_A_port (l : Launch) (D : va_G) (cA : Nat → ClassId) (ad : Nat → Nat) (M : zM) (a : Int32) : Ci l D cA ad y_A_port b_A_port 2 (some (.int)) (zr 1 22) [zR 0, zI a] M (fun r M' => M' = M ∧ ((¬ (0 ≤ a ∧ a ≤ 3) ∧ r = (-1)) ∨ ((0 ≤ a ∧ a ≤ 3) ∧ r = M.1 (42 + 2 * a.toNatClampNeg) 1))) := by
  refine zMi_of (plainFor_of_name (by decide)) (Nat.le_of_ble_eq_true rfl) ?_
  intro p e s m args below meth c A X
  refine z_iload_n X 1 d_A_port_0 rfl rfl ?_
  refine z_iconst X (v := 0) d_A_port_1 (by decide) ?_
  refine z_iconst X (v := 3) d_A_port_2 (by decide) ?_
  refine z_Si X GG_ok cf_A_47 [zI a, zI 0, zI 3] [] (c_A_within l D cA ad _ _ _ _) ⟨rfl, rfl⟩ (by decide) rfl rfl (Nat.le_of_ble_eq_true rfl) ⟨Nat.zero_le _, Nat.zero_le _⟩ d_A_port_3 (fun r1 M2 h3 => ?_)
  have qh3 := h3.1.symm
  subst qh3
  obtain ⟨-, ⟨rfl, p4⟩ | ⟨rfl, p4⟩⟩ := h3
  · refine z_if_eq X 21 d_A_port_6 (by decide) (fun h => absurd h (by decide)) (fun _ => ?_)
    have ha := kQ_ok p4
    refine z_aload_n X 0 d_A_port_9 rfl rfl ?_
    refine z_get X fl_A_34 0 e_A rfl rfl d_A_port_10 ?_
    refine z_iload_n X 1 d_A_port_13 rfl rfl ?_
    refine z_aald X 41 e_OA rfl a.toNatClampNeg ha.1 ha.2 (by decide) (g_OA ha.2) d_A_port_14 ?_
    refine z_get X fl_A_127 (42 + 2 * a.toNatClampNeg) (e_O ha.2) rfl rfl d_A_port_15 ?_
    refine z_goto X 22 d_A_port_18 (by decide) ?_
    exact z_iret X (⟨rfl, Or.inr ⟨p4, rfl⟩⟩) d_A_port_22
  · refine z_if_eq X 21 d_A_port_6 (by decide) (fun _ => ?_) (fun h => absurd h (by decide))
    refine z_iconst X (v := (-1)) d_A_port_21 (by decide) ?_
    exact z_iret X (⟨rfl, Or.inl ⟨p4, rfl⟩⟩) d_A_port_22

set_option maxHeartbeats 4000000 in
set_option maxRecDepth 100000 in
theorem c_A_semaphore (l : Launch) (D : va_G) (cA : Nat → ClassId) (ad : Nat → Nat) (M : zM) (a : Int32) : Ci l D cA ad y_A_semaphore b_A_semaphore 2 (some (.int)) (zr 1 22) [zR 0, zI a] M (fun r M' => M' = M ∧ ((¬ (0 ≤ a ∧ a ≤ 3) ∧ r = (-1)) ∨ ((0 ≤ a ∧ a ≤ 3) ∧ r = M.1 50 a.toNatClampNeg))) := by
  refine zMi_of (plainFor_of_name (by decide)) (Nat.le_of_ble_eq_true rfl) ?_
  intro p e s m args below meth c A X
  refine z_iload_n X 1 d_A_semaphore_0 rfl rfl ?_
  refine z_iconst X (v := 0) d_A_semaphore_1 (by decide) ?_
  refine z_iconst X (v := 3) d_A_semaphore_2 (by decide) ?_
  refine z_Si X GG_ok cf_A_47 [zI a, zI 0, zI 3] [] (c_A_within l D cA ad _ _ _ _) ⟨rfl, rfl⟩ (by decide) rfl rfl (Nat.le_of_ble_eq_true rfl) ⟨Nat.zero_le _, Nat.zero_le _⟩ d_A_semaphore_3 (fun r1 M2 h3 => ?_)
  have qh3 := h3.1.symm
  subst qh3
  obtain ⟨-, ⟨rfl, p4⟩ | ⟨rfl, p4⟩⟩ := h3
  · refine z_if_eq X 18 d_A_semaphore_6 (by decide) (fun h => absurd h (by decide)) (fun _ => ?_)
    have ha := kQ_ok p4
    refine z_aload_n X 0 d_A_semaphore_9 rfl rfl ?_
    refine z_get X fl_A_39 0 e_A rfl rfl d_A_semaphore_10 ?_
    refine z_iload_n X 1 d_A_semaphore_13 rfl rfl ?_
    refine z_iald X 50 e_Se rfl a.toNatClampNeg ha.1 ha.2 (by decide) d_A_semaphore_14 ?_
    refine z_goto X 19 d_A_semaphore_15 (by decide) ?_
    exact z_iret X (⟨rfl, Or.inr ⟨p4, rfl⟩⟩) d_A_semaphore_19
  · refine z_if_eq X 18 d_A_semaphore_6 (by decide) (fun _ => ?_) (fun h => absurd h (by decide))
    refine z_iconst X (v := (-1)) d_A_semaphore_18 (by decide) ?_
    exact z_iret X (⟨rfl, Or.inl ⟨p4, rfl⟩⟩) d_A_semaphore_19

set_option maxHeartbeats 4000000 in
set_option maxRecDepth 100000 in
theorem c_A_start (l : Launch) (D : va_G) (cA : Nat → ClassId) (ad : Nat → Nat) (M : zM) (n w : Nat) (hI : kInv n w M) (a : Int32) : Ci l D cA ad y_A_start b_A_start 3 (some (.int)) (zr 3 67) [zR 0, zI a] M (fun r M' => (¬ kOkS n a M ∧ M' = M ∧ r = (-1)) ∨ (kOkS n a M ∧ M' = kRel a.toNatClampNeg (M.1 0 6) (M.2 0 9 + 1) (kTurn M) ∧ r = 0)) := by
  refine zMi_of (plainFor_of_name (by decide)) (Nat.le_of_ble_eq_true rfl) ?_
  intro p e s m args below meth c A X
  refine z_aload_n X 0 d_A_start_0 rfl rfl ?_
  refine z_iload_n X 1 d_A_start_1 rfl rfl ?_
  refine z_Vi X GG_ok cf_A_70 0 [zI a] [] (c_A_isProcess l D cA ad _ _) ⟨rfl, rfl⟩ (by decide) e_A rfl rfl rfl rfl (Nat.le_of_ble_eq_true rfl) ⟨Nat.zero_le _, Nat.zero_le _⟩ d_A_start_2 (fun r1 M2 h3 => ?_)
  have qh3 := h3.1.symm
  subst qh3
  obtain ⟨-, ⟨rfl, p4⟩ | ⟨rfl, p4⟩⟩ := h3
  · refine z_if_ne X 10 d_A_start_5 (by decide) (fun _ => ?_) (fun h => absurd h (by decide))
    have ha := kA_ok hI p4
    have ha8 : a.toNatClampNeg < 8 := Nat.lt_of_lt_of_le ha.2 (kInv_n hI)
    refine z_aload_n X 0 d_A_start_10 rfl rfl ?_
    refine z_get X fl_A_25 0 e_A rfl rfl d_A_start_11 ?_
    refine z_iload_n X 1 d_A_start_14 rfl rfl ?_
    refine z_aald X 8 e_TA rfl a.toNatClampNeg ha.1 ha8 (by decide) (g_TA ha8) d_A_start_15 ?_
    refine z_astore_n X (L' := [(2, zR (9 + 4 * a.toNatClampNeg)), (0, zR 0), (1, zI a)]) d_A_start_16 rfl (by decide) rfl ?_
    refine z_aload_n X 0 d_A_start_17 rfl rfl ?_
    refine z_get X fl_A_100 (9 + 4 * a.toNatClampNeg) (e_K ha8) rfl rfl d_A_start_18 ?_
    refine z_if_gt X 42 d_A_start_21 (by decide) (fun c_21 => ?_) (fun c_21 => ?_)
    · refine z_iconst X (v := (-1)) d_A_start_42 (by decide) ?_
      exact z_iret X (Or.inl ⟨fun q => q.2.1 c_21, rfl, rfl⟩) d_A_start_43
    · refine z_aload_n X 0 d_A_start_24 rfl rfl ?_
      refine z_get X fl_A_109 (9 + 4 * a.toNatClampNeg) (e_K ha8) rfl rfl d_A_start_25 ?_
      refine z_if_ne X 42 d_A_start_28 (by decide) (fun c_28 => ?_) (fun c_28 => ?_)
      · refine z_iconst X (v := (-1)) d_A_start_42 (by decide) ?_
        exact z_iret X (Or.inl ⟨fun q => c_28 q.2.2.1, rfl, rfl⟩) d_A_start_43
      · refine z_aload_n X 1 d_A_start_31 rfl rfl ?_
        refine z_aload_n X 0 d_A_start_32 rfl rfl ?_
        refine z_get X fl_A_97 (9 + 4 * a.toNatClampNeg) (e_K ha8) rfl rfl d_A_start_33 ?_
        refine z_Vi X GG_ok cf_A_88 0 [zI (M.1 (9 + 4 * a.toNatClampNeg) 2)] [] (c_A_isOn l D cA ad _ _ (kPt M a.toNatClampNeg) (kPt_lt hI ha8) (kPt_eq hI ha8)) ⟨rfl, rfl⟩ (by decide) e_A rfl rfl rfl rfl (Nat.le_of_ble_eq_true rfl) ⟨Nat.zero_le _, Nat.zero_le _⟩ d_A_start_36 (fun r5 M6 h7 => ?_)
        have qh7 := h7.1.symm
        subst qh7
        obtain ⟨-, ⟨rfl, p8⟩ | ⟨rfl, p8⟩⟩ := h7
        · refine z_if_ne X 44 d_A_start_39 (by decide) (fun _ => ?_) (fun h => absurd h (by decide))
          refine z_aload_n X 0 d_A_start_44 rfl rfl ?_
          refine z_aload_n X 1 d_A_start_45 rfl rfl ?_
          refine z_get X fl_A_103 0 e_A rfl rfl d_A_start_46 ?_
          refine z_aload_n X 1 d_A_start_49 rfl rfl ?_
          refine z_Vj X GG_ok cf_A_112 0 [] [zI (M.1 0 6), zR (9 + 4 * a.toNatClampNeg)] (c_A_newTurn l D cA ad _) ⟨rfl, rfl⟩ (by decide) e_A rfl rfl rfl rfl (Nat.le_of_ble_eq_true rfl) ⟨Nat.zero_le _, Nat.zero_le _⟩ d_A_start_50 (fun r9 M10 h11 => ?_)
          have qh11 := h11.1.symm
          subst qh11
          obtain ⟨-, rfl⟩ := h11
          refine z_Vv X GG_ok cf_A_116 (9 + 4 * a.toNatClampNeg) [zI (M.1 0 6), zJ (M.2 0 9 + 1)] [] (c_K_release l D cA ad _ a.toNatClampNeg ha8 _ _) ⟨rfl, rfl⟩ (by decide) (e_K ha8) rfl rfl rfl rfl (Nat.le_of_ble_eq_true rfl) ⟨Nat.zero_le _, Nat.zero_le _⟩ d_A_start_53 (fun M13 h14 => ?_)
          have qh14 := h14.symm
          subst qh14
          refine z_iconst X (v := 0) d_A_start_56 (by decide) ?_
          exact z_iret X (Or.inr ⟨⟨p4, c_21, c_28, p8⟩, rfl, rfl⟩) d_A_start_57
        · refine z_if_ne X 44 d_A_start_39 (by decide) (fun h => absurd h (by decide)) (fun _ => ?_)
          refine z_iconst X (v := (-1)) d_A_start_42 (by decide) ?_
          exact z_iret X (Or.inl ⟨fun q => p8 q.2.2.2, rfl, rfl⟩) d_A_start_43
  · refine z_if_ne X 10 d_A_start_5 (by decide) (fun h => absurd h (by decide)) (fun _ => ?_)
    refine z_iconst X (v := (-1)) d_A_start_8 (by decide) ?_
    exact z_iret X (Or.inl ⟨fun q => p4 q.1, rfl, rfl⟩) d_A_start_9

set_option maxHeartbeats 4000000 in
set_option maxRecDepth 100000 in
theorem c_A_count (l : Launch) (D : va_G) (cA : Nat → ClassId) (ad : Nat → Nat) (M : zM) (n w : Nat) (hI : kInv n w M) (x : Int32) : Ci l D cA ad y_A_count b_A_count 2 (some (.int)) (zr 3 64) [zR 0, zI x] M (fun r M' => M' = M ∧ r = kCount n w x M) := by
  refine zMi_of (plainFor_of_name (by decide)) (Nat.le_of_ble_eq_true rfl) ?_
  intro p e s m args below meth c A X
  refine z_iload_n X 1 d_A_count_0 rfl rfl ?_
  by_cases s1_0 : x = 0
  · refine z_tabIn X 44 d_A_count_1 (by rw [s1_0]; decide) (by rw [s1_0]; decide) (by rw [s1_0]; rfl) (by decide) ?_
    refine z_aload_n X 0 d_A_count_44 rfl rfl ?_
    refine z_get X fl_A_103 0 e_A rfl rfl d_A_count_45 ?_
    exact z_iret X (⟨rfl, by rw [kCount, if_pos s1_0]⟩) d_A_count_48
  by_cases s1_1 : x = 1
  · refine z_tabIn X 49 d_A_count_1 (by rw [s1_1]; decide) (by rw [s1_1]; decide) (by rw [s1_1]; rfl) (by decide) ?_
    refine z_aload_n X 0 d_A_count_49 rfl rfl ?_
    refine z_get X fl_A_10 0 e_A rfl rfl d_A_count_50 ?_
    refine z_get X fl_A_55 1 e_Wr rfl rfl d_A_count_53 ?_
    refine z_if_ne X 63 d_A_count_56 (by decide) (fun c_56 => ?_) (fun c_56 => ?_)
    · refine z_aload_n X 0 d_A_count_63 rfl rfl ?_
      refine z_get X fl_A_10 0 e_A rfl rfl d_A_count_64 ?_
      refine z_aload_n X 0 d_A_count_67 rfl rfl ?_
      refine z_get X fl_A_103 0 e_A rfl rfl d_A_count_68 ?_
      refine z_Vi X GG_ok cf_A_128 1 [zI (M.1 0 6)] [] (c_Wr_partitionAt l D cA ad _ w hI.1.2.1 hI.1.2.2.2.1 hI.1.2.2.2.2.1 _) ⟨rfl, rfl⟩ (by decide) e_Wr rfl rfl rfl rfl (Nat.le_of_ble_eq_true rfl) ⟨Nat.zero_le _, Nat.zero_le _⟩ d_A_count_71 (fun r2 M3 h4 => ?_)
      have qh4 := h4.1.symm
      subst qh4
      obtain ⟨-, rfl⟩ := h4
      exact z_iret X (⟨rfl, by rw [kCount, if_neg s1_0, if_pos s1_1]⟩) d_A_count_74
    · refine z_iconst X (v := (-1)) d_A_count_59 (by decide) ?_
      refine z_goto X 74 d_A_count_60 (by decide) ?_
      exact z_iret X (⟨rfl, by rw [kCount, if_neg s1_0, if_pos s1_1, kPartAt, if_pos (nI_z (Nat.lt_of_le_of_lt hI.1.2.1 (by decide)) (hI.1.2.2.2.1 ▸ c_56))]⟩) d_A_count_74
  by_cases s1_2 : x = 2
  · refine z_tabIn X 75 d_A_count_1 (by rw [s1_2]; decide) (by rw [s1_2]; decide) (by rw [s1_2]; rfl) (by decide) ?_
    refine z_aload_n X 0 d_A_count_75 rfl rfl ?_
    refine z_get X fl_A_10 0 e_A rfl rfl d_A_count_76 ?_
    refine z_get X fl_A_55 1 e_Wr rfl rfl d_A_count_79 ?_
    refine z_if_ne X 89 d_A_count_82 (by decide) (fun c_82 => ?_) (fun c_82 => ?_)
    · refine z_aload_n X 0 d_A_count_89 rfl rfl ?_
      refine z_get X fl_A_10 0 e_A rfl rfl d_A_count_90 ?_
      refine z_aload_n X 0 d_A_count_93 rfl rfl ?_
      refine z_get X fl_A_103 0 e_A rfl rfl d_A_count_94 ?_
      refine z_Vi X GG_ok cf_A_131 1 [zI (M.1 0 6)] [] (c_Wr_leftAt l D cA ad _ w hI.1.2.1 hI.1.2.2.2.1 hI.1.2.2.2.2.1 _) ⟨rfl, rfl⟩ (by decide) e_Wr rfl rfl rfl rfl (Nat.le_of_ble_eq_true rfl) ⟨Nat.zero_le _, Nat.zero_le _⟩ d_A_count_97 (fun r5 M6 h7 => ?_)
      have qh7 := h7.1.symm
      subst qh7
      obtain ⟨-, rfl⟩ := h7
      exact z_iret X (⟨rfl, by rw [kCount, if_neg s1_0, if_neg s1_1, if_pos s1_2, if_neg (fun q => c_82 (by rw [hI.1.2.2.2.1, q]; rfl))]⟩) d_A_count_100
    · refine z_iconst X (v := (-1)) d_A_count_85 (by decide) ?_
      refine z_goto X 100 d_A_count_86 (by decide) ?_
      exact z_iret X (⟨rfl, by rw [kCount, if_neg s1_0, if_neg s1_1, if_pos s1_2, if_pos (nI_z (Nat.lt_of_le_of_lt hI.1.2.1 (by decide)) (hI.1.2.2.2.1 ▸ c_82))]⟩) d_A_count_100
  by_cases s1_3 : x = 3
  · refine z_tabIn X 101 d_A_count_1 (by rw [s1_3]; decide) (by rw [s1_3]; decide) (by rw [s1_3]; rfl) (by decide) ?_
    refine z_aload_n X 0 d_A_count_101 rfl rfl ?_
    refine z_get X fl_A_134 0 e_A rfl rfl d_A_count_102 ?_
    exact z_iret X (⟨rfl, by rw [kCount, if_neg s1_0, if_neg s1_1, if_neg s1_2, if_pos s1_3]⟩) d_A_count_105
  by_cases s1_4 : x = 4
  · refine z_tabIn X 106 d_A_count_1 (by rw [s1_4]; decide) (by rw [s1_4]; decide) (by rw [s1_4]; rfl) (by decide) ?_
    refine z_aload_n X 0 d_A_count_106 rfl rfl ?_
    refine z_get X fl_A_137 0 e_A rfl rfl d_A_count_107 ?_
    exact z_iret X (⟨rfl, by rw [kCount, if_neg s1_0, if_neg s1_1, if_neg s1_2, if_neg s1_3, if_pos s1_4]⟩) d_A_count_110
  by_cases s1_5 : x = 5
  · refine z_tabIn X 111 d_A_count_1 (by rw [s1_5]; decide) (by rw [s1_5]; decide) (by rw [s1_5]; rfl) (by decide) ?_
    refine z_aload_n X 0 d_A_count_111 rfl rfl ?_
    refine z_get X fl_A_63 0 e_A rfl rfl d_A_count_112 ?_
    exact z_iret X (⟨rfl, by rw [kCount, if_neg s1_0, if_neg s1_1, if_neg s1_2, if_neg s1_3, if_neg s1_4, if_pos s1_5]; exact kInv_cnt hI⟩) d_A_count_115
  by_cases s1_6 : x = 6
  · refine z_tabIn X 116 d_A_count_1 (by rw [s1_6]; decide) (by rw [s1_6]; decide) (by rw [s1_6]; rfl) (by decide) ?_
    refine z_aload_n X 0 d_A_count_116 rfl rfl ?_
    refine z_get X fl_A_10 0 e_A rfl rfl d_A_count_117 ?_
    refine z_get X fl_A_55 1 e_Wr rfl rfl d_A_count_120 ?_
    exact z_iret X (⟨rfl, by rw [kCount, if_neg s1_0, if_neg s1_1, if_neg s1_2, if_neg s1_3, if_neg s1_4, if_neg s1_5, if_pos s1_6]; exact hI.1.2.2.2.1⟩) d_A_count_123
  refine z_tabOut X 124 d_A_count_1 (by have q0 := lv_neT s1_0 (k := 0) (a := 0) (by decide); have q1 := lv_neT s1_1 (k := 1) (a := 1) (by decide); have q2 := lv_neT s1_2 (k := 2) (a := 2) (by decide); have q3 := lv_neT s1_3 (k := 3) (a := 3) (by decide); have q4 := lv_neT s1_4 (k := 4) (a := 4) (by decide); have q5 := lv_neT s1_5 (k := 5) (a := 5) (by decide); have q6 := lv_neT s1_6 (k := 6) (a := 6) (by decide); omega) (by decide) ?_
  refine z_iconst X (v := (-1)) d_A_count_124 (by decide) ?_
  exact z_iret X (⟨rfl, by rw [kCount, if_neg s1_0, if_neg s1_1, if_neg s1_2, if_neg s1_3, if_neg s1_4, if_neg s1_5, if_neg s1_6]⟩) d_A_count_125
