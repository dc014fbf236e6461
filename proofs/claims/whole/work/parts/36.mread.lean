set_option maxHeartbeats 4000000 in
set_option maxRecDepth 100000 in
theorem c_B_action (l : Launch) (D : va_G) (cA : Nat → ClassId) (ad : Nat → Nat) (M : zM) (a b : Int32) : Ci l D cA ad y_B_action b_B_action 3 (some (.int)) (zr 1 22) [zR 51, zI a, zI b] M (fun r M' => (¬ ((0 ≤ a ∧ a ≤ 2) ∧ (0 ≤ b ∧ b ≤ 2)) ∧ M' = M ∧ r = (-1)) ∨ (((0 ≤ a ∧ a ≤ 2) ∧ (0 ≤ b ∧ b ≤ 2)) ∧ M' = z_si M 55 a.toNatClampNeg b ∧ r = 0)) := by
  refine zMi_of (plainFor_of_name (by decide)) (Nat.le_of_ble_eq_true rfl) ?_
  intro p e s m args below meth c A X
  refine z_iload_n X 1 d_B_action_0 rfl rfl ?_
  refine z_iconst X (v := 0) d_B_action_1 (by decide) ?_
  refine z_iconst X (v := 2) d_B_action_2 (by decide) ?_
  refine z_Si X GG_ok cf_B_85 [zI a, zI 0, zI 2] [] (c_B_in l D cA ad _ _ _ _) ⟨rfl, rfl⟩ (by decide) rfl rfl (Nat.le_of_ble_eq_true rfl) ⟨Nat.zero_le _, Nat.zero_le _⟩ d_B_action_3 (fun r1 M2 h3 => ?_)
  have qh3 := h3.1.symm
  subst qh3
  obtain ⟨-, ⟨rfl, p4⟩ | ⟨rfl, p4⟩⟩ := h3
  · refine z_if_eq X 18 d_B_action_6 (by decide) (fun h => absurd h (by decide)) (fun _ => ?_)
    refine z_iload_n X 2 d_B_action_9 rfl rfl ?_
    refine z_iconst X (v := 0) d_B_action_10 (by decide) ?_
    refine z_iconst X (v := 2) d_B_action_11 (by decide) ?_
    refine z_Si X GG_ok cf_B_85 [zI b, zI 0, zI 2] [] (c_B_in l D cA ad _ _ _ _) ⟨rfl, rfl⟩ (by decide) rfl rfl (Nat.le_of_ble_eq_true rfl) ⟨Nat.zero_le _, Nat.zero_le _⟩ d_B_action_12 (fun r5 M6 h7 => ?_)
    have qh7 := h7.1.symm
    subst qh7
    obtain ⟨-, ⟨rfl, p8⟩ | ⟨rfl, p8⟩⟩ := h7
    · refine z_if_ne X 20 d_B_action_15 (by decide) (fun _ => ?_) (fun h => absurd h (by decide))
      have ha := kC_ok p4
      refine z_aload_n X 0 d_B_action_20 rfl rfl ?_
      refine z_get X fl_B_19 51 e_B rfl rfl d_B_action_21 ?_
      refine z_iload_n X 1 d_B_action_24 rfl rfl ?_
      refine z_iload_n X 2 d_B_action_25 rfl rfl ?_
      refine z_iast X 55 e_B_action rfl a.toNatClampNeg ha.1 ha.2 (by decide) d_B_action_26 ?_
      refine z_iconst X (v := 0) d_B_action_27 (by decide) ?_
      exact z_iret X (Or.inr ⟨⟨p4, p8⟩, rfl, rfl⟩) d_B_action_28
    · refine z_if_ne X 20 d_B_action_15 (by decide) (fun h => absurd h (by decide)) (fun _ => ?_)
      refine z_iconst X (v := (-1)) d_B_action_18 (by decide) ?_
      exact z_iret X (Or.inl ⟨fun q => p8 q.2, rfl, rfl⟩) d_B_action_19
  · refine z_if_eq X 18 d_B_action_6 (by decide) (fun _ => ?_) (fun h => absurd h (by decide))
    refine z_iconst X (v := (-1)) d_B_action_18 (by decide) ?_
    exact z_iret X (Or.inl ⟨fun q => p4 q.1, rfl, rfl⟩) d_B_action_19

set_option maxHeartbeats 4000000 in
set_option maxRecDepth 100000 in
theorem c_B_partition (l : Launch) (D : va_G) (cA : Nat → ClassId) (ad : Nat → Nat) (M : zM) (a : Int32) : Ci l D cA ad y_B_partition b_B_partition 2 (some (.int)) (zr 1 22) [zR 51, zI a] M (fun r M' => M' = M ∧ ((¬ (0 ≤ a ∧ a ≤ 2) ∧ r = (-1)) ∨ ((0 ≤ a ∧ a ≤ 2) ∧ r = M.1 54 a.toNatClampNeg))) := by
  refine zMi_of (plainFor_of_name (by decide)) (Nat.le_of_ble_eq_true rfl) ?_
  intro p e s m args below meth c A X
  refine z_iload_n X 1 d_B_partition_0 rfl rfl ?_
  refine z_iconst X (v := 0) d_B_partition_1 (by decide) ?_
  refine z_iconst X (v := 2) d_B_partition_2 (by decide) ?_
  refine z_Si X GG_ok cf_B_85 [zI a, zI 0, zI 2] [] (c_B_in l D cA ad _ _ _ _) ⟨rfl, rfl⟩ (by decide) rfl rfl (Nat.le_of_ble_eq_true rfl) ⟨Nat.zero_le _, Nat.zero_le _⟩ d_B_partition_3 (fun r1 M2 h3 => ?_)
  have qh3 := h3.1.symm
  subst qh3
  obtain ⟨-, ⟨rfl, p4⟩ | ⟨rfl, p4⟩⟩ := h3
  · refine z_if_eq X 18 d_B_partition_6 (by decide) (fun h => absurd h (by decide)) (fun _ => ?_)
    have ha := kC_ok p4
    refine z_aload_n X 0 d_B_partition_9 rfl rfl ?_
    refine z_get X fl_B_16 51 e_B rfl rfl d_B_partition_10 ?_
    refine z_iload_n X 1 d_B_partition_13 rfl rfl ?_
    refine z_iald X 54 e_B_state rfl a.toNatClampNeg ha.1 ha.2 (by decide) d_B_partition_14 ?_
    refine z_goto X 19 d_B_partition_15 (by decide) ?_
    exact z_iret X (⟨rfl, Or.inr ⟨p4, rfl⟩⟩) d_B_partition_19
  · refine z_if_eq X 18 d_B_partition_6 (by decide) (fun _ => ?_) (fun h => absurd h (by decide))
    refine z_iconst X (v := (-1)) d_B_partition_18 (by decide) ?_
    exact z_iret X (⟨rfl, Or.inl ⟨p4, rfl⟩⟩) d_B_partition_19

set_option maxHeartbeats 4000000 in
set_option maxRecDepth 100000 in
theorem c_B_port (l : Launch) (D : va_G) (cA : Nat → ClassId) (ad : Nat → Nat) (M : zM) (a : Int32) : Ci l D cA ad y_B_port b_B_port 2 (some (.int)) (zr 1 22) [zR 51, zI a] M (fun r M' => M' = M ∧ ((¬ (0 ≤ a ∧ a ≤ 3) ∧ r = (-1)) ∨ ((0 ≤ a ∧ a ≤ 3) ∧ r = M.1 75 a.toNatClampNeg))) := by
  refine zMi_of (plainFor_of_name (by decide)) (Nat.le_of_ble_eq_true rfl) ?_
  intro p e s m args below meth c A X
  refine z_iload_n X 1 d_B_port_0 rfl rfl ?_
  refine z_iconst X (v := 0) d_B_port_1 (by decide) ?_
  refine z_iconst X (v := 3) d_B_port_2 (by decide) ?_
  refine z_Si X GG_ok cf_B_85 [zI a, zI 0, zI 3] [] (c_B_in l D cA ad _ _ _ _) ⟨rfl, rfl⟩ (by decide) rfl rfl (Nat.le_of_ble_eq_true rfl) ⟨Nat.zero_le _, Nat.zero_le _⟩ d_B_port_3 (fun r1 M2 h3 => ?_)
  have qh3 := h3.1.symm
  subst qh3
  obtain ⟨-, ⟨rfl, p4⟩ | ⟨rfl, p4⟩⟩ := h3
  · refine z_if_eq X 18 d_B_port_6 (by decide) (fun h => absurd h (by decide)) (fun _ => ?_)
    have ha := kQ_ok p4
    refine z_aload_n X 0 d_B_port_9 rfl rfl ?_
    refine z_get X fl_B_79 51 e_B rfl rfl d_B_port_10 ?_
    refine z_iload_n X 1 d_B_port_13 rfl rfl ?_
    refine z_iald X 75 e_B_messages rfl a.toNatClampNeg ha.1 ha.2 (by decide) d_B_port_14 ?_
    refine z_goto X 19 d_B_port_15 (by decide) ?_
    exact z_iret X (⟨rfl, Or.inr ⟨p4, rfl⟩⟩) d_B_port_19
  · refine z_if_eq X 18 d_B_port_6 (by decide) (fun _ => ?_) (fun h => absurd h (by decide))
    refine z_iconst X (v := (-1)) d_B_port_18 (by decide) ?_
    exact z_iret X (⟨rfl, Or.inl ⟨p4, rfl⟩⟩) d_B_port_19

set_option maxHeartbeats 4000000 in
set_option maxRecDepth 100000 in
theorem c_B_semaphore (l : Launch) (D : va_G) (cA : Nat → ClassId) (ad : Nat → Nat) (M : zM) (a : Int32) : Ci l D cA ad y_B_semaphore b_B_semaphore 2 (some (.int)) (zr 1 22) [zR 51, zI a] M (fun r M' => M' = M ∧ ((¬ (0 ≤ a ∧ a ≤ 3) ∧ r = (-1)) ∨ ((0 ≤ a ∧ a ≤ 3) ∧ r = M.1 76 a.toNatClampNeg))) := by
  refine zMi_of (plainFor_of_name (by decide)) (Nat.le_of_ble_eq_true rfl) ?_
  intro p e s m args below meth c A X
  refine z_iload_n X 1 d_B_semaphore_0 rfl rfl ?_
  refine z_iconst X (v := 0) d_B_semaphore_1 (by decide) ?_
  refine z_iconst X (v := 3) d_B_semaphore_2 (by decide) ?_
  refine z_Si X GG_ok cf_B_85 [zI a, zI 0, zI 3] [] (c_B_in l D cA ad _ _ _ _) ⟨rfl, rfl⟩ (by decide) rfl rfl (Nat.le_of_ble_eq_true rfl) ⟨Nat.zero_le _, Nat.zero_le _⟩ d_B_semaphore_3 (fun r1 M2 h3 => ?_)
  have qh3 := h3.1.symm
  subst qh3
  obtain ⟨-, ⟨rfl, p4⟩ | ⟨rfl, p4⟩⟩ := h3
  · refine z_if_eq X 18 d_B_semaphore_6 (by decide) (fun h => absurd h (by decide)) (fun _ => ?_)
    have ha := kQ_ok p4
    refine z_aload_n X 0 d_B_semaphore_9 rfl rfl ?_
    refine z_get X fl_B_82 51 e_B rfl rfl d_B_semaphore_10 ?_
    refine z_iload_n X 1 d_B_semaphore_13 rfl rfl ?_
    refine z_iald X 76 e_B_count rfl a.toNatClampNeg ha.1 ha.2 (by decide) d_B_semaphore_14 ?_
    refine z_goto X 19 d_B_semaphore_15 (by decide) ?_
    exact z_iret X (⟨rfl, Or.inr ⟨p4, rfl⟩⟩) d_B_semaphore_19
  · refine z_if_eq X 18 d_B_semaphore_6 (by decide) (fun _ => ?_) (fun h => absurd h (by decide))
    refine z_iconst X (v := (-1)) d_B_semaphore_18 (by decide) ?_
    exact z_iret X (⟨rfl, Or.inl ⟨p4, rfl⟩⟩) d_B_semaphore_19

set_option maxHeartbeats 4000000 in
set_option maxRecDepth 100000 in
theorem c_B_state (l : Launch) (D : va_G) (cA : Nat → ClassId) (ad : Nat → Nat) (M : zM) (n w : Nat) (hI : mInv n w M) (a x : Int32) : Ci l D cA ad y_B_state b_B_state 3 (some (.int)) (zr 1 22) [zR 51, zI a, zI x] M (fun r M' => M' = M ∧ ((¬ (0 ≤ a ∧ a ≤ M.1 51 5 - 1) ∧ r = (-1)) ∨ ((0 ≤ a ∧ a ≤ M.1 51 5 - 1) ∧ r = mTell M a.toNatClampNeg x))) := by
  refine zMi_of (plainFor_of_name (by decide)) (Nat.le_of_ble_eq_true rfl) ?_
  intro p e s m args below meth c A X
  refine z_iload_n X 1 d_B_state_0 rfl rfl ?_
  refine z_iconst X (v := 0) d_B_state_1 (by decide) ?_
  refine z_aload_n X 0 d_B_state_2 rfl rfl ?_
  refine z_get X fl_B_97 51 e_B rfl rfl d_B_state_3 ?_
  refine z_iconst X (v := 1) d_B_state_6 (by decide) ?_
  refine z_isub X d_B_state_7 ?_
  refine z_Si X GG_ok cf_B_85 [zI a, zI 0, zI ((M.1 51 5) - 1)] [] (c_B_in l D cA ad _ _ _ _) ⟨rfl, rfl⟩ (by decide) rfl rfl (Nat.le_of_ble_eq_true rfl) ⟨Nat.zero_le _, Nat.zero_le _⟩ d_B_state_8 (fun r1 M2 h3 => ?_)
  have qh3 := h3.1.symm
  subst qh3
  obtain ⟨-, ⟨rfl, p4⟩ | ⟨rfl, p4⟩⟩ := h3
  · refine z_if_ne X 16 d_B_state_11 (by decide) (fun _ => ?_) (fun h => absurd h (by decide))
    have ha := mA_ok hI p4
    have ha8 : a.toNatClampNeg < 8 := Nat.lt_of_lt_of_le ha.2 (mInv_n hI)
    refine z_iload_n X 2 d_B_state_16 rfl rfl ?_
    by_cases s5_0 : x = 0
    · refine z_tabIn X 72 d_B_state_17 (by rw [s5_0]; decide) (by rw [s5_0]; decide) (by rw [s5_0]; rfl) (by decide) ?_
      refine z_aload_n X 0 d_B_state_72 rfl rfl ?_
      refine z_get X fl_B_43 51 e_B rfl rfl d_B_state_73 ?_
      refine z_iload_n X 1 d_B_state_76 rfl rfl ?_
      refine z_iald X 63 e_B_is rfl a.toNatClampNeg ha.1 ha8 (by decide) d_B_state_77 ?_
      exact z_iret X (⟨rfl, Or.inr ⟨p4, by rw [mTell, if_pos s5_0]⟩⟩) d_B_state_78
    by_cases s5_1 : x = 1
    · refine z_tabIn X 79 d_B_state_17 (by rw [s5_1]; decide) (by rw [s5_1]; decide) (by rw [s5_1]; rfl) (by decide) ?_
      refine z_aload_n X 0 d_B_state_79 rfl rfl ?_
      refine z_get X fl_B_46 51 e_B rfl rfl d_B_state_80 ?_
      refine z_iload_n X 1 d_B_state_83 rfl rfl ?_
      refine z_iald X 64 e_B_at rfl a.toNatClampNeg ha.1 ha8 (by decide) d_B_state_84 ?_
      exact z_iret X (⟨rfl, Or.inr ⟨p4, by rw [mTell, if_neg s5_0, if_pos s5_1]⟩⟩) d_B_state_85
    by_cases s5_2 : x = 2
    · refine z_tabIn X 86 d_B_state_17 (by rw [s5_2]; decide) (by rw [s5_2]; decide) (by rw [s5_2]; rfl) (by decide) ?_
      refine z_aload_n X 0 d_B_state_86 rfl rfl ?_
      refine z_get X fl_B_49 51 e_B rfl rfl d_B_state_87 ?_
      refine z_iload_n X 1 d_B_state_90 rfl rfl ?_
      refine z_iald X 65 e_B_worked rfl a.toNatClampNeg ha.1 ha8 (by decide) d_B_state_91 ?_
      exact z_iret X (⟨rfl, Or.inr ⟨p4, by rw [mTell, if_neg s5_0, if_neg s5_1, if_pos s5_2]⟩⟩) d_B_state_92
    by_cases s5_3 : x = 3
    · refine z_tabIn X 93 d_B_state_17 (by rw [s5_3]; decide) (by rw [s5_3]; decide) (by rw [s5_3]; rfl) (by decide) ?_
      refine z_aload_n X 0 d_B_state_93 rfl rfl ?_
      refine z_get X fl_B_52 51 e_B rfl rfl d_B_state_94 ?_
      refine z_iload_n X 1 d_B_state_97 rfl rfl ?_
      refine z_iald X 66 e_B_rounds rfl a.toNatClampNeg ha.1 ha8 (by decide) d_B_state_98 ?_
      exact z_iret X (⟨rfl, Or.inr ⟨p4, by rw [mTell, if_neg s5_0, if_neg s5_1, if_neg s5_2, if_pos s5_3]⟩⟩) d_B_state_99
    by_cases s5_4 : x = 4
    · refine z_tabIn X 100 d_B_state_17 (by rw [s5_4]; decide) (by rw [s5_4]; decide) (by rw [s5_4]; rfl) (by decide) ?_
      refine z_aload_n X 0 d_B_state_100 rfl rfl ?_
      refine z_get X fl_B_55 51 e_B rfl rfl d_B_state_101 ?_
      refine z_iload_n X 1 d_B_state_104 rfl rfl ?_
      refine z_iald X 67 e_B_deadline rfl a.toNatClampNeg ha.1 ha8 (by decide) d_B_state_105 ?_
      exact z_iret X (⟨rfl, Or.inr ⟨p4, by rw [mTell, if_neg s5_0, if_neg s5_1, if_neg s5_2, if_neg s5_3, if_pos s5_4]⟩⟩) d_B_state_106
    by_cases s5_5 : x = 5
    · refine z_tabIn X 107 d_B_state_17 (by rw [s5_5]; decide) (by rw [s5_5]; decide) (by rw [s5_5]; rfl) (by decide) ?_
      refine z_aload_n X 0 d_B_state_107 rfl rfl ?_
      refine z_get X fl_B_58 51 e_B rfl rfl d_B_state_108 ?_
      refine z_iload_n X 1 d_B_state_111 rfl rfl ?_
      refine z_iald X 68 e_B_missed rfl a.toNatClampNeg ha.1 ha8 (by decide) d_B_state_112 ?_
      exact z_iret X (⟨rfl, Or.inr ⟨p4, by rw [mTell, if_neg s5_0, if_neg s5_1, if_neg s5_2, if_neg s5_3, if_neg s5_4, if_pos s5_5]⟩⟩) d_B_state_113
    by_cases s5_6 : x = 6
    · refine z_tabIn X 114 d_B_state_17 (by rw [s5_6]; decide) (by rw [s5_6]; decide) (by rw [s5_6]; rfl) (by decide) ?_
      refine z_aload_n X 0 d_B_state_114 rfl rfl ?_
      refine z_get X fl_B_61 51 e_B rfl rfl d_B_state_115 ?_
      refine z_iload_n X 1 d_B_state_118 rfl rfl ?_
      refine z_iald X 69 e_B_skipped rfl a.toNatClampNeg ha.1 ha8 (by decide) d_B_state_119 ?_
      exact z_iret X (⟨rfl, Or.inr ⟨p4, by rw [mTell, if_neg s5_0, if_neg s5_1, if_neg s5_2, if_neg s5_3, if_neg s5_4, if_neg s5_5, if_pos s5_6]⟩⟩) d_B_state_120
    by_cases s5_7 : x = 7
    · refine z_tabIn X 121 d_B_state_17 (by rw [s5_7]; decide) (by rw [s5_7]; decide) (by rw [s5_7]; rfl) (by decide) ?_
      refine z_aload_n X 0 d_B_state_121 rfl rfl ?_
      refine z_get X fl_B_64 51 e_B rfl rfl d_B_state_122 ?_
      refine z_iload_n X 1 d_B_state_125 rfl rfl ?_
      refine z_iald X 70 e_B_work rfl a.toNatClampNeg ha.1 ha8 (by decide) d_B_state_126 ?_
      exact z_iret X (⟨rfl, Or.inr ⟨p4, by rw [mTell, if_neg s5_0, if_neg s5_1, if_neg s5_2, if_neg s5_3, if_neg s5_4, if_neg s5_5, if_neg s5_6, if_pos s5_7]⟩⟩) d_B_state_127
    by_cases s5_8 : x = 8
    · refine z_tabIn X 128 d_B_state_17 (by rw [s5_8]; decide) (by rw [s5_8]; decide) (by rw [s5_8]; rfl) (by decide) ?_
      refine z_aload_n X 0 d_B_state_128 rfl rfl ?_
      refine z_get X fl_B_67 51 e_B rfl rfl d_B_state_129 ?_
      refine z_iload_n X 1 d_B_state_132 rfl rfl ?_
      refine z_iald X 71 e_B_letter rfl a.toNatClampNeg ha.1 ha8 (by decide) d_B_state_133 ?_
      exact z_iret X (⟨rfl, Or.inr ⟨p4, by rw [mTell, if_neg s5_0, if_neg s5_1, if_neg s5_2, if_neg s5_3, if_neg s5_4, if_neg s5_5, if_neg s5_6, if_neg s5_7, if_pos s5_8]⟩⟩) d_B_state_134
    by_cases s5_9 : x = 9
    · refine z_tabIn X 135 d_B_state_17 (by rw [s5_9]; decide) (by rw [s5_9]; decide) (by rw [s5_9]; rfl) (by decide) ?_
      refine z_aload_n X 0 d_B_state_135 rfl rfl ?_
      refine z_get X fl_B_70 51 e_B rfl rfl d_B_state_136 ?_
      refine z_iload_n X 1 d_B_state_139 rfl rfl ?_
      refine z_iald X 72 e_B_next rfl a.toNatClampNeg ha.1 ha8 (by decide) d_B_state_140 ?_
      exact z_iret X (⟨rfl, Or.inr ⟨p4, by rw [mTell, if_neg s5_0, if_neg s5_1, if_neg s5_2, if_neg s5_3, if_neg s5_4, if_neg s5_5, if_neg s5_6, if_neg s5_7, if_neg s5_8, if_pos s5_9]⟩⟩) d_B_state_141
    refine z_tabOut X 142 d_B_state_17 (by have q0 := lv_neT s5_0 (k := 0) (a := 0) (by decide); have q1 := lv_neT s5_1 (k := 1) (a := 1) (by decide); have q2 := lv_neT s5_2 (k := 2) (a := 2) (by decide); have q3 := lv_neT s5_3 (k := 3) (a := 3) (by decide); have q4 := lv_neT s5_4 (k := 4) (a := 4) (by decide); have q5 := lv_neT s5_5 (k := 5) (a := 5) (by decide); have q6 := lv_neT s5_6 (k := 6) (a := 6) (by decide); have q7 := lv_neT s5_7 (k := 7) (a := 7) (by decide); have q8 := lv_neT s5_8 (k := 8) (a := 8) (by decide); have q9 := lv_neT s5_9 (k := 9) (a := 9) (by decide); omega) (by decide) ?_
    refine z_iconst X (v := (-1)) d_B_state_142 (by decide) ?_
    exact z_iret X (⟨rfl, Or.inr ⟨p4, by rw [mTell, if_neg s5_0, if_neg s5_1, if_neg s5_2, if_neg s5_3, if_neg s5_4, if_neg s5_5, if_neg s5_6, if_neg s5_7, if_neg s5_8, if_neg s5_9]⟩⟩) d_B_state_143
  · refine z_if_ne X 16 d_B_state_11 (by decide) (fun h => absurd h (by decide)) (fun _ => ?_)
    refine z_iconst X (v := (-1)) d_B_state_14 (by decide) ?_
    exact z_iret X (⟨rfl, Or.inl ⟨p4, rfl⟩⟩) d_B_state_15

set_option maxHeartbeats 4000000 in
set_option maxRecDepth 100000 in
theorem c_B_start (l : Launch) (D : va_G) (cA : Nat → ClassId) (ad : Nat → Nat) (M : zM) (n w : Nat) (hI : mInv n w M) (a : Int32) : Ci l D cA ad y_B_start b_B_start 2 (some (.int)) (zr 2 43) [zR 51, zI a] M (fun r M' => (¬ mOkS a M ∧ M' = M ∧ r = (-1)) ∨ (mOkS a M ∧ M' = mRel a.toNatClampNeg M ∧ r = 0)) := by
  refine zMi_of (plainFor_of_name (by decide)) (Nat.le_of_ble_eq_true rfl) ?_
  intro p e s m args below meth c A X
  refine z_iload_n X 1 d_B_start_0 rfl rfl ?_
  refine z_iconst X (v := 0) d_B_start_1 (by decide) ?_
  refine z_aload_n X 0 d_B_start_2 rfl rfl ?_
  refine z_get X fl_B_97 51 e_B rfl rfl d_B_start_3 ?_
  refine z_iconst X (v := 1) d_B_start_6 (by decide) ?_
  refine z_isub X d_B_start_7 ?_
  refine z_Si X GG_ok cf_B_85 [zI a, zI 0, zI ((M.1 51 5) - 1)] [] (c_B_in l D cA ad _ _ _ _) ⟨rfl, rfl⟩ (by decide) rfl rfl (Nat.le_of_ble_eq_true rfl) ⟨Nat.zero_le _, Nat.zero_le _⟩ d_B_start_8 (fun r1 M2 h3 => ?_)
  have qh3 := h3.1.symm
  subst qh3
  obtain ⟨-, ⟨rfl, p4⟩ | ⟨rfl, p4⟩⟩ := h3
  · refine z_if_eq X 47 d_B_start_11 (by decide) (fun h => absurd h (by decide)) (fun _ => ?_)
    have ha := mA_ok hI p4
    have ha8 : a.toNatClampNeg < 8 := Nat.lt_of_lt_of_le ha.2 (mInv_n hI)
    refine z_aload_n X 0 d_B_start_14 rfl rfl ?_
    refine z_get X fl_B_28 51 e_B rfl rfl d_B_start_15 ?_
    refine z_iload_n X 1 d_B_start_18 rfl rfl ?_
    refine z_iald X 58 e_B_period rfl a.toNatClampNeg ha.1 ha8 (by decide) d_B_start_19 ?_
    refine z_if_gt X 47 d_B_start_20 (by decide) (fun c_20 => ?_) (fun c_20 => ?_)
    · refine z_iconst X (v := (-1)) d_B_start_47 (by decide) ?_
      exact z_iret X (Or.inl ⟨fun q => q.2.1 c_20, rfl, rfl⟩) d_B_start_48
    · refine z_aload_n X 0 d_B_start_23 rfl rfl ?_
      refine z_get X fl_B_43 51 e_B rfl rfl d_B_start_24 ?_
      refine z_iload_n X 1 d_B_start_27 rfl rfl ?_
      refine z_iald X 63 e_B_is rfl a.toNatClampNeg ha.1 ha8 (by decide) d_B_start_28 ?_
      refine z_if_ne X 47 d_B_start_29 (by decide) (fun c_29 => ?_) (fun c_29 => ?_)
      · refine z_iconst X (v := (-1)) d_B_start_47 (by decide) ?_
        exact z_iret X (Or.inl ⟨fun q => c_29 q.2.2.1, rfl, rfl⟩) d_B_start_48
      · refine z_aload_n X 0 d_B_start_32 rfl rfl ?_
        refine z_get X fl_B_16 51 e_B rfl rfl d_B_start_33 ?_
        refine z_aload_n X 0 d_B_start_36 rfl rfl ?_
        refine z_get X fl_B_22 51 e_B rfl rfl d_B_start_37 ?_
        refine z_iload_n X 1 d_B_start_40 rfl rfl ?_
        refine z_iald X 56 e_B_partition rfl a.toNatClampNeg ha.1 ha8 (by decide) d_B_start_41 ?_
        refine z_iald X 54 e_B_state rfl (mPt M a.toNatClampNeg) (mPt_eq hI ha8) (mPt_lt hI ha8) (by decide) d_B_start_42 ?_
        refine z_iconst X (v := 1) d_B_start_43 (by decide) ?_
        refine z_icmp_eq X 49 d_B_start_44 (by decide) (fun c_44 => ?_) (fun c_44 => ?_)
        · refine z_aload_n X 0 d_B_start_49 rfl rfl ?_
          refine z_iload_n X 1 d_B_start_50 rfl rfl ?_
          refine z_Vv X GG_ok cf_B_114 51 [zI a] [] (c_B_release l D cA ad _ _ a.toNatClampNeg ha8 ha.1 ) ⟨rfl, rfl⟩ (by decide) e_B rfl rfl rfl rfl (Nat.le_of_ble_eq_true rfl) ⟨Nat.zero_le _, Nat.zero_le _⟩ d_B_start_51 (fun M6 h7 => ?_)
          have qh7 := h7.symm
          subst qh7
          refine z_iconst X (v := 0) d_B_start_54 (by decide) ?_
          exact z_iret X (Or.inr ⟨⟨p4, c_20, c_29, c_44⟩, rfl, rfl⟩) d_B_start_55
        · refine z_iconst X (v := (-1)) d_B_start_47 (by decide) ?_
          exact z_iret X (Or.inl ⟨fun q => c_44 q.2.2.2, rfl, rfl⟩) d_B_start_48
  · refine z_if_eq X 47 d_B_start_11 (by decide) (fun _ => ?_) (fun h => absurd h (by decide))
    refine z_iconst X (v := (-1)) d_B_start_47 (by decide) ?_
    exact z_iret X (Or.inl ⟨fun q => p4 q.1, rfl, rfl⟩) d_B_start_48

set_option maxHeartbeats 4000000 in
set_option maxRecDepth 100000 in
theorem c_B_count (l : Launch) (D : va_G) (cA : Nat → ClassId) (ad : Nat → Nat) (M : zM) (n w : Nat) (hI : mInv n w M) (tm : Nat) (ht : tm < 2 ^ 31) (et : M.1 51 28 = nI tm) (x : Int32) : Ci l D cA ad y_B_count b_B_count 2 (some (.int)) (zr 1 24) [zR 51, zI x] M (fun r M' => M' = M ∧ r = mCount n w x M) := by
  refine zMi_of (plainFor_of_name (by decide)) (Nat.le_of_ble_eq_true rfl) ?_
  intro p e s m args below meth c A X
  refine z_iload_n X 1 d_B_count_0 rfl rfl ?_
  by_cases s1_0 : x = 0
  · refine z_tabIn X 44 d_B_count_1 (by rw [s1_0]; decide) (by rw [s1_0]; decide) (by rw [s1_0]; rfl) (by decide) ?_
    refine z_aload_n X 0 d_B_count_44 rfl rfl ?_
    refine z_get X fl_B_104 51 e_B rfl rfl d_B_count_45 ?_
    exact z_iret X (⟨rfl, by rw [mCount, if_pos s1_0]⟩) d_B_count_48
  by_cases s1_1 : x = 1
  · refine z_tabIn X 49 d_B_count_1 (by rw [s1_1]; decide) (by rw [s1_1]; decide) (by rw [s1_1]; rfl) (by decide) ?_
    refine z_aload_n X 0 d_B_count_49 rfl rfl ?_
    refine z_iconst X (v := 0) d_B_count_50 (by decide) ?_
    refine z_Vi X GG_ok cf_B_148 51 [zI 0] [] (c_B_holder_0 l D cA ad _ n w hI tm ht et) ⟨rfl, rfl⟩ (by decide) e_B rfl rfl rfl rfl (Nat.le_of_ble_eq_true rfl) ⟨Nat.zero_le _, Nat.zero_le _⟩ d_B_count_51 (fun r2 M3 h4 => ?_)
    have qh4 := h4.1.symm
    subst qh4
    obtain ⟨-, rfl⟩ := h4
    exact z_iret X (⟨rfl, by rw [mCount, if_neg s1_0, if_pos s1_1]⟩) d_B_count_54
  by_cases s1_2 : x = 2
  · refine z_tabIn X 55 d_B_count_1 (by rw [s1_2]; decide) (by rw [s1_2]; decide) (by rw [s1_2]; rfl) (by decide) ?_
    refine z_aload_n X 0 d_B_count_55 rfl rfl ?_
    refine z_iconst X (v := 1) d_B_count_56 (by decide) ?_
    refine z_Vi X GG_ok cf_B_148 51 [zI 1] [] (c_B_holder_1 l D cA ad _ n w hI tm ht et) ⟨rfl, rfl⟩ (by decide) e_B rfl rfl rfl rfl (Nat.le_of_ble_eq_true rfl) ⟨Nat.zero_le _, Nat.zero_le _⟩ d_B_count_57 (fun r5 M6 h7 => ?_)
    have qh7 := h7.1.symm
    subst qh7
    obtain ⟨-, rfl⟩ := h7
    exact z_iret X (⟨rfl, by rw [mCount, if_neg s1_0, if_neg s1_1, if_pos s1_2]⟩) d_B_count_60
  by_cases s1_3 : x = 3
  · refine z_tabIn X 61 d_B_count_1 (by rw [s1_3]; decide) (by rw [s1_3]; decide) (by rw [s1_3]; rfl) (by decide) ?_
    refine z_aload_n X 0 d_B_count_61 rfl rfl ?_
    refine z_get X fl_B_127 51 e_B rfl rfl d_B_count_62 ?_
    exact z_iret X (⟨rfl, by rw [mCount, if_neg s1_0, if_neg s1_1, if_neg s1_2, if_pos s1_3]⟩) d_B_count_65
  by_cases s1_4 : x = 4
  · refine z_tabIn X 66 d_B_count_1 (by rw [s1_4]; decide) (by rw [s1_4]; decide) (by rw [s1_4]; rfl) (by decide) ?_
    refine z_aload_n X 0 d_B_count_66 rfl rfl ?_
    refine z_get X fl_B_156 51 e_B rfl rfl d_B_count_67 ?_
    exact z_iret X (⟨rfl, by rw [mCount, if_neg s1_0, if_neg s1_1, if_neg s1_2, if_neg s1_3, if_pos s1_4]⟩) d_B_count_70
  by_cases s1_5 : x = 5
  · refine z_tabIn X 71 d_B_count_1 (by rw [s1_5]; decide) (by rw [s1_5]; decide) (by rw [s1_5]; rfl) (by decide) ?_
    refine z_aload_n X 0 d_B_count_71 rfl rfl ?_
    refine z_get X fl_B_97 51 e_B rfl rfl d_B_count_72 ?_
    exact z_iret X (⟨rfl, by rw [mCount, if_neg s1_0, if_neg s1_1, if_neg s1_2, if_neg s1_3, if_neg s1_4, if_pos s1_5]; exact mInv_cnt hI⟩) d_B_count_75
  by_cases s1_6 : x = 6
  · refine z_tabIn X 76 d_B_count_1 (by rw [s1_6]; decide) (by rw [s1_6]; decide) (by rw [s1_6]; rfl) (by decide) ?_
    refine z_aload_n X 0 d_B_count_76 rfl rfl ?_
    refine z_get X fl_B_93 51 e_B rfl rfl d_B_count_77 ?_
    exact z_iret X (⟨rfl, by rw [mCount, if_neg s1_0, if_neg s1_1, if_neg s1_2, if_neg s1_3, if_neg s1_4, if_neg s1_5, if_pos s1_6]; exact hI.1.2.2.2.1⟩) d_B_count_80
  refine z_tabOut X 81 d_B_count_1 (by have q0 := lv_neT s1_0 (k := 0) (a := 0) (by decide); have q1 := lv_neT s1_1 (k := 1) (a := 1) (by decide); have q2 := lv_neT s1_2 (k := 2) (a := 2) (by decide); have q3 := lv_neT s1_3 (k := 3) (a := 3) (by decide); have q4 := lv_neT s1_4 (k := 4) (a := 4) (by decide); have q5 := lv_neT s1_5 (k := 5) (a := 5) (by decide); have q6 := lv_neT s1_6 (k := 6) (a := 6) (by decide); omega) (by decide) ?_
  refine z_iconst X (v := (-1)) d_B_count_81 (by decide) ?_
  exact z_iret X (⟨rfl, by rw [mCount, if_neg s1_0, if_neg s1_1, if_neg s1_2, if_neg s1_3, if_neg s1_4, if_neg s1_5, if_neg s1_6]⟩) d_B_count_82
