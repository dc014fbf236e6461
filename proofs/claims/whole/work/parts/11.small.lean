set_option maxHeartbeats 4000000 in
set_option maxRecDepth 100000 in
theorem c_A_within (l : Launch) (D : va_G) (cA : Nat → ClassId) (ad : Nat → Nat) (M : zM) (a b d : Int32) : Ci l D cA ad y_A_within b_A_within 3 (some (.boolean)) (zr 0 0) [zI a, zI b, zI d] M (fun r M' => M' = M ∧ ((r = 1 ∧ b ≤ a ∧ a ≤ d) ∨ (r = 0 ∧ ¬ (b ≤ a ∧ a ≤ d)))) := by
  refine zMi_of (plainFor_of_name (by decide)) (Nat.le_of_ble_eq_true rfl) ?_
  intro p e s m args below meth c A X
  refine z_iload_n X 0 d_A_within_0 rfl rfl ?_
  refine z_iload_n X 1 d_A_within_1 rfl rfl ?_
  refine z_icmp_lt X 14 d_A_within_2 (by decide) (fun c_2 => ?_) (fun c_2 => ?_)
  · refine z_iconst X (v := 0) d_A_within_14 (by decide) ?_
    exact z_zret X rfl (⟨rfl, Or.inr ⟨rfl, fun q => absurd q.1 (Int32.not_le.mpr c_2)⟩⟩) d_A_within_15
  · refine z_iload_n X 0 d_A_within_5 rfl rfl ?_
    refine z_iload_n X 2 d_A_within_6 rfl rfl ?_
    refine z_icmp_gt X 14 d_A_within_7 (by decide) (fun c_7 => ?_) (fun c_7 => ?_)
    · refine z_iconst X (v := 0) d_A_within_14 (by decide) ?_
      exact z_zret X rfl (⟨rfl, Or.inr ⟨rfl, fun q => absurd q.2 (Int32.not_le.mpr c_7)⟩⟩) d_A_within_15
    · refine z_iconst X (v := 1) d_A_within_10 (by decide) ?_
      refine z_goto X 15 d_A_within_11 (by decide) ?_
      exact z_zret X rfl (⟨rfl, Or.inl ⟨rfl, ⟨Int32.not_lt.mp c_2, Int32.not_lt.mp c_7⟩⟩⟩) d_A_within_15

set_option maxHeartbeats 4000000 in
set_option maxRecDepth 100000 in
theorem c_A_isPartition (l : Launch) (D : va_G) (cA : Nat → ClassId) (ad : Nat → Nat) (M : zM) (a : Int32) : Ci l D cA ad y_A_isPartition b_A_isPartition 1 (some (.boolean)) (zr 1 22) [zI a] M (fun r M' => M' = M ∧ ((r = 1 ∧ 0 ≤ a ∧ a ≤ 2) ∨ (r = 0 ∧ ¬ (0 ≤ a ∧ a ≤ 2)))) := by
  refine zMi_of (plainFor_of_name (by decide)) (Nat.le_of_ble_eq_true rfl) ?_
  intro p e s m args below meth c A X
  refine z_iload_n X 0 d_A_isPartition_0 rfl rfl ?_
  refine z_iconst X (v := 0) d_A_isPartition_1 (by decide) ?_
  refine z_iconst X (v := 2) d_A_isPartition_2 (by decide) ?_
  refine z_Si X GG_ok cf_A_47 [zI a, zI 0, zI 2] [] (c_A_within l D cA ad _ _ _ _) ⟨rfl, rfl⟩ (by decide) rfl rfl (Nat.le_of_ble_eq_true rfl) ⟨Nat.zero_le _, Nat.zero_le _⟩ d_A_isPartition_3 (fun r1 M2 h3 => ?_)
  have qh3 := h3.1.symm
  subst qh3
  obtain ⟨-, ⟨rfl, p4⟩ | ⟨rfl, p4⟩⟩ := h3
  · exact z_zret X rfl (⟨rfl, Or.inl ⟨rfl, p4⟩⟩) d_A_isPartition_6
  · exact z_zret X rfl (⟨rfl, Or.inr ⟨rfl, p4⟩⟩) d_A_isPartition_6

set_option maxHeartbeats 4000000 in
set_option maxRecDepth 100000 in
theorem c_A_isProcess (l : Launch) (D : va_G) (cA : Nat → ClassId) (ad : Nat → Nat) (M : zM) (a : Int32) : Ci l D cA ad y_A_isProcess b_A_isProcess 2 (some (.boolean)) (zr 1 22) [zR 0, zI a] M (fun r M' => M' = M ∧ ((r = 1 ∧ 0 ≤ a ∧ a ≤ M.1 0 5 - 1) ∨ (r = 0 ∧ ¬ (0 ≤ a ∧ a ≤ M.1 0 5 - 1)))) := by
  refine zMi_of (plainFor_of_name (by decide)) (Nat.le_of_ble_eq_true rfl) ?_
  intro p e s m args below meth c A X
  refine z_iload_n X 1 d_A_isProcess_0 rfl rfl ?_
  refine z_iconst X (v := 0) d_A_isProcess_1 (by decide) ?_
  refine z_aload_n X 0 d_A_isProcess_2 rfl rfl ?_
  refine z_get X fl_A_63 0 e_A rfl rfl d_A_isProcess_3 ?_
  refine z_iconst X (v := 1) d_A_isProcess_6 (by decide) ?_
  refine z_isub X d_A_isProcess_7 ?_
  refine z_Si X GG_ok cf_A_47 [zI a, zI 0, zI ((M.1 0 5) - 1)] [] (c_A_within l D cA ad _ _ _ _) ⟨rfl, rfl⟩ (by decide) rfl rfl (Nat.le_of_ble_eq_true rfl) ⟨Nat.zero_le _, Nat.zero_le _⟩ d_A_isProcess_8 (fun r1 M2 h3 => ?_)
  have qh3 := h3.1.symm
  subst qh3
  obtain ⟨-, ⟨rfl, p4⟩ | ⟨rfl, p4⟩⟩ := h3
  · exact z_zret X rfl (⟨rfl, Or.inl ⟨rfl, p4⟩⟩) d_A_isProcess_11
  · exact z_zret X rfl (⟨rfl, Or.inr ⟨rfl, p4⟩⟩) d_A_isProcess_11

set_option maxHeartbeats 4000000 in
set_option maxRecDepth 100000 in
theorem c_A_isOn (l : Launch) (D : va_G) (cA : Nat → ClassId) (ad : Nat → Nat) (M : zM) (x : Int32) (j : Nat) (hj : j < 3) (ex : x = nI j) : Ci l D cA ad y_A_isOn b_A_isOn 2 (some (.boolean)) (zr 0 0) [zR 0, zI x] M (fun r M' => M' = M ∧ ((r = 1 ∧ M.1 (5 + j) 0 = 1) ∨ (r = 0 ∧ ¬ (M.1 (5 + j) 0 = 1)))) := by
  refine zMi_of (plainFor_of_name (by decide)) (Nat.le_of_ble_eq_true rfl) ?_
  intro p e s m args below meth c A X
  refine z_aload_n X 0 d_A_isOn_0 rfl rfl ?_
  refine z_get X fl_A_18 0 e_A rfl rfl d_A_isOn_1 ?_
  refine z_iload_n X 1 d_A_isOn_4 rfl rfl ?_
  refine z_aald X 4 e_PA rfl j ex hj (by decide) (g_PA hj) d_A_isOn_5 ?_
  refine z_get X fl_A_91 (5 + j) (e_P hj) rfl rfl d_A_isOn_6 ?_
  refine z_iconst X (v := 1) d_A_isOn_9 (by decide) ?_
  refine z_icmp_ne X 17 d_A_isOn_10 (by decide) (fun c_10 => ?_) (fun c_10 => ?_)
  · refine z_iconst X (v := 0) d_A_isOn_17 (by decide) ?_
    exact z_zret X rfl (⟨rfl, Or.inr ⟨rfl, c_10⟩⟩) d_A_isOn_18
  · refine z_iconst X (v := 1) d_A_isOn_13 (by decide) ?_
    refine z_goto X 18 d_A_isOn_14 (by decide) ?_
    exact z_zret X rfl (⟨rfl, Or.inl ⟨rfl, c_10⟩⟩) d_A_isOn_18

set_option maxHeartbeats 4000000 in
set_option maxRecDepth 100000 in
theorem c_A_allOff (l : Launch) (D : va_G) (cA : Nat → ClassId) (ad : Nat → Nat) (M : zM)  : Ci l D cA ad y_A_allOff b_A_allOff 2 (some (.boolean)) (zr 0 0) [zR 0] M (fun r M' => M' = M ∧ ((r = 1 ∧ kAllOff M) ∨ (r = 0 ∧ ¬ (kAllOff M)))) := by
  refine zMi_of (plainFor_of_name (by decide)) (Nat.le_of_ble_eq_true rfl) ?_
  intro p e s m args below meth c A X
  refine z_iconst X (v := 0) d_A_allOff_0 (by decide) ?_
  refine z_istore_n X (L' := [(1, zI 0), (0, zR 0)]) d_A_allOff_1 rfl (by decide) rfl ?_
  refine z_iload_n X 0 d_A_allOff_2 rfl rfl ?_
  refine z_iconst X (v := 3) d_A_allOff_3 (by decide) ?_
  refine z_icmp_ge X 27 d_A_allOff_4 (by decide) (fun h => absurd h (by decide)) (fun _ => ?_)
  refine z_aload_n X 1 d_A_allOff_7 rfl rfl ?_
  refine z_get X fl_A_18 0 e_A rfl rfl d_A_allOff_8 ?_
  refine z_iload_n X 0 d_A_allOff_11 rfl rfl ?_
  refine z_aald X 4 e_PA rfl 0 rfl (by decide) (by decide) (g_PA (by decide)) d_A_allOff_12 ?_
  refine z_get X fl_A_91 (5 + 0) (e_P (by decide)) rfl rfl d_A_allOff_13 ?_
  refine z_if_eq X 21 d_A_allOff_16 (by decide) (fun c_16 => ?_) (fun c_16 => ?_)
  · refine z_iinc X 0 (v := 1) (L' := [(1, zI 1), (0, zR 0)]) d_A_allOff_21 rfl rfl (by decide) rfl ?_
    refine z_goto X 2 d_A_allOff_24 (by decide) ?_
    refine z_iload_n X 0 d_A_allOff_2 rfl rfl ?_
    refine z_iconst X (v := 3) d_A_allOff_3 (by decide) ?_
    refine z_icmp_ge X 27 d_A_allOff_4 (by decide) (fun h => absurd h (by decide)) (fun _ => ?_)
    refine z_aload_n X 1 d_A_allOff_7 rfl rfl ?_
    refine z_get X fl_A_18 0 e_A rfl rfl d_A_allOff_8 ?_
    refine z_iload_n X 0 d_A_allOff_11 rfl rfl ?_
    refine z_aald X 4 e_PA rfl 1 rfl (by decide) (by decide) (g_PA (by decide)) d_A_allOff_12 ?_
    refine z_get X fl_A_91 (5 + 1) (e_P (by decide)) rfl rfl d_A_allOff_13 ?_
    refine z_if_eq X 21 d_A_allOff_16 (by decide) (fun c_16_2 => ?_) (fun c_16_2 => ?_)
    · refine z_iinc X 0 (v := 2) (L' := [(1, zI 2), (0, zR 0)]) d_A_allOff_21 rfl rfl (by decide) rfl ?_
      refine z_goto X 2 d_A_allOff_24 (by decide) ?_
      refine z_iload_n X 0 d_A_allOff_2 rfl rfl ?_
      refine z_iconst X (v := 3) d_A_allOff_3 (by decide) ?_
      refine z_icmp_ge X 27 d_A_allOff_4 (by decide) (fun h => absurd h (by decide)) (fun _ => ?_)
      refine z_aload_n X 1 d_A_allOff_7 rfl rfl ?_
      refine z_get X fl_A_18 0 e_A rfl rfl d_A_allOff_8 ?_
      refine z_iload_n X 0 d_A_allOff_11 rfl rfl ?_
      refine z_aald X 4 e_PA rfl 2 rfl (by decide) (by decide) (g_PA (by decide)) d_A_allOff_12 ?_
      refine z_get X fl_A_91 (5 + 2) (e_P (by decide)) rfl rfl d_A_allOff_13 ?_
      refine z_if_eq X 21 d_A_allOff_16 (by decide) (fun c_16_4 => ?_) (fun c_16_4 => ?_)
      · refine z_iinc X 0 (v := 3) (L' := [(1, zI 3), (0, zR 0)]) d_A_allOff_21 rfl rfl (by decide) rfl ?_
        refine z_goto X 2 d_A_allOff_24 (by decide) ?_
        refine z_iload_n X 0 d_A_allOff_2 rfl rfl ?_
        refine z_iconst X (v := 3) d_A_allOff_3 (by decide) ?_
        refine z_icmp_ge X 27 d_A_allOff_4 (by decide) (fun _ => ?_) (fun h => absurd h (by decide))
        refine z_iconst X (v := 1) d_A_allOff_27 (by decide) ?_
        exact z_zret X rfl (⟨rfl, Or.inl ⟨rfl, by simp only [kAllOff, c_16, c_16_2, c_16_4, and_true, and_false, true_and, false_and, not_true, not_false_eq_true, and_self]⟩⟩) d_A_allOff_28
      · refine z_iconst X (v := 0) d_A_allOff_19 (by decide) ?_
        exact z_zret X rfl (⟨rfl, Or.inr ⟨rfl, by simp only [kAllOff, c_16, c_16_2, c_16_4, and_true, and_false, true_and, false_and, not_true, not_false_eq_true, and_self]⟩⟩) d_A_allOff_20
    · refine z_iconst X (v := 0) d_A_allOff_19 (by decide) ?_
      exact z_zret X rfl (⟨rfl, Or.inr ⟨rfl, by simp only [kAllOff, c_16, c_16_2, and_true, and_false, true_and, false_and, not_true, not_false_eq_true, and_self]⟩⟩) d_A_allOff_20
  · refine z_iconst X (v := 0) d_A_allOff_19 (by decide) ?_
    exact z_zret X rfl (⟨rfl, Or.inr ⟨rfl, by simp only [kAllOff, c_16, and_true, and_false, true_and, false_and, not_true, not_false_eq_true, and_self]⟩⟩) d_A_allOff_20

set_option maxHeartbeats 4000000 in
set_option maxRecDepth 100000 in
theorem c_A_newTurn (l : Launch) (D : va_G) (cA : Nat → ClassId) (ad : Nat → Nat) (M : zM)  : Cj l D cA ad y_A_newTurn b_A_newTurn 1 (some (.long)) (zr 0 0) [zR 0] M (fun r M' => M' = kTurn M ∧ r = M.2 0 9 + 1) := by
  refine zMj_of (plainFor_of_name (by decide)) (Nat.le_of_ble_eq_true rfl) ?_
  intro p e s m args below meth c A X
  refine z_aload_n X 0 d_A_newTurn_0 rfl rfl ?_
  refine z_dup X d_A_newTurn_1 rfl ?_
  refine z_get X fl_A_140 0 e_A rfl rfl d_A_newTurn_2 ?_
  refine z_lconst X (v := 1) d_A_newTurn_5 (by decide) ?_
  refine z_ladd X d_A_newTurn_6 ?_
  refine z_putj X fl_A_140 0 e_A rfl d_A_newTurn_7 ?_
  refine z_aload_n X 0 d_A_newTurn_10 rfl rfl ?_
  refine z_get X fl_A_140 0 e_A rfl rfl d_A_newTurn_11 ?_
  exact z_lret X (⟨rfl, z_sj_same M 0 9 _⟩) d_A_newTurn_14
