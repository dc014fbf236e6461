set_option maxHeartbeats 4000000 in
set_option maxRecDepth 100000 in
theorem c_K_tell (l : Launch) (D : va_G) (cA : Nat → ClassId) (ad : Nat → Nat) (M : zM) (i : Nat) (hi : i < 8) (x : Int32) : Ci l D cA ad y_K_tell b_K_tell 2 (some (.int)) (zr 0 0) [zR (9 + 4 * i), zI x] M (fun r M' => M' = M ∧ r = kTell M i x) := by
  refine zMi_of (plainFor_of_name (by decide)) (Nat.le_of_ble_eq_true rfl) ?_
  intro p e s m args below meth c A X
  refine z_iload_n X 1 d_K_tell_0 rfl rfl ?_
  by_cases s1_0 : x = 0
  · refine z_tabIn X 56 d_K_tell_1 (by rw [s1_0]; decide) (by rw [s1_0]; decide) (by rw [s1_0]; rfl) (by decide) ?_
    refine z_aload_n X 0 d_K_tell_56 rfl rfl ?_
    refine z_get X fl_K_18 (9 + 4 * i) (e_K hi) rfl rfl d_K_tell_57 ?_
    exact z_iret X (⟨rfl, by rw [kTell, if_pos s1_0]⟩) d_K_tell_60
  by_cases s1_1 : x = 1
  · refine z_tabIn X 61 d_K_tell_1 (by rw [s1_1]; decide) (by rw [s1_1]; decide) (by rw [s1_1]; rfl) (by decide) ?_
    refine z_aload_n X 0 d_K_tell_61 rfl rfl ?_
    refine z_get X fl_K_59 (9 + 4 * i) (e_K hi) rfl rfl d_K_tell_62 ?_
    exact z_iret X (⟨rfl, by rw [kTell, if_neg s1_0, if_pos s1_1]⟩) d_K_tell_65
  by_cases s1_2 : x = 2
  · refine z_tabIn X 66 d_K_tell_1 (by rw [s1_2]; decide) (by rw [s1_2]; decide) (by rw [s1_2]; rfl) (by decide) ?_
    refine z_aload_n X 0 d_K_tell_66 rfl rfl ?_
    refine z_get X fl_K_62 (9 + 4 * i) (e_K hi) rfl rfl d_K_tell_67 ?_
    exact z_iret X (⟨rfl, by rw [kTell, if_neg s1_0, if_neg s1_1, if_pos s1_2]⟩) d_K_tell_70
  by_cases s1_3 : x = 3
  · refine z_tabIn X 71 d_K_tell_1 (by rw [s1_3]; decide) (by rw [s1_3]; decide) (by rw [s1_3]; rfl) (by decide) ?_
    refine z_aload_n X 0 d_K_tell_71 rfl rfl ?_
    refine z_get X fl_K_43 (9 + 4 * i) (e_K hi) rfl rfl d_K_tell_72 ?_
    exact z_iret X (⟨rfl, by rw [kTell, if_neg s1_0, if_neg s1_1, if_neg s1_2, if_pos s1_3]⟩) d_K_tell_75
  by_cases s1_4 : x = 4
  · refine z_tabIn X 76 d_K_tell_1 (by rw [s1_4]; decide) (by rw [s1_4]; decide) (by rw [s1_4]; rfl) (by decide) ?_
    refine z_aload_n X 0 d_K_tell_76 rfl rfl ?_
    refine z_get X fl_K_22 (9 + 4 * i) (e_K hi) rfl rfl d_K_tell_77 ?_
    exact z_iret X (⟨rfl, by rw [kTell, if_neg s1_0, if_neg s1_1, if_neg s1_2, if_neg s1_3, if_pos s1_4]⟩) d_K_tell_80
  by_cases s1_5 : x = 5
  · refine z_tabIn X 81 d_K_tell_1 (by rw [s1_5]; decide) (by rw [s1_5]; decide) (by rw [s1_5]; rfl) (by decide) ?_
    refine z_aload_n X 0 d_K_tell_81 rfl rfl ?_
    refine z_get X fl_K_82 (9 + 4 * i) (e_K hi) rfl rfl d_K_tell_82 ?_
    exact z_iret X (⟨rfl, by rw [kTell, if_neg s1_0, if_neg s1_1, if_neg s1_2, if_neg s1_3, if_neg s1_4, if_pos s1_5]⟩) d_K_tell_85
  by_cases s1_6 : x = 6
  · refine z_tabIn X 86 d_K_tell_1 (by rw [s1_6]; decide) (by rw [s1_6]; decide) (by rw [s1_6]; rfl) (by decide) ?_
    refine z_aload_n X 0 d_K_tell_86 rfl rfl ?_
    refine z_get X fl_K_85 (9 + 4 * i) (e_K hi) rfl rfl d_K_tell_87 ?_
    exact z_iret X (⟨rfl, by rw [kTell, if_neg s1_0, if_neg s1_1, if_neg s1_2, if_neg s1_3, if_neg s1_4, if_neg s1_5, if_pos s1_6]⟩) d_K_tell_90
  by_cases s1_7 : x = 7
  · refine z_tabIn X 91 d_K_tell_1 (by rw [s1_7]; decide) (by rw [s1_7]; decide) (by rw [s1_7]; rfl) (by decide) ?_
    refine z_aload_n X 0 d_K_tell_91 rfl rfl ?_
    refine z_get X fl_K_69 (9 + 4 * i) (e_K hi) rfl rfl d_K_tell_92 ?_
    exact z_iret X (⟨rfl, by rw [kTell, if_neg s1_0, if_neg s1_1, if_neg s1_2, if_neg s1_3, if_neg s1_4, if_neg s1_5, if_neg s1_6, if_pos s1_7]⟩) d_K_tell_95
  by_cases s1_8 : x = 8
  · refine z_tabIn X 96 d_K_tell_1 (by rw [s1_8]; decide) (by rw [s1_8]; decide) (by rw [s1_8]; rfl) (by decide) ?_
    refine z_aload_n X 0 d_K_tell_96 rfl rfl ?_
    refine z_get X fl_K_88 (9 + 4 * i) (e_K hi) rfl rfl d_K_tell_97 ?_
    exact z_iret X (⟨rfl, by rw [kTell, if_neg s1_0, if_neg s1_1, if_neg s1_2, if_neg s1_3, if_neg s1_4, if_neg s1_5, if_neg s1_6, if_neg s1_7, if_pos s1_8]⟩) d_K_tell_100
  by_cases s1_9 : x = 9
  · refine z_tabIn X 101 d_K_tell_1 (by rw [s1_9]; decide) (by rw [s1_9]; decide) (by rw [s1_9]; rfl) (by decide) ?_
    refine z_aload_n X 0 d_K_tell_101 rfl rfl ?_
    refine z_get X fl_K_25 (9 + 4 * i) (e_K hi) rfl rfl d_K_tell_102 ?_
    exact z_iret X (⟨rfl, by rw [kTell, if_neg s1_0, if_neg s1_1, if_neg s1_2, if_neg s1_3, if_neg s1_4, if_neg s1_5, if_neg s1_6, if_neg s1_7, if_neg s1_8, if_pos s1_9]⟩) d_K_tell_105
  refine z_tabOut X 106 d_K_tell_1 (by have q0 := lv_neT s1_0 (k := 0) (a := 0) (by decide); have q1 := lv_neT s1_1 (k := 1) (a := 1) (by decide); have q2 := lv_neT s1_2 (k := 2) (a := 2) (by decide); have q3 := lv_neT s1_3 (k := 3) (a := 3) (by decide); have q4 := lv_neT s1_4 (k := 4) (a := 4) (by decide); have q5 := lv_neT s1_5 (k := 5) (a := 5) (by decide); have q6 := lv_neT s1_6 (k := 6) (a := 6) (by decide); have q7 := lv_neT s1_7 (k := 7) (a := 7) (by decide); have q8 := lv_neT s1_8 (k := 8) (a := 8) (by decide); have q9 := lv_neT s1_9 (k := 9) (a := 9) (by decide); omega) (by decide) ?_
  refine z_iconst X (v := (-1)) d_K_tell_106 (by decide) ?_
  exact z_iret X (⟨rfl, by rw [kTell, if_neg s1_0, if_neg s1_1, if_neg s1_2, if_neg s1_3, if_neg s1_4, if_neg s1_5, if_neg s1_6, if_neg s1_7, if_neg s1_8, if_neg s1_9]⟩) d_K_tell_107

set_option maxHeartbeats 4000000 in
set_option maxRecDepth 100000 in
theorem c_K_waitsAt (l : Launch) (D : va_G) (cA : Nat → ClassId) (ad : Nat → Nat) (M : zM) (i : Nat) (hi : i < 8) (x : Nat) (hx : x < 8) (ex : M.1 (9 + 4 * i) 7 = nI x) (a b : Int32) : Ci l D cA ad y_K_waitsAt b_K_waitsAt 3 (some (.boolean)) (zr 0 0) [zR (9 + 4 * i), zI a, zI b] M (fun r M' => M' = M ∧ ((r = 1 ∧ kWaits M a b i) ∨ (r = 0 ∧ ¬ (kWaits M a b i)))) := by
  refine zMi_of (plainFor_of_name (by decide)) (Nat.le_of_ble_eq_true rfl) ?_
  intro p e s m args below meth c A X
  have hcl : (M.1 (9 + 4 * i) 7).toNatClampNeg = x := by rw [ex]; exact nI_clamp (by omega)
  refine z_aload_n X 0 d_K_waitsAt_0 rfl rfl ?_
  refine z_get X fl_K_18 (9 + 4 * i) (e_K hi) rfl rfl d_K_waitsAt_1 ?_
  refine z_iconst X (v := 2) d_K_waitsAt_4 (by decide) ?_
  refine z_icmp_ne X 44 d_K_waitsAt_5 (by decide) (fun c_5 => ?_) (fun c_5 => ?_)
  · refine z_iconst X (v := 0) d_K_waitsAt_44 (by decide) ?_
    exact z_zret X rfl (⟨rfl, Or.inr ⟨rfl, by simp only [kWaits, hcl, c_5, and_true, and_false, true_and, false_and, not_true, not_false_eq_true, and_self]⟩⟩) d_K_waitsAt_45
  · refine z_aload_n X 0 d_K_waitsAt_8 rfl rfl ?_
    refine z_get X fl_K_12 (9 + 4 * i) (e_K hi) rfl rfl d_K_waitsAt_9 ?_
    refine z_get X fl_K_75 (10 + 4 * i) (e_G hi) rfl rfl d_K_waitsAt_12 ?_
    refine z_aload_n X 0 d_K_waitsAt_15 rfl rfl ?_
    refine z_get X fl_K_59 (9 + 4 * i) (e_K hi) rfl rfl d_K_waitsAt_16 ?_
    refine z_iald X (11 + 4 * i) (e_Or hi) rfl x ex hx (by decide) d_K_waitsAt_19 ?_
    refine z_iload_n X 1 d_K_waitsAt_20 rfl rfl ?_
    refine z_icmp_ne X 44 d_K_waitsAt_21 (by decide) (fun c_21 => ?_) (fun c_21 => ?_)
    · refine z_iconst X (v := 0) d_K_waitsAt_44 (by decide) ?_
      exact z_zret X rfl (⟨rfl, Or.inr ⟨rfl, by simp only [kWaits, hcl, c_5, c_21, and_true, and_false, true_and, false_and, not_true, not_false_eq_true, and_self]⟩⟩) d_K_waitsAt_45
    · refine z_aload_n X 0 d_K_waitsAt_24 rfl rfl ?_
      refine z_get X fl_K_12 (9 + 4 * i) (e_K hi) rfl rfl d_K_waitsAt_25 ?_
      refine z_get X fl_K_79 (10 + 4 * i) (e_G hi) rfl rfl d_K_waitsAt_28 ?_
      refine z_aload_n X 0 d_K_waitsAt_31 rfl rfl ?_
      refine z_get X fl_K_59 (9 + 4 * i) (e_K hi) rfl rfl d_K_waitsAt_32 ?_
      refine z_iald X (12 + 4 * i) (e_Nu hi) rfl x ex hx (by decide) d_K_waitsAt_35 ?_
      refine z_iload_n X 2 d_K_waitsAt_36 rfl rfl ?_
      refine z_icmp_ne X 44 d_K_waitsAt_37 (by decide) (fun c_37 => ?_) (fun c_37 => ?_)
      · refine z_iconst X (v := 0) d_K_waitsAt_44 (by decide) ?_
        exact z_zret X rfl (⟨rfl, Or.inr ⟨rfl, by simp only [kWaits, hcl, c_5, c_21, c_37, and_true, and_false, true_and, false_and, not_true, not_false_eq_true, and_self]⟩⟩) d_K_waitsAt_45
      · refine z_iconst X (v := 1) d_K_waitsAt_40 (by decide) ?_
        refine z_goto X 45 d_K_waitsAt_41 (by decide) ?_
        exact z_zret X rfl (⟨rfl, Or.inl ⟨rfl, by simp only [kWaits, hcl, c_5, c_21, c_37, and_true, and_false, true_and, false_and, not_true, not_false_eq_true, and_self]⟩⟩) d_K_waitsAt_45

set_option maxHeartbeats 4000000 in
set_option maxRecDepth 100000 in
theorem c_K_comesBefore_N (l : Launch) (D : va_G) (cA : Nat → ClassId) (ad : Nat → Nat) (M : zM) (i : Nat) (hi : i < 8) : Ci l D cA ad y_K_comesBefore b_K_comesBefore 2 (some (.boolean)) (zr 0 0) [zR (9 + 4 * i), zN] M (fun r M' => M' = M ∧ ((r = 1 ∧ kBef M i none) ∨ (r = 0 ∧ ¬ (kBef M i none)))) := by
  refine zMi_of (plainFor_of_name (by decide)) (Nat.le_of_ble_eq_true rfl) ?_
  intro p e s m args below meth c A X
  refine z_aload_nN X 1 d_K_comesBefore_0 rfl rfl ?_
  refine z_ifnonnullN X d_K_comesBefore_1 ?_
  refine z_iconst X (v := 1) d_K_comesBefore_4 (by decide) ?_
  exact z_zret X rfl (⟨rfl, Or.inl ⟨rfl, trivial⟩⟩) d_K_comesBefore_5

set_option maxHeartbeats 4000000 in
set_option maxRecDepth 100000 in
theorem c_K_comesBefore_S (l : Launch) (D : va_G) (cA : Nat → ClassId) (ad : Nat → Nat) (M : zM) (i : Nat) (hi : i < 8) (j : Nat) (hj : j < 8) : Ci l D cA ad y_K_comesBefore b_K_comesBefore 2 (some (.boolean)) (zr 0 0) [zR (9 + 4 * i), zR (9 + 4 * j)] M (fun r M' => M' = M ∧ ((r = 1 ∧ kBef M i (some j)) ∨ (r = 0 ∧ ¬ (kBef M i (some j))))) := by
  refine zMi_of (plainFor_of_name (by decide)) (Nat.le_of_ble_eq_true rfl) ?_
  intro p e s m args below meth c A X
  refine z_aload_n X 1 d_K_comesBefore_0 rfl rfl ?_
  refine z_ifnonnull X 6 d_K_comesBefore_1 (by decide) ?_
  refine z_aload_n X 0 d_K_comesBefore_6 rfl rfl ?_
  refine z_get X fl_K_34 (9 + 4 * i) (e_K hi) rfl rfl d_K_comesBefore_7 ?_
  refine z_aload_n X 1 d_K_comesBefore_10 rfl rfl ?_
  refine z_get X fl_K_34 (9 + 4 * j) (e_K hj) rfl rfl d_K_comesBefore_11 ?_
  refine z_icmp_ne X 37 d_K_comesBefore_14 (by decide) (fun c_14 => ?_) (fun c_14 => ?_)
  · refine z_aload_n X 0 d_K_comesBefore_37 rfl rfl ?_
    refine z_get X fl_K_34 (9 + 4 * i) (e_K hi) rfl rfl d_K_comesBefore_38 ?_
    refine z_aload_n X 1 d_K_comesBefore_41 rfl rfl ?_
    refine z_get X fl_K_34 (9 + 4 * j) (e_K hj) rfl rfl d_K_comesBefore_42 ?_
    refine z_icmp_le X 52 d_K_comesBefore_45 (by decide) (fun c_45 => ?_) (fun c_45 => ?_)
    · refine z_iconst X (v := 0) d_K_comesBefore_52 (by decide) ?_
      exact z_zret X rfl (⟨rfl, Or.inr ⟨rfl, by simp only [kBef, c_14, c_45, if_true, if_false]; first | done | exact h_nlt_of c_45 | exact Int32.not_lt.mpr c_45⟩⟩) d_K_comesBefore_53
    · refine z_iconst X (v := 1) d_K_comesBefore_48 (by decide) ?_
      refine z_goto X 53 d_K_comesBefore_49 (by decide) ?_
      exact z_zret X rfl (⟨rfl, Or.inl ⟨rfl, by simp only [kBef, c_14, c_45, if_true, if_false]; first | done | exact h_lt_of c_45 | exact Int32.not_le.mp c_45⟩⟩) d_K_comesBefore_53
  · refine z_aload_n X 0 d_K_comesBefore_17 rfl rfl ?_
    refine z_get X fl_K_65 (9 + 4 * i) (e_K hi) rfl rfl d_K_comesBefore_18 ?_
    refine z_aload_n X 1 d_K_comesBefore_21 rfl rfl ?_
    refine z_get X fl_K_65 (9 + 4 * j) (e_K hj) rfl rfl d_K_comesBefore_22 ?_
    refine z_lcmp X d_K_comesBefore_25 ?_
    refine z_if_ge X 33 d_K_comesBefore_26 (by decide) (fun c_26 => ?_) (fun c_26 => ?_)
    · refine z_iconst X (v := 0) d_K_comesBefore_33 (by decide) ?_
      refine z_goto X 53 d_K_comesBefore_34 (by decide) ?_
      exact z_zret X rfl (⟨rfl, Or.inr ⟨rfl, by simp only [kBef, c_14, c_26, if_true, if_false]; first | done | exact h_nlt_of c_26 | exact Int32.not_lt.mpr c_26⟩⟩) d_K_comesBefore_53
    · refine z_iconst X (v := 1) d_K_comesBefore_29 (by decide) ?_
      refine z_goto X 53 d_K_comesBefore_30 (by decide) ?_
      exact z_zret X rfl (⟨rfl, Or.inl ⟨rfl, by simp only [kBef, c_14, c_26, if_true, if_false]; first | done | exact h_lt_of c_26 | exact Int32.not_le.mp c_26⟩⟩) d_K_comesBefore_53
