set_option maxHeartbeats 4000000 in
set_option maxRecDepth 100000 in
theorem c_B_in (l : Launch) (D : va_G) (cA : Nat → ClassId) (ad : Nat → Nat) (M : zM) (a b d : Int32) : Ci l D cA ad y_B_in b_B_in 3 (some (.boolean)) (zr 0 0) [zI a, zI b, zI d] M (fun r M' => M' = M ∧ ((r = 1 ∧ b ≤ a ∧ a ≤ d) ∨ (r = 0 ∧ ¬ (b ≤ a ∧ a ≤ d)))) := by
  refine zMi_of (plainFor_of_name (by decide)) (Nat.le_of_ble_eq_true rfl) ?_
  intro p e s m args below meth c A X
  refine z_iload_n X 0 d_B_in_0 rfl rfl ?_
  refine z_iload_n X 1 d_B_in_1 rfl rfl ?_
  refine z_icmp_lt X 14 d_B_in_2 (by decide) (fun c_2 => ?_) (fun c_2 => ?_)
  · refine z_iconst X (v := 0) d_B_in_14 (by decide) ?_
    exact z_zret X rfl (⟨rfl, Or.inr ⟨rfl, fun q => absurd q.1 (Int32.not_le.mpr c_2)⟩⟩) d_B_in_15
  · refine z_iload_n X 0 d_B_in_5 rfl rfl ?_
    refine z_iload_n X 2 d_B_in_6 rfl rfl ?_
    refine z_icmp_gt X 14 d_B_in_7 (by decide) (fun c_7 => ?_) (fun c_7 => ?_)
    · refine z_iconst X (v := 0) d_B_in_14 (by decide) ?_
      exact z_zret X rfl (⟨rfl, Or.inr ⟨rfl, fun q => absurd q.2 (Int32.not_le.mpr c_7)⟩⟩) d_B_in_15
    · refine z_iconst X (v := 1) d_B_in_10 (by decide) ?_
      refine z_goto X 15 d_B_in_11 (by decide) ?_
      exact z_zret X rfl (⟨rfl, Or.inl ⟨rfl, ⟨Int32.not_lt.mp c_2, Int32.not_lt.mp c_7⟩⟩⟩) d_B_in_15

set_option maxHeartbeats 4000000 in
set_option maxRecDepth 100000 in
theorem c_B_allOff (l : Launch) (D : va_G) (cA : Nat → ClassId) (ad : Nat → Nat) (M : zM)  : Ci l D cA ad y_B_allOff b_B_allOff 1 (some (.boolean)) (zr 0 0) [zR 51] M (fun r M' => M' = M ∧ ((r = 1 ∧ mAllOff M) ∨ (r = 0 ∧ ¬ (mAllOff M)))) := by
  refine zMi_of (plainFor_of_name (by decide)) (Nat.le_of_ble_eq_true rfl) ?_
  intro p e s m args below meth c A X
  refine z_aload_n X 0 d_B_allOff_0 rfl rfl ?_
  refine z_get X fl_B_16 51 e_B rfl rfl d_B_allOff_1 ?_
  refine z_iconst X (v := 0) d_B_allOff_4 (by decide) ?_
  refine z_iald X 54 e_B_state rfl 0 rfl (by decide) (by decide) d_B_allOff_5 ?_
  refine z_if_ne X 31 d_B_allOff_6 (by decide) (fun c_6 => ?_) (fun c_6 => ?_)
  · refine z_iconst X (v := 0) d_B_allOff_31 (by decide) ?_
    exact z_zret X rfl (⟨rfl, Or.inr ⟨rfl, by simp only [mAllOff, c_6, and_true, and_false, true_and, false_and, not_true, not_false_eq_true, and_self]⟩⟩) d_B_allOff_32
  · refine z_aload_n X 0 d_B_allOff_9 rfl rfl ?_
    refine z_get X fl_B_16 51 e_B rfl rfl d_B_allOff_10 ?_
    refine z_iconst X (v := 1) d_B_allOff_13 (by decide) ?_
    refine z_iald X 54 e_B_state rfl 1 rfl (by decide) (by decide) d_B_allOff_14 ?_
    refine z_if_ne X 31 d_B_allOff_15 (by decide) (fun c_15 => ?_) (fun c_15 => ?_)
    · refine z_iconst X (v := 0) d_B_allOff_31 (by decide) ?_
      exact z_zret X rfl (⟨rfl, Or.inr ⟨rfl, by simp only [mAllOff, c_6, c_15, and_true, and_false, true_and, false_and, not_true, not_false_eq_true, and_self]⟩⟩) d_B_allOff_32
    · refine z_aload_n X 0 d_B_allOff_18 rfl rfl ?_
      refine z_get X fl_B_16 51 e_B rfl rfl d_B_allOff_19 ?_
      refine z_iconst X (v := 2) d_B_allOff_22 (by decide) ?_
      refine z_iald X 54 e_B_state rfl 2 rfl (by decide) (by decide) d_B_allOff_23 ?_
      refine z_if_ne X 31 d_B_allOff_24 (by decide) (fun c_24 => ?_) (fun c_24 => ?_)
      · refine z_iconst X (v := 0) d_B_allOff_31 (by decide) ?_
        exact z_zret X rfl (⟨rfl, Or.inr ⟨rfl, by simp only [mAllOff, c_6, c_15, c_24, and_true, and_false, true_and, false_and, not_true, not_false_eq_true, and_self]⟩⟩) d_B_allOff_32
      · refine z_iconst X (v := 1) d_B_allOff_27 (by decide) ?_
        refine z_goto X 32 d_B_allOff_28 (by decide) ?_
        exact z_zret X rfl (⟨rfl, Or.inl ⟨rfl, by simp only [mAllOff, c_6, c_15, c_24, and_true, and_false, true_and, false_and, not_true, not_false_eq_true, and_self]⟩⟩) d_B_allOff_32

set_option maxHeartbeats 4000000 in
set_option maxRecDepth 100000 in
theorem c_B_rest (l : Launch) (D : va_G) (cA : Nat → ClassId) (ad : Nat → Nat) (M : zM) (x : Int32) (k : Nat) (hk : k < 8) (ex : x = nI k) : Cv l D cA ad y_B_rest b_B_rest 2 none (zr 0 0) [zR 51, zI x] M (fun M' => M' = mRest k M) := by
  refine zMv_of (plainFor_of_name (by decide)) (Nat.le_of_ble_eq_true rfl) ?_
  intro p e s m args below meth c A X
  subst ex
  refine z_aload_n X 0 d_B_rest_0 rfl rfl ?_
  refine z_get X fl_B_43 51 e_B rfl rfl d_B_rest_1 ?_
  refine z_iload_n X 1 d_B_rest_4 rfl rfl ?_
  refine z_iconst X (v := 0) d_B_rest_5 (by decide) ?_
  refine z_iast X 63 e_B_is rfl k rfl hk (by decide) d_B_rest_6 ?_
  refine z_aload_n X 0 d_B_rest_7 rfl rfl ?_
  refine z_get X fl_B_46 51 e_B rfl rfl d_B_rest_8 ?_
  refine z_iload_n X 1 d_B_rest_11 rfl rfl ?_
  refine z_iconst X (v := 0) d_B_rest_12 (by decide) ?_
  refine z_iast X 64 e_B_at rfl k rfl hk (by decide) d_B_rest_13 ?_
  refine z_aload_n X 0 d_B_rest_14 rfl rfl ?_
  refine z_get X fl_B_49 51 e_B rfl rfl d_B_rest_15 ?_
  refine z_iload_n X 1 d_B_rest_18 rfl rfl ?_
  refine z_iconst X (v := 0) d_B_rest_19 (by decide) ?_
  refine z_iast X 65 e_B_worked rfl k rfl hk (by decide) d_B_rest_20 ?_
  refine z_aload_n X 0 d_B_rest_21 rfl rfl ?_
  refine z_get X fl_B_55 51 e_B rfl rfl d_B_rest_22 ?_
  refine z_iload_n X 1 d_B_rest_25 rfl rfl ?_
  refine z_iconst X (v := (-1)) d_B_rest_26 (by decide) ?_
  refine z_iast X 67 e_B_deadline rfl k rfl hk (by decide) d_B_rest_27 ?_
  exact z_vret X rfl d_B_rest_28

set_option maxHeartbeats 4000000 in
set_option maxRecDepth 100000 in
theorem c_B_become (l : Launch) (D : va_G) (cA : Nat → ClassId) (ad : Nat → Nat) (M : zM) (x : Int32) (k : Nat) (hk : k < 8) (ex : x = nI k) (v : Int32) : Cv l D cA ad y_B_become b_B_become 3 none (zr 0 0) [zR 51, zI x, zI v] M (fun M' => M' = mBec k v M) := by
  refine zMv_of (plainFor_of_name (by decide)) (Nat.le_of_ble_eq_true rfl) ?_
  intro p e s m args below meth c A X
  subst ex
  refine z_aload_n X 0 d_B_become_0 rfl rfl ?_
  refine z_get X fl_B_43 51 e_B rfl rfl d_B_become_1 ?_
  refine z_iload_n X 1 d_B_become_4 rfl rfl ?_
  refine z_iload_n X 2 d_B_become_5 rfl rfl ?_
  refine z_iast X 63 e_B_is rfl k rfl hk (by decide) d_B_become_6 ?_
  refine z_aload_n X 0 d_B_become_7 rfl rfl ?_
  refine z_dup X d_B_become_8 rfl ?_
  refine z_get X fl_B_107 51 e_B rfl rfl d_B_become_9 ?_
  refine z_iconst X (v := 1) d_B_become_12 (by decide) ?_
  refine z_iadd X d_B_become_13 ?_
  refine z_puti X fl_B_107 51 e_B rfl rfl rfl d_B_become_14 ?_
  refine z_aload_n X 0 d_B_become_17 rfl rfl ?_
  refine z_get X fl_B_73 51 e_B rfl rfl d_B_become_18 ?_
  refine z_iload_n X 1 d_B_become_21 rfl rfl ?_
  refine z_aload_n X 0 d_B_become_22 rfl rfl ?_
  refine z_get X fl_B_107 51 e_B rfl rfl d_B_become_23 ?_
  refine z_iast X 73 e_B_since rfl k rfl hk (by decide) d_B_become_26 ?_
  exact z_vret X rfl d_B_become_27

set_option maxHeartbeats 4000000 in
set_option maxRecDepth 100000 in
theorem c_B_release (l : Launch) (D : va_G) (cA : Nat → ClassId) (ad : Nat → Nat) (M : zM) (x : Int32) (k : Nat) (hk : k < 8) (ex : x = nI k) : Cv l D cA ad y_B_release b_B_release 2 none (zr 1 22) [zR 51, zI x] M (fun M' => M' = mRel k M) := by
  refine zMv_of (plainFor_of_name (by decide)) (Nat.le_of_ble_eq_true rfl) ?_
  intro p e s m args below meth c A X
  subst ex
  refine z_aload_n X 0 d_B_release_0 rfl rfl ?_
  refine z_get X fl_B_52 51 e_B rfl rfl d_B_release_1 ?_
  refine z_iload_n X 1 d_B_release_4 rfl rfl ?_
  refine z_dup2 X d_B_release_5 rfl rfl ?_
  refine z_iald X 66 e_B_rounds rfl k rfl hk (by decide) d_B_release_6 ?_
  refine z_iconst X (v := 1) d_B_release_7 (by decide) ?_
  refine z_iadd X d_B_release_8 ?_
  refine z_iast X 66 e_B_rounds rfl k rfl hk (by decide) d_B_release_9 ?_
  refine z_aload_n X 0 d_B_release_10 rfl rfl ?_
  refine z_get X fl_B_34 51 e_B rfl rfl d_B_release_11 ?_
  refine z_iload_n X 1 d_B_release_14 rfl rfl ?_
  refine z_iald X 60 e_B_size rfl k rfl hk (by decide) d_B_release_15 ?_
  refine z_if_ne X 20 d_B_release_16 (by decide) (fun c_16 => ?_) (fun c_16 => ?_)
  · refine z_aload_n X 0 d_B_release_20 rfl rfl ?_
    refine z_get X fl_B_46 51 e_B rfl rfl d_B_release_21 ?_
    refine z_iload_n X 1 d_B_release_24 rfl rfl ?_
    refine z_iconst X (v := 0) d_B_release_25 (by decide) ?_
    refine z_iast X 64 e_B_at rfl k rfl hk (by decide) d_B_release_26 ?_
    refine z_aload_n X 0 d_B_release_27 rfl rfl ?_
    refine z_get X fl_B_49 51 e_B rfl rfl d_B_release_28 ?_
    refine z_iload_n X 1 d_B_release_31 rfl rfl ?_
    refine z_iconst X (v := 0) d_B_release_32 (by decide) ?_
    refine z_iast X 65 e_B_worked rfl k rfl hk (by decide) d_B_release_33 ?_
    refine z_aload_n X 0 d_B_release_34 rfl rfl ?_
    refine z_get X fl_B_55 51 e_B rfl rfl d_B_release_35 ?_
    refine z_iload_n X 1 d_B_release_38 rfl rfl ?_
    refine z_aload_n X 0 d_B_release_39 rfl rfl ?_
    refine z_get X fl_B_31 51 e_B rfl rfl d_B_release_40 ?_
    refine z_iload_n X 1 d_B_release_43 rfl rfl ?_
    refine z_iald X 59 e_B_limit rfl k rfl hk (by decide) d_B_release_44 ?_
    refine z_if_le X 62 d_B_release_45 (by decide) (fun c_45 => ?_) (fun c_45 => ?_)
    · refine z_iconst X (v := (-1)) d_B_release_62 (by decide) ?_
      refine z_iast X 67 e_B_deadline rfl k rfl hk (by decide) d_B_release_63 ?_
      refine z_aload_n X 0 d_B_release_64 rfl rfl ?_
      refine z_iload_n X 1 d_B_release_65 rfl rfl ?_
      refine z_iconst X (v := 1) d_B_release_66 (by decide) ?_
      refine z_Vv X GG_ok cf_B_110 51 [zI (nI k), zI 1] [] (c_B_become l D cA ad _ _ k hk rfl _) ⟨rfl, rfl⟩ (by decide) e_B rfl rfl rfl rfl (Nat.le_of_ble_eq_true rfl) ⟨Nat.zero_le _, Nat.zero_le _⟩ d_B_release_67 (fun M2 h3 => ?_)
      have qh3 := h3.symm
      subst qh3
      exact z_vret X (by simp only [mRel, mRel2, mRel1, mRelD, c_16, c_45, if_true, if_false]) d_B_release_70
    · refine z_aload_n X 0 d_B_release_48 rfl rfl ?_
      refine z_get X fl_B_104 51 e_B rfl rfl d_B_release_49 ?_
      refine z_aload_n X 0 d_B_release_52 rfl rfl ?_
      refine z_get X fl_B_31 51 e_B rfl rfl d_B_release_53 ?_
      refine z_iload_n X 1 d_B_release_56 rfl rfl ?_
      refine z_iald X 59 e_B_limit rfl k rfl hk (by decide) d_B_release_57 ?_
      refine z_iadd X d_B_release_58 ?_
      refine z_goto X 63 d_B_release_59 (by decide) ?_
      refine z_iast X 67 e_B_deadline rfl k rfl hk (by decide) d_B_release_63 ?_
      refine z_aload_n X 0 d_B_release_64 rfl rfl ?_
      refine z_iload_n X 1 d_B_release_65 rfl rfl ?_
      refine z_iconst X (v := 1) d_B_release_66 (by decide) ?_
      refine z_Vv X GG_ok cf_B_110 51 [zI (nI k), zI 1] [] (c_B_become l D cA ad _ _ k hk rfl _) ⟨rfl, rfl⟩ (by decide) e_B rfl rfl rfl rfl (Nat.le_of_ble_eq_true rfl) ⟨Nat.zero_le _, Nat.zero_le _⟩ d_B_release_67 (fun M5 h6 => ?_)
      have qh6 := h6.symm
      subst qh6
      exact z_vret X (by simp only [mRel, mRel2, mRel1, mRelD, c_16, c_45, if_true, if_false]) d_B_release_70
  · exact z_vret X (by simp only [mRel, mRel2, mRel1, mRelD, c_16, if_true, if_false]) d_B_release_19

set_option maxHeartbeats 4000000 in
set_option maxRecDepth 100000 in
theorem c_B_advance (l : Launch) (D : va_G) (cA : Nat → ClassId) (ad : Nat → Nat) (M : zM) (x : Int32) (k : Nat) (hk : k < 8) (ex : x = nI k) : Cv l D cA ad y_B_advance b_B_advance 2 none (zr 1 21) [zR 51, zI x] M (fun M' => M' = mAdv k M) := by
  refine zMv_of (plainFor_of_name (by decide)) (Nat.le_of_ble_eq_true rfl) ?_
  intro p e s m args below meth c A X
  subst ex
  refine z_aload_n X 0 d_B_advance_0 rfl rfl ?_
  refine z_get X fl_B_46 51 e_B rfl rfl d_B_advance_1 ?_
  refine z_iload_n X 1 d_B_advance_4 rfl rfl ?_
  refine z_dup2 X d_B_advance_5 rfl rfl ?_
  refine z_iald X 64 e_B_at rfl k rfl hk (by decide) d_B_advance_6 ?_
  refine z_iconst X (v := 1) d_B_advance_7 (by decide) ?_
  refine z_iadd X d_B_advance_8 ?_
  refine z_iast X 64 e_B_at rfl k rfl hk (by decide) d_B_advance_9 ?_
  refine z_aload_n X 0 d_B_advance_10 rfl rfl ?_
  refine z_get X fl_B_49 51 e_B rfl rfl d_B_advance_11 ?_
  refine z_iload_n X 1 d_B_advance_14 rfl rfl ?_
  refine z_iconst X (v := 0) d_B_advance_15 (by decide) ?_
  refine z_iast X 65 e_B_worked rfl k rfl hk (by decide) d_B_advance_16 ?_
  refine z_aload_n X 0 d_B_advance_17 rfl rfl ?_
  refine z_get X fl_B_46 51 e_B rfl rfl d_B_advance_18 ?_
  refine z_iload_n X 1 d_B_advance_21 rfl rfl ?_
  refine z_iald X 64 e_B_at rfl k rfl hk (by decide) d_B_advance_22 ?_
  refine z_aload_n X 0 d_B_advance_23 rfl rfl ?_
  refine z_get X fl_B_34 51 e_B rfl rfl d_B_advance_24 ?_
  refine z_iload_n X 1 d_B_advance_27 rfl rfl ?_
  refine z_iald X 60 e_B_size rfl k rfl hk (by decide) d_B_advance_28 ?_
  refine z_icmp_ne X 37 d_B_advance_29 (by decide) (fun c_29 => ?_) (fun c_29 => ?_)
  · exact z_vret X (by simp only [mAdv, mAdv1, c_29, if_true, if_false]) d_B_advance_37
  · refine z_aload_n X 0 d_B_advance_32 rfl rfl ?_
    refine z_iload_n X 1 d_B_advance_33 rfl rfl ?_
    refine z_Vv X GG_ok cf_B_100 51 [zI (nI k)] [] (c_B_rest l D cA ad _ _ k hk rfl ) ⟨rfl, rfl⟩ (by decide) e_B rfl rfl rfl rfl (Nat.le_of_ble_eq_true rfl) ⟨Nat.zero_le _, Nat.zero_le _⟩ d_B_advance_34 (fun M2 h3 => ?_)
    have qh3 := h3.symm
    subst qh3
    exact z_vret X (by simp only [mAdv, mAdv1, c_29, if_true, if_false]) d_B_advance_37

set_option maxHeartbeats 4000000 in
set_option maxRecDepth 100000 in
theorem c_B_wake (l : Launch) (D : va_G) (cA : Nat → ClassId) (ad : Nat → Nat) (M : zM) (x : Int32) (k : Nat) (hk : k < 8) (ex : x = nI k) : Cv l D cA ad y_B_wake b_B_wake 2 none (zr 2 42) [zR 51, zI x] M (fun M' => M' = mWake k M) := by
  refine zMv_of (plainFor_of_name (by decide)) (Nat.le_of_ble_eq_true rfl) ?_
  intro p e s m args below meth c A X
  subst ex
  refine z_aload_n X 0 d_B_wake_0 rfl rfl ?_
  refine z_iload_n X 1 d_B_wake_1 rfl rfl ?_
  refine z_iconst X (v := 1) d_B_wake_2 (by decide) ?_
  refine z_Vv X GG_ok cf_B_110 51 [zI (nI k), zI 1] [] (c_B_become l D cA ad _ _ k hk rfl _) ⟨rfl, rfl⟩ (by decide) e_B rfl rfl rfl rfl (Nat.le_of_ble_eq_true rfl) ⟨Nat.zero_le _, Nat.zero_le _⟩ d_B_wake_3 (fun M2 h3 => ?_)
  have qh3 := h3.symm
  subst qh3
  refine z_aload_n X 0 d_B_wake_6 rfl rfl ?_
  refine z_iload_n X 1 d_B_wake_7 rfl rfl ?_
  refine z_Vv X GG_ok cf_B_117 51 [zI (nI k)] [] (c_B_advance l D cA ad _ _ k hk rfl ) ⟨rfl, rfl⟩ (by decide) e_B rfl rfl rfl rfl (Nat.le_of_ble_eq_true rfl) ⟨Nat.zero_le _, Nat.zero_le _⟩ d_B_wake_8 (fun M5 h6 => ?_)
  have qh6 := h6.symm
  subst qh6
  exact z_vret X rfl d_B_wake_11
