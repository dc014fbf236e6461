set_option maxHeartbeats 4000000 in
set_option maxRecDepth 100000 in
theorem c_K_rest (l : Launch) (D : va_G) (cA : Nat → ClassId) (ad : Nat → Nat) (M : zM) (i : Nat) (hi : i < 8) : Cv l D cA ad y_K_rest b_K_rest 1 none (zr 0 0) [zR (9 + 4 * i)] M (fun M' => M' = kRest i M) := by
  refine zMv_of (plainFor_of_name (by decide)) (Nat.le_of_ble_eq_true rfl) ?_
  intro p e s m args below meth c A X
  refine z_aload_n X 0 d_K_rest_0 rfl rfl ?_
  refine z_iconst X (v := 0) d_K_rest_1 (by decide) ?_
  refine z_puti X fl_K_18 (9 + 4 * i) (e_K hi) rfl rfl rfl d_K_rest_2 ?_
  refine z_aload_n X 0 d_K_rest_5 rfl rfl ?_
  refine z_iconst X (v := 0) d_K_rest_6 (by decide) ?_
  refine z_puti X fl_K_59 (9 + 4 * i) (e_K hi) rfl rfl rfl d_K_rest_7 ?_
  refine z_aload_n X 0 d_K_rest_10 rfl rfl ?_
  refine z_iconst X (v := 0) d_K_rest_11 (by decide) ?_
  refine z_puti X fl_K_62 (9 + 4 * i) (e_K hi) rfl rfl rfl d_K_rest_12 ?_
  refine z_aload_n X 0 d_K_rest_15 rfl rfl ?_
  refine z_iconst X (v := (-1)) d_K_rest_16 (by decide) ?_
  refine z_puti X fl_K_22 (9 + 4 * i) (e_K hi) rfl rfl rfl d_K_rest_17 ?_
  exact z_vret X rfl d_K_rest_20

set_option maxHeartbeats 4000000 in
set_option maxRecDepth 100000 in
theorem c_K_becomeReady (l : Launch) (D : va_G) (cA : Nat → ClassId) (ad : Nat → Nat) (M : zM) (i : Nat) (hi : i < 8) (t : Int64) : Cv l D cA ad y_K_becomeReady b_K_becomeReady 3 none (zr 0 0) [zR (9 + 4 * i), zJ t] M (fun M' => M' = kReady i t M) := by
  refine zMv_of (plainFor_of_name (by decide)) (Nat.le_of_ble_eq_true rfl) ?_
  intro p e s m args below meth c A X
  refine z_aload_n X 0 d_K_becomeReady_0 rfl rfl ?_
  refine z_iconst X (v := 1) d_K_becomeReady_1 (by decide) ?_
  refine z_puti X fl_K_18 (9 + 4 * i) (e_K hi) rfl rfl rfl d_K_becomeReady_2 ?_
  refine z_aload_n X 0 d_K_becomeReady_5 rfl rfl ?_
  refine z_lload_n X 1 d_K_becomeReady_6 rfl rfl ?_
  refine z_putj X fl_K_65 (9 + 4 * i) (e_K hi) rfl d_K_becomeReady_7 ?_
  exact z_vret X rfl d_K_becomeReady_10

set_option maxHeartbeats 4000000 in
set_option maxRecDepth 100000 in
theorem c_K_becomeWaiting (l : Launch) (D : va_G) (cA : Nat → ClassId) (ad : Nat → Nat) (M : zM) (i : Nat) (hi : i < 8) (t : Int64) : Cv l D cA ad y_K_becomeWaiting b_K_becomeWaiting 3 none (zr 0 0) [zR (9 + 4 * i), zJ t] M (fun M' => M' = kWait i t M) := by
  refine zMv_of (plainFor_of_name (by decide)) (Nat.le_of_ble_eq_true rfl) ?_
  intro p e s m args below meth c A X
  refine z_aload_n X 0 d_K_becomeWaiting_0 rfl rfl ?_
  refine z_iconst X (v := 2) d_K_becomeWaiting_1 (by decide) ?_
  refine z_puti X fl_K_18 (9 + 4 * i) (e_K hi) rfl rfl rfl d_K_becomeWaiting_2 ?_
  refine z_aload_n X 0 d_K_becomeWaiting_5 rfl rfl ?_
  refine z_lload_n X 1 d_K_becomeWaiting_6 rfl rfl ?_
  refine z_putj X fl_K_65 (9 + 4 * i) (e_K hi) rfl d_K_becomeWaiting_7 ?_
  exact z_vret X rfl d_K_becomeWaiting_10

set_option maxHeartbeats 4000000 in
set_option maxRecDepth 100000 in
theorem c_K_beginAnew (l : Launch) (D : va_G) (cA : Nat → ClassId) (ad : Nat → Nat) (M : zM) (i : Nat) (hi : i < 8) (t : Int64) : Cv l D cA ad y_K_beginAnew b_K_beginAnew 3 none (zr 1 22) [zR (9 + 4 * i), zJ t] M (fun M' => M' = kAnew i t M) := by
  refine zMv_of (plainFor_of_name (by decide)) (Nat.le_of_ble_eq_true rfl) ?_
  intro p e s m args below meth c A X
  refine z_aload_n X 0 d_K_beginAnew_0 rfl rfl ?_
  refine z_lload_n X 1 d_K_beginAnew_1 rfl rfl ?_
  refine z_Vv X GG_ok cf_K_56 (9 + 4 * i) [zJ t] [] (c_K_becomeReady l D cA ad _ i hi _) ⟨rfl, rfl⟩ (by decide) (e_K hi) rfl rfl rfl rfl (Nat.le_of_ble_eq_true rfl) ⟨Nat.zero_le _, Nat.zero_le _⟩ d_K_beginAnew_2 (fun M2 h3 => ?_)
  have qh3 := h3.symm
  subst qh3
  refine z_aload_n X 0 d_K_beginAnew_5 rfl rfl ?_
  refine z_iconst X (v := 0) d_K_beginAnew_6 (by decide) ?_
  refine z_puti X fl_K_59 (9 + 4 * i) (e_K hi) rfl rfl rfl d_K_beginAnew_7 ?_
  refine z_aload_n X 0 d_K_beginAnew_10 rfl rfl ?_
  refine z_iconst X (v := 0) d_K_beginAnew_11 (by decide) ?_
  refine z_puti X fl_K_62 (9 + 4 * i) (e_K hi) rfl rfl rfl d_K_beginAnew_12 ?_
  exact z_vret X rfl d_K_beginAnew_15

set_option maxHeartbeats 4000000 in
set_option maxRecDepth 100000 in
theorem c_K_release (l : Launch) (D : va_G) (cA : Nat → ClassId) (ad : Nat → Nat) (M : zM) (i : Nat) (hi : i < 8) (tm : Int32) (t : Int64) : Cv l D cA ad y_K_release b_K_release 4 none (zr 2 44) [zR (9 + 4 * i), zI tm, zJ t] M (fun M' => M' = kRel i tm t M) := by
  refine zMv_of (plainFor_of_name (by decide)) (Nat.le_of_ble_eq_true rfl) ?_
  intro p e s m args below meth c A X
  refine z_aload_n X 0 d_K_release_0 rfl rfl ?_
  refine z_dup X d_K_release_1 rfl ?_
  refine z_get X fl_K_43 (9 + 4 * i) (e_K hi) rfl rfl d_K_release_2 ?_
  refine z_iconst X (v := 1) d_K_release_5 (by decide) ?_
  refine z_iadd X d_K_release_6 ?_
  refine z_puti X fl_K_43 (9 + 4 * i) (e_K hi) rfl rfl rfl d_K_release_7 ?_
  refine z_aload_n X 0 d_K_release_10 rfl rfl ?_
  refine z_aload_n X 0 d_K_release_11 rfl rfl ?_
  refine z_get X fl_K_40 (9 + 4 * i) (e_K hi) rfl rfl d_K_release_12 ?_
  refine z_if_le X 27 d_K_release_15 (by decide) (fun c_15 => ?_) (fun c_15 => ?_)
  · refine z_iconst X (v := (-1)) d_K_release_27 (by decide) ?_
    refine z_puti X fl_K_22 (9 + 4 * i) (e_K hi) rfl rfl rfl d_K_release_28 ?_
    refine z_aload_n X 0 d_K_release_31 rfl rfl ?_
    refine z_lload_n X 2 d_K_release_32 rfl rfl ?_
    refine z_Vv X GG_ok cf_K_46 (9 + 4 * i) [zJ t] [] (c_K_beginAnew l D cA ad _ i hi _) ⟨rfl, rfl⟩ (by decide) (e_K hi) rfl rfl rfl rfl (Nat.le_of_ble_eq_true rfl) ⟨Nat.zero_le _, Nat.zero_le _⟩ d_K_release_33 (fun M2 h3 => ?_)
    have qh3 := h3.symm
    subst qh3
    refine z_aload_n X 0 d_K_release_36 rfl rfl ?_
    refine z_get X fl_K_12 (9 + 4 * i) (e_K hi) rfl rfl d_K_release_37 ?_
    refine z_get X fl_K_50 (10 + 4 * i) (e_G hi) rfl rfl d_K_release_40 ?_
    refine z_if_ne X 50 d_K_release_43 (by decide) (fun c_43 => ?_) (fun c_43 => ?_)
    · exact z_vret X (by simp only [kRel, kRel2, kRel1, kDead, c_15, c_43, if_true, if_false]) d_K_release_50
    · refine z_aload_n X 0 d_K_release_46 rfl rfl ?_
      refine z_Vv X GG_ok cf_K_53 (9 + 4 * i) [] [] (c_K_rest l D cA ad _ i hi ) ⟨rfl, rfl⟩ (by decide) (e_K hi) rfl rfl rfl rfl (Nat.le_of_ble_eq_true rfl) ⟨Nat.zero_le _, Nat.zero_le _⟩ d_K_release_47 (fun M5 h6 => ?_)
      have qh6 := h6.symm
      subst qh6
      exact z_vret X (by simp only [kRel, kRel2, kRel1, kDead, c_15, c_43, if_true, if_false]) d_K_release_50
  · refine z_iload_n X 1 d_K_release_18 rfl rfl ?_
    refine z_aload_n X 0 d_K_release_19 rfl rfl ?_
    refine z_get X fl_K_40 (9 + 4 * i) (e_K hi) rfl rfl d_K_release_20 ?_
    refine z_iadd X d_K_release_23 ?_
    refine z_goto X 28 d_K_release_24 (by decide) ?_
    refine z_puti X fl_K_22 (9 + 4 * i) (e_K hi) rfl rfl rfl d_K_release_28 ?_
    refine z_aload_n X 0 d_K_release_31 rfl rfl ?_
    refine z_lload_n X 2 d_K_release_32 rfl rfl ?_
    refine z_Vv X GG_ok cf_K_46 (9 + 4 * i) [zJ t] [] (c_K_beginAnew l D cA ad _ i hi _) ⟨rfl, rfl⟩ (by decide) (e_K hi) rfl rfl rfl rfl (Nat.le_of_ble_eq_true rfl) ⟨Nat.zero_le _, Nat.zero_le _⟩ d_K_release_33 (fun M8 h9 => ?_)
    have qh9 := h9.symm
    subst qh9
    refine z_aload_n X 0 d_K_release_36 rfl rfl ?_
    refine z_get X fl_K_12 (9 + 4 * i) (e_K hi) rfl rfl d_K_release_37 ?_
    refine z_get X fl_K_50 (10 + 4 * i) (e_G hi) rfl rfl d_K_release_40 ?_
    refine z_if_ne X 50 d_K_release_43 (by decide) (fun c_43_10 => ?_) (fun c_43_10 => ?_)
    · exact z_vret X (by simp only [kRel, kRel2, kRel1, kDead, c_15, c_43_10, if_true, if_false]) d_K_release_50
    · refine z_aload_n X 0 d_K_release_46 rfl rfl ?_
      refine z_Vv X GG_ok cf_K_53 (9 + 4 * i) [] [] (c_K_rest l D cA ad _ i hi ) ⟨rfl, rfl⟩ (by decide) (e_K hi) rfl rfl rfl rfl (Nat.le_of_ble_eq_true rfl) ⟨Nat.zero_le _, Nat.zero_le _⟩ d_K_release_47 (fun M12 h13 => ?_)
      have qh13 := h13.symm
      subst qh13
      exact z_vret X (by simp only [kRel, kRel2, kRel1, kDead, c_15, c_43_10, if_true, if_false]) d_K_release_50

set_option maxHeartbeats 4000000 in
set_option maxRecDepth 100000 in
theorem c_K_advance (l : Launch) (D : va_G) (cA : Nat → ClassId) (ad : Nat → Nat) (M : zM) (i : Nat) (hi : i < 8) : Cv l D cA ad y_K_advance b_K_advance 1 none (zr 1 20) [zR (9 + 4 * i)] M (fun M' => M' = kAdv i M) := by
  refine zMv_of (plainFor_of_name (by decide)) (Nat.le_of_ble_eq_true rfl) ?_
  intro p e s m args below meth c A X
  refine z_aload_n X 0 d_K_advance_0 rfl rfl ?_
  refine z_dup X d_K_advance_1 rfl ?_
  refine z_get X fl_K_59 (9 + 4 * i) (e_K hi) rfl rfl d_K_advance_2 ?_
  refine z_iconst X (v := 1) d_K_advance_5 (by decide) ?_
  refine z_iadd X d_K_advance_6 ?_
  refine z_puti X fl_K_59 (9 + 4 * i) (e_K hi) rfl rfl rfl d_K_advance_7 ?_
  refine z_aload_n X 0 d_K_advance_10 rfl rfl ?_
  refine z_iconst X (v := 0) d_K_advance_11 (by decide) ?_
  refine z_puti X fl_K_62 (9 + 4 * i) (e_K hi) rfl rfl rfl d_K_advance_12 ?_
  refine z_aload_n X 0 d_K_advance_15 rfl rfl ?_
  refine z_get X fl_K_59 (9 + 4 * i) (e_K hi) rfl rfl d_K_advance_16 ?_
  refine z_aload_n X 0 d_K_advance_19 rfl rfl ?_
  refine z_get X fl_K_12 (9 + 4 * i) (e_K hi) rfl rfl d_K_advance_20 ?_
  refine z_get X fl_K_50 (10 + 4 * i) (e_G hi) rfl rfl d_K_advance_23 ?_
  refine z_icmp_lt X 33 d_K_advance_26 (by decide) (fun c_26 => ?_) (fun c_26 => ?_)
  · exact z_vret X (by simp only [kAdv, kAdv1, c_26, if_true, if_false]) d_K_advance_33
  · refine z_aload_n X 0 d_K_advance_29 rfl rfl ?_
    refine z_Vv X GG_ok cf_K_53 (9 + 4 * i) [] [] (c_K_rest l D cA ad _ i hi ) ⟨rfl, rfl⟩ (by decide) (e_K hi) rfl rfl rfl rfl (Nat.le_of_ble_eq_true rfl) ⟨Nat.zero_le _, Nat.zero_le _⟩ d_K_advance_30 (fun M2 h3 => ?_)
    have qh3 := h3.symm
    subst qh3
    exact z_vret X (by simp only [kAdv, kAdv1, c_26, if_true, if_false]) d_K_advance_33

set_option maxHeartbeats 4000000 in
set_option maxRecDepth 100000 in
theorem c_K_work (l : Launch) (D : va_G) (cA : Nat → ClassId) (ad : Nat → Nat) (M : zM) (i : Nat) (hi : i < 8) (n : Int32) : Cv l D cA ad y_K_work b_K_work 2 none (zr 2 40) [zR (9 + 4 * i), zI n] M (fun M' => M' = kWork i n M) := by
  refine zMv_of (plainFor_of_name (by decide)) (Nat.le_of_ble_eq_true rfl) ?_
  intro p e s m args below meth c A X
  refine z_aload_n X 0 d_K_work_0 rfl rfl ?_
  refine z_dup X d_K_work_1 rfl ?_
  refine z_get X fl_K_69 (9 + 4 * i) (e_K hi) rfl rfl d_K_work_2 ?_
  refine z_iconst X (v := 1) d_K_work_5 (by decide) ?_
  refine z_iadd X d_K_work_6 ?_
  refine z_puti X fl_K_69 (9 + 4 * i) (e_K hi) rfl rfl rfl d_K_work_7 ?_
  refine z_aload_n X 0 d_K_work_10 rfl rfl ?_
  refine z_dup X d_K_work_11 rfl ?_
  refine z_get X fl_K_62 (9 + 4 * i) (e_K hi) rfl rfl d_K_work_12 ?_
  refine z_iconst X (v := 1) d_K_work_15 (by decide) ?_
  refine z_iadd X d_K_work_16 ?_
  refine z_puti X fl_K_62 (9 + 4 * i) (e_K hi) rfl rfl rfl d_K_work_17 ?_
  refine z_aload_n X 0 d_K_work_20 rfl rfl ?_
  refine z_get X fl_K_62 (9 + 4 * i) (e_K hi) rfl rfl d_K_work_21 ?_
  refine z_iload_n X 1 d_K_work_24 rfl rfl ?_
  refine z_icmp_lt X 32 d_K_work_25 (by decide) (fun c_25 => ?_) (fun c_25 => ?_)
  · exact z_vret X (by simp only [kWork, kWork2, kWork1, c_25, if_true, if_false]) d_K_work_32
  · refine z_aload_n X 0 d_K_work_28 rfl rfl ?_
    refine z_Vv X GG_ok cf_K_72 (9 + 4 * i) [] [] (c_K_advance l D cA ad _ i hi ) ⟨rfl, rfl⟩ (by decide) (e_K hi) rfl rfl rfl rfl (Nat.le_of_ble_eq_true rfl) ⟨Nat.zero_le _, Nat.zero_le _⟩ d_K_work_29 (fun M2 h3 => ?_)
    have qh3 := h3.symm
    subst qh3
    exact z_vret X (by simp only [kWork, kWork2, kWork1, c_25, if_true, if_false]) d_K_work_32

set_option maxHeartbeats 4000000 in
set_option maxRecDepth 100000 in
theorem c_K_define (l : Launch) (D : va_G) (cA : Nat → ClassId) (ad : Nat → Nat) (M : zM) (i : Nat) (hi : i < 8) (a b d q : Int32) : Cv l D cA ad y_K_define b_K_define 5 none (zr 0 0) [zR (9 + 4 * i), zI a, zI b, zI d, zI q] M (fun M' => M' = kDef i a b d q M) := by
  refine zMv_of (plainFor_of_name (by decide)) (Nat.le_of_ble_eq_true rfl) ?_
  intro p e s m args below meth c A X
  refine z_aload_n X 0 d_K_define_0 rfl rfl ?_
  refine z_iload_n X 1 d_K_define_1 rfl rfl ?_
  refine z_puti X fl_K_31 (9 + 4 * i) (e_K hi) rfl rfl rfl d_K_define_2 ?_
  refine z_aload_n X 0 d_K_define_5 rfl rfl ?_
  refine z_iload_n X 2 d_K_define_6 rfl rfl ?_
  refine z_puti X fl_K_34 (9 + 4 * i) (e_K hi) rfl rfl rfl d_K_define_7 ?_
  refine z_aload_n X 0 d_K_define_10 rfl rfl ?_
  refine z_iload_n X 3 d_K_define_11 rfl rfl ?_
  refine z_puti X fl_K_37 (9 + 4 * i) (e_K hi) rfl rfl rfl d_K_define_12 ?_
  refine z_aload_n X 0 d_K_define_15 rfl rfl ?_
  refine z_iload X 4 d_K_define_16 rfl ?_
  refine z_puti X fl_K_40 (9 + 4 * i) (e_K hi) rfl rfl rfl d_K_define_18 ?_
  exact z_vret X rfl d_K_define_21
