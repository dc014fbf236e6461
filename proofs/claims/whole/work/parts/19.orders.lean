set_option maxHeartbeats 4000000 in
set_option maxRecDepth 100000 in
theorem c_A_send (l : Launch) (D : va_G) (cA : Nat → ClassId) (ad : Nat → Nat) (M : zM) (n w : Nat) (hI : kInv n w M) (i : Nat) (hi : i < 8) (x : Int32) (q : Nat) (hq : q < 4) (ex : x = nI q) : Cv l D cA ad y_A_send b_A_send 5 none (zr 2 47) [zR 0, zR (9 + 4 * i), zI x] M (fun M' => M' = kSend n i q M) := by
  refine zMv_of (plainFor_of_name (by decide)) (Nat.le_of_ble_eq_true rfl) ?_
  intro p e s m args below meth c A X
  subst ex
  refine z_aload_n X 1 d_A_send_0 rfl rfl ?_
  refine z_get X fl_A_206 (9 + 4 * i) (e_K hi) rfl rfl d_A_send_1 ?_
  refine z_bipush X (v := 8) d_A_send_4 (by decide) ?_
  refine z_aload_n X 1 d_A_send_6 rfl rfl ?_
  refine z_get X fl_A_209 (9 + 4 * i) (e_K hi) rfl rfl d_A_send_7 ?_
  refine z_imul X d_A_send_10 ?_
  refine z_iadd X d_A_send_11 ?_
  refine z_istore_n X (L' := [(3, zI ((M.1 (9 + 4 * i) 0) + (8 * (M.1 (9 + 4 * i) 10)))), (0, zR 0), (1, zR (9 + 4 * i)), (2, zI (nI q))]) d_A_send_12 rfl (by decide) rfl ?_
  refine z_aload_n X 1 d_A_send_13 rfl rfl ?_
  refine z_iconst X (v := 2) d_A_send_14 (by decide) ?_
  refine z_iload_n X 3 d_A_send_15 rfl rfl ?_
  refine z_Vq X GG_ok cf_A_212 0 [zI 2, zI (nI q)] [] (c_A_firstWaiting l D cA ad _ n w hI _ _) ⟨rfl, rfl⟩ (by decide) e_A rfl rfl rfl rfl (Nat.le_of_ble_eq_true rfl) ⟨Nat.zero_le _, Nat.zero_le _⟩ d_A_send_16 (fun r1 M2 h3 => ?_)
  have qh3 := h3.1.symm
  subst qh3
  obtain ⟨-, rfl⟩ := h3
  rcases hF : kFW n 2 (nI q) M with _ | j
  · refine z_astoreN X (L' := [(4, zN), (3, zI ((M.1 (9 + 4 * i) 0) + (8 * (M.1 (9 + 4 * i) 10)))), (0, zR 0), (1, zR (9 + 4 * i)), (2, zI (nI q))]) d_A_send_19 (by decide) rfl ?_
    refine z_aloadN X 0 d_A_send_21 rfl ?_
    refine z_ifnullN X 49 d_A_send_23 (by decide) ?_
    refine z_aload_n X 2 d_A_send_49 rfl rfl ?_
    refine z_get X fl_A_34 0 e_A rfl rfl d_A_send_50 ?_
    refine z_iload_n X 4 d_A_send_53 rfl rfl ?_
    refine z_aald X 41 e_OA rfl q rfl hq (by decide) (g_OA hq) d_A_send_54 ?_
    refine z_get X fl_A_127 (42 + 2 * q) (e_O hq) rfl rfl d_A_send_55 ?_
    refine z_iconst X (v := 4) d_A_send_58 (by decide) ?_
    refine z_icmp_ne X 75 d_A_send_59 (by decide) (fun c_59 => ?_) (fun c_59 => ?_)
    · refine z_aload_n X 2 d_A_send_75 rfl rfl ?_
      refine z_get X fl_A_34 0 e_A rfl rfl d_A_send_76 ?_
      refine z_iload_n X 4 d_A_send_79 rfl rfl ?_
      refine z_aald X 41 e_OA rfl q rfl hq (by decide) (g_OA hq) d_A_send_80 ?_
      refine z_iload_n X 1 d_A_send_81 rfl rfl ?_
      refine z_Vv X GG_ok cf_A_225 (42 + 2 * q) [zI ((M.1 (9 + 4 * i) 0) + (8 * (M.1 (9 + 4 * i) 10)))] [] (c_O_put l D cA ad _ q hq (kSz M q) (kSz_lt hI hq c_59) (kSz_eq hI hq) _) ⟨rfl, rfl⟩ (by decide) (e_O hq) rfl rfl rfl rfl (Nat.le_of_ble_eq_true rfl) ⟨Nat.zero_le _, Nat.zero_le _⟩ d_A_send_82 (fun M5 h6 => ?_)
      have qh6 := h6.symm
      subst qh6
      refine z_aload_n X 3 d_A_send_85 rfl rfl ?_
      refine z_Vv X GG_ok cf_A_222 (9 + 4 * i) [] [] (c_K_advance l D cA ad _ i hi ) ⟨rfl, rfl⟩ (by decide) (e_K hi) rfl rfl rfl rfl (Nat.le_of_ble_eq_true rfl) ⟨Nat.zero_le _, Nat.zero_le _⟩ d_A_send_86 (fun M8 h9 => ?_)
      have qh9 := h9.symm
      subst qh9
      exact z_vret X (by unfold kSend kSend0; rw [hF]; simp only [c_59, if_true, if_false]; try rfl) d_A_send_89
    · refine z_aload_n X 2 d_A_send_62 rfl rfl ?_
      refine z_dup X d_A_send_63 rfl ?_
      refine z_get X fl_A_134 0 e_A rfl rfl d_A_send_64 ?_
      refine z_iconst X (v := 1) d_A_send_67 (by decide) ?_
      refine z_iadd X d_A_send_68 ?_
      refine z_puti X fl_A_134 0 e_A rfl rfl rfl d_A_send_69 ?_
      refine z_goto X 85 d_A_send_72 (by decide) ?_
      refine z_aload_n X 3 d_A_send_85 rfl rfl ?_
      refine z_Vv X GG_ok cf_A_222 (9 + 4 * i) [] [] (c_K_advance l D cA ad _ i hi ) ⟨rfl, rfl⟩ (by decide) (e_K hi) rfl rfl rfl rfl (Nat.le_of_ble_eq_true rfl) ⟨Nat.zero_le _, Nat.zero_le _⟩ d_A_send_86 (fun M11 h12 => ?_)
      have qh12 := h12.symm
      subst qh12
      exact z_vret X (by unfold kSend kSend0; rw [hF]; simp only [c_59, if_true, if_false]; try rfl) d_A_send_89
  · have hj : j < 8 := Nat.lt_of_lt_of_le (kFW_lt hF) (kInv_n hI)
    refine z_astore X (L' := [(4, zR (9 + 4 * j)), (3, zI ((M.1 (9 + 4 * i) 0) + (8 * (M.1 (9 + 4 * i) 10)))), (0, zR 0), (1, zR (9 + 4 * i)), (2, zI (nI q))]) d_A_send_19 (by decide) rfl ?_
    refine z_aload X 0 d_A_send_21 rfl ?_
    refine z_ifnull X d_A_send_23 ?_
    refine z_aload X 0 d_A_send_26 rfl ?_
    refine z_iload_n X 1 d_A_send_28 rfl rfl ?_
    refine z_puti X fl_A_216 (9 + 4 * j) (e_K hj) rfl rfl rfl d_A_send_29 ?_
    refine z_aload X 0 d_A_send_32 rfl ?_
    refine z_aload_n X 2 d_A_send_34 rfl rfl ?_
    refine z_Vj X GG_ok cf_A_112 0 [] [zR (9 + 4 * j)] (c_A_newTurn l D cA ad _) ⟨rfl, rfl⟩ (by decide) e_A rfl rfl rfl rfl (Nat.le_of_ble_eq_true rfl) ⟨Nat.zero_le _, Nat.zero_le _⟩ d_A_send_35 (fun r13 M14 h15 => ?_)
    have qh15 := h15.1.symm
    subst qh15
    obtain ⟨-, rfl⟩ := h15
    refine z_Vv X GG_ok cf_A_219 (9 + 4 * j) [zJ ((z_si M (9 + 4 * j) 15 ((M.1 (9 + 4 * i) 0) + (8 * (M.1 (9 + 4 * i) 10)))).2 0 9 + 1)] [] (c_K_becomeReady l D cA ad _ j hj _) ⟨rfl, rfl⟩ (by decide) (e_K hj) rfl rfl rfl rfl (Nat.le_of_ble_eq_true rfl) ⟨Nat.zero_le _, Nat.zero_le _⟩ d_A_send_38 (fun M17 h18 => ?_)
    have qh18 := h18.symm
    subst qh18
    refine z_aload X 0 d_A_send_41 rfl ?_
    refine z_Vv X GG_ok cf_A_222 (9 + 4 * j) [] [] (c_K_advance l D cA ad _ j hj ) ⟨rfl, rfl⟩ (by decide) (e_K hj) rfl rfl rfl rfl (Nat.le_of_ble_eq_true rfl) ⟨Nat.zero_le _, Nat.zero_le _⟩ d_A_send_43 (fun M20 h21 => ?_)
    have qh21 := h21.symm
    subst qh21
    refine z_goto X 85 d_A_send_46 (by decide) ?_
    refine z_aload_n X 3 d_A_send_85 rfl rfl ?_
    refine z_Vv X GG_ok cf_A_222 (9 + 4 * i) [] [] (c_K_advance l D cA ad _ i hi ) ⟨rfl, rfl⟩ (by decide) (e_K hi) rfl rfl rfl rfl (Nat.le_of_ble_eq_true rfl) ⟨Nat.zero_le _, Nat.zero_le _⟩ d_A_send_86 (fun M23 h24 => ?_)
    have qh24 := h24.symm
    subst qh24
    exact z_vret X (by unfold kSend; rw [hF]; rfl) d_A_send_89

set_option maxHeartbeats 4000000 in
set_option maxRecDepth 100000 in
theorem c_A_take (l : Launch) (D : va_G) (cA : Nat → ClassId) (ad : Nat → Nat) (M : zM) (n w : Nat) (hI : kInv n w M) (i : Nat) (hi : i < 8) (x : Int32) (q : Nat) (hq : q < 4) (ex : x = nI q) : Cv l D cA ad y_A_take b_A_take 3 none (zr 2 40) [zR 0, zR (9 + 4 * i), zI x] M (fun M' => M' = kTakes i q M) := by
  refine zMv_of (plainFor_of_name (by decide)) (Nat.le_of_ble_eq_true rfl) ?_
  intro p e s m args below meth c A X
  subst ex
  refine z_aload_n X 0 d_A_take_0 rfl rfl ?_
  refine z_get X fl_A_34 0 e_A rfl rfl d_A_take_1 ?_
  refine z_iload_n X 2 d_A_take_4 rfl rfl ?_
  refine z_aald X 41 e_OA rfl q rfl hq (by decide) (g_OA hq) d_A_take_5 ?_
  refine z_get X fl_A_127 (42 + 2 * q) (e_O hq) rfl rfl d_A_take_6 ?_
  refine z_if_ne X 23 d_A_take_9 (by decide) (fun c_9 => ?_) (fun c_9 => ?_)
  · refine z_aload_n X 1 d_A_take_23 rfl rfl ?_
    refine z_aload_n X 0 d_A_take_24 rfl rfl ?_
    refine z_get X fl_A_34 0 e_A rfl rfl d_A_take_25 ?_
    refine z_iload_n X 2 d_A_take_28 rfl rfl ?_
    refine z_aald X 41 e_OA rfl q rfl hq (by decide) (g_OA hq) d_A_take_29 ?_
    refine z_Vi X GG_ok cf_A_231 (42 + 2 * q) [] [zR (9 + 4 * i)] (c_O_takeOldest l D cA ad _ q hq (kSz M q) (kSz_le hI hq) (kSz_pos hI hq c_9) (kSz_eq hI hq)) ⟨rfl, rfl⟩ (by decide) (e_O hq) rfl rfl rfl rfl (Nat.le_of_ble_eq_true rfl) ⟨Nat.zero_le _, Nat.zero_le _⟩ d_A_take_30 (fun r1 M2 h3 => ?_)
    have qh3 := h3.1.symm
    subst qh3
    obtain ⟨-, rfl⟩ := h3
    refine z_puti X fl_A_216 (9 + 4 * i) (e_K hi) rfl rfl rfl d_A_take_33 ?_
    refine z_aload_n X 1 d_A_take_36 rfl rfl ?_
    refine z_Vv X GG_ok cf_A_222 (9 + 4 * i) [] [] (c_K_advance l D cA ad _ i hi ) ⟨rfl, rfl⟩ (by decide) (e_K hi) rfl rfl rfl rfl (Nat.le_of_ble_eq_true rfl) ⟨Nat.zero_le _, Nat.zero_le _⟩ d_A_take_37 (fun M5 h6 => ?_)
    have qh6 := h6.symm
    subst qh6
    exact z_vret X (by simp only [kTakes, c_9, if_true, if_false]) d_A_take_40
  · refine z_aload_n X 1 d_A_take_12 rfl rfl ?_
    refine z_aload_n X 0 d_A_take_13 rfl rfl ?_
    refine z_Vj X GG_ok cf_A_112 0 [] [zR (9 + 4 * i)] (c_A_newTurn l D cA ad _) ⟨rfl, rfl⟩ (by decide) e_A rfl rfl rfl rfl (Nat.le_of_ble_eq_true rfl) ⟨Nat.zero_le _, Nat.zero_le _⟩ d_A_take_14 (fun r7 M8 h9 => ?_)
    have qh9 := h9.1.symm
    subst qh9
    obtain ⟨-, rfl⟩ := h9
    refine z_Vv X GG_ok cf_A_228 (9 + 4 * i) [zJ (M.2 0 9 + 1)] [] (c_K_becomeWaiting l D cA ad _ i hi _) ⟨rfl, rfl⟩ (by decide) (e_K hi) rfl rfl rfl rfl (Nat.le_of_ble_eq_true rfl) ⟨Nat.zero_le _, Nat.zero_le _⟩ d_A_take_17 (fun M11 h12 => ?_)
    have qh12 := h12.symm
    subst qh12
    refine z_goto X 40 d_A_take_20 (by decide) ?_
    exact z_vret X (by simp only [kTakes, c_9, if_true, if_false]) d_A_take_40

set_option maxHeartbeats 4000000 in
set_option maxRecDepth 100000 in
theorem c_A_up (l : Launch) (D : va_G) (cA : Nat → ClassId) (ad : Nat → Nat) (M : zM) (n w : Nat) (hI : kInv n w M) (i : Nat) (hi : i < 8) (x : Int32) (q : Nat) (hq : q < 4) (ex : x = nI q) : Cv l D cA ad y_A_up b_A_up 4 none (zr 2 47) [zR 0, zR (9 + 4 * i), zI x] M (fun M' => M' = kUp n i q M) := by
  refine zMv_of (plainFor_of_name (by decide)) (Nat.le_of_ble_eq_true rfl) ?_
  intro p e s m args below meth c A X
  subst ex
  refine z_aload_n X 0 d_A_up_0 rfl rfl ?_
  refine z_iconst X (v := 4) d_A_up_1 (by decide) ?_
  refine z_iload_n X 2 d_A_up_2 rfl rfl ?_
  refine z_Vq X GG_ok cf_A_212 0 [zI 4, zI (nI q)] [] (c_A_firstWaiting l D cA ad _ n w hI _ _) ⟨rfl, rfl⟩ (by decide) e_A rfl rfl rfl rfl (Nat.le_of_ble_eq_true rfl) ⟨Nat.zero_le _, Nat.zero_le _⟩ d_A_up_3 (fun r1 M2 h3 => ?_)
  have qh3 := h3.1.symm
  subst qh3
  obtain ⟨-, rfl⟩ := h3
  rcases hF : kFW n 4 (nI q) M with _ | j
  · refine z_astore_nN X (L' := [(3, zN), (0, zR 0), (1, zR (9 + 4 * i)), (2, zI (nI q))]) d_A_up_6 rfl (by decide) rfl ?_
    refine z_aload_nN X 0 d_A_up_7 rfl rfl ?_
    refine z_ifnullN X 26 d_A_up_8 (by decide) ?_
    refine z_aload_n X 1 d_A_up_26 rfl rfl ?_
    refine z_get X fl_A_39 0 e_A rfl rfl d_A_up_27 ?_
    refine z_iload_n X 3 d_A_up_30 rfl rfl ?_
    refine z_iald X 50 e_Se rfl q rfl hq (by decide) d_A_up_31 ?_
    refine z_bipush X (v := 9) d_A_up_32 (by decide) ?_
    refine z_icmp_ge X 47 d_A_up_34 (by decide) (fun c_34 => ?_) (fun c_34 => ?_)
    · refine z_aload_n X 2 d_A_up_47 rfl rfl ?_
      refine z_Vv X GG_ok cf_A_222 (9 + 4 * i) [] [] (c_K_advance l D cA ad _ i hi ) ⟨rfl, rfl⟩ (by decide) (e_K hi) rfl rfl rfl rfl (Nat.le_of_ble_eq_true rfl) ⟨Nat.zero_le _, Nat.zero_le _⟩ d_A_up_48 (fun M5 h6 => ?_)
      have qh6 := h6.symm
      subst qh6
      exact z_vret X (by unfold kUp kUp0; rw [hF]; simp only [c_34, if_true, if_false]) d_A_up_51
    · refine z_aload_n X 1 d_A_up_37 rfl rfl ?_
      refine z_get X fl_A_39 0 e_A rfl rfl d_A_up_38 ?_
      refine z_iload_n X 3 d_A_up_41 rfl rfl ?_
      refine z_dup2 X d_A_up_42 rfl rfl ?_
      refine z_iald X 50 e_Se rfl q rfl hq (by decide) d_A_up_43 ?_
      refine z_iconst X (v := 1) d_A_up_44 (by decide) ?_
      refine z_iadd X d_A_up_45 ?_
      refine z_iast X 50 e_Se rfl q rfl hq (by decide) d_A_up_46 ?_
      refine z_aload_n X 2 d_A_up_47 rfl rfl ?_
      refine z_Vv X GG_ok cf_A_222 (9 + 4 * i) [] [] (c_K_advance l D cA ad _ i hi ) ⟨rfl, rfl⟩ (by decide) (e_K hi) rfl rfl rfl rfl (Nat.le_of_ble_eq_true rfl) ⟨Nat.zero_le _, Nat.zero_le _⟩ d_A_up_48 (fun M8 h9 => ?_)
      have qh9 := h9.symm
      subst qh9
      exact z_vret X (by unfold kUp kUp0; rw [hF]; simp only [c_34, if_true, if_false]) d_A_up_51
  · have hj : j < 8 := Nat.lt_of_lt_of_le (kFW_lt hF) (kInv_n hI)
    refine z_astore_n X (L' := [(3, zR (9 + 4 * j)), (0, zR 0), (1, zR (9 + 4 * i)), (2, zI (nI q))]) d_A_up_6 rfl (by decide) rfl ?_
    refine z_aload_n X 0 d_A_up_7 rfl rfl ?_
    refine z_ifnull X d_A_up_8 ?_
    refine z_aload_n X 0 d_A_up_11 rfl rfl ?_
    refine z_aload_n X 1 d_A_up_12 rfl rfl ?_
    refine z_Vj X GG_ok cf_A_112 0 [] [zR (9 + 4 * j)] (c_A_newTurn l D cA ad _) ⟨rfl, rfl⟩ (by decide) e_A rfl rfl rfl rfl (Nat.le_of_ble_eq_true rfl) ⟨Nat.zero_le _, Nat.zero_le _⟩ d_A_up_13 (fun r10 M11 h12 => ?_)
    have qh12 := h12.1.symm
    subst qh12
    obtain ⟨-, rfl⟩ := h12
    refine z_Vv X GG_ok cf_A_219 (9 + 4 * j) [zJ (M.2 0 9 + 1)] [] (c_K_becomeReady l D cA ad _ j hj _) ⟨rfl, rfl⟩ (by decide) (e_K hj) rfl rfl rfl rfl (Nat.le_of_ble_eq_true rfl) ⟨Nat.zero_le _, Nat.zero_le _⟩ d_A_up_16 (fun M14 h15 => ?_)
    have qh15 := h15.symm
    subst qh15
    refine z_aload_n X 0 d_A_up_19 rfl rfl ?_
    refine z_Vv X GG_ok cf_A_222 (9 + 4 * j) [] [] (c_K_advance l D cA ad _ j hj ) ⟨rfl, rfl⟩ (by decide) (e_K hj) rfl rfl rfl rfl (Nat.le_of_ble_eq_true rfl) ⟨Nat.zero_le _, Nat.zero_le _⟩ d_A_up_20 (fun M17 h18 => ?_)
    have qh18 := h18.symm
    subst qh18
    refine z_goto X 47 d_A_up_23 (by decide) ?_
    refine z_aload_n X 2 d_A_up_47 rfl rfl ?_
    refine z_Vv X GG_ok cf_A_222 (9 + 4 * i) [] [] (c_K_advance l D cA ad _ i hi ) ⟨rfl, rfl⟩ (by decide) (e_K hi) rfl rfl rfl rfl (Nat.le_of_ble_eq_true rfl) ⟨Nat.zero_le _, Nat.zero_le _⟩ d_A_up_48 (fun M20 h21 => ?_)
    have qh21 := h21.symm
    subst qh21
    exact z_vret X (by unfold kUp; rw [hF]; rfl) d_A_up_51

set_option maxHeartbeats 4000000 in
set_option maxRecDepth 100000 in
theorem c_A_down (l : Launch) (D : va_G) (cA : Nat → ClassId) (ad : Nat → Nat) (M : zM) (n w : Nat) (hI : kInv n w M) (i : Nat) (hi : i < 8) (x : Int32) (q : Nat) (hq : q < 4) (ex : x = nI q) : Cv l D cA ad y_A_down b_A_down 3 none (zr 2 40) [zR 0, zR (9 + 4 * i), zI x] M (fun M' => M' = kDown i q M) := by
  refine zMv_of (plainFor_of_name (by decide)) (Nat.le_of_ble_eq_true rfl) ?_
  intro p e s m args below meth c A X
  subst ex
  refine z_aload_n X 0 d_A_down_0 rfl rfl ?_
  refine z_get X fl_A_39 0 e_A rfl rfl d_A_down_1 ?_
  refine z_iload_n X 2 d_A_down_4 rfl rfl ?_
  refine z_iald X 50 e_Se rfl q rfl hq (by decide) d_A_down_5 ?_
  refine z_if_ne X 20 d_A_down_6 (by decide) (fun c_6 => ?_) (fun c_6 => ?_)
  · refine z_aload_n X 0 d_A_down_20 rfl rfl ?_
    refine z_get X fl_A_39 0 e_A rfl rfl d_A_down_21 ?_
    refine z_iload_n X 2 d_A_down_24 rfl rfl ?_
    refine z_dup2 X d_A_down_25 rfl rfl ?_
    refine z_iald X 50 e_Se rfl q rfl hq (by decide) d_A_down_26 ?_
    refine z_iconst X (v := 1) d_A_down_27 (by decide) ?_
    refine z_isub X d_A_down_28 ?_
    refine z_iast X 50 e_Se rfl q rfl hq (by decide) d_A_down_29 ?_
    refine z_aload_n X 1 d_A_down_30 rfl rfl ?_
    refine z_Vv X GG_ok cf_A_222 (9 + 4 * i) [] [] (c_K_advance l D cA ad _ i hi ) ⟨rfl, rfl⟩ (by decide) (e_K hi) rfl rfl rfl rfl (Nat.le_of_ble_eq_true rfl) ⟨Nat.zero_le _, Nat.zero_le _⟩ d_A_down_31 (fun M2 h3 => ?_)
    have qh3 := h3.symm
    subst qh3
    exact z_vret X (by simp only [kDown, c_6, if_true, if_false]) d_A_down_34
  · refine z_aload_n X 1 d_A_down_9 rfl rfl ?_
    refine z_aload_n X 0 d_A_down_10 rfl rfl ?_
    refine z_Vj X GG_ok cf_A_112 0 [] [zR (9 + 4 * i)] (c_A_newTurn l D cA ad _) ⟨rfl, rfl⟩ (by decide) e_A rfl rfl rfl rfl (Nat.le_of_ble_eq_true rfl) ⟨Nat.zero_le _, Nat.zero_le _⟩ d_A_down_11 (fun r4 M5 h6 => ?_)
    have qh6 := h6.1.symm
    subst qh6
    obtain ⟨-, rfl⟩ := h6
    refine z_Vv X GG_ok cf_A_228 (9 + 4 * i) [zJ (M.2 0 9 + 1)] [] (c_K_becomeWaiting l D cA ad _ i hi _) ⟨rfl, rfl⟩ (by decide) (e_K hi) rfl rfl rfl rfl (Nat.le_of_ble_eq_true rfl) ⟨Nat.zero_le _, Nat.zero_le _⟩ d_A_down_14 (fun M8 h9 => ?_)
    have qh9 := h9.symm
    subst qh9
    refine z_goto X 34 d_A_down_17 (by decide) ?_
    exact z_vret X (by simp only [kDown, c_6, if_true, if_false]) d_A_down_34

set_option maxHeartbeats 4000000 in
set_option maxRecDepth 100000 in
theorem c_A_doOrder (l : Launch) (D : va_G) (cA : Nat → ClassId) (ad : Nat → Nat) (M : zM) (n w : Nat) (hI : kInv n w M) (i : Nat) (hi : i < 8) : Ci l D cA ad y_A_doOrder b_A_doOrder 3 (some (.boolean)) (zr 3 71) [zR 0, zR (9 + 4 * i)] M (fun r M' => M' = kDo n i M ∧ ((r = 1 ∧ kOrd M i = 0) ∨ (r = 0 ∧ ¬ kOrd M i = 0))) := by
  refine zMi_of (plainFor_of_name (by decide)) (Nat.le_of_ble_eq_true rfl) ?_
  intro p e s m args below meth c A X
  refine z_aload_n X 1 d_A_doOrder_0 rfl rfl ?_
  refine z_get X fl_A_77 (9 + 4 * i) (e_K hi) rfl rfl d_A_doOrder_1 ?_
  refine z_get X fl_A_181 (10 + 4 * i) (e_G hi) rfl rfl d_A_doOrder_4 ?_
  refine z_aload_n X 1 d_A_doOrder_7 rfl rfl ?_
  refine z_get X fl_A_184 (9 + 4 * i) (e_K hi) rfl rfl d_A_doOrder_8 ?_
  refine z_iald X (12 + 4 * i) (e_Nu hi) rfl (kNx M i) (kNx_eq hI hi) (kNx_lt hI hi) (by decide) d_A_doOrder_11 ?_
  refine z_istore_n X (L' := [(2, zI (M.1 (12 + 4 * i) (kNx M i))), (0, zR 0), (1, zR (9 + 4 * i))]) d_A_doOrder_12 rfl (by decide) rfl ?_
  refine z_aload_n X 2 d_A_doOrder_13 rfl rfl ?_
  refine z_get X fl_A_77 (9 + 4 * i) (e_K hi) rfl rfl d_A_doOrder_14 ?_
  refine z_get X fl_A_187 (10 + 4 * i) (e_G hi) rfl rfl d_A_doOrder_17 ?_
  refine z_aload_n X 2 d_A_doOrder_20 rfl rfl ?_
  refine z_get X fl_A_184 (9 + 4 * i) (e_K hi) rfl rfl d_A_doOrder_21 ?_
  refine z_iald X (11 + 4 * i) (e_Or hi) rfl (kNx M i) (kNx_eq hI hi) (kNx_lt hI hi) (by decide) d_A_doOrder_24 ?_
  by_cases s1_0 : (M.1 (11 + 4 * i) (kNx M i)) = 0
  · refine z_tabIn X 56 d_A_doOrder_25 (by rw [s1_0]; decide) (by rw [s1_0]; decide) (by rw [s1_0]; rfl) (by decide) ?_
    refine z_aload_n X 2 d_A_doOrder_56 rfl rfl ?_
    refine z_iload_n X 0 d_A_doOrder_57 rfl rfl ?_
    refine z_Vv X GG_ok cf_A_190 (9 + 4 * i) [zI (M.1 (12 + 4 * i) (kNx M i))] [] (c_K_work l D cA ad _ i hi _) ⟨rfl, rfl⟩ (by decide) (e_K hi) rfl rfl rfl rfl (Nat.le_of_ble_eq_true rfl) ⟨Nat.zero_le _, Nat.zero_le _⟩ d_A_doOrder_58 (fun M3 h4 => ?_)
    have qh4 := h4.symm
    subst qh4
    refine z_iconst X (v := 1) d_A_doOrder_61 (by decide) ?_
    exact z_zret X rfl (⟨by rw [kDo, if_pos (show kOrd M i = 0 from s1_0)]; rfl, Or.inl ⟨rfl, s1_0⟩⟩) d_A_doOrder_62
  by_cases s1_1 : (M.1 (11 + 4 * i) (kNx M i)) = 1
  · refine z_tabIn X 63 d_A_doOrder_25 (by rw [s1_1]; decide) (by rw [s1_1]; decide) (by rw [s1_1]; rfl) (by decide) ?_
    refine z_aload_n X 1 d_A_doOrder_63 rfl rfl ?_
    refine z_aload_n X 2 d_A_doOrder_64 rfl rfl ?_
    refine z_iload_n X 0 d_A_doOrder_65 rfl rfl ?_
    refine z_Vv X GG_ok cf_A_193 0 [zR (9 + 4 * i), zI (M.1 (12 + 4 * i) (kNx M i))] [] (c_A_send l D cA ad _ n w hI i hi _ (kNum M i).toNatClampNeg (kNum_lt hI hi s1_0).1 (kNum_lt hI hi s1_0).2) ⟨rfl, rfl⟩ (by decide) e_A rfl rfl rfl rfl (Nat.le_of_ble_eq_true rfl) ⟨Nat.zero_le _, Nat.zero_le _⟩ d_A_doOrder_66 (fun M6 h7 => ?_)
    have qh7 := h7.symm
    subst qh7
    refine z_goto X 96 d_A_doOrder_69 (by decide) ?_
    refine z_iconst X (v := 0) d_A_doOrder_96 (by decide) ?_
    exact z_zret X rfl (⟨by rw [kDo, if_neg (show ¬ kOrd M i = 0 from s1_0), if_pos (show kOrd M i = 1 from s1_1)], Or.inr ⟨rfl, s1_0⟩⟩) d_A_doOrder_97
  by_cases s1_2 : (M.1 (11 + 4 * i) (kNx M i)) = 2
  · refine z_tabIn X 72 d_A_doOrder_25 (by rw [s1_2]; decide) (by rw [s1_2]; decide) (by rw [s1_2]; rfl) (by decide) ?_
    refine z_aload_n X 1 d_A_doOrder_72 rfl rfl ?_
    refine z_aload_n X 2 d_A_doOrder_73 rfl rfl ?_
    refine z_iload_n X 0 d_A_doOrder_74 rfl rfl ?_
    refine z_Vv X GG_ok cf_A_197 0 [zR (9 + 4 * i), zI (M.1 (12 + 4 * i) (kNx M i))] [] (c_A_take l D cA ad _ n w hI i hi _ (kNum M i).toNatClampNeg (kNum_lt hI hi s1_0).1 (kNum_lt hI hi s1_0).2) ⟨rfl, rfl⟩ (by decide) e_A rfl rfl rfl rfl (Nat.le_of_ble_eq_true rfl) ⟨Nat.zero_le _, Nat.zero_le _⟩ d_A_doOrder_75 (fun M9 h10 => ?_)
    have qh10 := h10.symm
    subst qh10
    refine z_goto X 96 d_A_doOrder_78 (by decide) ?_
    refine z_iconst X (v := 0) d_A_doOrder_96 (by decide) ?_
    exact z_zret X rfl (⟨by rw [kDo, if_neg (show ¬ kOrd M i = 0 from s1_0), if_neg (show ¬ kOrd M i = 1 from s1_1), if_pos (show kOrd M i = 2 from s1_2)], Or.inr ⟨rfl, s1_0⟩⟩) d_A_doOrder_97
  by_cases s1_3 : (M.1 (11 + 4 * i) (kNx M i)) = 3
  · refine z_tabIn X 81 d_A_doOrder_25 (by rw [s1_3]; decide) (by rw [s1_3]; decide) (by rw [s1_3]; rfl) (by decide) ?_
    refine z_aload_n X 1 d_A_doOrder_81 rfl rfl ?_
    refine z_aload_n X 2 d_A_doOrder_82 rfl rfl ?_
    refine z_iload_n X 0 d_A_doOrder_83 rfl rfl ?_
    refine z_Vv X GG_ok cf_A_200 0 [zR (9 + 4 * i), zI (M.1 (12 + 4 * i) (kNx M i))] [] (c_A_up l D cA ad _ n w hI i hi _ (kNum M i).toNatClampNeg (kNum_lt hI hi s1_0).1 (kNum_lt hI hi s1_0).2) ⟨rfl, rfl⟩ (by decide) e_A rfl rfl rfl rfl (Nat.le_of_ble_eq_true rfl) ⟨Nat.zero_le _, Nat.zero_le _⟩ d_A_doOrder_84 (fun M12 h13 => ?_)
    have qh13 := h13.symm
    subst qh13
    refine z_goto X 96 d_A_doOrder_87 (by decide) ?_
    refine z_iconst X (v := 0) d_A_doOrder_96 (by decide) ?_
    exact z_zret X rfl (⟨by rw [kDo, if_neg (show ¬ kOrd M i = 0 from s1_0), if_neg (show ¬ kOrd M i = 1 from s1_1), if_neg (show ¬ kOrd M i = 2 from s1_2), if_pos (show kOrd M i = 3 from s1_3)], Or.inr ⟨rfl, s1_0⟩⟩) d_A_doOrder_97
  refine z_tabOut X 90 d_A_doOrder_25 (by have q0 := lv_neT s1_0 (k := 0) (a := 0) (by decide); have q1 := lv_neT s1_1 (k := 1) (a := 1) (by decide); have q2 := lv_neT s1_2 (k := 2) (a := 2) (by decide); have q3 := lv_neT s1_3 (k := 3) (a := 3) (by decide); omega) (by decide) ?_
  refine z_aload_n X 1 d_A_doOrder_90 rfl rfl ?_
  refine z_aload_n X 2 d_A_doOrder_91 rfl rfl ?_
  refine z_iload_n X 0 d_A_doOrder_92 rfl rfl ?_
  refine z_Vv X GG_ok cf_A_203 0 [zR (9 + 4 * i), zI (M.1 (12 + 4 * i) (kNx M i))] [] (c_A_down l D cA ad _ n w hI i hi _ (kNum M i).toNatClampNeg (kNum_lt hI hi s1_0).1 (kNum_lt hI hi s1_0).2) ⟨rfl, rfl⟩ (by decide) e_A rfl rfl rfl rfl (Nat.le_of_ble_eq_true rfl) ⟨Nat.zero_le _, Nat.zero_le _⟩ d_A_doOrder_93 (fun M15 h16 => ?_)
  have qh16 := h16.symm
  subst qh16
  refine z_iconst X (v := 0) d_A_doOrder_96 (by decide) ?_
  exact z_zret X rfl (⟨by rw [kDo, if_neg (show ¬ kOrd M i = 0 from s1_0), if_neg (show ¬ kOrd M i = 1 from s1_1), if_neg (show ¬ kOrd M i = 2 from s1_2), if_neg (show ¬ kOrd M i = 3 from s1_3)], Or.inr ⟨rfl, s1_0⟩⟩) d_A_doOrder_97
