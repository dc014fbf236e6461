set_option maxHeartbeats 4000000 in
set_option maxRecDepth 100000 in
theorem c_O_takeOldest (l : Launch) (D : va_G) (cA : Nat → ClassId) (ad : Nat → Nat) (M : zM) (q : Nat) (hq4 : q < 4) (n : Nat) (hn : n ≤ 4) (h0 : 0 < n) (en : M.1 (42 + 2 * q) 1 = nI n) : Ci l D cA ad y_O_takeOldest b_O_takeOldest 3 (some (.int)) (zr 0 0) [zR (42 + 2 * q)] M (fun r M' => M' = kTake q n M ∧ r = M.1 (43 + 2 * q) 0) := by
  refine zMi_of (plainFor_of_name (by decide)) (Nat.le_of_ble_eq_true rfl) ?_
  intro p e s m args below meth c A X
  have loop : ∀ (k i : Nat) (N : zM), i + k = n - 1 → N.1 (42 + 2 * q) 1 = nI (n - 1) → kFor (kSh q) k i N = kTake q n M → zW p l e (zr 0 0) s m args below meth c 0 0 (MQ below (va_Qi (fun r M' => M' = kTake q n M ∧ r = M.1 (43 + 2 * q) 0) (fun M' t => va_P D cls (z_w cA ad M' 0 EE) t.heap) A) args s 0 0 A) A D cls cA ad EE 3 N 19 [(2, zI (nI i)), (1, zI (M.1 (43 + 2 * q) 0)), (0, zR (42 + 2 * q))] [] := by
    intro k
    induction k with
    | zero =>
      intro i N hi hN hq
      refine z_iload_n X 0 d_O_takeOldest_19 rfl rfl ?_
      refine z_aload_n X 2 d_O_takeOldest_20 rfl rfl ?_
      refine z_get X fl_O_15 (42 + 2 * q) (e_O hq4) rfl rfl d_O_takeOldest_21 ?_
      refine z_icmp_ge X 47 d_O_takeOldest_24 (by decide) (fun c_24 => ?_) (fun c_24 => absurd (by rw [hN, show i = n - 1 by omega]; exact nI_le (Nat.le_refl _) (by omega)) c_24)
      refine z_iload_n X 1 d_O_takeOldest_47 rfl rfl ?_
      exact z_iret X (⟨hq, rfl⟩) d_O_takeOldest_48
    | succ k ih =>
      intro i N hi hN hq
      refine z_iload_n X 0 d_O_takeOldest_19 rfl rfl ?_
      refine z_aload_n X 2 d_O_takeOldest_20 rfl rfl ?_
      refine z_get X fl_O_15 (42 + 2 * q) (e_O hq4) rfl rfl d_O_takeOldest_21 ?_
      refine z_icmp_ge X 47 d_O_takeOldest_24 (by decide) (fun c_24 => absurd c_24 (by rw [hN]; exact nI_ge (by omega) (by omega))) (fun c_24 => ?_)
      refine z_aload_n X 2 d_O_takeOldest_27 rfl rfl ?_
      refine z_get X fl_O_9 (42 + 2 * q) (e_O hq4) rfl rfl d_O_takeOldest_28 ?_
      refine z_iload_n X 0 d_O_takeOldest_31 rfl rfl ?_
      refine z_aload_n X 2 d_O_takeOldest_32 rfl rfl ?_
      refine z_get X fl_O_9 (42 + 2 * q) (e_O hq4) rfl rfl d_O_takeOldest_33 ?_
      refine z_iload_n X 0 d_O_takeOldest_36 rfl rfl ?_
      refine z_iconst X (v := 1) d_O_takeOldest_37 (by decide) ?_
      refine z_iadd X d_O_takeOldest_38 ?_
      refine z_iald X (43 + 2 * q) (e_Me hq4) rfl (i + 1) (nI_1 i) (by omega) (by decide) d_O_takeOldest_39 ?_
      refine z_iast X (43 + 2 * q) (e_Me hq4) rfl i rfl (by omega) (by decide) d_O_takeOldest_40 ?_
      refine z_iinc X 0 (v := nI (i + 1)) (L' := [(2, zI (nI (i + 1))), (1, zI (M.1 (43 + 2 * q) 0)), (0, zR (42 + 2 * q))]) d_O_takeOldest_41 rfl (nI_1 i) (by decide) rfl ?_
      refine z_goto X 19 d_O_takeOldest_44 (by decide) ?_
      exact ih (i + 1) (z_si N (43 + 2 * q) i (N.1 (43 + 2 * q) (i + 1))) (by omega) (by rw [z_si_row _ _ _ (by omega)]; exact hN) hq
  refine z_aload_n X 0 d_O_takeOldest_0 rfl rfl ?_
  refine z_get X fl_O_9 (42 + 2 * q) (e_O hq4) rfl rfl d_O_takeOldest_1 ?_
  refine z_iconst X (v := 0) d_O_takeOldest_4 (by decide) ?_
  refine z_iald X (43 + 2 * q) (e_Me hq4) rfl 0 rfl (by decide) (by decide) d_O_takeOldest_5 ?_
  refine z_istore_n X (L' := [(1, zI (M.1 (43 + 2 * q) 0)), (0, zR (42 + 2 * q))]) d_O_takeOldest_6 rfl (by decide) rfl ?_
  refine z_aload_n X 1 d_O_takeOldest_7 rfl rfl ?_
  refine z_dup X d_O_takeOldest_8 rfl ?_
  refine z_get X fl_O_15 (42 + 2 * q) (e_O hq4) rfl rfl d_O_takeOldest_9 ?_
  refine z_iconst X (v := 1) d_O_takeOldest_12 (by decide) ?_
  refine z_isub X d_O_takeOldest_13 ?_
  refine z_puti X fl_O_15 (42 + 2 * q) (e_O hq4) rfl rfl rfl d_O_takeOldest_14 ?_
  refine z_iconst X (v := 0) d_O_takeOldest_17 (by decide) ?_
  refine z_istore_n X (L' := [(2, zI 0), (1, zI (M.1 (43 + 2 * q) 0)), (0, zR (42 + 2 * q))]) d_O_takeOldest_18 rfl (by decide) rfl ?_
  exact loop (n - 1) 0 (z_si M (42 + 2 * q) 1 ((M.1 (42 + 2 * q) 1) - 1)) (by omega) (by rw [z_si_same, en]; exact nI_m1 (by omega)) (by rw [en, nI_m1 (by omega)]; rfl)

set_option maxHeartbeats 4000000 in
set_option maxRecDepth 100000 in
theorem c_A_restAll (l : Launch) (D : va_G) (cA : Nat → ClassId) (ad : Nat → Nat) (M : zM) (n w : Nat) (hI : kInv n w M) (a : Int32) : Cv l D cA ad y_A_restAll b_A_restAll 3 none (zr 1 20) [zR 0, zI a] M (fun M' => M' = kFor (kRestOne a) n 0 M) := by
  refine zMv_of (plainFor_of_name (by decide)) (Nat.le_of_ble_eq_true rfl) ?_
  intro p e s m args below meth c A X
  have loop : ∀ (k i : Nat) (N : zM), i + k = n → kInv n w N → kFor (kRestOne a) k i N = kFor (kRestOne a) n 0 M → zW p l e (zr 1 20) s m args below meth c 0 0 (MQ below (va_Qv (fun M' => M' = kFor (kRestOne a) n 0 M) (fun M' t => va_P D cls (z_w cA ad M' 0 EE) t.heap) A) args s 0 0 A) A D cls cA ad EE 3 N 2 [(2, zI (nI i)), (0, zR 0), (1, zI a)] [] := by
    intro k
    induction k with
    | zero =>
      intro i N hk hN hq
      have hn := kInv_n hN
      refine z_iload_n X 0 d_A_restAll_2 rfl rfl ?_
      refine z_aload_n X 1 d_A_restAll_3 rfl rfl ?_
      refine z_get X fl_A_63 0 e_A rfl rfl d_A_restAll_4 ?_
      refine z_icmp_ge X 38 d_A_restAll_7 (by decide) (fun c_7 => ?_) (fun c_7 => absurd (by rw [kInv_cnt hN, show i = n by omega]; exact nI_le (Nat.le_refl _) (by omega)) c_7)
      exact z_vret X hq d_A_restAll_38
    | succ k ih =>
      intro i N hk hN hq
      have hn := kInv_n hN
      have hi : i < 8 := by omega
      refine z_iload_n X 0 d_A_restAll_2 rfl rfl ?_
      refine z_aload_n X 1 d_A_restAll_3 rfl rfl ?_
      refine z_get X fl_A_63 0 e_A rfl rfl d_A_restAll_4 ?_
      refine z_icmp_ge X 38 d_A_restAll_7 (by decide) (fun c_7 => absurd c_7 (by rw [kInv_cnt hN]; exact nI_ge (by omega) (by omega))) (fun c_7 => ?_)
      refine z_aload_n X 1 d_A_restAll_10 rfl rfl ?_
      refine z_get X fl_A_25 0 e_A rfl rfl d_A_restAll_11 ?_
      refine z_iload_n X 0 d_A_restAll_14 rfl rfl ?_
      refine z_aald X 8 e_TA rfl i rfl hi (by decide) (g_TA hi) d_A_restAll_15 ?_
      refine z_get X fl_A_97 (9 + 4 * i) (e_K hi) rfl rfl d_A_restAll_16 ?_
      refine z_iload_n X 2 d_A_restAll_19 rfl rfl ?_
      refine z_icmp_ne X 32 d_A_restAll_20 (by decide) (fun c_20 => ?_) (fun c_20 => ?_)
      · refine z_iinc X 0 (v := nI (i + 1)) (L' := [(2, zI (nI (i + 1))), (0, zR 0), (1, zI a)]) d_A_restAll_32 rfl (nI_1 i) (by decide) rfl ?_
        refine z_goto X 2 d_A_restAll_35 (by decide) ?_
        have hX1 : kRestOne a i N = N := by simp only [kRestOne, c_20, if_true, if_false]
        exact ih (i + 1) N (by omega) (hX1 ▸ kInv_RestOne a i N (by omega) hN) (hX1 ▸ hq)
      · refine z_aload_n X 1 d_A_restAll_23 rfl rfl ?_
        refine z_get X fl_A_25 0 e_A rfl rfl d_A_restAll_24 ?_
        refine z_iload_n X 0 d_A_restAll_27 rfl rfl ?_
        refine z_aald X 8 e_TA rfl i rfl hi (by decide) (g_TA hi) d_A_restAll_28 ?_
        refine z_Vv X GG_ok cf_A_144 (9 + 4 * i) [] [] (c_K_rest l D cA ad _ i hi ) ⟨rfl, rfl⟩ (by decide) (e_K hi) rfl rfl rfl rfl (Nat.le_of_ble_eq_true rfl) ⟨Nat.zero_le _, Nat.zero_le _⟩ d_A_restAll_29 (fun M3 h4 => ?_)
        have qh4 := h4.symm
        subst qh4
        refine z_iinc X 0 (v := nI (i + 1)) (L' := [(2, zI (nI (i + 1))), (0, zR 0), (1, zI a)]) d_A_restAll_32 rfl (nI_1 i) (by decide) rfl ?_
        refine z_goto X 2 d_A_restAll_35 (by decide) ?_
        have hX5 : kRestOne a i N = kRest i N := by simp only [kRestOne, c_20, if_true, if_false]
        exact ih (i + 1) (kRest i N) (by omega) (hX5 ▸ kInv_RestOne a i N (by omega) hN) (hX5 ▸ hq)
  refine z_iconst X (v := 0) d_A_restAll_0 (by decide) ?_
  refine z_istore_n X (L' := [(2, zI 0), (0, zR 0), (1, zI a)]) d_A_restAll_1 rfl (by decide) rfl ?_
  exact loop n 0 M (by omega) hI rfl
