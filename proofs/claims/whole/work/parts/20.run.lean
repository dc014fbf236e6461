set_option maxHeartbeats 4000000 in
set_option maxRecDepth 100000 in
theorem c_A_giveProcessor (l : Launch) (D : va_G) (cA : Nat → ClassId) (ad : Nat → Nat) (M : zM) (n w : Nat) (hI : kInv n w M) : Cv l D cA ad y_A_giveProcessor b_A_giveProcessor 4 none (zr 4 93) [zR 0] M (fun M' => M' = kGive n w M) := by
  refine zMv_of (plainFor_of_name (by decide)) (Nat.le_of_ble_eq_true rfl) ?_
  intro p e s m args below meth c A X
  have loop : ∀ (k i : Nat) (N : zM), i + k = 65 → kInv n w N → kGo n (kPartAt M w (M.1 0 6)) k N = kGive n w M → zW p l e (zr 4 93) s m args below meth c 0 0 (MQ below (va_Qv (fun M' => M' = kGive n w M) (fun M' t => va_P D cls (z_w cA ad M' 0 EE) t.heap) A) args s 0 0 A) A D cls cA ad EE 4 N 28 [(2, zI (nI i)), (0, zR 0), (1, zI (kPartAt M w (M.1 0 6)))] [] := by
    intro k
    induction k with
    | zero =>
      intro i N hk hN hq
      refine z_iload_n X 0 d_A_giveProcessor_28 rfl rfl ?_
      refine z_bipush X (v := 64) d_A_giveProcessor_29 (by decide) ?_
      refine z_icmp_gt X 62 d_A_giveProcessor_31 (by decide) (fun c_31 => ?_) (fun c_31 => absurd (by rw [show i = 65 by omega]; decide) c_31)
      refine z_aload_n X 1 d_A_giveProcessor_62 rfl rfl ?_
      refine z_dup X d_A_giveProcessor_63 rfl ?_
      refine z_get X fl_A_137 0 e_A rfl rfl d_A_giveProcessor_64 ?_
      refine z_iconst X (v := 1) d_A_giveProcessor_67 (by decide) ?_
      refine z_iadd X d_A_giveProcessor_68 ?_
      refine z_puti X fl_A_137 0 e_A rfl rfl rfl d_A_giveProcessor_69 ?_
      exact z_vret X hq d_A_giveProcessor_72
    | succ k ih =>
      intro i N hk hN hq
      refine z_iload_n X 0 d_A_giveProcessor_28 rfl rfl ?_
      refine z_bipush X (v := 64) d_A_giveProcessor_29 (by decide) ?_
      refine z_icmp_gt X 62 d_A_giveProcessor_31 (by decide) (fun c_31 => absurd c_31 (by rw [show (64 : Int32) = nI 64 from rfl]; exact nI_nlt (by omega) (by omega))) (fun c_31 => ?_)
      refine z_aload_n X 1 d_A_giveProcessor_34 rfl rfl ?_
      refine z_iload_n X 2 d_A_giveProcessor_35 rfl rfl ?_
      refine z_Vq X GG_ok cf_A_173 0 [zI (kPartAt M w (M.1 0 6))] [] (c_A_firstReady l D cA ad _ n w hN _) ⟨rfl, rfl⟩ (by decide) e_A rfl rfl rfl rfl (Nat.le_of_ble_eq_true rfl) ⟨Nat.zero_le _, Nat.zero_le _⟩ d_A_giveProcessor_36 (fun r1 M2 h3 => ?_)
      have qh3 := h3.1.symm
      subst qh3
      obtain ⟨-, rfl⟩ := h3
      rcases hF : kFR n (kPartAt M w (M.1 0 6)) N with _ | j
      · refine z_astore_nN X (L' := [(3, zN), (2, zI (nI i)), (0, zR 0), (1, zI (kPartAt M w (M.1 0 6)))]) d_A_giveProcessor_39 rfl (by decide) rfl ?_
        refine z_aload_nN X 0 d_A_giveProcessor_40 rfl rfl ?_
        refine z_ifnonnullN X d_A_giveProcessor_41 ?_
        refine z_goto X 62 d_A_giveProcessor_44 (by decide) ?_
        refine z_aload_n X 2 d_A_giveProcessor_62 rfl rfl ?_
        refine z_dup X d_A_giveProcessor_63 rfl ?_
        refine z_get X fl_A_137 0 e_A rfl rfl d_A_giveProcessor_64 ?_
        refine z_iconst X (v := 1) d_A_giveProcessor_67 (by decide) ?_
        refine z_iadd X d_A_giveProcessor_68 ?_
        refine z_puti X fl_A_137 0 e_A rfl rfl rfl d_A_giveProcessor_69 ?_
        exact z_vret X ((kGo_none hF).symm.trans hq) d_A_giveProcessor_72
      · have hj : j < 8 := Nat.lt_of_lt_of_le (kFR_lt hF) (kInv_n hN)
        refine z_astore_n X (L' := [(3, zR (9 + 4 * j)), (2, zI (nI i)), (0, zR 0), (1, zI (kPartAt M w (M.1 0 6)))]) d_A_giveProcessor_39 rfl (by decide) rfl ?_
        refine z_aload_n X 0 d_A_giveProcessor_40 rfl rfl ?_
        refine z_ifnonnull X 47 d_A_giveProcessor_41 (by decide) ?_
        refine z_aload_n X 2 d_A_giveProcessor_47 rfl rfl ?_
        refine z_aload_n X 0 d_A_giveProcessor_48 rfl rfl ?_
        refine z_Vi X GG_ok cf_A_177 0 [zR (9 + 4 * j)] [] (c_A_doOrder l D cA ad _ n w hN j hj) ⟨rfl, rfl⟩ (by decide) e_A rfl rfl rfl rfl (Nat.le_of_ble_eq_true rfl) ⟨Nat.zero_le _, Nat.zero_le _⟩ d_A_giveProcessor_49 (fun r4 M5 h6 => ?_)
        have qh6 := h6.1.symm
        subst qh6
        obtain ⟨-, ⟨rfl, po⟩ | ⟨rfl, po⟩⟩ := h6
        · refine z_if_eq X 56 d_A_giveProcessor_52 (by decide) (fun h => absurd h (by decide)) (fun _ => ?_)
          exact z_vret X ((kGo_work hF po).symm.trans hq) d_A_giveProcessor_55
        · refine z_if_eq X 56 d_A_giveProcessor_52 (by decide) (fun _ => ?_) (fun h => absurd h (by decide))
          refine z_iinc X 1 (v := nI (i + 1)) (L' := [(2, zI (nI (i + 1))), (3, zR (9 + 4 * j)), (0, zR 0), (1, zI (kPartAt M w (M.1 0 6)))]) d_A_giveProcessor_56 rfl (nI_1 i) (by decide) rfl ?_
          refine z_goto X 28 d_A_giveProcessor_59 (by decide) ?_
          exact z_keep (ks := [0, 2, 3]) (L' := [(2, zI (nI (i + 1))), (0, zR 0), (1, zI (kPartAt M w (M.1 0 6)))]) rfl (ih (i + 1) (kDo n j N) (by omega) (kInv_Do hN hj) ((kGo_on hF po).symm.trans hq))
  refine z_aload_n X 0 d_A_giveProcessor_0 rfl rfl ?_
  refine z_get X fl_A_10 0 e_A rfl rfl d_A_giveProcessor_1 ?_
  refine z_aload_n X 0 d_A_giveProcessor_4 rfl rfl ?_
  refine z_get X fl_A_103 0 e_A rfl rfl d_A_giveProcessor_5 ?_
  refine z_Vi X GG_ok cf_A_128 1 [zI (M.1 0 6)] [] (c_Wr_partitionAt l D cA ad _ w hI.1.2.1 hI.1.2.2.2.1 hI.1.2.2.2.2.1 _) ⟨rfl, rfl⟩ (by decide) e_Wr rfl rfl rfl rfl (Nat.le_of_ble_eq_true rfl) ⟨Nat.zero_le _, Nat.zero_le _⟩ d_A_giveProcessor_8 (fun r1 M2 h3 => ?_)
  have qh3 := h3.1.symm
  subst qh3
  obtain ⟨-, rfl⟩ := h3
  refine z_istore_n X (L' := [(1, zI (kPartAt M w (M.1 0 6))), (0, zR 0)]) d_A_giveProcessor_11 rfl (by decide) rfl ?_
  refine z_iload_n X 0 d_A_giveProcessor_12 rfl rfl ?_
  refine z_iconst X (v := (-1)) d_A_giveProcessor_13 (by decide) ?_
  refine z_icmp_eq X 25 d_A_giveProcessor_14 (by decide) (fun c_14 => ?_) (fun c_14 => ?_)
  · exact z_vret X (by rw [kGive, if_pos c_14]) d_A_giveProcessor_25
  · refine z_aload_n X 1 d_A_giveProcessor_17 rfl rfl ?_
    refine z_iload_n X 0 d_A_giveProcessor_18 rfl rfl ?_
    refine z_Vi X GG_ok cf_A_88 0 [zI (kPartAt M w (M.1 0 6))] [] (c_A_isOn l D cA ad _ _ _ (kPartAt_ok hI c_14).2 (kPartAt_ok hI c_14).1) ⟨rfl, rfl⟩ (by decide) e_A rfl rfl rfl rfl (Nat.le_of_ble_eq_true rfl) ⟨Nat.zero_le _, Nat.zero_le _⟩ d_A_giveProcessor_19 (fun r4 M5 h6 => ?_)
    have qh6 := h6.1.symm
    subst qh6
    obtain ⟨-, ⟨rfl, p7⟩ | ⟨rfl, p7⟩⟩ := h6
    · refine z_if_ne X 26 d_A_giveProcessor_22 (by decide) (fun _ => ?_) (fun h => absurd h (by decide))
      refine z_iconst X (v := 0) d_A_giveProcessor_26 (by decide) ?_
      refine z_istore_n X (L' := [(2, zI 0), (1, zI (kPartAt M w (M.1 0 6))), (0, zR 0)]) d_A_giveProcessor_27 rfl (by decide) rfl ?_
      exact z_keep (ks := [0, 2, 1]) (L' := [(2, zI 0), (0, zR 0), (1, zI (kPartAt M w (M.1 0 6)))]) rfl (loop 65 0 M (by omega) hI (by rw [kGive, if_neg c_14, if_pos p7]))
    · refine z_if_ne X 26 d_A_giveProcessor_22 (by decide) (fun h => absurd h (by decide)) (fun _ => ?_)
      exact z_vret X (by rw [kGive, if_neg c_14, if_neg p7]) d_A_giveProcessor_25

set_option maxHeartbeats 4000000 in
set_option maxRecDepth 100000 in
theorem c_A_tick (l : Launch) (D : va_G) (cA : Nat → ClassId) (ad : Nat → Nat) (M : zM) (n w : Nat) (hI : kInv n w M) : Cv l D cA ad y_A_tick b_A_tick 1 none (zr 5 116) [zR 0] M (fun M' => M' = kTick n w M) := by
  refine zMv_of (plainFor_of_name (by decide)) (Nat.le_of_ble_eq_true rfl) ?_
  intro p e s m args below meth c A X
  refine z_aload_n X 0 d_A_tick_0 rfl rfl ?_
  refine z_Vv X GG_ok cf_A_147 0 [] [] (c_A_releaseDue l D cA ad _ n w hI) ⟨rfl, rfl⟩ (by decide) e_A rfl rfl rfl rfl (Nat.le_of_ble_eq_true rfl) ⟨Nat.zero_le _, Nat.zero_le _⟩ d_A_tick_1 (fun M2 h3 => ?_)
  have qh3 := h3.symm
  subst qh3
  refine z_aload_n X 0 d_A_tick_4 rfl rfl ?_
  refine z_Vv X GG_ok cf_A_150 0 [] [] (c_A_missDue l D cA ad _ n w (kInv_For (N := n) (fun i M hi hM => kInv_RelOne i M (Nat.lt_of_lt_of_le hi (kInv_n hI)) hM) _ _ _ (by omega) hI)) ⟨rfl, rfl⟩ (by decide) e_A rfl rfl rfl rfl (Nat.le_of_ble_eq_true rfl) ⟨Nat.zero_le _, Nat.zero_le _⟩ d_A_tick_5 (fun M5 h6 => ?_)
  have qh6 := h6.symm
  subst qh6
  refine z_aload_n X 0 d_A_tick_8 rfl rfl ?_
  refine z_Vv X GG_ok cf_A_153 0 [] [] (c_A_giveProcessor l D cA ad _ n w (kInv_For (N := n) (fun i M hi hM => kInv_MissOne i M (Nat.lt_of_lt_of_le hi (kInv_n hI)) hM) _ _ _ (by omega) (kInv_For (N := n) (fun i M hi hM => kInv_RelOne i M (Nat.lt_of_lt_of_le hi (kInv_n hI)) hM) _ _ _ (by omega) hI))) ⟨rfl, rfl⟩ (by decide) e_A rfl rfl rfl rfl (Nat.le_of_ble_eq_true rfl) ⟨Nat.zero_le _, Nat.zero_le _⟩ d_A_tick_9 (fun M8 h9 => ?_)
  have qh9 := h9.symm
  subst qh9
  refine z_aload_n X 0 d_A_tick_12 rfl rfl ?_
  refine z_dup X d_A_tick_13 rfl ?_
  refine z_get X fl_A_103 0 e_A rfl rfl d_A_tick_14 ?_
  refine z_iconst X (v := 1) d_A_tick_17 (by decide) ?_
  refine z_iadd X d_A_tick_18 ?_
  refine z_puti X fl_A_103 0 e_A rfl rfl rfl d_A_tick_19 ?_
  exact z_vret X rfl d_A_tick_22

set_option maxHeartbeats 4000000 in
set_option maxRecDepth 100000 in
theorem c_A_run (l : Launch) (D : va_G) (cA : Nat → ClassId) (ad : Nat → Nat) (M : zM) (n w : Nat) (hI : kInv n w M) (d : Nat) (h1 : 1 ≤ d) (h2 : d ≤ 60) : Ci l D cA ad y_A_run b_A_run 3 (some (.int)) (zr 6 136) [zR 0, zI (nI d)] M (fun r M' => M' = kTicks n w d M ∧ r = M'.1 0 6) := by
  refine zMi_of (plainFor_of_name (by decide)) (Nat.le_of_ble_eq_true rfl) ?_
  intro p e s m args below meth c A X
  have loop : ∀ (k i : Nat) (N : zM), i + k = d → kInv n w N → kTicks n w k N = kTicks n w d M → zW p l e (zr 6 136) s m args below meth c 0 0 (MQ below (va_Qi (fun r M' => M' = kTicks n w d M ∧ r = M'.1 0 6) (fun M' t => va_P D cls (z_w cA ad M' 0 EE) t.heap) A) args s 0 0 A) A D cls cA ad EE 3 N 14 [(2, zI (nI i)), (0, zR 0), (1, zI (nI d))] [] := by
    intro k
    induction k with
    | zero =>
      intro i N hk hN hq
      refine z_iload_n X 0 d_A_run_14 rfl rfl ?_
      refine z_iload_n X 2 d_A_run_15 rfl rfl ?_
      refine z_icmp_ge X 29 d_A_run_16 (by decide) (fun c_16 => ?_) (fun c_16 => absurd (by rw [show i = d by omega]; exact nI_le (Nat.le_refl _) (by omega)) c_16)
      refine z_aload_n X 1 d_A_run_29 rfl rfl ?_
      refine z_get X fl_A_103 0 e_A rfl rfl d_A_run_30 ?_
      exact z_iret X (⟨hq, rfl⟩) d_A_run_33
    | succ k ih =>
      intro i N hk hN hq
      refine z_iload_n X 0 d_A_run_14 rfl rfl ?_
      refine z_iload_n X 2 d_A_run_15 rfl rfl ?_
      refine z_icmp_ge X 29 d_A_run_16 (by decide) (fun c_16 => absurd c_16 (nI_ge (by omega) (by omega))) (fun c_16 => ?_)
      refine z_aload_n X 1 d_A_run_19 rfl rfl ?_
      refine z_Vv X GG_ok cf_A_120 0 [] [] (c_A_tick l D cA ad _ n w hN) ⟨rfl, rfl⟩ (by decide) e_A rfl rfl rfl rfl (Nat.le_of_ble_eq_true rfl) ⟨Nat.zero_le _, Nat.zero_le _⟩ d_A_run_20 (fun M2 h3 => ?_)
      have qh3 := h3.symm
      subst qh3
      refine z_iinc X 0 (v := nI (i + 1)) (L' := [(2, zI (nI (i + 1))), (0, zR 0), (1, zI (nI d))]) d_A_run_23 rfl (nI_1 i) (by decide) rfl ?_
      refine z_goto X 14 d_A_run_26 (by decide) ?_
      exact ih (i + 1) (kTick n w N) (by omega) (kInv_Tick hN) hq
  refine z_iload_n X 1 d_A_run_0 rfl rfl ?_
  refine z_iconst X (v := 1) d_A_run_1 (by decide) ?_
  refine z_bipush X (v := 60) d_A_run_2 (by decide) ?_
  refine z_Si X GG_ok cf_A_47 [zI (nI d), zI 1, zI 60] [] (c_A_within l D cA ad _ _ _ _) ⟨rfl, rfl⟩ (by decide) rfl rfl (Nat.le_of_ble_eq_true rfl) ⟨Nat.zero_le _, Nat.zero_le _⟩ d_A_run_4 (fun r1 M2 h3 => ?_)
  have qh3 := h3.1.symm
  subst qh3
  obtain ⟨-, ⟨rfl, p4⟩ | ⟨rfl, p4⟩⟩ := h3
  · refine z_if_ne X 12 d_A_run_7 (by decide) (fun _ => ?_) (fun h => absurd h (by decide))
    refine z_iconst X (v := 0) d_A_run_12 (by decide) ?_
    refine z_istore_n X (L' := [(2, zI 0), (0, zR 0), (1, zI (nI d))]) d_A_run_13 rfl (by decide) rfl ?_
    exact loop d 0 M (by omega) hI rfl
  · refine z_if_ne X 12 d_A_run_7 (by decide) (fun h => absurd h (by decide)) (fun _ => ?_)
    refine z_iconst X (v := (-1)) d_A_run_10 (by decide) ?_
    exact z_iret X (absurd ⟨(show (1 : Int32) = nI 1 from rfl) ▸ nI_le h1 (by omega), (show (60 : Int32) = nI 60 from rfl) ▸ nI_le h2 (by omega)⟩ p4) d_A_run_11

set_option maxHeartbeats 4000000 in
set_option maxRecDepth 100000 in
theorem c_A_run_no (l : Launch) (D : va_G) (cA : Nat → ClassId) (ad : Nat → Nat) (M : zM) (x : Int32) (hx : ¬ (1 ≤ x ∧ x ≤ 60)) : Ci l D cA ad y_A_run b_A_run 3 (some (.int)) (zr 6 136) [zR 0, zI x] M (fun r M' => M' = M ∧ r = (-1)) := by
  refine zMi_of (plainFor_of_name (by decide)) (Nat.le_of_ble_eq_true rfl) ?_
  intro p e s m args below meth c A X
  refine z_iload_n X 1 d_A_run_0 rfl rfl ?_
  refine z_iconst X (v := 1) d_A_run_1 (by decide) ?_
  refine z_bipush X (v := 60) d_A_run_2 (by decide) ?_
  refine z_Si X GG_ok cf_A_47 [zI x, zI 1, zI 60] [] (c_A_within l D cA ad _ _ _ _) ⟨rfl, rfl⟩ (by decide) rfl rfl (Nat.le_of_ble_eq_true rfl) ⟨Nat.zero_le _, Nat.zero_le _⟩ d_A_run_4 (fun r1 M2 h3 => ?_)
  have qh3 := h3.1.symm
  subst qh3
  obtain ⟨-, ⟨rfl, p4⟩ | ⟨rfl, p4⟩⟩ := h3
  · refine z_if_ne X 12 d_A_run_7 (by decide) (fun _ => ?_) (fun h => absurd h (by decide))
    exact absurd p4 hx
  · refine z_if_ne X 12 d_A_run_7 (by decide) (fun h => absurd h (by decide)) (fun _ => ?_)
    refine z_iconst X (v := (-1)) d_A_run_10 (by decide) ?_
    exact z_iret X (⟨rfl, rfl⟩) d_A_run_11
