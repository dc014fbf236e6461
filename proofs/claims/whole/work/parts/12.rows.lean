set_option maxHeartbeats 4000000 in
set_option maxRecDepth 100000 in
theorem c_J_floorMod (l : Launch) (D : va_G) (cA : Nat → ClassId) (ad : Nat → Nat) (M : zM) (x y : Int32) (hy : ¬ y = 0) : Ci l D cA ad y_J_floorMod b_J_floorMod 3 (some (.int)) (zr 0 0) [zI x, zI y] M (fun r M' => M' = M ∧ r = kMod x y) := by
  refine zMi_of (by decide +kernel) (Nat.le_of_ble_eq_true rfl) ?_
  intro p e s m args below meth c A X
  refine z_iload_n X 0 d_J_floorMod_0 rfl rfl ?_
  refine z_iload_n X 1 d_J_floorMod_1 rfl rfl ?_
  refine z_irem X d_J_floorMod_2 hy ?_
  refine z_istore_n X (L' := [(2, zI (x - x / y * y)), (0, zI x), (1, zI y)]) d_J_floorMod_3 rfl (by decide) rfl ?_
  refine z_iload_n X 1 d_J_floorMod_4 rfl rfl ?_
  refine z_iload_n X 2 d_J_floorMod_5 rfl rfl ?_
  refine z_ixor X d_J_floorMod_6 ?_
  refine z_if_ge X 18 d_J_floorMod_7 (by decide) (fun c_7 => ?_) (fun c_7 => ?_)
  · refine z_iload_n X 0 d_J_floorMod_18 rfl rfl ?_
    exact z_iret X (⟨rfl, by simp only [kMod, c_7, if_true, if_false]⟩) d_J_floorMod_19
  · refine z_iload_n X 0 d_J_floorMod_10 rfl rfl ?_
    refine z_if_eq X 18 d_J_floorMod_11 (by decide) (fun c_11 => ?_) (fun c_11 => ?_)
    · refine z_iload_n X 0 d_J_floorMod_18 rfl rfl ?_
      exact z_iret X (⟨rfl, by simp only [kMod, c_7, c_11, if_true, if_false]⟩) d_J_floorMod_19
    · refine z_iload_n X 0 d_J_floorMod_14 rfl rfl ?_
      refine z_iload_n X 2 d_J_floorMod_15 rfl rfl ?_
      refine z_iadd X d_J_floorMod_16 ?_
      exact z_iret X (⟨rfl, by simp only [kMod, c_7, c_11, if_true, if_false]⟩) d_J_floorMod_17

set_option maxHeartbeats 4000000 in
set_option maxRecDepth 100000 in
theorem c_Wr_offsetAt (l : Launch) (D : va_G) (cA : Nat → ClassId) (ad : Nat → Nat) (M : zM) (w : Nat) (hw : w ≤ 8) (ew : M.1 1 2 = nI w) (h0 : w ≠ 0) (hne : ¬ M.1 3 (w - 1) = 0) (t : Int32) : Ci l D cA ad y_Wr_offsetAt b_Wr_offsetAt 2 (some (.int)) (zr 1 22) [zR 1, zI t] M (fun r M' => M' = M ∧ r = kOff M w t) := by
  refine zMi_of (plainFor_of_name (by decide)) (Nat.le_of_ble_eq_true rfl) ?_
  intro p e s m args below meth c A X
  refine z_iload_n X 1 d_Wr_offsetAt_0 rfl rfl ?_
  refine z_aload_n X 0 d_Wr_offsetAt_1 rfl rfl ?_
  refine z_get X fl_Wr_15 1 e_Wr rfl rfl d_Wr_offsetAt_2 ?_
  refine z_aload_n X 0 d_Wr_offsetAt_5 rfl rfl ?_
  refine z_get X fl_Wr_18 1 e_Wr rfl rfl d_Wr_offsetAt_6 ?_
  refine z_iconst X (v := 1) d_Wr_offsetAt_9 (by decide) ?_
  refine z_isub X d_Wr_offsetAt_10 ?_
  refine z_iald X 3 e_WrE rfl (w - 1) (by rw [ew]; exact nI_m1 h0) (by omega) (by decide) d_Wr_offsetAt_11 ?_
  refine z_Si X GG_ok cf_Wr_29 [zI t, zI (M.1 3 (w - 1))] [] (c_J_floorMod l D cA ad _ _ _ hne) ⟨rfl, rfl⟩ (by decide) rfl rfl (Nat.le_of_ble_eq_true rfl) ⟨Nat.zero_le _, Nat.zero_le _⟩ d_Wr_offsetAt_12 (fun r1 M2 h3 => ?_)
  have qh3 := h3.1.symm
  subst qh3
  obtain ⟨-, rfl⟩ := h3
  exact z_iret X (⟨rfl, rfl⟩) d_Wr_offsetAt_15

set_option maxHeartbeats 4000000 in
set_option maxRecDepth 100000 in
theorem c_Wr_indexOf (l : Launch) (D : va_G) (cA : Nat → ClassId) (ad : Nat → Nat) (M : zM) (w : Nat) (hw : w ≤ 8) (ew : M.1 1 2 = nI w) (h0 : w ≠ 0) (t : Int32) : Ci l D cA ad y_Wr_indexOf b_Wr_indexOf 3 (some (.int)) (zr 0 0) [zR 1, zI t] M (fun r M' => M' = M ∧ r = nI (kIx M t (w - 1) 0)) := by
  refine zMi_of (plainFor_of_name (by decide)) (Nat.le_of_ble_eq_true rfl) ?_
  intro p e s m args below meth c A X
  have loop : ∀ (k i : Nat), i + k = w - 1 → kIx M t (w - 1) 0 = kIx M t k i → zW p l e (zr 0 0) s m args below meth c 0 0 (MQ below (va_Qi (fun r M' => M' = M ∧ r = nI (kIx M t (w - 1) 0)) (fun M' t => va_P D cls (z_w cA ad M' 0 EE) t.heap) A) args s 0 0 A) A D cls cA ad EE 3 M 2 [(2, zI (nI i)), (0, zR 1), (1, zI t)] [] := by
    intro k
    induction k with
    | zero =>
      intro i hi hq
      refine z_iload_n X 0 d_Wr_indexOf_2 rfl rfl ?_
      refine z_aload_n X 1 d_Wr_indexOf_3 rfl rfl ?_
      refine z_get X fl_Wr_18 1 e_Wr rfl rfl d_Wr_indexOf_4 ?_
      refine z_iconst X (v := 1) d_Wr_indexOf_7 (by decide) ?_
      refine z_isub X d_Wr_indexOf_8 ?_
      refine z_icmp_ge X 28 d_Wr_indexOf_9 (by decide) (fun c_9 => ?_) (fun c_9 => absurd (by rw [ew, nI_m1 h0, show i = w - 1 by omega]; exact nI_le (Nat.le_refl _) (by omega)) c_9)
      refine z_iload_n X 0 d_Wr_indexOf_28 rfl rfl ?_
      exact z_iret X (⟨rfl, by rw [hq]; rfl⟩) d_Wr_indexOf_29
    | succ k ih =>
      intro i hi hq
      refine z_iload_n X 0 d_Wr_indexOf_2 rfl rfl ?_
      refine z_aload_n X 1 d_Wr_indexOf_3 rfl rfl ?_
      refine z_get X fl_Wr_18 1 e_Wr rfl rfl d_Wr_indexOf_4 ?_
      refine z_iconst X (v := 1) d_Wr_indexOf_7 (by decide) ?_
      refine z_isub X d_Wr_indexOf_8 ?_
      refine z_icmp_ge X 28 d_Wr_indexOf_9 (by decide) (fun c_9 => absurd c_9 (by rw [ew, nI_m1 h0]; exact nI_ge (by omega) (by omega))) (fun c_9 => ?_)
      refine z_iload_n X 2 d_Wr_indexOf_12 rfl rfl ?_
      refine z_aload_n X 1 d_Wr_indexOf_13 rfl rfl ?_
      refine z_get X fl_Wr_15 1 e_Wr rfl rfl d_Wr_indexOf_14 ?_
      refine z_iload_n X 0 d_Wr_indexOf_17 rfl rfl ?_
      refine z_iald X 3 e_WrE rfl i rfl (by omega) (by decide) d_Wr_indexOf_18 ?_
      refine z_icmp_lt X 28 d_Wr_indexOf_19 (by decide) (fun c_19 => ?_) (fun c_19 => ?_)
      · refine z_iload_n X 0 d_Wr_indexOf_28 rfl rfl ?_
        exact z_iret X (⟨rfl, by rw [hq]; simp only [kIx, c_19, if_true]⟩) d_Wr_indexOf_29
      · refine z_iinc X 0 (v := nI (i + 1)) (L' := [(2, zI (nI (i + 1))), (0, zR 1), (1, zI t)]) d_Wr_indexOf_22 rfl (nI_1 i) (by decide) rfl ?_
        refine z_goto X 2 d_Wr_indexOf_25 (by decide) ?_
        exact ih (i + 1) (by omega) (by rw [hq]; simp only [kIx, c_19, if_false])
  refine z_iconst X (v := 0) d_Wr_indexOf_0 (by decide) ?_
  refine z_istore_n X (L' := [(2, zI 0), (0, zR 1), (1, zI t)]) d_Wr_indexOf_1 rfl (by decide) rfl ?_
  exact loop (w - 1) 0 (by omega) rfl

set_option maxHeartbeats 4000000 in
set_option maxRecDepth 100000 in
theorem c_Wr_partitionAt (l : Launch) (D : va_G) (cA : Nat → ClassId) (ad : Nat → Nat) (M : zM) (w : Nat) (hw : w ≤ 8) (ew : M.1 1 2 = nI w) (hne : w ≠ 0 → ¬ M.1 3 (w - 1) = 0) (t : Int32) : Ci l D cA ad y_Wr_partitionAt b_Wr_partitionAt 2 (some (.int)) (zr 2 43) [zR 1, zI t] M (fun r M' => M' = M ∧ r = kPartAt M w t) := by
  refine zMi_of (plainFor_of_name (by decide)) (Nat.le_of_ble_eq_true rfl) ?_
  intro p e s m args below meth c A X
  refine z_aload_n X 0 d_Wr_partitionAt_0 rfl rfl ?_
  refine z_get X fl_Wr_18 1 e_Wr rfl rfl d_Wr_partitionAt_1 ?_
  refine z_if_ne X 11 d_Wr_partitionAt_4 (by decide) (fun c_4 => ?_) (fun c_4 => ?_)
  · have h0 : w ≠ 0 := fun q => c_4 (by rw [ew, q]; rfl)
    have hne := hne h0
    refine z_aload_n X 0 d_Wr_partitionAt_11 rfl rfl ?_
    refine z_get X fl_Wr_9 1 e_Wr rfl rfl d_Wr_partitionAt_12 ?_
    refine z_aload_n X 0 d_Wr_partitionAt_15 rfl rfl ?_
    refine z_aload_n X 0 d_Wr_partitionAt_16 rfl rfl ?_
    refine z_iload_n X 1 d_Wr_partitionAt_17 rfl rfl ?_
    refine z_Vi X GG_ok cf_Wr_22 1 [zI t] [zR 1, zR 2] (c_Wr_offsetAt l D cA ad _ w hw ew h0 hne _) ⟨rfl, rfl⟩ (by decide) e_Wr rfl rfl rfl rfl (Nat.le_of_ble_eq_true rfl) ⟨Nat.zero_le _, Nat.zero_le _⟩ d_Wr_partitionAt_18 (fun r1 M2 h3 => ?_)
    have qh3 := h3.1.symm
    subst qh3
    obtain ⟨-, rfl⟩ := h3
    refine z_Vi X GG_ok cf_Wr_26 1 [zI (kOff M w t)] [zR 2] (c_Wr_indexOf l D cA ad _ w hw ew h0 _) ⟨rfl, rfl⟩ (by decide) e_Wr rfl rfl rfl rfl (Nat.le_of_ble_eq_true rfl) ⟨Nat.zero_le _, Nat.zero_le _⟩ d_Wr_partitionAt_21 (fun r4 M5 h6 => ?_)
    have qh6 := h6.1.symm
    subst qh6
    obtain ⟨-, rfl⟩ := h6
    refine z_iald X 2 e_WrP rfl (kIdx M w t) rfl (Nat.lt_of_lt_of_le (kIdx_lt M h0 t) hw) (by decide) d_Wr_partitionAt_24 ?_
    exact z_iret X (⟨rfl, by rw [kPartAt, if_neg h0]⟩) d_Wr_partitionAt_25
  · refine z_iconst X (v := (-1)) d_Wr_partitionAt_7 (by decide) ?_
    refine z_goto X 25 d_Wr_partitionAt_8 (by decide) ?_
    exact z_iret X (⟨rfl, by rw [kPartAt, if_pos (nI_z (by omega) (by rw [← ew]; exact c_4))]⟩) d_Wr_partitionAt_25

set_option maxHeartbeats 4000000 in
set_option maxRecDepth 100000 in
theorem c_Wr_leftAt (l : Launch) (D : va_G) (cA : Nat → ClassId) (ad : Nat → Nat) (M : zM) (w : Nat) (hw : w ≤ 8) (ew : M.1 1 2 = nI w) (hne : w ≠ 0 → ¬ M.1 3 (w - 1) = 0) (t : Int32) : Ci l D cA ad y_Wr_leftAt b_Wr_leftAt 2 (some (.int)) (zr 2 43) [zR 1, zI t] M (fun r M' => M' = M ∧ r = kLeftAt M w t) := by
  refine zMi_of (plainFor_of_name (by decide)) (Nat.le_of_ble_eq_true rfl) ?_
  intro p e s m args below meth c A X
  refine z_aload_n X 0 d_Wr_leftAt_0 rfl rfl ?_
  refine z_get X fl_Wr_18 1 e_Wr rfl rfl d_Wr_leftAt_1 ?_
  refine z_if_ne X 11 d_Wr_leftAt_4 (by decide) (fun c_4 => ?_) (fun c_4 => ?_)
  · have h0 : w ≠ 0 := fun q => c_4 (by rw [ew, q]; rfl)
    have hne := hne h0
    refine z_aload_n X 0 d_Wr_leftAt_11 rfl rfl ?_
    refine z_get X fl_Wr_15 1 e_Wr rfl rfl d_Wr_leftAt_12 ?_
    refine z_aload_n X 0 d_Wr_leftAt_15 rfl rfl ?_
    refine z_aload_n X 0 d_Wr_leftAt_16 rfl rfl ?_
    refine z_iload_n X 1 d_Wr_leftAt_17 rfl rfl ?_
    refine z_Vi X GG_ok cf_Wr_22 1 [zI t] [zR 1, zR 3] (c_Wr_offsetAt l D cA ad _ w hw ew h0 hne _) ⟨rfl, rfl⟩ (by decide) e_Wr rfl rfl rfl rfl (Nat.le_of_ble_eq_true rfl) ⟨Nat.zero_le _, Nat.zero_le _⟩ d_Wr_leftAt_18 (fun r1 M2 h3 => ?_)
    have qh3 := h3.1.symm
    subst qh3
    obtain ⟨-, rfl⟩ := h3
    refine z_Vi X GG_ok cf_Wr_26 1 [zI (kOff M w t)] [zR 3] (c_Wr_indexOf l D cA ad _ w hw ew h0 _) ⟨rfl, rfl⟩ (by decide) e_Wr rfl rfl rfl rfl (Nat.le_of_ble_eq_true rfl) ⟨Nat.zero_le _, Nat.zero_le _⟩ d_Wr_leftAt_21 (fun r4 M5 h6 => ?_)
    have qh6 := h6.1.symm
    subst qh6
    obtain ⟨-, rfl⟩ := h6
    refine z_iald X 3 e_WrE rfl (kIdx M w t) rfl (Nat.lt_of_lt_of_le (kIdx_lt M h0 t) hw) (by decide) d_Wr_leftAt_24 ?_
    refine z_aload_n X 0 d_Wr_leftAt_25 rfl rfl ?_
    refine z_iload_n X 1 d_Wr_leftAt_26 rfl rfl ?_
    refine z_Vi X GG_ok cf_Wr_22 1 [zI t] [zI (M.1 3 (kIdx M w t))] (c_Wr_offsetAt l D cA ad _ w hw ew h0 hne _) ⟨rfl, rfl⟩ (by decide) e_Wr rfl rfl rfl rfl (Nat.le_of_ble_eq_true rfl) ⟨Nat.zero_le _, Nat.zero_le _⟩ d_Wr_leftAt_27 (fun r7 M8 h9 => ?_)
    have qh9 := h9.1.symm
    subst qh9
    obtain ⟨-, rfl⟩ := h9
    refine z_isub X d_Wr_leftAt_30 ?_
    exact z_iret X (⟨rfl, by rw [kLeftAt, if_neg h0]⟩) d_Wr_leftAt_31
  · refine z_iconst X (v := 0) d_Wr_leftAt_7 (by decide) ?_
    refine z_goto X 31 d_Wr_leftAt_8 (by decide) ?_
    exact z_iret X (⟨rfl, by rw [kLeftAt, if_pos (nI_z (by omega) (by rw [← ew]; exact c_4))]⟩) d_Wr_leftAt_31

set_option maxHeartbeats 4000000 in
set_option maxRecDepth 100000 in
theorem c_G_add (l : Launch) (D : va_G) (cA : Nat → ClassId) (ad : Nat → Nat) (M : zM) (i : Nat) (hi : i < 8) (n : Nat) (hn : n < 8) (en : M.1 (10 + 4 * i) 2 = nI n) (a b : Int32) : Cv l D cA ad y_G_add b_G_add 3 none (zr 0 0) [zR (10 + 4 * i), zI a, zI b] M (fun M' => M' = kGadd i n a b M) := by
  refine zMv_of (plainFor_of_name (by decide)) (Nat.le_of_ble_eq_true rfl) ?_
  intro p e s m args below meth c A X
  refine z_aload_n X 0 d_G_add_0 rfl rfl ?_
  refine z_get X fl_G_9 (10 + 4 * i) (e_G hi) rfl rfl d_G_add_1 ?_
  refine z_aload_n X 0 d_G_add_4 rfl rfl ?_
  refine z_get X fl_G_18 (10 + 4 * i) (e_G hi) rfl rfl d_G_add_5 ?_
  refine z_iload_n X 1 d_G_add_8 rfl rfl ?_
  refine z_iast X (11 + 4 * i) (e_Or hi) rfl n en hn (by decide) d_G_add_9 ?_
  refine z_aload_n X 0 d_G_add_10 rfl rfl ?_
  refine z_get X fl_G_15 (10 + 4 * i) (e_G hi) rfl rfl d_G_add_11 ?_
  refine z_aload_n X 0 d_G_add_14 rfl rfl ?_
  refine z_get X fl_G_18 (10 + 4 * i) (e_G hi) rfl rfl d_G_add_15 ?_
  refine z_iload_n X 2 d_G_add_18 rfl rfl ?_
  refine z_iast X (12 + 4 * i) (e_Nu hi) rfl n (by rw [z_si_row _ _ _ (by omega)]; exact en) hn (by decide) d_G_add_19 ?_
  refine z_aload_n X 0 d_G_add_20 rfl rfl ?_
  refine z_dup X d_G_add_21 rfl ?_
  refine z_get X fl_G_18 (10 + 4 * i) (e_G hi) rfl rfl d_G_add_22 ?_
  refine z_iconst X (v := 1) d_G_add_25 (by decide) ?_
  refine z_iadd X d_G_add_26 ?_
  refine z_puti X fl_G_18 (10 + 4 * i) (e_G hi) rfl rfl rfl d_G_add_27 ?_
  exact z_vret X (by unfold kGadd; rw [z_si_row _ _ _ (show (10 + 4 * i) ≠ 12 + 4 * i by omega), z_si_row _ _ _ (show (10 + 4 * i) ≠ 11 + 4 * i by omega), en, nI_1]) d_G_add_30

set_option maxHeartbeats 4000000 in
set_option maxRecDepth 100000 in
theorem c_O_put (l : Launch) (D : va_G) (cA : Nat → ClassId) (ad : Nat → Nat) (M : zM) (q : Nat) (hq : q < 4) (n : Nat) (hn : n < 4) (en : M.1 (42 + 2 * q) 1 = nI n) (x : Int32) : Cv l D cA ad y_O_put b_O_put 2 none (zr 0 0) [zR (42 + 2 * q), zI x] M (fun M' => M' = kPut q n x M) := by
  refine zMv_of (plainFor_of_name (by decide)) (Nat.le_of_ble_eq_true rfl) ?_
  intro p e s m args below meth c A X
  refine z_aload_n X 0 d_O_put_0 rfl rfl ?_
  refine z_get X fl_O_9 (42 + 2 * q) (e_O hq) rfl rfl d_O_put_1 ?_
  refine z_aload_n X 0 d_O_put_4 rfl rfl ?_
  refine z_get X fl_O_15 (42 + 2 * q) (e_O hq) rfl rfl d_O_put_5 ?_
  refine z_iload_n X 1 d_O_put_8 rfl rfl ?_
  refine z_iast X (43 + 2 * q) (e_Me hq) rfl n en hn (by decide) d_O_put_9 ?_
  refine z_aload_n X 0 d_O_put_10 rfl rfl ?_
  refine z_dup X d_O_put_11 rfl ?_
  refine z_get X fl_O_15 (42 + 2 * q) (e_O hq) rfl rfl d_O_put_12 ?_
  refine z_iconst X (v := 1) d_O_put_15 (by decide) ?_
  refine z_iadd X d_O_put_16 ?_
  refine z_puti X fl_O_15 (42 + 2 * q) (e_O hq) rfl rfl rfl d_O_put_17 ?_
  exact z_vret X (by unfold kPut; rw [z_si_row _ _ _ (show (42 + 2 * q) ≠ 43 + 2 * q by omega), en, nI_1]) d_O_put_20

set_option maxHeartbeats 4000000 in
set_option maxRecDepth 100000 in
theorem c_Wr_add (l : Launch) (D : va_G) (cA : Nat → ClassId) (ad : Nat → Nat) (M : zM) (n : Nat) (hn : n < 8) (en : M.1 1 2 = nI n) (a x : Int32) : Cv l D cA ad y_Wr_add b_Wr_add 3 none (zr 0 0) [zR 1, zI a, zI x] M (fun M' => M' = kWadd n a x M) := by
  refine zMv_of (plainFor_of_name (by decide)) (Nat.le_of_ble_eq_true rfl) ?_
  intro p e s m args below meth c A X
  refine z_aload_n X 0 d_Wr_add_0 rfl rfl ?_
  refine z_get X fl_Wr_15 1 e_Wr rfl rfl d_Wr_add_1 ?_
  refine z_aload_n X 0 d_Wr_add_4 rfl rfl ?_
  refine z_get X fl_Wr_18 1 e_Wr rfl rfl d_Wr_add_5 ?_
  refine z_aload_n X 0 d_Wr_add_8 rfl rfl ?_
  refine z_get X fl_Wr_18 1 e_Wr rfl rfl d_Wr_add_9 ?_
  refine z_if_ne X 19 d_Wr_add_12 (by decide) (fun c_12 => ?_) (fun c_12 => ?_)
  · have h0 : n ≠ 0 := fun q => c_12 (by rw [en, q]; rfl)
    refine z_aload_n X 0 d_Wr_add_19 rfl rfl ?_
    refine z_get X fl_Wr_15 1 e_Wr rfl rfl d_Wr_add_20 ?_
    refine z_aload_n X 0 d_Wr_add_23 rfl rfl ?_
    refine z_get X fl_Wr_18 1 e_Wr rfl rfl d_Wr_add_24 ?_
    refine z_iconst X (v := 1) d_Wr_add_27 (by decide) ?_
    refine z_isub X d_Wr_add_28 ?_
    refine z_iald X 3 e_WrE rfl (n - 1) (by rw [en]; exact nI_m1 h0) (by omega) (by decide) d_Wr_add_29 ?_
    refine z_iload_n X 2 d_Wr_add_30 rfl rfl ?_
    refine z_iadd X d_Wr_add_31 ?_
    refine z_iast X 3 e_WrE rfl n en hn (by decide) d_Wr_add_32 ?_
    refine z_aload_n X 0 d_Wr_add_33 rfl rfl ?_
    refine z_get X fl_Wr_9 1 e_Wr rfl rfl d_Wr_add_34 ?_
    refine z_aload_n X 0 d_Wr_add_37 rfl rfl ?_
    refine z_get X fl_Wr_18 1 e_Wr rfl rfl d_Wr_add_38 ?_
    refine z_iload_n X 1 d_Wr_add_41 rfl rfl ?_
    refine z_iast X 2 e_WrP rfl n (by rw [z_si_row _ _ _ (by decide)]; exact en) hn (by decide) d_Wr_add_42 ?_
    refine z_aload_n X 0 d_Wr_add_43 rfl rfl ?_
    refine z_dup X d_Wr_add_44 rfl ?_
    refine z_get X fl_Wr_18 1 e_Wr rfl rfl d_Wr_add_45 ?_
    refine z_iconst X (v := 1) d_Wr_add_48 (by decide) ?_
    refine z_iadd X d_Wr_add_49 ?_
    refine z_puti X fl_Wr_18 1 e_Wr rfl rfl rfl d_Wr_add_50 ?_
    exact z_vret X (by unfold kWadd kEnd; rw [z_si_row _ _ _ (show (1 : Nat) ≠ 2 by decide), z_si_row _ _ _ (show (1 : Nat) ≠ 3 by decide), en, nI_1, if_neg h0]) d_Wr_add_53
  · refine z_iload_n X 2 d_Wr_add_15 rfl rfl ?_
    refine z_goto X 32 d_Wr_add_16 (by decide) ?_
    refine z_iast X 3 e_WrE rfl n en hn (by decide) d_Wr_add_32 ?_
    refine z_aload_n X 0 d_Wr_add_33 rfl rfl ?_
    refine z_get X fl_Wr_9 1 e_Wr rfl rfl d_Wr_add_34 ?_
    refine z_aload_n X 0 d_Wr_add_37 rfl rfl ?_
    refine z_get X fl_Wr_18 1 e_Wr rfl rfl d_Wr_add_38 ?_
    refine z_iload_n X 1 d_Wr_add_41 rfl rfl ?_
    refine z_iast X 2 e_WrP rfl n (by rw [z_si_row _ _ _ (by decide)]; exact en) hn (by decide) d_Wr_add_42 ?_
    refine z_aload_n X 0 d_Wr_add_43 rfl rfl ?_
    refine z_dup X d_Wr_add_44 rfl ?_
    refine z_get X fl_Wr_18 1 e_Wr rfl rfl d_Wr_add_45 ?_
    refine z_iconst X (v := 1) d_Wr_add_48 (by decide) ?_
    refine z_iadd X d_Wr_add_49 ?_
    refine z_puti X fl_Wr_18 1 e_Wr rfl rfl rfl d_Wr_add_50 ?_
    exact z_vret X (by unfold kWadd kEnd; rw [z_si_row _ _ _ (show (1 : Nat) ≠ 2 by decide), z_si_row _ _ _ (show (1 : Nat) ≠ 3 by decide), en, nI_1, if_pos (nI_z (by omega) (by rw [← en]; exact c_12))]) d_Wr_add_53
