set_option maxHeartbeats 4000000 in
set_option maxRecDepth 100000 in
theorem c_A_firstReady (l : Launch) (D : va_G) (cA : Nat → ClassId) (ad : Nat → Nat) (M : zM) (n w : Nat) (hI : kInv n w M) (a : Int32) : Cq l D cA ad y_A_firstReady b_A_firstReady 5 (some (.object "WindowPlan$Task")) (zr 1 21) [zR 0, zI a] M (fun o M' => M' = M ∧ o = (kFR n a M).map (fun j => 9 + 4 * j)) := by
  refine zMq_of (plainFor_of_name (by decide)) (Nat.le_of_ble_eq_true rfl) ?_
  intro p e s m args below meth c A X
  have hn := kInv_n hI
  have loop : ∀ (k i : Nat) (b : Option Nat), i + k = n → (∀ j, b = some j → j < i) → kFst (kIsReady M a) M k i b = kFR n a M → zW p l e (zr 1 21) s m args below meth c 0 0 (MQ below (va_Qq (fun (r : Option Nat) (u : zM) => ∃ o : Option Nat, r = o.map ad ∧ ((fun o M' => M' = M ∧ o = (kFR n a M).map (fun j => 9 + 4 * j))) o u) (fun M' t => va_P D cls (z_w cA ad M' 0 EE) t.heap) A) args s 0 0 A) A D cls cA ad EE 5 M 4 [(3, zI (nI i)), (2, (.inr (.inr (b.map (fun j => 9 + 4 * j))) : zA)), (0, zR 0), (1, zI a)] [] := by
    intro k
    induction k with
    | zero =>
      intro i b hk hb hq
      cases b with
      | none =>
        refine z_iload_n X 0 d_A_firstReady_4 rfl rfl ?_
        refine z_aload_n X 2 d_A_firstReady_5 rfl rfl ?_
        refine z_get X fl_A_63 0 e_A rfl rfl d_A_firstReady_6 ?_
        refine z_icmp_ge X 56 d_A_firstReady_9 (by decide) (fun c_9 => ?_) (fun c_9 => absurd (by rw [kInv_cnt hI, show i = n by omega]; exact nI_le (Nat.le_refl _) (by omega)) c_9)
        refine z_aload_nN X 1 d_A_firstReady_56 rfl rfl ?_
        exact z_aret X (o := none) (⟨rfl, by rw [← hq]; rfl⟩) d_A_firstReady_57
      | some j =>
        refine z_iload_n X 0 d_A_firstReady_4 rfl rfl ?_
        refine z_aload_n X 2 d_A_firstReady_5 rfl rfl ?_
        refine z_get X fl_A_63 0 e_A rfl rfl d_A_firstReady_6 ?_
        refine z_icmp_ge X 56 d_A_firstReady_9 (by decide) (fun c_9 => ?_) (fun c_9 => absurd (by rw [kInv_cnt hI, show i = n by omega]; exact nI_le (Nat.le_refl _) (by omega)) c_9)
        refine z_aload_n X 1 d_A_firstReady_56 rfl rfl ?_
        exact z_aret X (o := some (9 + 4 * j)) (⟨rfl, by rw [← hq]; rfl⟩) d_A_firstReady_57
    | succ k ih =>
      intro i b hk hb hq
      have hi : i < 8 := by omega
      cases b with
      | none =>
        refine z_iload_n X 0 d_A_firstReady_4 rfl rfl ?_
        refine z_aload_n X 2 d_A_firstReady_5 rfl rfl ?_
        refine z_get X fl_A_63 0 e_A rfl rfl d_A_firstReady_6 ?_
        refine z_icmp_ge X 56 d_A_firstReady_9 (by decide) (fun c_9 => absurd c_9 (by rw [kInv_cnt hI]; exact nI_ge (by omega) (by omega))) (fun c_9 => ?_)
        refine z_aload_n X 2 d_A_firstReady_12 rfl rfl ?_
        refine z_get X fl_A_25 0 e_A rfl rfl d_A_firstReady_13 ?_
        refine z_iload_n X 0 d_A_firstReady_16 rfl rfl ?_
        refine z_aald X 8 e_TA rfl i rfl hi (by decide) (g_TA hi) d_A_firstReady_17 ?_
        refine z_astore X (L' := [(4, zR (9 + 4 * i)), (3, zI (nI i)), (2, zN), (0, zR 0), (1, zI a)]) d_A_firstReady_18 (by decide) rfl ?_
        refine z_aload X 0 d_A_firstReady_20 rfl ?_
        refine z_get X fl_A_97 (9 + 4 * i) (e_K hi) rfl rfl d_A_firstReady_22 ?_
        refine z_iload_n X 4 d_A_firstReady_25 rfl rfl ?_
        refine z_icmp_ne X 50 d_A_firstReady_26 (by decide) (fun c_26 => ?_) (fun c_26 => ?_)
        · refine z_iinc X 1 (v := nI (i + 1)) (L' := [(3, zI (nI (i + 1))), (4, zR (9 + 4 * i)), (2, zN), (0, zR 0), (1, zI a)]) d_A_firstReady_50 rfl (nI_1 i) (by decide) rfl ?_
          refine z_goto X 4 d_A_firstReady_53 (by decide) ?_
          exact z_keep (ks := [0, 2, 3, 4]) (L' := [(3, zI (nI (i + 1))), (2, zN), (0, zR 0), (1, zI a)]) rfl (ih (i + 1) none (by omega) (fun j h => by cases h) ((kFst_no (fun q => c_26 q.1.1)).symm.trans hq))
        · refine z_aload X 0 d_A_firstReady_29 rfl ?_
          refine z_get X fl_A_109 (9 + 4 * i) (e_K hi) rfl rfl d_A_firstReady_31 ?_
          refine z_iconst X (v := 1) d_A_firstReady_34 (by decide) ?_
          refine z_icmp_ne X 50 d_A_firstReady_35 (by decide) (fun c_35 => ?_) (fun c_35 => ?_)
          · refine z_iinc X 1 (v := nI (i + 1)) (L' := [(3, zI (nI (i + 1))), (4, zR (9 + 4 * i)), (2, zN), (0, zR 0), (1, zI a)]) d_A_firstReady_50 rfl (nI_1 i) (by decide) rfl ?_
            refine z_goto X 4 d_A_firstReady_53 (by decide) ?_
            exact z_keep (ks := [0, 2, 3, 4]) (L' := [(3, zI (nI (i + 1))), (2, zN), (0, zR 0), (1, zI a)]) rfl (ih (i + 1) none (by omega) (fun j h => by cases h) ((kFst_no (fun q => c_35 q.1.2)).symm.trans hq))
          · refine z_aload X 0 d_A_firstReady_38 rfl ?_
            refine z_aload_nN X 2 d_A_firstReady_40 rfl rfl ?_
            refine z_Vi X GG_ok cf_A_235 (9 + 4 * i) [zN] [] (c_K_comesBefore_N l D cA ad _ i hi) ⟨rfl, rfl⟩ (by decide) (e_K hi) rfl rfl rfl rfl (Nat.le_of_ble_eq_true rfl) ⟨Nat.zero_le _, Nat.zero_le _⟩ d_A_firstReady_41 (fun r1 M2 h3 => ?_)
            have qh3 := h3.1.symm
            subst qh3
            obtain ⟨-, ⟨rfl, pb⟩ | ⟨rfl, pb⟩⟩ := h3
            · refine z_if_eq X 50 d_A_firstReady_44 (by decide) (fun h => absurd h (by decide)) (fun _ => ?_)
              refine z_aload X 0 d_A_firstReady_47 rfl ?_
              refine z_astore_n X (L' := [(2, zR (9 + 4 * i)), (4, zR (9 + 4 * i)), (3, zI (nI i)), (0, zR 0), (1, zI a)]) d_A_firstReady_49 rfl (by decide) rfl ?_
              refine z_iinc X 2 (v := nI (i + 1)) (L' := [(3, zI (nI (i + 1))), (2, zR (9 + 4 * i)), (4, zR (9 + 4 * i)), (0, zR 0), (1, zI a)]) d_A_firstReady_50 rfl (nI_1 i) (by decide) rfl ?_
              refine z_goto X 4 d_A_firstReady_53 (by decide) ?_
              exact z_keep (ks := [0, 1, 3, 4]) (L' := [(3, zI (nI (i + 1))), (2, zR (9 + 4 * i)), (0, zR 0), (1, zI a)]) rfl (ih (i + 1) (some i) (by omega) (fun j h => by cases h; omega) ((kFst_yes ⟨⟨c_26, c_35⟩, pb⟩).symm.trans hq))
            · refine z_if_eq X 50 d_A_firstReady_44 (by decide) (fun _ => ?_) (fun h => absurd h (by decide))
              refine z_iinc X 1 (v := nI (i + 1)) (L' := [(3, zI (nI (i + 1))), (4, zR (9 + 4 * i)), (2, zN), (0, zR 0), (1, zI a)]) d_A_firstReady_50 rfl (nI_1 i) (by decide) rfl ?_
              refine z_goto X 4 d_A_firstReady_53 (by decide) ?_
              exact z_keep (ks := [0, 2, 3, 4]) (L' := [(3, zI (nI (i + 1))), (2, zN), (0, zR 0), (1, zI a)]) rfl (ih (i + 1) none (by omega) (fun j h => by cases h) ((kFst_no (fun q => pb q.2)).symm.trans hq))
      | some j =>
        have hj : j < 8 := by have := hb j rfl; omega
        refine z_iload_n X 0 d_A_firstReady_4 rfl rfl ?_
        refine z_aload_n X 2 d_A_firstReady_5 rfl rfl ?_
        refine z_get X fl_A_63 0 e_A rfl rfl d_A_firstReady_6 ?_
        refine z_icmp_ge X 56 d_A_firstReady_9 (by decide) (fun c_9 => absurd c_9 (by rw [kInv_cnt hI]; exact nI_ge (by omega) (by omega))) (fun c_9 => ?_)
        refine z_aload_n X 2 d_A_firstReady_12 rfl rfl ?_
        refine z_get X fl_A_25 0 e_A rfl rfl d_A_firstReady_13 ?_
        refine z_iload_n X 0 d_A_firstReady_16 rfl rfl ?_
        refine z_aald X 8 e_TA rfl i rfl hi (by decide) (g_TA hi) d_A_firstReady_17 ?_
        refine z_astore X (L' := [(4, zR (9 + 4 * i)), (3, zI (nI i)), (2, zR (9 + 4 * j)), (0, zR 0), (1, zI a)]) d_A_firstReady_18 (by decide) rfl ?_
        refine z_aload X 0 d_A_firstReady_20 rfl ?_
        refine z_get X fl_A_97 (9 + 4 * i) (e_K hi) rfl rfl d_A_firstReady_22 ?_
        refine z_iload_n X 4 d_A_firstReady_25 rfl rfl ?_
        refine z_icmp_ne X 50 d_A_firstReady_26 (by decide) (fun c_26 => ?_) (fun c_26 => ?_)
        · refine z_iinc X 1 (v := nI (i + 1)) (L' := [(3, zI (nI (i + 1))), (4, zR (9 + 4 * i)), (2, zR (9 + 4 * j)), (0, zR 0), (1, zI a)]) d_A_firstReady_50 rfl (nI_1 i) (by decide) rfl ?_
          refine z_goto X 4 d_A_firstReady_53 (by decide) ?_
          exact z_keep (ks := [0, 2, 3, 4]) (L' := [(3, zI (nI (i + 1))), (2, zR (9 + 4 * j)), (0, zR 0), (1, zI a)]) rfl (ih (i + 1) (some j) (by omega) (fun j h => by have := hb j h; omega) ((kFst_no (fun q => c_26 q.1.1)).symm.trans hq))
        · refine z_aload X 0 d_A_firstReady_29 rfl ?_
          refine z_get X fl_A_109 (9 + 4 * i) (e_K hi) rfl rfl d_A_firstReady_31 ?_
          refine z_iconst X (v := 1) d_A_firstReady_34 (by decide) ?_
          refine z_icmp_ne X 50 d_A_firstReady_35 (by decide) (fun c_35 => ?_) (fun c_35 => ?_)
          · refine z_iinc X 1 (v := nI (i + 1)) (L' := [(3, zI (nI (i + 1))), (4, zR (9 + 4 * i)), (2, zR (9 + 4 * j)), (0, zR 0), (1, zI a)]) d_A_firstReady_50 rfl (nI_1 i) (by decide) rfl ?_
            refine z_goto X 4 d_A_firstReady_53 (by decide) ?_
            exact z_keep (ks := [0, 2, 3, 4]) (L' := [(3, zI (nI (i + 1))), (2, zR (9 + 4 * j)), (0, zR 0), (1, zI a)]) rfl (ih (i + 1) (some j) (by omega) (fun j h => by have := hb j h; omega) ((kFst_no (fun q => c_35 q.1.2)).symm.trans hq))
          · refine z_aload X 0 d_A_firstReady_38 rfl ?_
            refine z_aload_n X 2 d_A_firstReady_40 rfl rfl ?_
            refine z_Vi X GG_ok cf_A_235 (9 + 4 * i) [zR (9 + 4 * j)] [] (c_K_comesBefore_S l D cA ad _ i hi j hj) ⟨rfl, rfl⟩ (by decide) (e_K hi) rfl rfl rfl rfl (Nat.le_of_ble_eq_true rfl) ⟨Nat.zero_le _, Nat.zero_le _⟩ d_A_firstReady_41 (fun r1 M2 h3 => ?_)
            have qh3 := h3.1.symm
            subst qh3
            obtain ⟨-, ⟨rfl, pb⟩ | ⟨rfl, pb⟩⟩ := h3
            · refine z_if_eq X 50 d_A_firstReady_44 (by decide) (fun h => absurd h (by decide)) (fun _ => ?_)
              refine z_aload X 0 d_A_firstReady_47 rfl ?_
              refine z_astore_n X (L' := [(2, zR (9 + 4 * i)), (4, zR (9 + 4 * i)), (3, zI (nI i)), (0, zR 0), (1, zI a)]) d_A_firstReady_49 rfl (by decide) rfl ?_
              refine z_iinc X 2 (v := nI (i + 1)) (L' := [(3, zI (nI (i + 1))), (2, zR (9 + 4 * i)), (4, zR (9 + 4 * i)), (0, zR 0), (1, zI a)]) d_A_firstReady_50 rfl (nI_1 i) (by decide) rfl ?_
              refine z_goto X 4 d_A_firstReady_53 (by decide) ?_
              exact z_keep (ks := [0, 1, 3, 4]) (L' := [(3, zI (nI (i + 1))), (2, zR (9 + 4 * i)), (0, zR 0), (1, zI a)]) rfl (ih (i + 1) (some i) (by omega) (fun j h => by cases h; omega) ((kFst_yes ⟨⟨c_26, c_35⟩, pb⟩).symm.trans hq))
            · refine z_if_eq X 50 d_A_firstReady_44 (by decide) (fun _ => ?_) (fun h => absurd h (by decide))
              refine z_iinc X 1 (v := nI (i + 1)) (L' := [(3, zI (nI (i + 1))), (4, zR (9 + 4 * i)), (2, zR (9 + 4 * j)), (0, zR 0), (1, zI a)]) d_A_firstReady_50 rfl (nI_1 i) (by decide) rfl ?_
              refine z_goto X 4 d_A_firstReady_53 (by decide) ?_
              exact z_keep (ks := [0, 2, 3, 4]) (L' := [(3, zI (nI (i + 1))), (2, zR (9 + 4 * j)), (0, zR 0), (1, zI a)]) rfl (ih (i + 1) (some j) (by omega) (fun j h => by have := hb j h; omega) ((kFst_no (fun q => pb q.2)).symm.trans hq))
  refine z_null X d_A_firstReady_0 ?_
  refine z_astore_nN X (L' := [(2, zN), (0, zR 0), (1, zI a)]) d_A_firstReady_1 rfl (by decide) rfl ?_
  refine z_iconst X (v := 0) d_A_firstReady_2 (by decide) ?_
  refine z_istore_n X (L' := [(3, zI 0), (2, zN), (0, zR 0), (1, zI a)]) d_A_firstReady_3 rfl (by decide) rfl ?_
  exact loop n 0 none (by omega) (fun j h => by cases h) rfl

set_option maxHeartbeats 4000000 in
set_option maxRecDepth 100000 in
theorem c_A_firstWaiting (l : Launch) (D : va_G) (cA : Nat → ClassId) (ad : Nat → Nat) (M : zM) (n w : Nat) (hI : kInv n w M) (a d : Int32) : Cq l D cA ad y_A_firstWaiting b_A_firstWaiting 6 (some (.object "WindowPlan$Task")) (zr 1 22) [zR 0, zI a, zI d] M (fun o M' => M' = M ∧ o = (kFW n a d M).map (fun j => 9 + 4 * j)) := by
  refine zMq_of (plainFor_of_name (by decide)) (Nat.le_of_ble_eq_true rfl) ?_
  intro p e s m args below meth c A X
  have hn := kInv_n hI
  have loop : ∀ (k i : Nat) (b : Option Nat), i + k = n → (∀ j, b = some j → j < i) → kFst (kWaits M a d) M k i b = kFW n a d M → zW p l e (zr 1 22) s m args below meth c 0 0 (MQ below (va_Qq (fun (r : Option Nat) (u : zM) => ∃ o : Option Nat, r = o.map ad ∧ ((fun o M' => M' = M ∧ o = (kFW n a d M).map (fun j => 9 + 4 * j))) o u) (fun M' t => va_P D cls (z_w cA ad M' 0 EE) t.heap) A) args s 0 0 A) A D cls cA ad EE 6 M 5 [(4, zI (nI i)), (3, (.inr (.inr (b.map (fun j => 9 + 4 * j))) : zA)), (0, zR 0), (1, zI a), (2, zI d)] [] := by
    intro k
    induction k with
    | zero =>
      intro i b hk hb hq
      cases b with
      | none =>
        refine z_iload X 0 d_A_firstWaiting_5 rfl ?_
        refine z_aload_n X 2 d_A_firstWaiting_7 rfl rfl ?_
        refine z_get X fl_A_63 0 e_A rfl rfl d_A_firstWaiting_8 ?_
        refine z_icmp_ge X 51 d_A_firstWaiting_11 (by decide) (fun c_11 => ?_) (fun c_11 => absurd (by rw [kInv_cnt hI, show i = n by omega]; exact nI_le (Nat.le_refl _) (by omega)) c_11)
        refine z_aload_nN X 1 d_A_firstWaiting_51 rfl rfl ?_
        exact z_aret X (o := none) (⟨rfl, by rw [← hq]; rfl⟩) d_A_firstWaiting_52
      | some j =>
        refine z_iload X 0 d_A_firstWaiting_5 rfl ?_
        refine z_aload_n X 2 d_A_firstWaiting_7 rfl rfl ?_
        refine z_get X fl_A_63 0 e_A rfl rfl d_A_firstWaiting_8 ?_
        refine z_icmp_ge X 51 d_A_firstWaiting_11 (by decide) (fun c_11 => ?_) (fun c_11 => absurd (by rw [kInv_cnt hI, show i = n by omega]; exact nI_le (Nat.le_refl _) (by omega)) c_11)
        refine z_aload_n X 1 d_A_firstWaiting_51 rfl rfl ?_
        exact z_aret X (o := some (9 + 4 * j)) (⟨rfl, by rw [← hq]; rfl⟩) d_A_firstWaiting_52
    | succ k ih =>
      intro i b hk hb hq
      have hi : i < 8 := by omega
      cases b with
      | none =>
        refine z_iload X 0 d_A_firstWaiting_5 rfl ?_
        refine z_aload_n X 2 d_A_firstWaiting_7 rfl rfl ?_
        refine z_get X fl_A_63 0 e_A rfl rfl d_A_firstWaiting_8 ?_
        refine z_icmp_ge X 51 d_A_firstWaiting_11 (by decide) (fun c_11 => absurd c_11 (by rw [kInv_cnt hI]; exact nI_ge (by omega) (by omega))) (fun c_11 => ?_)
        refine z_aload_n X 2 d_A_firstWaiting_14 rfl rfl ?_
        refine z_get X fl_A_25 0 e_A rfl rfl d_A_firstWaiting_15 ?_
        refine z_iload X 0 d_A_firstWaiting_18 rfl ?_
        refine z_aald X 8 e_TA rfl i rfl hi (by decide) (g_TA hi) d_A_firstWaiting_20 ?_
        refine z_astore X (L' := [(5, zR (9 + 4 * i)), (4, zI (nI i)), (3, zN), (0, zR 0), (1, zI a), (2, zI d)]) d_A_firstWaiting_21 (by decide) rfl ?_
        refine z_aload X 0 d_A_firstWaiting_23 rfl ?_
        refine z_iload_n X 4 d_A_firstWaiting_25 rfl rfl ?_
        refine z_iload_n X 5 d_A_firstWaiting_26 rfl rfl ?_
        refine z_Vi X GG_ok cf_A_238 (9 + 4 * i) [zI a, zI d] [] (c_K_waitsAt l D cA ad _ i hi (kNx M i) (kNx_lt hI hi) (kNx_eq hI hi) _ _) ⟨rfl, rfl⟩ (by decide) (e_K hi) rfl rfl rfl rfl (Nat.le_of_ble_eq_true rfl) ⟨Nat.zero_le _, Nat.zero_le _⟩ d_A_firstWaiting_27 (fun r1 M2 h3 => ?_)
        have qh3 := h3.1.symm
        subst qh3
        obtain ⟨-, ⟨rfl, pw⟩ | ⟨rfl, pw⟩⟩ := h3
        · refine z_if_eq X 45 d_A_firstWaiting_30 (by decide) (fun h => absurd h (by decide)) (fun _ => ?_)
          refine z_aload X 0 d_A_firstWaiting_33 rfl ?_
          refine z_aload_nN X 2 d_A_firstWaiting_35 rfl rfl ?_
          refine z_Vi X GG_ok cf_A_235 (9 + 4 * i) [zN] [] (c_K_comesBefore_N l D cA ad _ i hi) ⟨rfl, rfl⟩ (by decide) (e_K hi) rfl rfl rfl rfl (Nat.le_of_ble_eq_true rfl) ⟨Nat.zero_le _, Nat.zero_le _⟩ d_A_firstWaiting_36 (fun r4 M5 h6 => ?_)
          have qh6 := h6.1.symm
          subst qh6
          obtain ⟨-, ⟨rfl, pb⟩ | ⟨rfl, pb⟩⟩ := h6
          · refine z_if_eq X 45 d_A_firstWaiting_39 (by decide) (fun h => absurd h (by decide)) (fun _ => ?_)
            refine z_aload X 0 d_A_firstWaiting_42 rfl ?_
            refine z_astore_n X (L' := [(3, zR (9 + 4 * i)), (5, zR (9 + 4 * i)), (4, zI (nI i)), (0, zR 0), (1, zI a), (2, zI d)]) d_A_firstWaiting_44 rfl (by decide) rfl ?_
            refine z_iinc X 2 (v := nI (i + 1)) (L' := [(4, zI (nI (i + 1))), (3, zR (9 + 4 * i)), (5, zR (9 + 4 * i)), (0, zR 0), (1, zI a), (2, zI d)]) d_A_firstWaiting_45 rfl (nI_1 i) (by decide) rfl ?_
            refine z_goto X 5 d_A_firstWaiting_48 (by decide) ?_
            exact z_keep (ks := [0, 1, 3, 4, 5]) (L' := [(4, zI (nI (i + 1))), (3, zR (9 + 4 * i)), (0, zR 0), (1, zI a), (2, zI d)]) rfl (ih (i + 1) (some i) (by omega) (fun j h => by cases h; omega) ((kFst_yes ⟨pw, pb⟩).symm.trans hq))
          · refine z_if_eq X 45 d_A_firstWaiting_39 (by decide) (fun _ => ?_) (fun h => absurd h (by decide))
            refine z_iinc X 1 (v := nI (i + 1)) (L' := [(4, zI (nI (i + 1))), (5, zR (9 + 4 * i)), (3, zN), (0, zR 0), (1, zI a), (2, zI d)]) d_A_firstWaiting_45 rfl (nI_1 i) (by decide) rfl ?_
            refine z_goto X 5 d_A_firstWaiting_48 (by decide) ?_
            exact z_keep (ks := [0, 2, 3, 4, 5]) (L' := [(4, zI (nI (i + 1))), (3, zN), (0, zR 0), (1, zI a), (2, zI d)]) rfl (ih (i + 1) none (by omega) (fun j h => by cases h) ((kFst_no (fun q => pb q.2)).symm.trans hq))
        · refine z_if_eq X 45 d_A_firstWaiting_30 (by decide) (fun _ => ?_) (fun h => absurd h (by decide))
          refine z_iinc X 1 (v := nI (i + 1)) (L' := [(4, zI (nI (i + 1))), (5, zR (9 + 4 * i)), (3, zN), (0, zR 0), (1, zI a), (2, zI d)]) d_A_firstWaiting_45 rfl (nI_1 i) (by decide) rfl ?_
          refine z_goto X 5 d_A_firstWaiting_48 (by decide) ?_
          exact z_keep (ks := [0, 2, 3, 4, 5]) (L' := [(4, zI (nI (i + 1))), (3, zN), (0, zR 0), (1, zI a), (2, zI d)]) rfl (ih (i + 1) none (by omega) (fun j h => by cases h) ((kFst_no (fun q => pw q.1)).symm.trans hq))
      | some j =>
        have hj : j < 8 := by have := hb j rfl; omega
        refine z_iload X 0 d_A_firstWaiting_5 rfl ?_
        refine z_aload_n X 2 d_A_firstWaiting_7 rfl rfl ?_
        refine z_get X fl_A_63 0 e_A rfl rfl d_A_firstWaiting_8 ?_
        refine z_icmp_ge X 51 d_A_firstWaiting_11 (by decide) (fun c_11 => absurd c_11 (by rw [kInv_cnt hI]; exact nI_ge (by omega) (by omega))) (fun c_11 => ?_)
        refine z_aload_n X 2 d_A_firstWaiting_14 rfl rfl ?_
        refine z_get X fl_A_25 0 e_A rfl rfl d_A_firstWaiting_15 ?_
        refine z_iload X 0 d_A_firstWaiting_18 rfl ?_
        refine z_aald X 8 e_TA rfl i rfl hi (by decide) (g_TA hi) d_A_firstWaiting_20 ?_
        refine z_astore X (L' := [(5, zR (9 + 4 * i)), (4, zI (nI i)), (3, zR (9 + 4 * j)), (0, zR 0), (1, zI a), (2, zI d)]) d_A_firstWaiting_21 (by decide) rfl ?_
        refine z_aload X 0 d_A_firstWaiting_23 rfl ?_
        refine z_iload_n X 4 d_A_firstWaiting_25 rfl rfl ?_
        refine z_iload_n X 5 d_A_firstWaiting_26 rfl rfl ?_
        refine z_Vi X GG_ok cf_A_238 (9 + 4 * i) [zI a, zI d] [] (c_K_waitsAt l D cA ad _ i hi (kNx M i) (kNx_lt hI hi) (kNx_eq hI hi) _ _) ⟨rfl, rfl⟩ (by decide) (e_K hi) rfl rfl rfl rfl (Nat.le_of_ble_eq_true rfl) ⟨Nat.zero_le _, Nat.zero_le _⟩ d_A_firstWaiting_27 (fun r1 M2 h3 => ?_)
        have qh3 := h3.1.symm
        subst qh3
        obtain ⟨-, ⟨rfl, pw⟩ | ⟨rfl, pw⟩⟩ := h3
        · refine z_if_eq X 45 d_A_firstWaiting_30 (by decide) (fun h => absurd h (by decide)) (fun _ => ?_)
          refine z_aload X 0 d_A_firstWaiting_33 rfl ?_
          refine z_aload_n X 2 d_A_firstWaiting_35 rfl rfl ?_
          refine z_Vi X GG_ok cf_A_235 (9 + 4 * i) [zR (9 + 4 * j)] [] (c_K_comesBefore_S l D cA ad _ i hi j hj) ⟨rfl, rfl⟩ (by decide) (e_K hi) rfl rfl rfl rfl (Nat.le_of_ble_eq_true rfl) ⟨Nat.zero_le _, Nat.zero_le _⟩ d_A_firstWaiting_36 (fun r4 M5 h6 => ?_)
          have qh6 := h6.1.symm
          subst qh6
          obtain ⟨-, ⟨rfl, pb⟩ | ⟨rfl, pb⟩⟩ := h6
          · refine z_if_eq X 45 d_A_firstWaiting_39 (by decide) (fun h => absurd h (by decide)) (fun _ => ?_)
            refine z_aload X 0 d_A_firstWaiting_42 rfl ?_
            refine z_astore_n X (L' := [(3, zR (9 + 4 * i)), (5, zR (9 + 4 * i)), (4, zI (nI i)), (0, zR 0), (1, zI a), (2, zI d)]) d_A_firstWaiting_44 rfl (by decide) rfl ?_
            refine z_iinc X 2 (v := nI (i + 1)) (L' := [(4, zI (nI (i + 1))), (3, zR (9 + 4 * i)), (5, zR (9 + 4 * i)), (0, zR 0), (1, zI a), (2, zI d)]) d_A_firstWaiting_45 rfl (nI_1 i) (by decide) rfl ?_
            refine z_goto X 5 d_A_firstWaiting_48 (by decide) ?_
            exact z_keep (ks := [0, 1, 3, 4, 5]) (L' := [(4, zI (nI (i + 1))), (3, zR (9 + 4 * i)), (0, zR 0), (1, zI a), (2, zI d)]) rfl (ih (i + 1) (some i) (by omega) (fun j h => by cases h; omega) ((kFst_yes ⟨pw, pb⟩).symm.trans hq))
          · refine z_if_eq X 45 d_A_firstWaiting_39 (by decide) (fun _ => ?_) (fun h => absurd h (by decide))
            refine z_iinc X 1 (v := nI (i + 1)) (L' := [(4, zI (nI (i + 1))), (5, zR (9 + 4 * i)), (3, zR (9 + 4 * j)), (0, zR 0), (1, zI a), (2, zI d)]) d_A_firstWaiting_45 rfl (nI_1 i) (by decide) rfl ?_
            refine z_goto X 5 d_A_firstWaiting_48 (by decide) ?_
            exact z_keep (ks := [0, 2, 3, 4, 5]) (L' := [(4, zI (nI (i + 1))), (3, zR (9 + 4 * j)), (0, zR 0), (1, zI a), (2, zI d)]) rfl (ih (i + 1) (some j) (by omega) (fun j h => by have := hb j h; omega) ((kFst_no (fun q => pb q.2)).symm.trans hq))
        · refine z_if_eq X 45 d_A_firstWaiting_30 (by decide) (fun _ => ?_) (fun h => absurd h (by decide))
          refine z_iinc X 1 (v := nI (i + 1)) (L' := [(4, zI (nI (i + 1))), (5, zR (9 + 4 * i)), (3, zR (9 + 4 * j)), (0, zR 0), (1, zI a), (2, zI d)]) d_A_firstWaiting_45 rfl (nI_1 i) (by decide) rfl ?_
          refine z_goto X 5 d_A_firstWaiting_48 (by decide) ?_
          exact z_keep (ks := [0, 2, 3, 4, 5]) (L' := [(4, zI (nI (i + 1))), (3, zR (9 + 4 * j)), (0, zR 0), (1, zI a), (2, zI d)]) rfl (ih (i + 1) (some j) (by omega) (fun j h => by have := hb j h; omega) ((kFst_no (fun q => pw q.1)).symm.trans hq))
  refine z_null X d_A_firstWaiting_0 ?_
  refine z_astore_nN X (L' := [(3, zN), (0, zR 0), (1, zI a), (2, zI d)]) d_A_firstWaiting_1 rfl (by decide) rfl ?_
  refine z_iconst X (v := 0) d_A_firstWaiting_2 (by decide) ?_
  refine z_istore X (L' := [(4, zI 0), (3, zN), (0, zR 0), (1, zI a), (2, zI d)]) d_A_firstWaiting_3 (by decide) rfl ?_
  exact loop n 0 none (by omega) (fun j h => by cases h) rfl
