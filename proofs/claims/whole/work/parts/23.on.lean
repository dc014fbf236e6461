set_option maxHeartbeats 4000000 in
set_option maxRecDepth 100000 in
theorem c_A_on (l : Launch) (D : va_G) (cA : Nat → ClassId) (ad : Nat → Nat) (M : zM) (n w : Nat) (hI : kInv n w M) (a : Int32) : Ci l D cA ad y_A_on b_A_on 3 (some (.int)) (zr 2 42) [zR 0, zI a] M (fun r M' => (¬ ((0 ≤ a ∧ a ≤ 2) ∧ ¬ M.1 (5 + a.toNatClampNeg) 0 = 1) ∧ M' = M ∧ r = (-1)) ∨ (((0 ≤ a ∧ a ≤ 2) ∧ ¬ M.1 (5 + a.toNatClampNeg) 0 = 1) ∧ M' = kOn n a M ∧ r = 0)) := by
  refine zMi_of (plainFor_of_name (by decide)) (Nat.le_of_ble_eq_true rfl) ?_
  intro p e s m args below meth c A X
  have loop : ∀ (k i : Nat) (N : zM), i + k = n → kInv n w N → ((0 ≤ a ∧ a ≤ 2) ∧ ¬ M.1 (5 + a.toNatClampNeg) 0 = 1) → kFor (kOn2 a) k i N = kOn n a M → zW p l e (zr 2 42) s m args below meth c 0 0 (MQ below (va_Qi (fun r M' => (¬ ((0 ≤ a ∧ a ≤ 2) ∧ ¬ M.1 (5 + a.toNatClampNeg) 0 = 1) ∧ M' = M ∧ r = (-1)) ∨ (((0 ≤ a ∧ a ≤ 2) ∧ ¬ M.1 (5 + a.toNatClampNeg) 0 = 1) ∧ M' = kOn n a M ∧ r = 0)) (fun M' t => va_P D cls (z_w cA ad M' 0 EE) t.heap) A) args s 0 0 A) A D cls cA ad EE 3 N 34 [(2, zI (nI i)), (0, zR 0), (1, zI a)] [] := by
    intro k
    induction k with
    | zero =>
      intro i N hk hN ho hq
      have hn := kInv_n hN
      refine z_iload_n X 0 d_A_on_34 rfl rfl ?_
      refine z_aload_n X 1 d_A_on_35 rfl rfl ?_
      refine z_get X fl_A_63 0 e_A rfl rfl d_A_on_36 ?_
      refine z_icmp_ge X 86 d_A_on_39 (by decide) (fun c_39 => ?_) (fun c_39 => absurd (by rw [kInv_cnt hN, show i = n by omega]; exact nI_le (Nat.le_refl _) (by omega)) c_39)
      refine z_iconst X (v := 0) d_A_on_86 (by decide) ?_
      exact z_iret X (Or.inr ⟨ho, hq, rfl⟩) d_A_on_87
    | succ k ih =>
      intro i N hk hN ho hq
      have hn := kInv_n hN
      have hi : i < 8 := by omega
      refine z_iload_n X 0 d_A_on_34 rfl rfl ?_
      refine z_aload_n X 1 d_A_on_35 rfl rfl ?_
      refine z_get X fl_A_63 0 e_A rfl rfl d_A_on_36 ?_
      refine z_icmp_ge X 86 d_A_on_39 (by decide) (fun c_39 => absurd c_39 (by rw [kInv_cnt hN]; exact nI_ge (by omega) (by omega))) (fun c_39 => ?_)
      refine z_aload_n X 1 d_A_on_42 rfl rfl ?_
      refine z_get X fl_A_25 0 e_A rfl rfl d_A_on_43 ?_
      refine z_iload_n X 0 d_A_on_46 rfl rfl ?_
      refine z_aald X 8 e_TA rfl i rfl hi (by decide) (g_TA hi) d_A_on_47 ?_
      refine z_get X fl_A_97 (9 + 4 * i) (e_K hi) rfl rfl d_A_on_48 ?_
      refine z_iload_n X 2 d_A_on_51 rfl rfl ?_
      refine z_icmp_ne X 80 d_A_on_52 (by decide) (fun c_52 => ?_) (fun c_52 => ?_)
      · refine z_iinc X 0 (v := nI (i + 1)) (L' := [(2, zI (nI (i + 1))), (0, zR 0), (1, zI a)]) d_A_on_80 rfl (nI_1 i) (by decide) rfl ?_
        refine z_goto X 34 d_A_on_83 (by decide) ?_
        have hX1 : kOn2 a i N = N := by simp only [kOn2, c_52, if_true, if_false]
        exact ih (i + 1) N (by omega) (hX1 ▸ kInv_On2 a i N hi hN) ho (hX1 ▸ hq)
      · refine z_aload_n X 1 d_A_on_55 rfl rfl ?_
        refine z_get X fl_A_25 0 e_A rfl rfl d_A_on_56 ?_
        refine z_iload_n X 0 d_A_on_59 rfl rfl ?_
        refine z_aald X 8 e_TA rfl i rfl hi (by decide) (g_TA hi) d_A_on_60 ?_
        refine z_get X fl_A_100 (9 + 4 * i) (e_K hi) rfl rfl d_A_on_61 ?_
        refine z_if_le X 80 d_A_on_64 (by decide) (fun c_64 => ?_) (fun c_64 => ?_)
        · refine z_iinc X 0 (v := nI (i + 1)) (L' := [(2, zI (nI (i + 1))), (0, zR 0), (1, zI a)]) d_A_on_80 rfl (nI_1 i) (by decide) rfl ?_
          refine z_goto X 34 d_A_on_83 (by decide) ?_
          have hX2 : kOn2 a i N = N := by simp only [kOn2, c_52, c_64, if_true, if_false]
          exact ih (i + 1) N (by omega) (hX2 ▸ kInv_On2 a i N hi hN) ho (hX2 ▸ hq)
        · refine z_aload_n X 1 d_A_on_67 rfl rfl ?_
          refine z_get X fl_A_25 0 e_A rfl rfl d_A_on_68 ?_
          refine z_iload_n X 0 d_A_on_71 rfl rfl ?_
          refine z_aald X 8 e_TA rfl i rfl hi (by decide) (g_TA hi) d_A_on_72 ?_
          refine z_aload_n X 1 d_A_on_73 rfl rfl ?_
          refine z_get X fl_A_103 0 e_A rfl rfl d_A_on_74 ?_
          refine z_puti X fl_A_106 (9 + 4 * i) (e_K hi) rfl rfl rfl d_A_on_77 ?_
          refine z_iinc X 0 (v := nI (i + 1)) (L' := [(2, zI (nI (i + 1))), (0, zR 0), (1, zI a)]) d_A_on_80 rfl (nI_1 i) (by decide) rfl ?_
          refine z_goto X 34 d_A_on_83 (by decide) ?_
          have hX3 : kOn2 a i N = z_si N (9 + 4 * i) 16 (N.1 0 6) := by simp only [kOn2, c_52, c_64, if_true, if_false]
          exact ih (i + 1) (z_si N (9 + 4 * i) 16 (N.1 0 6)) (by omega) (hX3 ▸ kInv_On2 a i N hi hN) ho (hX3 ▸ hq)
  refine z_iload_n X 1 d_A_on_0 rfl rfl ?_
  refine z_Si X GG_ok cf_A_43 [zI a] [] (c_A_isPartition l D cA ad _ _) ⟨rfl, rfl⟩ (by decide) rfl rfl (Nat.le_of_ble_eq_true rfl) ⟨Nat.zero_le _, Nat.zero_le _⟩ d_A_on_1 (fun r1 M2 h3 => ?_)
  have qh3 := h3.1.symm
  subst qh3
  obtain ⟨-, ⟨rfl, p4⟩ | ⟨rfl, p4⟩⟩ := h3
  · refine z_if_eq X 15 d_A_on_4 (by decide) (fun h => absurd h (by decide)) (fun _ => ?_)
    have ha := kC_ok p4
    refine z_aload_n X 0 d_A_on_7 rfl rfl ?_
    refine z_iload_n X 1 d_A_on_8 rfl rfl ?_
    refine z_Vi X GG_ok cf_A_88 0 [zI a] [] (c_A_isOn l D cA ad _ _ a.toNatClampNeg ha.2 ha.1) ⟨rfl, rfl⟩ (by decide) e_A rfl rfl rfl rfl (Nat.le_of_ble_eq_true rfl) ⟨Nat.zero_le _, Nat.zero_le _⟩ d_A_on_9 (fun r5 M6 h7 => ?_)
    have qh7 := h7.1.symm
    subst qh7
    obtain ⟨-, ⟨rfl, p8⟩ | ⟨rfl, p8⟩⟩ := h7
    · refine z_if_eq X 17 d_A_on_12 (by decide) (fun h => absurd h (by decide)) (fun _ => ?_)
      refine z_iconst X (v := (-1)) d_A_on_15 (by decide) ?_
      exact z_iret X (Or.inl ⟨fun q => q.2 p8, rfl, rfl⟩) d_A_on_16
    · refine z_if_eq X 17 d_A_on_12 (by decide) (fun _ => ?_) (fun h => absurd h (by decide))
      refine z_aload_n X 0 d_A_on_17 rfl rfl ?_
      refine z_get X fl_A_18 0 e_A rfl rfl d_A_on_18 ?_
      refine z_iload_n X 1 d_A_on_21 rfl rfl ?_
      refine z_aald X 4 e_PA rfl a.toNatClampNeg ha.1 ha.2 (by decide) (g_PA ha.2) d_A_on_22 ?_
      refine z_iconst X (v := 1) d_A_on_23 (by decide) ?_
      refine z_puti X fl_A_91 (5 + a.toNatClampNeg) (e_P ha.2) rfl rfl rfl d_A_on_24 ?_
      refine z_aload_n X 0 d_A_on_27 rfl rfl ?_
      refine z_iload_n X 1 d_A_on_28 rfl rfl ?_
      refine z_Vv X GG_ok cf_A_94 0 [zI a] [] (c_A_restAll l D cA ad _ n w (kInv_far hI _ (by have := ha.2; omega)) _) ⟨rfl, rfl⟩ (by decide) e_A rfl rfl rfl rfl (Nat.le_of_ble_eq_true rfl) ⟨Nat.zero_le _, Nat.zero_le _⟩ d_A_on_29 (fun M11 h12 => ?_)
      have qh12 := h12.symm
      subst qh12
      refine z_iconst X (v := 0) d_A_on_32 (by decide) ?_
      refine z_istore_n X (L' := [(2, zI 0), (0, zR 0), (1, zI a)]) d_A_on_33 rfl (by decide) rfl ?_
      exact loop n 0 (kFor (kRestOne a) n 0 (z_si M (5 + a.toNatClampNeg) 0 1)) (by omega) (kInv_On1 hI ha.2) ⟨p4, p8⟩ rfl
  · refine z_if_eq X 15 d_A_on_4 (by decide) (fun _ => ?_) (fun h => absurd h (by decide))
    refine z_iconst X (v := (-1)) d_A_on_15 (by decide) ?_
    exact z_iret X (Or.inl ⟨fun q => p4 q.1, rfl, rfl⟩) d_A_on_16
