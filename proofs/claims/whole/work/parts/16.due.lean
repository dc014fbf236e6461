set_option maxHeartbeats 4000000 in
set_option maxRecDepth 100000 in
theorem c_A_releaseDue (l : Launch) (D : va_G) (cA : Nat → ClassId) (ad : Nat → Nat) (M : zM) (n w : Nat) (hI : kInv n w M) : Cv l D cA ad y_A_releaseDue b_A_releaseDue 3 none (zr 3 67) [zR 0] M (fun M' => M' = kFor kRelOne n 0 M) := by
  refine zMv_of (plainFor_of_name (by decide)) (Nat.le_of_ble_eq_true rfl) ?_
  intro p e s m args below meth c A X
  have loop : ∀ (k i : Nat) (N : zM), i + k = n → kInv n w N → kFor kRelOne k i N = kFor kRelOne n 0 M → zW p l e (zr 3 67) s m args below meth c 0 0 (MQ below (va_Qv (fun M' => M' = kFor kRelOne n 0 M) (fun M' t => va_P D cls (z_w cA ad M' 0 EE) t.heap) A) args s 0 0 A) A D cls cA ad EE 3 N 2 [(1, zI (nI i)), (0, zR 0)] [] := by
    intro k
    induction k with
    | zero =>
      intro i N hk hN hq
      have hn := kInv_n hN
      refine z_iload_n X 0 d_A_releaseDue_2 rfl rfl ?_
      refine z_aload_n X 1 d_A_releaseDue_3 rfl rfl ?_
      refine z_get X fl_A_63 0 e_A rfl rfl d_A_releaseDue_4 ?_
      refine z_icmp_ge X 97 d_A_releaseDue_7 (by decide) (fun c_7 => ?_) (fun c_7 => absurd (by rw [kInv_cnt hN, show i = n by omega]; exact nI_le (Nat.le_refl _) (by omega)) c_7)
      exact z_vret X hq d_A_releaseDue_97
    | succ k ih =>
      intro i N hk hN hq
      have hn := kInv_n hN
      have hi : i < 8 := by omega
      refine z_iload_n X 0 d_A_releaseDue_2 rfl rfl ?_
      refine z_aload_n X 1 d_A_releaseDue_3 rfl rfl ?_
      refine z_get X fl_A_63 0 e_A rfl rfl d_A_releaseDue_4 ?_
      refine z_icmp_ge X 97 d_A_releaseDue_7 (by decide) (fun c_7 => absurd c_7 (by rw [kInv_cnt hN]; exact nI_ge (by omega) (by omega))) (fun c_7 => ?_)
      refine z_aload_n X 1 d_A_releaseDue_10 rfl rfl ?_
      refine z_get X fl_A_25 0 e_A rfl rfl d_A_releaseDue_11 ?_
      refine z_iload_n X 0 d_A_releaseDue_14 rfl rfl ?_
      refine z_aald X 8 e_TA rfl i rfl hi (by decide) (g_TA hi) d_A_releaseDue_15 ?_
      refine z_astore_n X (L' := [(2, zR (9 + 4 * i)), (1, zI (nI i)), (0, zR 0)]) d_A_releaseDue_16 rfl (by decide) rfl ?_
      refine z_aload_n X 0 d_A_releaseDue_17 rfl rfl ?_
      refine z_get X fl_A_100 (9 + 4 * i) (e_K hi) rfl rfl d_A_releaseDue_18 ?_
      refine z_if_le X 91 d_A_releaseDue_21 (by decide) (fun c_21 => ?_) (fun c_21 => ?_)
      · refine z_iinc X 1 (v := nI (i + 1)) (L' := [(1, zI (nI (i + 1))), (2, zR (9 + 4 * i)), (0, zR 0)]) d_A_releaseDue_91 rfl (nI_1 i) (by decide) rfl ?_
        refine z_goto X 2 d_A_releaseDue_94 (by decide) ?_
        have hX1 : kRelOne i N = N := by simp only [kRelOne, kRelA, c_21, if_true, if_false]
        exact z_keep (ks := [0, 2]) (L' := [(1, zI (nI (i + 1))), (0, zR 0)]) rfl (ih (i + 1) N (by omega) (hX1 ▸ kInv_RelOne i N hi hN) (hX1 ▸ hq))
      · refine z_aload_n X 2 d_A_releaseDue_24 rfl rfl ?_
        refine z_aload_n X 0 d_A_releaseDue_25 rfl rfl ?_
        refine z_get X fl_A_97 (9 + 4 * i) (e_K hi) rfl rfl d_A_releaseDue_26 ?_
        refine z_Vi X GG_ok cf_A_88 0 [zI (N.1 (9 + 4 * i) 2)] [] (c_A_isOn l D cA ad _ _ (kPt N i) (kPt_lt hN hi) (kPt_eq hN hi)) ⟨rfl, rfl⟩ (by decide) e_A rfl rfl rfl rfl (Nat.le_of_ble_eq_true rfl) ⟨Nat.zero_le _, Nat.zero_le _⟩ d_A_releaseDue_29 (fun r2 M3 h4 => ?_)
        have qh4 := h4.1.symm
        subst qh4
        obtain ⟨-, ⟨rfl, p5⟩ | ⟨rfl, p5⟩⟩ := h4
        · refine z_if_eq X 91 d_A_releaseDue_32 (by decide) (fun h => absurd h (by decide)) (fun _ => ?_)
          refine z_aload_n X 0 d_A_releaseDue_35 rfl rfl ?_
          refine z_get X fl_A_106 (9 + 4 * i) (e_K hi) rfl rfl d_A_releaseDue_36 ?_
          refine z_aload_n X 2 d_A_releaseDue_39 rfl rfl ?_
          refine z_get X fl_A_103 0 e_A rfl rfl d_A_releaseDue_40 ?_
          refine z_icmp_ne X 91 d_A_releaseDue_43 (by decide) (fun c_43 => ?_) (fun c_43 => ?_)
          · refine z_iinc X 1 (v := nI (i + 1)) (L' := [(1, zI (nI (i + 1))), (2, zR (9 + 4 * i)), (0, zR 0)]) d_A_releaseDue_91 rfl (nI_1 i) (by decide) rfl ?_
            refine z_goto X 2 d_A_releaseDue_94 (by decide) ?_
            have hX6 : kRelOne i N = N := by simp only [kRelOne, kRelA, c_21, p5, c_43, if_true, if_false]
            exact z_keep (ks := [0, 2]) (L' := [(1, zI (nI (i + 1))), (0, zR 0)]) rfl (ih (i + 1) N (by omega) (hX6 ▸ kInv_RelOne i N hi hN) (hX6 ▸ hq))
          · refine z_aload_n X 0 d_A_releaseDue_46 rfl rfl ?_
            refine z_get X fl_A_109 (9 + 4 * i) (e_K hi) rfl rfl d_A_releaseDue_47 ?_
            refine z_if_ne X 68 d_A_releaseDue_50 (by decide) (fun c_50 => ?_) (fun c_50 => ?_)
            · refine z_aload_n X 0 d_A_releaseDue_68 rfl rfl ?_
              refine z_dup X d_A_releaseDue_69 rfl ?_
              refine z_get X fl_A_156 (9 + 4 * i) (e_K hi) rfl rfl d_A_releaseDue_70 ?_
              refine z_iconst X (v := 1) d_A_releaseDue_73 (by decide) ?_
              refine z_iadd X d_A_releaseDue_74 ?_
              refine z_puti X fl_A_156 (9 + 4 * i) (e_K hi) rfl rfl rfl d_A_releaseDue_75 ?_
              refine z_aload_n X 0 d_A_releaseDue_78 rfl rfl ?_
              refine z_aload_n X 2 d_A_releaseDue_79 rfl rfl ?_
              refine z_get X fl_A_103 0 e_A rfl rfl d_A_releaseDue_80 ?_
              refine z_aload_n X 0 d_A_releaseDue_83 rfl rfl ?_
              refine z_get X fl_A_100 (9 + 4 * i) (e_K hi) rfl rfl d_A_releaseDue_84 ?_
              refine z_iadd X d_A_releaseDue_87 ?_
              refine z_puti X fl_A_106 (9 + 4 * i) (e_K hi) rfl rfl rfl d_A_releaseDue_88 ?_
              refine z_iinc X 1 (v := nI (i + 1)) (L' := [(1, zI (nI (i + 1))), (2, zR (9 + 4 * i)), (0, zR 0)]) d_A_releaseDue_91 rfl (nI_1 i) (by decide) rfl ?_
              refine z_goto X 2 d_A_releaseDue_94 (by decide) ?_
              have hX7 : kRelOne i N = z_si (z_si N (9 + 4 * i) 13 ((N.1 (9 + 4 * i) 13) + 1)) (9 + 4 * i) 16 (((z_si N (9 + 4 * i) 13 ((N.1 (9 + 4 * i) 13) + 1)).1 0 6) + ((z_si N (9 + 4 * i) 13 ((N.1 (9 + 4 * i) 13) + 1)).1 (9 + 4 * i) 4)) := by simp only [kRelOne, kRelA, c_21, p5, c_43, c_50, if_true, if_false]
              exact z_keep (ks := [0, 2]) (L' := [(1, zI (nI (i + 1))), (0, zR 0)]) rfl (ih (i + 1) (z_si (z_si N (9 + 4 * i) 13 ((N.1 (9 + 4 * i) 13) + 1)) (9 + 4 * i) 16 (((z_si N (9 + 4 * i) 13 ((N.1 (9 + 4 * i) 13) + 1)).1 0 6) + ((z_si N (9 + 4 * i) 13 ((N.1 (9 + 4 * i) 13) + 1)).1 (9 + 4 * i) 4))) (by omega) (hX7 ▸ kInv_RelOne i N hi hN) (hX7 ▸ hq))
            · refine z_aload_n X 0 d_A_releaseDue_53 rfl rfl ?_
              refine z_aload_n X 2 d_A_releaseDue_54 rfl rfl ?_
              refine z_get X fl_A_103 0 e_A rfl rfl d_A_releaseDue_55 ?_
              refine z_aload_n X 2 d_A_releaseDue_58 rfl rfl ?_
              refine z_Vj X GG_ok cf_A_112 0 [] [zI (N.1 0 6), zR (9 + 4 * i)] (c_A_newTurn l D cA ad _) ⟨rfl, rfl⟩ (by decide) e_A rfl rfl rfl rfl (Nat.le_of_ble_eq_true rfl) ⟨Nat.zero_le _, Nat.zero_le _⟩ d_A_releaseDue_59 (fun r8 M9 h10 => ?_)
              have qh10 := h10.1.symm
              subst qh10
              obtain ⟨-, rfl⟩ := h10
              refine z_Vv X GG_ok cf_A_116 (9 + 4 * i) [zI (N.1 0 6), zJ (N.2 0 9 + 1)] [] (c_K_release l D cA ad _ i hi _ _) ⟨rfl, rfl⟩ (by decide) (e_K hi) rfl rfl rfl rfl (Nat.le_of_ble_eq_true rfl) ⟨Nat.zero_le _, Nat.zero_le _⟩ d_A_releaseDue_62 (fun M12 h13 => ?_)
              have qh13 := h13.symm
              subst qh13
              refine z_goto X 78 d_A_releaseDue_65 (by decide) ?_
              refine z_aload_n X 0 d_A_releaseDue_78 rfl rfl ?_
              refine z_aload_n X 2 d_A_releaseDue_79 rfl rfl ?_
              refine z_get X fl_A_103 0 e_A rfl rfl d_A_releaseDue_80 ?_
              refine z_aload_n X 0 d_A_releaseDue_83 rfl rfl ?_
              refine z_get X fl_A_100 (9 + 4 * i) (e_K hi) rfl rfl d_A_releaseDue_84 ?_
              refine z_iadd X d_A_releaseDue_87 ?_
              refine z_puti X fl_A_106 (9 + 4 * i) (e_K hi) rfl rfl rfl d_A_releaseDue_88 ?_
              refine z_iinc X 1 (v := nI (i + 1)) (L' := [(1, zI (nI (i + 1))), (2, zR (9 + 4 * i)), (0, zR 0)]) d_A_releaseDue_91 rfl (nI_1 i) (by decide) rfl ?_
              refine z_goto X 2 d_A_releaseDue_94 (by decide) ?_
              have hX14 : kRelOne i N = z_si (kRel i (N.1 0 6) (N.2 0 9 + 1) (kTurn N)) (9 + 4 * i) 16 (((kRel i (N.1 0 6) (N.2 0 9 + 1) (kTurn N)).1 0 6) + ((kRel i (N.1 0 6) (N.2 0 9 + 1) (kTurn N)).1 (9 + 4 * i) 4)) := by simp only [kRelOne, kRelA, c_21, p5, c_43, c_50, if_true, if_false]
              exact z_keep (ks := [0, 2]) (L' := [(1, zI (nI (i + 1))), (0, zR 0)]) rfl (ih (i + 1) (z_si (kRel i (N.1 0 6) (N.2 0 9 + 1) (kTurn N)) (9 + 4 * i) 16 (((kRel i (N.1 0 6) (N.2 0 9 + 1) (kTurn N)).1 0 6) + ((kRel i (N.1 0 6) (N.2 0 9 + 1) (kTurn N)).1 (9 + 4 * i) 4))) (by omega) (hX14 ▸ kInv_RelOne i N hi hN) (hX14 ▸ hq))
        · refine z_if_eq X 91 d_A_releaseDue_32 (by decide) (fun _ => ?_) (fun h => absurd h (by decide))
          refine z_iinc X 1 (v := nI (i + 1)) (L' := [(1, zI (nI (i + 1))), (2, zR (9 + 4 * i)), (0, zR 0)]) d_A_releaseDue_91 rfl (nI_1 i) (by decide) rfl ?_
          refine z_goto X 2 d_A_releaseDue_94 (by decide) ?_
          have hX16 : kRelOne i N = N := by simp only [kRelOne, kRelA, c_21, p5, if_true, if_false]
          exact z_keep (ks := [0, 2]) (L' := [(1, zI (nI (i + 1))), (0, zR 0)]) rfl (ih (i + 1) N (by omega) (hX16 ▸ kInv_RelOne i N hi hN) (hX16 ▸ hq))
  refine z_iconst X (v := 0) d_A_releaseDue_0 (by decide) ?_
  refine z_istore_n X (L' := [(1, zI 0), (0, zR 0)]) d_A_releaseDue_1 rfl (by decide) rfl ?_
  exact loop n 0 M (by omega) hI rfl

set_option maxHeartbeats 4000000 in
set_option maxRecDepth 100000 in
theorem c_A_miss (l : Launch) (D : va_G) (cA : Nat → ClassId) (ad : Nat → Nat) (M : zM) (n w : Nat) (hI : kInv n w M) (i : Nat) (hi : i < 8) : Cv l D cA ad y_A_miss b_A_miss 3 none (zr 2 44) [zR 0, zR (9 + 4 * i)] M (fun M' => M' = kMiss n i M) := by
  refine zMv_of (plainFor_of_name (by decide)) (Nat.le_of_ble_eq_true rfl) ?_
  intro p e s m args below meth c A X
  refine z_aload_n X 0 d_A_miss_0 rfl rfl ?_
  refine z_get X fl_A_18 0 e_A rfl rfl d_A_miss_1 ?_
  refine z_aload_n X 1 d_A_miss_4 rfl rfl ?_
  refine z_get X fl_A_97 (9 + 4 * i) (e_K hi) rfl rfl d_A_miss_5 ?_
  refine z_aald X 4 e_PA rfl (kPt M i) (kPt_eq hI hi) (kPt_lt hI hi) (by decide) (g_PA (kPt_lt hI hi)) d_A_miss_8 ?_
  refine z_astore_n X (L' := [(2, zR (5 + (kPt M i))), (0, zR 0), (1, zR (9 + 4 * i))]) d_A_miss_9 rfl (by decide) rfl ?_
  refine z_aload_n X 2 d_A_miss_10 rfl rfl ?_
  refine z_dup X d_A_miss_11 rfl ?_
  refine z_get X fl_A_166 (9 + 4 * i) (e_K hi) rfl rfl d_A_miss_12 ?_
  refine z_iconst X (v := 1) d_A_miss_15 (by decide) ?_
  refine z_iadd X d_A_miss_16 ?_
  refine z_puti X fl_A_166 (9 + 4 * i) (e_K hi) rfl rfl rfl d_A_miss_17 ?_
  refine z_aload_n X 2 d_A_miss_20 rfl rfl ?_
  refine z_iconst X (v := (-1)) d_A_miss_21 (by decide) ?_
  refine z_puti X fl_A_159 (9 + 4 * i) (e_K hi) rfl rfl rfl d_A_miss_22 ?_
  refine z_aload_n X 0 d_A_miss_25 rfl rfl ?_
  refine z_get X fl_A_85 (5 + (kPt M i)) (e_P (kPt_lt hI hi)) rfl rfl d_A_miss_26 ?_
  refine z_iconst X (v := 1) d_A_miss_29 (by decide) ?_
  refine z_icmp_ne X 44 d_A_miss_30 (by decide) (fun c_30 => ?_) (fun c_30 => ?_)
  · refine z_aload_n X 0 d_A_miss_44 rfl rfl ?_
    refine z_get X fl_A_85 (5 + (kPt M i)) (e_P (kPt_lt hI hi)) rfl rfl d_A_miss_45 ?_
    refine z_iconst X (v := 2) d_A_miss_48 (by decide) ?_
    refine z_icmp_ne X 65 d_A_miss_49 (by decide) (fun c_49 => ?_) (fun c_49 => ?_)
    · exact z_vret X (by simp only [kMiss, kMiss1, c_30, c_49, if_true, if_false]) d_A_miss_65
    · refine z_aload_n X 0 d_A_miss_52 rfl rfl ?_
      refine z_iconst X (v := 2) d_A_miss_53 (by decide) ?_
      refine z_puti X fl_A_91 (5 + (kPt M i)) (e_P (kPt_lt hI hi)) rfl rfl rfl d_A_miss_54 ?_
      refine z_aload_n X 1 d_A_miss_57 rfl rfl ?_
      refine z_aload_n X 2 d_A_miss_58 rfl rfl ?_
      refine z_get X fl_A_97 (9 + 4 * i) (e_K hi) rfl rfl d_A_miss_59 ?_
      refine z_Vv X GG_ok cf_A_94 0 [zI ((z_si (z_si (z_si M (9 + 4 * i) 12 ((M.1 (9 + 4 * i) 12) + 1)) (9 + 4 * i) 11 (-1)) (5 + (kPt M i)) 0 2).1 (9 + 4 * i) 2)] [] (c_A_restAll l D cA ad _ n w (kInv_far (kInv_task (kInv_task hI hi _ (by decide) (by decide)) hi _ (by decide) (by decide)) _ (by have := kPt_lt hI hi; omega)) _) ⟨rfl, rfl⟩ (by decide) e_A rfl rfl rfl rfl (Nat.le_of_ble_eq_true rfl) ⟨Nat.zero_le _, Nat.zero_le _⟩ d_A_miss_62 (fun M2 h3 => ?_)
      have qh3 := h3.symm
      subst qh3
      exact z_vret X (by simp only [kMiss, kMiss1, c_30, c_49, if_true, if_false]; rw [z_si_other _ _ (by omega), z_si_other _ _ (by omega), z_si_other _ _ (by omega), kPt_eq hI hi]; exact (if_neg (by decide)).symm) d_A_miss_65
  · refine z_aload_n X 2 d_A_miss_33 rfl rfl ?_
    refine z_aload_n X 1 d_A_miss_34 rfl rfl ?_
    refine z_Vj X GG_ok cf_A_112 0 [] [zR (9 + 4 * i)] (c_A_newTurn l D cA ad _) ⟨rfl, rfl⟩ (by decide) e_A rfl rfl rfl rfl (Nat.le_of_ble_eq_true rfl) ⟨Nat.zero_le _, Nat.zero_le _⟩ d_A_miss_35 (fun r4 M5 h6 => ?_)
    have qh6 := h6.1.symm
    subst qh6
    obtain ⟨-, rfl⟩ := h6
    refine z_Vv X GG_ok cf_A_169 (9 + 4 * i) [zJ ((z_si (z_si M (9 + 4 * i) 12 ((M.1 (9 + 4 * i) 12) + 1)) (9 + 4 * i) 11 (-1)).2 0 9 + 1)] [] (c_K_beginAnew l D cA ad _ i hi _) ⟨rfl, rfl⟩ (by decide) (e_K hi) rfl rfl rfl rfl (Nat.le_of_ble_eq_true rfl) ⟨Nat.zero_le _, Nat.zero_le _⟩ d_A_miss_38 (fun M8 h9 => ?_)
    have qh9 := h9.symm
    subst qh9
    refine z_goto X 65 d_A_miss_41 (by decide) ?_
    exact z_vret X (by simp only [kMiss, kMiss1, c_30, if_true, if_false]) d_A_miss_65

set_option maxHeartbeats 4000000 in
set_option maxRecDepth 100000 in
theorem c_A_missDue (l : Launch) (D : va_G) (cA : Nat → ClassId) (ad : Nat → Nat) (M : zM) (n w : Nat) (hI : kInv n w M) : Cv l D cA ad y_A_missDue b_A_missDue 3 none (zr 3 66) [zR 0] M (fun M' => M' = kFor (kMissOne n) n 0 M) := by
  refine zMv_of (plainFor_of_name (by decide)) (Nat.le_of_ble_eq_true rfl) ?_
  intro p e s m args below meth c A X
  have loop : ∀ (k i : Nat) (N : zM), i + k = n → kInv n w N → kFor (kMissOne n) k i N = kFor (kMissOne n) n 0 M → zW p l e (zr 3 66) s m args below meth c 0 0 (MQ below (va_Qv (fun M' => M' = kFor (kMissOne n) n 0 M) (fun M' t => va_P D cls (z_w cA ad M' 0 EE) t.heap) A) args s 0 0 A) A D cls cA ad EE 3 N 2 [(1, zI (nI i)), (0, zR 0)] [] := by
    intro k
    induction k with
    | zero =>
      intro i N hk hN hq
      have hn := kInv_n hN
      refine z_iload_n X 0 d_A_missDue_2 rfl rfl ?_
      refine z_aload_n X 1 d_A_missDue_3 rfl rfl ?_
      refine z_get X fl_A_63 0 e_A rfl rfl d_A_missDue_4 ?_
      refine z_icmp_ge X 57 d_A_missDue_7 (by decide) (fun c_7 => ?_) (fun c_7 => absurd (by rw [kInv_cnt hN, show i = n by omega]; exact nI_le (Nat.le_refl _) (by omega)) c_7)
      exact z_vret X hq d_A_missDue_57
    | succ k ih =>
      intro i N hk hN hq
      have hn := kInv_n hN
      have hi : i < 8 := by omega
      refine z_iload_n X 0 d_A_missDue_2 rfl rfl ?_
      refine z_aload_n X 1 d_A_missDue_3 rfl rfl ?_
      refine z_get X fl_A_63 0 e_A rfl rfl d_A_missDue_4 ?_
      refine z_icmp_ge X 57 d_A_missDue_7 (by decide) (fun c_7 => absurd c_7 (by rw [kInv_cnt hN]; exact nI_ge (by omega) (by omega))) (fun c_7 => ?_)
      refine z_aload_n X 1 d_A_missDue_10 rfl rfl ?_
      refine z_get X fl_A_25 0 e_A rfl rfl d_A_missDue_11 ?_
      refine z_iload_n X 0 d_A_missDue_14 rfl rfl ?_
      refine z_aald X 8 e_TA rfl i rfl hi (by decide) (g_TA hi) d_A_missDue_15 ?_
      refine z_astore_n X (L' := [(2, zR (9 + 4 * i)), (1, zI (nI i)), (0, zR 0)]) d_A_missDue_16 rfl (by decide) rfl ?_
      refine z_aload_n X 2 d_A_missDue_17 rfl rfl ?_
      refine z_aload_n X 0 d_A_missDue_18 rfl rfl ?_
      refine z_get X fl_A_97 (9 + 4 * i) (e_K hi) rfl rfl d_A_missDue_19 ?_
      refine z_Vi X GG_ok cf_A_88 0 [zI (N.1 (9 + 4 * i) 2)] [] (c_A_isOn l D cA ad _ _ (kPt N i) (kPt_lt hN hi) (kPt_eq hN hi)) ⟨rfl, rfl⟩ (by decide) e_A rfl rfl rfl rfl (Nat.le_of_ble_eq_true rfl) ⟨Nat.zero_le _, Nat.zero_le _⟩ d_A_missDue_22 (fun r1 M2 h3 => ?_)
      have qh3 := h3.1.symm
      subst qh3
      obtain ⟨-, ⟨rfl, p4⟩ | ⟨rfl, p4⟩⟩ := h3
      · refine z_if_eq X 51 d_A_missDue_25 (by decide) (fun h => absurd h (by decide)) (fun _ => ?_)
        refine z_aload_n X 0 d_A_missDue_28 rfl rfl ?_
        refine z_get X fl_A_109 (9 + 4 * i) (e_K hi) rfl rfl d_A_missDue_29 ?_
        refine z_if_eq X 51 d_A_missDue_32 (by decide) (fun c_32 => ?_) (fun c_32 => ?_)
        · refine z_iinc X 1 (v := nI (i + 1)) (L' := [(1, zI (nI (i + 1))), (2, zR (9 + 4 * i)), (0, zR 0)]) d_A_missDue_51 rfl (nI_1 i) (by decide) rfl ?_
          refine z_goto X 2 d_A_missDue_54 (by decide) ?_
          have hX5 : kMissOne n i N = N := by simp only [kMissOne, p4, c_32, if_true, if_false]
          exact z_keep (ks := [0, 2]) (L' := [(1, zI (nI (i + 1))), (0, zR 0)]) rfl (ih (i + 1) N (by omega) (hX5 ▸ kInv_MissOne i N hi hN) (hX5 ▸ hq))
        · refine z_aload_n X 0 d_A_missDue_35 rfl rfl ?_
          refine z_get X fl_A_159 (9 + 4 * i) (e_K hi) rfl rfl d_A_missDue_36 ?_
          refine z_aload_n X 2 d_A_missDue_39 rfl rfl ?_
          refine z_get X fl_A_103 0 e_A rfl rfl d_A_missDue_40 ?_
          refine z_icmp_ne X 51 d_A_missDue_43 (by decide) (fun c_43 => ?_) (fun c_43 => ?_)
          · refine z_iinc X 1 (v := nI (i + 1)) (L' := [(1, zI (nI (i + 1))), (2, zR (9 + 4 * i)), (0, zR 0)]) d_A_missDue_51 rfl (nI_1 i) (by decide) rfl ?_
            refine z_goto X 2 d_A_missDue_54 (by decide) ?_
            have hX6 : kMissOne n i N = N := by simp only [kMissOne, p4, c_32, c_43, if_true, if_false]
            exact z_keep (ks := [0, 2]) (L' := [(1, zI (nI (i + 1))), (0, zR 0)]) rfl (ih (i + 1) N (by omega) (hX6 ▸ kInv_MissOne i N hi hN) (hX6 ▸ hq))
          · refine z_aload_n X 2 d_A_missDue_46 rfl rfl ?_
            refine z_aload_n X 0 d_A_missDue_47 rfl rfl ?_
            refine z_Vv X GG_ok cf_A_162 0 [zR (9 + 4 * i)] [] (c_A_miss l D cA ad _ n w hN i hi) ⟨rfl, rfl⟩ (by decide) e_A rfl rfl rfl rfl (Nat.le_of_ble_eq_true rfl) ⟨Nat.zero_le _, Nat.zero_le _⟩ d_A_missDue_48 (fun M8 h9 => ?_)
            have qh9 := h9.symm
            subst qh9
            refine z_iinc X 1 (v := nI (i + 1)) (L' := [(1, zI (nI (i + 1))), (2, zR (9 + 4 * i)), (0, zR 0)]) d_A_missDue_51 rfl (nI_1 i) (by decide) rfl ?_
            refine z_goto X 2 d_A_missDue_54 (by decide) ?_
            have hX10 : kMissOne n i N = kMiss n i N := by simp only [kMissOne, p4, c_32, c_43, if_true, if_false]
            exact z_keep (ks := [0, 2]) (L' := [(1, zI (nI (i + 1))), (0, zR 0)]) rfl (ih (i + 1) (kMiss n i N) (by omega) (hX10 ▸ kInv_MissOne i N hi hN) (hX10 ▸ hq))
      · refine z_if_eq X 51 d_A_missDue_25 (by decide) (fun _ => ?_) (fun h => absurd h (by decide))
        refine z_iinc X 1 (v := nI (i + 1)) (L' := [(1, zI (nI (i + 1))), (2, zR (9 + 4 * i)), (0, zR 0)]) d_A_missDue_51 rfl (nI_1 i) (by decide) rfl ?_
        refine z_goto X 2 d_A_missDue_54 (by decide) ?_
        have hX12 : kMissOne n i N = N := by simp only [kMissOne, p4, if_true, if_false]
        exact z_keep (ks := [0, 2]) (L' := [(1, zI (nI (i + 1))), (0, zR 0)]) rfl (ih (i + 1) N (by omega) (hX12 ▸ kInv_MissOne i N hi hN) (hX12 ▸ hq))
  refine z_iconst X (v := 0) d_A_missDue_0 (by decide) ?_
  refine z_istore_n X (L' := [(1, zI 0), (0, zR 0)]) d_A_missDue_1 rfl (by decide) rfl ?_
  exact loop n 0 M (by omega) hI rfl
