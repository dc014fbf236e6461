set_option maxHeartbeats 4000000 in
set_option maxRecDepth 100000 in
theorem c_B_holder_0 (l : Launch) (D : va_G) (cA : Nat → ClassId) (ad : Nat → Nat) (M : zM) (n w : Nat) (hI : mInv n w M) (tm : Nat) (ht : tm < 2 ^ 31) (et : M.1 51 28 = nI tm) : Ci l D cA ad y_B_holder b_B_holder 5 (some (.int)) (zr 0 0) [zR 51, zI 0] M (fun r M' => M' = M ∧ r = mHold M w false) := by
  refine zMi_of (plainFor_of_name (by decide)) (Nat.le_of_ble_eq_true rfl) ?_
  intro p e s m args below meth c A X
  have h8 : w ≤ 8 := hI.1.2.1
  have loop2 : ¬ mAll M w = 0 → ∀ (k i : Nat) (t : Int32), i + k = w → (∃ r, t = nI r ∧ r < mTl M k i) → mIx M k i t = mIx M w 0 (mRem M w) → zW p l e (zr 0 0) s m args below meth c 0 0 (MQ below (va_Qi (fun r M' => M' = M ∧ r = mHold M w false) (fun M' t => va_P D cls (z_w cA ad M' 0 EE) t.heap) A) args s 0 0 A) A D cls cA ad EE 5 M 43 [(4, zI (nI i)), (3, zI t), (0, zR 51), (1, zI 0), (2, zI (mAll M w))] [] := by
    intro h0 k
    induction k with
    | zero =>
      intro i t hk hP hq
      obtain ⟨r, -, hr⟩ := hP
      exact absurd hr (by show ¬ r < 0; omega)
    | succ k ih =>
      intro i t hk hP hq
      have hi : i < 8 := by omega
      refine z_iload_n X 1 d_B_holder_43 rfl rfl ?_
      refine z_aload_n X 2 d_B_holder_44 rfl rfl ?_
      refine z_get X fl_B_13 51 e_B rfl rfl d_B_holder_45 ?_
      refine z_iload X 0 d_B_holder_48 rfl ?_
      refine z_iald X 53 e_B_span rfl i rfl hi (by decide) d_B_holder_50 ?_
      refine z_icmp_lt X 70 d_B_holder_51 (by decide) (fun c_51 => ?_) (fun c_51 => ?_)
      · refine z_iload_n X 3 d_B_holder_70 rfl rfl ?_
        refine z_if_eq X 86 d_B_holder_71 (by decide) (fun _ => ?_) (fun h => absurd h (by decide))
        refine z_aload_n X 2 d_B_holder_86 rfl rfl ?_
        refine z_get X fl_B_7 51 e_B rfl rfl d_B_holder_87 ?_
        refine z_iload X 0 d_B_holder_90 rfl ?_
        refine z_iald X 52 e_B_owner rfl i rfl hi (by decide) d_B_holder_92 ?_
        exact z_iret X (⟨rfl, (mHold_f h0 (hq.symm.trans (mIx_yes c_51))).symm⟩) d_B_holder_93
      · refine z_iload_n X 1 d_B_holder_54 rfl rfl ?_
        refine z_aload_n X 2 d_B_holder_55 rfl rfl ?_
        refine z_get X fl_B_13 51 e_B rfl rfl d_B_holder_56 ?_
        refine z_iload X 0 d_B_holder_59 rfl ?_
        refine z_iald X 53 e_B_span rfl i rfl hi (by decide) d_B_holder_61 ?_
        refine z_isub X d_B_holder_62 ?_
        refine z_istore_n X (L' := [(3, zI (t - (M.1 53 i))), (4, zI (nI i)), (0, zR 51), (1, zI 0), (2, zI (mAll M w))]) d_B_holder_63 rfl (by decide) rfl ?_
        refine z_iinc X 1 (v := nI (i + 1)) (L' := [(4, zI (nI (i + 1))), (3, zI (t - (M.1 53 i))), (0, zR 51), (1, zI 0), (2, zI (mAll M w))]) d_B_holder_64 rfl (nI_1 i) (by decide) rfl ?_
        refine z_goto X 43 d_B_holder_67 (by decide) ?_
        exact ih (i + 1) (t - M.1 53 i) (by omega) (mP_no hI hk hP c_51) ((mIx_no c_51).symm.trans hq)
  have loop : ∀ (k i : Nat) (a : Int32), i + k = w → mSum M k i a = mAll M w → zW p l e (zr 0 0) s m args below meth c 0 0 (MQ below (va_Qi (fun r M' => M' = M ∧ r = mHold M w false) (fun M' t => va_P D cls (z_w cA ad M' 0 EE) t.heap) A) args s 0 0 A) A D cls cA ad EE 5 M 4 [(3, zI (nI i)), (2, zI a), (0, zR 51), (1, zI 0)] [] := by
    intro k
    induction k with
    | zero =>
      intro i a hk hq
      have hq : a = mAll M w := hq
      subst hq
      refine z_iload_n X 0 d_B_holder_4 rfl rfl ?_
      refine z_aload_n X 2 d_B_holder_5 rfl rfl ?_
      refine z_get X fl_B_93 51 e_B rfl rfl d_B_holder_6 ?_
      refine z_icmp_ge X 27 d_B_holder_9 (by decide) (fun c_9 => ?_) (fun c_9 => absurd (by rw [hI.1.2.2.2.1, show i = w by omega]; exact nI_le (Nat.le_refl _) (by omega)) c_9)
      refine z_iload_n X 1 d_B_holder_27 rfl rfl ?_
      refine z_if_ne X 33 d_B_holder_28 (by decide) (fun c_28 => ?_) (fun c_28 => ?_)
      · refine z_aload_n X 2 d_B_holder_33 rfl rfl ?_
        refine z_get X fl_B_104 51 e_B rfl rfl d_B_holder_34 ?_
        refine z_iload_n X 1 d_B_holder_37 rfl rfl ?_
        refine z_irem X d_B_holder_38 c_28 ?_
        refine z_istore_n X (L' := [(3, zI ((M.1 51 28) - (M.1 51 28) / (mAll M w) * (mAll M w))), (2, zI (mAll M w)), (0, zR 51), (1, zI 0)]) d_B_holder_39 rfl (by decide) rfl ?_
        refine z_iconst X (v := 0) d_B_holder_40 (by decide) ?_
        refine z_istore X (L' := [(4, zI 0), (3, zI ((M.1 51 28) - (M.1 51 28) / (mAll M w) * (mAll M w))), (2, zI (mAll M w)), (0, zR 51), (1, zI 0)]) d_B_holder_41 (by decide) rfl ?_
        exact z_keep (ks := [0, 1, 3, 4, 2]) (L' := [(4, zI 0), (3, zI ((M.1 51 28) - (M.1 51 28) / (mAll M w) * (mAll M w))), (0, zR 51), (1, zI 0), (2, zI (mAll M w))]) rfl (loop2 c_28 w 0 (mRem M w) (by omega) (by have hr := mRem_eq hI ht et (fun q => c_28 ((mAll_0 hI).mpr q)); exact ⟨_, hr.1, hr.2⟩) rfl)
      · refine z_iconst X (v := (-1)) d_B_holder_31 (by decide) ?_
        exact z_iret X (⟨rfl, by rw [mHold, if_pos c_28]⟩) d_B_holder_32
    | succ k ih =>
      intro i a hk hq
      have hi : i < 8 := by omega
      refine z_iload_n X 0 d_B_holder_4 rfl rfl ?_
      refine z_aload_n X 2 d_B_holder_5 rfl rfl ?_
      refine z_get X fl_B_93 51 e_B rfl rfl d_B_holder_6 ?_
      refine z_icmp_ge X 27 d_B_holder_9 (by decide) (fun c_9 => absurd c_9 (by rw [hI.1.2.2.2.1]; exact nI_ge (by omega) (by omega))) (fun c_9 => ?_)
      refine z_iload_n X 1 d_B_holder_12 rfl rfl ?_
      refine z_aload_n X 2 d_B_holder_13 rfl rfl ?_
      refine z_get X fl_B_13 51 e_B rfl rfl d_B_holder_14 ?_
      refine z_iload_n X 0 d_B_holder_17 rfl rfl ?_
      refine z_iald X 53 e_B_span rfl i rfl hi (by decide) d_B_holder_18 ?_
      refine z_iadd X d_B_holder_19 ?_
      refine z_istore_n X (L' := [(2, zI (a + (M.1 53 i))), (3, zI (nI i)), (0, zR 51), (1, zI 0)]) d_B_holder_20 rfl (by decide) rfl ?_
      refine z_iinc X 1 (v := nI (i + 1)) (L' := [(3, zI (nI (i + 1))), (2, zI (a + (M.1 53 i))), (0, zR 51), (1, zI 0)]) d_B_holder_21 rfl (nI_1 i) (by decide) rfl ?_
      refine z_goto X 4 d_B_holder_24 (by decide) ?_
      exact ih (i + 1) (a + M.1 53 i) (by omega) hq
  refine z_iconst X (v := 0) d_B_holder_0 (by decide) ?_
  refine z_istore_n X (L' := [(2, zI 0), (0, zR 51), (1, zI 0)]) d_B_holder_1 rfl (by decide) rfl ?_
  refine z_iconst X (v := 0) d_B_holder_2 (by decide) ?_
  refine z_istore_n X (L' := [(3, zI 0), (2, zI 0), (0, zR 51), (1, zI 0)]) d_B_holder_3 rfl (by decide) rfl ?_
  exact loop w 0 0 (by omega) rfl

set_option maxHeartbeats 4000000 in
set_option maxRecDepth 100000 in
theorem c_B_holder_1 (l : Launch) (D : va_G) (cA : Nat → ClassId) (ad : Nat → Nat) (M : zM) (n w : Nat) (hI : mInv n w M) (tm : Nat) (ht : tm < 2 ^ 31) (et : M.1 51 28 = nI tm) : Ci l D cA ad y_B_holder b_B_holder 5 (some (.int)) (zr 0 0) [zR 51, zI 1] M (fun r M' => M' = M ∧ r = mHold M w true) := by
  refine zMi_of (plainFor_of_name (by decide)) (Nat.le_of_ble_eq_true rfl) ?_
  intro p e s m args below meth c A X
  have h8 : w ≤ 8 := hI.1.2.1
  have loop2 : ¬ mAll M w = 0 → ∀ (k i : Nat) (t : Int32), i + k = w → (∃ r, t = nI r ∧ r < mTl M k i) → mIx M k i t = mIx M w 0 (mRem M w) → zW p l e (zr 0 0) s m args below meth c 0 0 (MQ below (va_Qi (fun r M' => M' = M ∧ r = mHold M w true) (fun M' t => va_P D cls (z_w cA ad M' 0 EE) t.heap) A) args s 0 0 A) A D cls cA ad EE 5 M 43 [(4, zI (nI i)), (3, zI t), (0, zR 51), (1, zI 1), (2, zI (mAll M w))] [] := by
    intro h0 k
    induction k with
    | zero =>
      intro i t hk hP hq
      obtain ⟨r, -, hr⟩ := hP
      exact absurd hr (by show ¬ r < 0; omega)
    | succ k ih =>
      intro i t hk hP hq
      have hi : i < 8 := by omega
      refine z_iload_n X 1 d_B_holder_43 rfl rfl ?_
      refine z_aload_n X 2 d_B_holder_44 rfl rfl ?_
      refine z_get X fl_B_13 51 e_B rfl rfl d_B_holder_45 ?_
      refine z_iload X 0 d_B_holder_48 rfl ?_
      refine z_iald X 53 e_B_span rfl i rfl hi (by decide) d_B_holder_50 ?_
      refine z_icmp_lt X 70 d_B_holder_51 (by decide) (fun c_51 => ?_) (fun c_51 => ?_)
      · refine z_iload_n X 3 d_B_holder_70 rfl rfl ?_
        refine z_if_eq X 86 d_B_holder_71 (by decide) (fun h => absurd h (by decide)) (fun _ => ?_)
        refine z_aload_n X 2 d_B_holder_74 rfl rfl ?_
        refine z_get X fl_B_13 51 e_B rfl rfl d_B_holder_75 ?_
        refine z_iload X 0 d_B_holder_78 rfl ?_
        refine z_iald X 53 e_B_span rfl i rfl hi (by decide) d_B_holder_80 ?_
        refine z_iload_n X 1 d_B_holder_81 rfl rfl ?_
        refine z_isub X d_B_holder_82 ?_
        refine z_goto X 93 d_B_holder_83 (by decide) ?_
        exact z_iret X (⟨rfl, (mHold_t h0 (hq.symm.trans (mIx_yes c_51))).symm⟩) d_B_holder_93
      · refine z_iload_n X 1 d_B_holder_54 rfl rfl ?_
        refine z_aload_n X 2 d_B_holder_55 rfl rfl ?_
        refine z_get X fl_B_13 51 e_B rfl rfl d_B_holder_56 ?_
        refine z_iload X 0 d_B_holder_59 rfl ?_
        refine z_iald X 53 e_B_span rfl i rfl hi (by decide) d_B_holder_61 ?_
        refine z_isub X d_B_holder_62 ?_
        refine z_istore_n X (L' := [(3, zI (t - (M.1 53 i))), (4, zI (nI i)), (0, zR 51), (1, zI 1), (2, zI (mAll M w))]) d_B_holder_63 rfl (by decide) rfl ?_
        refine z_iinc X 1 (v := nI (i + 1)) (L' := [(4, zI (nI (i + 1))), (3, zI (t - (M.1 53 i))), (0, zR 51), (1, zI 1), (2, zI (mAll M w))]) d_B_holder_64 rfl (nI_1 i) (by decide) rfl ?_
        refine z_goto X 43 d_B_holder_67 (by decide) ?_
        exact ih (i + 1) (t - M.1 53 i) (by omega) (mP_no hI hk hP c_51) ((mIx_no c_51).symm.trans hq)
  have loop : ∀ (k i : Nat) (a : Int32), i + k = w → mSum M k i a = mAll M w → zW p l e (zr 0 0) s m args below meth c 0 0 (MQ below (va_Qi (fun r M' => M' = M ∧ r = mHold M w true) (fun M' t => va_P D cls (z_w cA ad M' 0 EE) t.heap) A) args s 0 0 A) A D cls cA ad EE 5 M 4 [(3, zI (nI i)), (2, zI a), (0, zR 51), (1, zI 1)] [] := by
    intro k
    induction k with
    | zero =>
      intro i a hk hq
      have hq : a = mAll M w := hq
      subst hq
      refine z_iload_n X 0 d_B_holder_4 rfl rfl ?_
      refine z_aload_n X 2 d_B_holder_5 rfl rfl ?_
      refine z_get X fl_B_93 51 e_B rfl rfl d_B_holder_6 ?_
      refine z_icmp_ge X 27 d_B_holder_9 (by decide) (fun c_9 => ?_) (fun c_9 => absurd (by rw [hI.1.2.2.2.1, show i = w by omega]; exact nI_le (Nat.le_refl _) (by omega)) c_9)
      refine z_iload_n X 1 d_B_holder_27 rfl rfl ?_
      refine z_if_ne X 33 d_B_holder_28 (by decide) (fun c_28 => ?_) (fun c_28 => ?_)
      · refine z_aload_n X 2 d_B_holder_33 rfl rfl ?_
        refine z_get X fl_B_104 51 e_B rfl rfl d_B_holder_34 ?_
        refine z_iload_n X 1 d_B_holder_37 rfl rfl ?_
        refine z_irem X d_B_holder_38 c_28 ?_
        refine z_istore_n X (L' := [(3, zI ((M.1 51 28) - (M.1 51 28) / (mAll M w) * (mAll M w))), (2, zI (mAll M w)), (0, zR 51), (1, zI 1)]) d_B_holder_39 rfl (by decide) rfl ?_
        refine z_iconst X (v := 0) d_B_holder_40 (by decide) ?_
        refine z_istore X (L' := [(4, zI 0), (3, zI ((M.1 51 28) - (M.1 51 28) / (mAll M w) * (mAll M w))), (2, zI (mAll M w)), (0, zR 51), (1, zI 1)]) d_B_holder_41 (by decide) rfl ?_
        exact z_keep (ks := [0, 1, 3, 4, 2]) (L' := [(4, zI 0), (3, zI ((M.1 51 28) - (M.1 51 28) / (mAll M w) * (mAll M w))), (0, zR 51), (1, zI 1), (2, zI (mAll M w))]) rfl (loop2 c_28 w 0 (mRem M w) (by omega) (by have hr := mRem_eq hI ht et (fun q => c_28 ((mAll_0 hI).mpr q)); exact ⟨_, hr.1, hr.2⟩) rfl)
      · refine z_iconst X (v := (-1)) d_B_holder_31 (by decide) ?_
        exact z_iret X (⟨rfl, by rw [mHold, if_pos c_28]⟩) d_B_holder_32
    | succ k ih =>
      intro i a hk hq
      have hi : i < 8 := by omega
      refine z_iload_n X 0 d_B_holder_4 rfl rfl ?_
      refine z_aload_n X 2 d_B_holder_5 rfl rfl ?_
      refine z_get X fl_B_93 51 e_B rfl rfl d_B_holder_6 ?_
      refine z_icmp_ge X 27 d_B_holder_9 (by decide) (fun c_9 => absurd c_9 (by rw [hI.1.2.2.2.1]; exact nI_ge (by omega) (by omega))) (fun c_9 => ?_)
      refine z_iload_n X 1 d_B_holder_12 rfl rfl ?_
      refine z_aload_n X 2 d_B_holder_13 rfl rfl ?_
      refine z_get X fl_B_13 51 e_B rfl rfl d_B_holder_14 ?_
      refine z_iload_n X 0 d_B_holder_17 rfl rfl ?_
      refine z_iald X 53 e_B_span rfl i rfl hi (by decide) d_B_holder_18 ?_
      refine z_iadd X d_B_holder_19 ?_
      refine z_istore_n X (L' := [(2, zI (a + (M.1 53 i))), (3, zI (nI i)), (0, zR 51), (1, zI 1)]) d_B_holder_20 rfl (by decide) rfl ?_
      refine z_iinc X 1 (v := nI (i + 1)) (L' := [(3, zI (nI (i + 1))), (2, zI (a + (M.1 53 i))), (0, zR 51), (1, zI 1)]) d_B_holder_21 rfl (nI_1 i) (by decide) rfl ?_
      refine z_goto X 4 d_B_holder_24 (by decide) ?_
      exact ih (i + 1) (a + M.1 53 i) (by omega) hq
  refine z_iconst X (v := 0) d_B_holder_0 (by decide) ?_
  refine z_istore_n X (L' := [(2, zI 0), (0, zR 51), (1, zI 1)]) d_B_holder_1 rfl (by decide) rfl ?_
  refine z_iconst X (v := 0) d_B_holder_2 (by decide) ?_
  refine z_istore_n X (L' := [(3, zI 0), (2, zI 0), (0, zR 51), (1, zI 1)]) d_B_holder_3 rfl (by decide) rfl ?_
  exact loop w 0 0 (by omega) rfl
