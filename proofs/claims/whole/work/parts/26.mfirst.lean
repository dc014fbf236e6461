set_option maxHeartbeats 4000000 in
set_option maxRecDepth 100000 in
theorem c_B_first_R (l : Launch) (D : va_G) (cA : Nat → ClassId) (ad : Nat → Nat) (M : zM) (n w : Nat) (hI : mInv n w M) (d : Int32) : Ci l D cA ad y_B_first b_B_first 6 (some (.int)) (zr 0 0) [zR 51, zI 0, zI d] M (fun r M' => M' = M ∧ r = mEnc (mFR n d M)) := by
  refine zMi_of (plainFor_of_name (by decide)) (Nat.le_of_ble_eq_true rfl) ?_
  intro p e s m args below meth c A X
  have hn := mInv_n hI
  have loop : ∀ (k i : Nat) (b : Option Nat), i + k = n → (∀ j, b = some j → j < i) → mFst (mIsReady M d) M k i b = mFR n d M → zW p l e (zr 0 0) s m args below meth c 0 0 (MQ below (va_Qi (fun r M' => M' = M ∧ r = mEnc (mFR n d M)) (fun M' t => va_P D cls (z_w cA ad M' 0 EE) t.heap) A) args s 0 0 A) A D cls cA ad EE 6 M 5 [(4, zI (nI i)), (3, zI (mEnc b)), (0, zR 51), (1, zI 0), (2, zI d)] [] := by
    intro k
    induction k with
    | zero =>
      intro i b hk hb hq
      refine z_iload X 0 d_B_first_5 rfl ?_
      refine z_aload_n X 2 d_B_first_7 rfl rfl ?_
      refine z_get X fl_B_97 51 e_B rfl rfl d_B_first_8 ?_
      refine z_icmp_ge X 179 d_B_first_11 (by decide) (fun c_11 => ?_) (fun c_11 => absurd (by rw [mInv_cnt hI, show i = n by omega]; exact nI_le (Nat.le_refl _) (by omega)) c_11)
      refine z_iload_n X 1 d_B_first_179 rfl rfl ?_
      exact z_iret X (⟨rfl, by rw [← hq]; rfl⟩) d_B_first_180
    | succ k ih =>
      intro i b hk hb hq
      have hi : i < 8 := by omega
      cases b with
      | none =>
        refine z_iload X 0 d_B_first_5 rfl ?_
        refine z_aload_n X 2 d_B_first_7 rfl rfl ?_
        refine z_get X fl_B_97 51 e_B rfl rfl d_B_first_8 ?_
        refine z_icmp_ge X 179 d_B_first_11 (by decide) (fun c_11 => absurd c_11 (by rw [mInv_cnt hI]; exact nI_ge (by omega) (by omega))) (fun c_11 => ?_)
        refine z_iload_n X 3 d_B_first_14 rfl rfl ?_
        refine z_if_ne X 48 d_B_first_15 (by decide) (fun h => absurd h (by decide)) (fun _ => ?_)
        refine z_aload_n X 2 d_B_first_18 rfl rfl ?_
        refine z_get X fl_B_43 51 e_B rfl rfl d_B_first_19 ?_
        refine z_iload X 0 d_B_first_22 rfl ?_
        refine z_iald X 63 e_B_is rfl i rfl hi (by decide) d_B_first_24 ?_
        refine z_iconst X (v := 1) d_B_first_25 (by decide) ?_
        refine z_icmp_ne X 44 d_B_first_26 (by decide) (fun c_26 => ?_) (fun c_26 => ?_)
        · refine z_iconst X (v := 0) d_B_first_44 (by decide) ?_
          refine z_goto X 108 d_B_first_45 (by decide) ?_
          refine z_istore X (L' := [(5, zI 0), (4, zI (nI i)), (3, zI (-1)), (0, zR 51), (1, zI 0), (2, zI d)]) d_B_first_108 (by decide) rfl ?_
          refine z_iload X 0 d_B_first_110 rfl ?_
          refine z_if_ne X 118 d_B_first_112 (by decide) (fun h => absurd h (by decide)) (fun _ => ?_)
          refine z_goto X 173 d_B_first_115 (by decide) ?_
          refine z_iinc X 1 (v := nI (i + 1)) (L' := [(4, zI (nI (i + 1))), (5, zI 0), (3, zI (-1)), (0, zR 51), (1, zI 0), (2, zI d)]) d_B_first_173 rfl (nI_1 i) (by decide) rfl ?_
          refine z_goto X 5 d_B_first_176 (by decide) ?_
          exact z_keep (ks := [0, 2, 3, 4, 5]) (L' := [(4, zI (nI (i + 1))), (3, zI (-1)), (0, zR 51), (1, zI 0), (2, zI d)]) rfl (ih (i + 1) none (by omega) (fun j h => by cases h) ((mFst_no (P := mIsReady M d) (M := M) (i := i) (b := none) (fun q => c_26 q.1.1)).symm.trans hq))
        · refine z_aload_n X 2 d_B_first_29 rfl rfl ?_
          refine z_get X fl_B_22 51 e_B rfl rfl d_B_first_30 ?_
          refine z_iload X 0 d_B_first_33 rfl ?_
          refine z_iald X 56 e_B_partition rfl i rfl hi (by decide) d_B_first_35 ?_
          refine z_iload_n X 4 d_B_first_36 rfl rfl ?_
          refine z_icmp_ne X 44 d_B_first_37 (by decide) (fun c_37 => ?_) (fun c_37 => ?_)
          · refine z_iconst X (v := 0) d_B_first_44 (by decide) ?_
            refine z_goto X 108 d_B_first_45 (by decide) ?_
            refine z_istore X (L' := [(5, zI 0), (4, zI (nI i)), (3, zI (-1)), (0, zR 51), (1, zI 0), (2, zI d)]) d_B_first_108 (by decide) rfl ?_
            refine z_iload X 0 d_B_first_110 rfl ?_
            refine z_if_ne X 118 d_B_first_112 (by decide) (fun h => absurd h (by decide)) (fun _ => ?_)
            refine z_goto X 173 d_B_first_115 (by decide) ?_
            refine z_iinc X 1 (v := nI (i + 1)) (L' := [(4, zI (nI (i + 1))), (5, zI 0), (3, zI (-1)), (0, zR 51), (1, zI 0), (2, zI d)]) d_B_first_173 rfl (nI_1 i) (by decide) rfl ?_
            refine z_goto X 5 d_B_first_176 (by decide) ?_
            exact z_keep (ks := [0, 2, 3, 4, 5]) (L' := [(4, zI (nI (i + 1))), (3, zI (-1)), (0, zR 51), (1, zI 0), (2, zI d)]) rfl (ih (i + 1) none (by omega) (fun j h => by cases h) ((mFst_no (P := mIsReady M d) (M := M) (i := i) (b := none) (fun q => c_37 q.1.2)).symm.trans hq))
          · refine z_iconst X (v := 1) d_B_first_40 (by decide) ?_
            refine z_goto X 108 d_B_first_41 (by decide) ?_
            refine z_istore X (L' := [(5, zI 1), (4, zI (nI i)), (3, zI (-1)), (0, zR 51), (1, zI 0), (2, zI d)]) d_B_first_108 (by decide) rfl ?_
            refine z_iload X 0 d_B_first_110 rfl ?_
            refine z_if_ne X 118 d_B_first_112 (by decide) (fun _ => ?_) (fun h => absurd h (by decide))
            refine z_iload_n X 2 d_B_first_118 rfl rfl ?_
            refine z_if_lt X 170 d_B_first_119 (by decide) (fun _ => ?_) (fun h => absurd h (by decide))
            refine z_iload X 1 d_B_first_170 rfl ?_
            refine z_istore_n X (L' := [(3, zI (nI i)), (5, zI 1), (4, zI (nI i)), (0, zR 51), (1, zI 0), (2, zI d)]) d_B_first_172 rfl (by decide) rfl ?_
            refine z_iinc X 2 (v := nI (i + 1)) (L' := [(4, zI (nI (i + 1))), (3, zI (nI i)), (5, zI 1), (0, zR 51), (1, zI 0), (2, zI d)]) d_B_first_173 rfl (nI_1 i) (by decide) rfl ?_
            refine z_goto X 5 d_B_first_176 (by decide) ?_
            exact z_keep (ks := [0, 1, 3, 4, 5]) (L' := [(4, zI (nI (i + 1))), (3, zI (nI i)), (0, zR 51), (1, zI 0), (2, zI d)]) rfl (ih (i + 1) (some i) (by omega) (fun j h => by cases h; omega) ((mFst_yes (P := mIsReady M d) (M := M) (i := i) (b := none) ⟨⟨c_26, c_37⟩, trivial⟩).symm.trans hq))
      | some j =>
        have hj : j < 8 := by have := hb j rfl; omega
        refine z_iload X 0 d_B_first_5 rfl ?_
        refine z_aload_n X 2 d_B_first_7 rfl rfl ?_
        refine z_get X fl_B_97 51 e_B rfl rfl d_B_first_8 ?_
        refine z_icmp_ge X 179 d_B_first_11 (by decide) (fun c_11 => absurd c_11 (by rw [mInv_cnt hI]; exact nI_ge (by omega) (by omega))) (fun c_11 => ?_)
        refine z_iload_n X 3 d_B_first_14 rfl rfl ?_
        refine z_if_ne X 48 d_B_first_15 (by decide) (fun h => absurd h (by decide)) (fun _ => ?_)
        refine z_aload_n X 2 d_B_first_18 rfl rfl ?_
        refine z_get X fl_B_43 51 e_B rfl rfl d_B_first_19 ?_
        refine z_iload X 0 d_B_first_22 rfl ?_
        refine z_iald X 63 e_B_is rfl i rfl hi (by decide) d_B_first_24 ?_
        refine z_iconst X (v := 1) d_B_first_25 (by decide) ?_
        refine z_icmp_ne X 44 d_B_first_26 (by decide) (fun c_26 => ?_) (fun c_26 => ?_)
        · refine z_iconst X (v := 0) d_B_first_44 (by decide) ?_
          refine z_goto X 108 d_B_first_45 (by decide) ?_
          refine z_istore X (L' := [(5, zI 0), (4, zI (nI i)), (3, zI (nI j)), (0, zR 51), (1, zI 0), (2, zI d)]) d_B_first_108 (by decide) rfl ?_
          refine z_iload X 0 d_B_first_110 rfl ?_
          refine z_if_ne X 118 d_B_first_112 (by decide) (fun h => absurd h (by decide)) (fun _ => ?_)
          refine z_goto X 173 d_B_first_115 (by decide) ?_
          refine z_iinc X 1 (v := nI (i + 1)) (L' := [(4, zI (nI (i + 1))), (5, zI 0), (3, zI (nI j)), (0, zR 51), (1, zI 0), (2, zI d)]) d_B_first_173 rfl (nI_1 i) (by decide) rfl ?_
          refine z_goto X 5 d_B_first_176 (by decide) ?_
          exact z_keep (ks := [0, 2, 3, 4, 5]) (L' := [(4, zI (nI (i + 1))), (3, zI (nI j)), (0, zR 51), (1, zI 0), (2, zI d)]) rfl (ih (i + 1) (some j) (by omega) (fun j h => by have := hb j h; omega) ((mFst_no (P := mIsReady M d) (M := M) (i := i) (b := some j) (fun q => c_26 q.1.1)).symm.trans hq))
        · refine z_aload_n X 2 d_B_first_29 rfl rfl ?_
          refine z_get X fl_B_22 51 e_B rfl rfl d_B_first_30 ?_
          refine z_iload X 0 d_B_first_33 rfl ?_
          refine z_iald X 56 e_B_partition rfl i rfl hi (by decide) d_B_first_35 ?_
          refine z_iload_n X 4 d_B_first_36 rfl rfl ?_
          refine z_icmp_ne X 44 d_B_first_37 (by decide) (fun c_37 => ?_) (fun c_37 => ?_)
          · refine z_iconst X (v := 0) d_B_first_44 (by decide) ?_
            refine z_goto X 108 d_B_first_45 (by decide) ?_
            refine z_istore X (L' := [(5, zI 0), (4, zI (nI i)), (3, zI (nI j)), (0, zR 51), (1, zI 0), (2, zI d)]) d_B_first_108 (by decide) rfl ?_
            refine z_iload X 0 d_B_first_110 rfl ?_
            refine z_if_ne X 118 d_B_first_112 (by decide) (fun h => absurd h (by decide)) (fun _ => ?_)
            refine z_goto X 173 d_B_first_115 (by decide) ?_
            refine z_iinc X 1 (v := nI (i + 1)) (L' := [(4, zI (nI (i + 1))), (5, zI 0), (3, zI (nI j)), (0, zR 51), (1, zI 0), (2, zI d)]) d_B_first_173 rfl (nI_1 i) (by decide) rfl ?_
            refine z_goto X 5 d_B_first_176 (by decide) ?_
            exact z_keep (ks := [0, 2, 3, 4, 5]) (L' := [(4, zI (nI (i + 1))), (3, zI (nI j)), (0, zR 51), (1, zI 0), (2, zI d)]) rfl (ih (i + 1) (some j) (by omega) (fun j h => by have := hb j h; omega) ((mFst_no (P := mIsReady M d) (M := M) (i := i) (b := some j) (fun q => c_37 q.1.2)).symm.trans hq))
          · refine z_iconst X (v := 1) d_B_first_40 (by decide) ?_
            refine z_goto X 108 d_B_first_41 (by decide) ?_
            refine z_istore X (L' := [(5, zI 1), (4, zI (nI i)), (3, zI (nI j)), (0, zR 51), (1, zI 0), (2, zI d)]) d_B_first_108 (by decide) rfl ?_
            refine z_iload X 0 d_B_first_110 rfl ?_
            refine z_if_ne X 118 d_B_first_112 (by decide) (fun _ => ?_) (fun h => absurd h (by decide))
            refine z_iload_n X 2 d_B_first_118 rfl rfl ?_
            refine z_if_lt X 170 d_B_first_119 (by decide) (fun c_119 => absurd c_119 (nI_pos (by omega))) (fun c_119 => ?_)
            refine z_aload_n X 3 d_B_first_122 rfl rfl ?_
            refine z_get X fl_B_25 51 e_B rfl rfl d_B_first_123 ?_
            refine z_iload X 1 d_B_first_126 rfl ?_
            refine z_iald X 57 e_B_priority rfl i rfl hi (by decide) d_B_first_128 ?_
            refine z_aload_n X 3 d_B_first_129 rfl rfl ?_
            refine z_get X fl_B_25 51 e_B rfl rfl d_B_first_130 ?_
            refine z_iload_n X 2 d_B_first_133 rfl rfl ?_
            refine z_iald X 57 e_B_priority rfl j rfl hj (by decide) d_B_first_134 ?_
            refine z_icmp_gt X 170 d_B_first_135 (by decide) (fun c_135 => ?_) (fun c_135 => ?_)
            · refine z_iload X 1 d_B_first_170 rfl ?_
              refine z_istore_n X (L' := [(3, zI (nI i)), (5, zI 1), (4, zI (nI i)), (0, zR 51), (1, zI 0), (2, zI d)]) d_B_first_172 rfl (by decide) rfl ?_
              refine z_iinc X 2 (v := nI (i + 1)) (L' := [(4, zI (nI (i + 1))), (3, zI (nI i)), (5, zI 1), (0, zR 51), (1, zI 0), (2, zI d)]) d_B_first_173 rfl (nI_1 i) (by decide) rfl ?_
              refine z_goto X 5 d_B_first_176 (by decide) ?_
              exact z_keep (ks := [0, 1, 3, 4, 5]) (L' := [(4, zI (nI (i + 1))), (3, zI (nI i)), (0, zR 51), (1, zI 0), (2, zI d)]) rfl (ih (i + 1) (some i) (by omega) (fun j h => by cases h; omega) ((mFst_yes (P := mIsReady M d) (M := M) (i := i) (b := some j) ⟨⟨c_26, c_37⟩, Or.inl c_135⟩).symm.trans hq))
            · refine z_aload_n X 3 d_B_first_138 rfl rfl ?_
              refine z_get X fl_B_25 51 e_B rfl rfl d_B_first_139 ?_
              refine z_iload X 1 d_B_first_142 rfl ?_
              refine z_iald X 57 e_B_priority rfl i rfl hi (by decide) d_B_first_144 ?_
              refine z_aload_n X 3 d_B_first_145 rfl rfl ?_
              refine z_get X fl_B_25 51 e_B rfl rfl d_B_first_146 ?_
              refine z_iload_n X 2 d_B_first_149 rfl rfl ?_
              refine z_iald X 57 e_B_priority rfl j rfl hj (by decide) d_B_first_150 ?_
              refine z_icmp_ne X 173 d_B_first_151 (by decide) (fun c_151 => ?_) (fun c_151 => ?_)
              · refine z_iinc X 1 (v := nI (i + 1)) (L' := [(4, zI (nI (i + 1))), (5, zI 1), (3, zI (nI j)), (0, zR 51), (1, zI 0), (2, zI d)]) d_B_first_173 rfl (nI_1 i) (by decide) rfl ?_
                refine z_goto X 5 d_B_first_176 (by decide) ?_
                exact z_keep (ks := [0, 2, 3, 4, 5]) (L' := [(4, zI (nI (i + 1))), (3, zI (nI j)), (0, zR 51), (1, zI 0), (2, zI d)]) rfl (ih (i + 1) (some j) (by omega) (fun j h => by have := hb j h; omega) ((mFst_no (P := mIsReady M d) (M := M) (i := i) (b := some j) (fun q => q.2.elim c_135 (fun z => c_151 z.1))).symm.trans hq))
              · refine z_aload_n X 3 d_B_first_154 rfl rfl ?_
                refine z_get X fl_B_73 51 e_B rfl rfl d_B_first_155 ?_
                refine z_iload X 1 d_B_first_158 rfl ?_
                refine z_iald X 73 e_B_since rfl i rfl hi (by decide) d_B_first_160 ?_
                refine z_aload_n X 3 d_B_first_161 rfl rfl ?_
                refine z_get X fl_B_73 51 e_B rfl rfl d_B_first_162 ?_
                refine z_iload_n X 2 d_B_first_165 rfl rfl ?_
                refine z_iald X 73 e_B_since rfl j rfl hj (by decide) d_B_first_166 ?_
                refine z_icmp_ge X 173 d_B_first_167 (by decide) (fun c_167 => ?_) (fun c_167 => ?_)
                · refine z_iinc X 1 (v := nI (i + 1)) (L' := [(4, zI (nI (i + 1))), (5, zI 1), (3, zI (nI j)), (0, zR 51), (1, zI 0), (2, zI d)]) d_B_first_173 rfl (nI_1 i) (by decide) rfl ?_
                  refine z_goto X 5 d_B_first_176 (by decide) ?_
                  exact z_keep (ks := [0, 2, 3, 4, 5]) (L' := [(4, zI (nI (i + 1))), (3, zI (nI j)), (0, zR 51), (1, zI 0), (2, zI d)]) rfl (ih (i + 1) (some j) (by omega) (fun j h => by have := hb j h; omega) ((mFst_no (P := mIsReady M d) (M := M) (i := i) (b := some j) (fun q => q.2.elim c_135 (fun z => absurd z.2 (Int32.not_lt.mpr c_167)))).symm.trans hq))
                · refine z_iload X 1 d_B_first_170 rfl ?_
                  refine z_istore_n X (L' := [(3, zI (nI i)), (5, zI 1), (4, zI (nI i)), (0, zR 51), (1, zI 0), (2, zI d)]) d_B_first_172 rfl (by decide) rfl ?_
                  refine z_iinc X 2 (v := nI (i + 1)) (L' := [(4, zI (nI (i + 1))), (3, zI (nI i)), (5, zI 1), (0, zR 51), (1, zI 0), (2, zI d)]) d_B_first_173 rfl (nI_1 i) (by decide) rfl ?_
                  refine z_goto X 5 d_B_first_176 (by decide) ?_
                  exact z_keep (ks := [0, 1, 3, 4, 5]) (L' := [(4, zI (nI (i + 1))), (3, zI (nI i)), (0, zR 51), (1, zI 0), (2, zI d)]) rfl (ih (i + 1) (some i) (by omega) (fun j h => by cases h; omega) ((mFst_yes (P := mIsReady M d) (M := M) (i := i) (b := some j) ⟨⟨c_26, c_37⟩, Or.inr ⟨c_151, Int32.not_le.mp c_167⟩⟩).symm.trans hq))
  refine z_iconst X (v := (-1)) d_B_first_0 (by decide) ?_
  refine z_istore_n X (L' := [(3, zI (-1)), (0, zR 51), (1, zI 0), (2, zI d)]) d_B_first_1 rfl (by decide) rfl ?_
  refine z_iconst X (v := 0) d_B_first_2 (by decide) ?_
  refine z_istore X (L' := [(4, zI 0), (3, zI (-1)), (0, zR 51), (1, zI 0), (2, zI d)]) d_B_first_3 (by decide) rfl ?_
  exact loop n 0 none (by omega) (fun j h => by cases h) rfl

set_option maxHeartbeats 4000000 in
set_option maxRecDepth 100000 in
theorem c_B_first_W (l : Launch) (D : va_G) (cA : Nat → ClassId) (ad : Nat → Nat) (M : zM) (n w : Nat) (hI : mInv n w M) (a : Int32) (ha0 : ¬ a = 0) (d : Int32) : Ci l D cA ad y_B_first b_B_first 6 (some (.int)) (zr 0 0) [zR 51, zI a, zI d] M (fun r M' => M' = M ∧ r = mEnc (mFW n a d M)) := by
  refine zMi_of (plainFor_of_name (by decide)) (Nat.le_of_ble_eq_true rfl) ?_
  intro p e s m args below meth c A X
  have hn := mInv_n hI
  have loop : ∀ (k i : Nat) (b : Option Nat), i + k = n → (∀ j, b = some j → j < i) → mFst (mWaits M a d) M k i b = mFW n a d M → zW p l e (zr 0 0) s m args below meth c 0 0 (MQ below (va_Qi (fun r M' => M' = M ∧ r = mEnc (mFW n a d M)) (fun M' t => va_P D cls (z_w cA ad M' 0 EE) t.heap) A) args s 0 0 A) A D cls cA ad EE 6 M 5 [(4, zI (nI i)), (3, zI (mEnc b)), (0, zR 51), (1, zI a), (2, zI d)] [] := by
    intro k
    induction k with
    | zero =>
      intro i b hk hb hq
      refine z_iload X 0 d_B_first_5 rfl ?_
      refine z_aload_n X 2 d_B_first_7 rfl rfl ?_
      refine z_get X fl_B_97 51 e_B rfl rfl d_B_first_8 ?_
      refine z_icmp_ge X 179 d_B_first_11 (by decide) (fun c_11 => ?_) (fun c_11 => absurd (by rw [mInv_cnt hI, show i = n by omega]; exact nI_le (Nat.le_refl _) (by omega)) c_11)
      refine z_iload_n X 1 d_B_first_179 rfl rfl ?_
      exact z_iret X (⟨rfl, by rw [← hq]; rfl⟩) d_B_first_180
    | succ k ih =>
      intro i b hk hb hq
      have hi : i < 8 := by omega
      cases b with
      | none =>
        refine z_iload X 0 d_B_first_5 rfl ?_
        refine z_aload_n X 2 d_B_first_7 rfl rfl ?_
        refine z_get X fl_B_97 51 e_B rfl rfl d_B_first_8 ?_
        refine z_icmp_ge X 179 d_B_first_11 (by decide) (fun c_11 => absurd c_11 (by rw [mInv_cnt hI]; exact nI_ge (by omega) (by omega))) (fun c_11 => ?_)
        refine z_iload_n X 3 d_B_first_14 rfl rfl ?_
        refine z_if_ne X 48 d_B_first_15 (by decide) (fun c_15 => ?_) (fun c_15 => absurd c_15 (ha0))
        refine z_aload_n X 2 d_B_first_48 rfl rfl ?_
        refine z_get X fl_B_43 51 e_B rfl rfl d_B_first_49 ?_
        refine z_iload X 0 d_B_first_52 rfl ?_
        refine z_iald X 63 e_B_is rfl i rfl hi (by decide) d_B_first_54 ?_
        refine z_iconst X (v := 2) d_B_first_55 (by decide) ?_
        refine z_icmp_ne X 107 d_B_first_56 (by decide) (fun c_56 => ?_) (fun c_56 => ?_)
        · refine z_iconst X (v := 0) d_B_first_107 (by decide) ?_
          refine z_istore X (L' := [(5, zI 0), (4, zI (nI i)), (3, zI (-1)), (0, zR 51), (1, zI a), (2, zI d)]) d_B_first_108 (by decide) rfl ?_
          refine z_iload X 0 d_B_first_110 rfl ?_
          refine z_if_ne X 118 d_B_first_112 (by decide) (fun h => absurd h (by decide)) (fun _ => ?_)
          refine z_goto X 173 d_B_first_115 (by decide) ?_
          refine z_iinc X 1 (v := nI (i + 1)) (L' := [(4, zI (nI (i + 1))), (5, zI 0), (3, zI (-1)), (0, zR 51), (1, zI a), (2, zI d)]) d_B_first_173 rfl (nI_1 i) (by decide) rfl ?_
          refine z_goto X 5 d_B_first_176 (by decide) ?_
          exact z_keep (ks := [0, 2, 3, 4, 5]) (L' := [(4, zI (nI (i + 1))), (3, zI (-1)), (0, zR 51), (1, zI a), (2, zI d)]) rfl (ih (i + 1) none (by omega) (fun j h => by cases h) ((mFst_no (P := mWaits M a d) (M := M) (i := i) (b := none) (fun q => c_56 q.1.1)).symm.trans hq))
        · refine z_aload_n X 2 d_B_first_59 rfl rfl ?_
          refine z_get X fl_B_37 51 e_B rfl rfl d_B_first_60 ?_
          refine z_bipush X (v := 8) d_B_first_63 (by decide) ?_
          refine z_iload X 0 d_B_first_65 rfl ?_
          refine z_imul X d_B_first_67 ?_
          refine z_aload_n X 2 d_B_first_68 rfl rfl ?_
          refine z_get X fl_B_46 51 e_B rfl rfl d_B_first_69 ?_
          refine z_iload X 0 d_B_first_72 rfl ?_
          refine z_iald X 64 e_B_at rfl i rfl hi (by decide) d_B_first_74 ?_
          refine z_iadd X d_B_first_75 ?_
          refine z_iald X 61 e_B_order rfl (8 * i + mAt M i) (mIx_eq hI hi) (mIx_lt hI hi) (by decide) d_B_first_76 ?_
          refine z_iload_n X 3 d_B_first_77 rfl rfl ?_
          refine z_icmp_ne X 107 d_B_first_78 (by decide) (fun c_78 => ?_) (fun c_78 => ?_)
          · refine z_iconst X (v := 0) d_B_first_107 (by decide) ?_
            refine z_istore X (L' := [(5, zI 0), (4, zI (nI i)), (3, zI (-1)), (0, zR 51), (1, zI a), (2, zI d)]) d_B_first_108 (by decide) rfl ?_
            refine z_iload X 0 d_B_first_110 rfl ?_
            refine z_if_ne X 118 d_B_first_112 (by decide) (fun h => absurd h (by decide)) (fun _ => ?_)
            refine z_goto X 173 d_B_first_115 (by decide) ?_
            refine z_iinc X 1 (v := nI (i + 1)) (L' := [(4, zI (nI (i + 1))), (5, zI 0), (3, zI (-1)), (0, zR 51), (1, zI a), (2, zI d)]) d_B_first_173 rfl (nI_1 i) (by decide) rfl ?_
            refine z_goto X 5 d_B_first_176 (by decide) ?_
            exact z_keep (ks := [0, 2, 3, 4, 5]) (L' := [(4, zI (nI (i + 1))), (3, zI (-1)), (0, zR 51), (1, zI a), (2, zI d)]) rfl (ih (i + 1) none (by omega) (fun j h => by cases h) ((mFst_no (P := mWaits M a d) (M := M) (i := i) (b := none) (fun q => c_78 q.1.2.1)).symm.trans hq))
          · refine z_aload_n X 2 d_B_first_81 rfl rfl ?_
            refine z_get X fl_B_40 51 e_B rfl rfl d_B_first_82 ?_
            refine z_bipush X (v := 8) d_B_first_85 (by decide) ?_
            refine z_iload X 0 d_B_first_87 rfl ?_
            refine z_imul X d_B_first_89 ?_
            refine z_aload_n X 2 d_B_first_90 rfl rfl ?_
            refine z_get X fl_B_46 51 e_B rfl rfl d_B_first_91 ?_
            refine z_iload X 0 d_B_first_94 rfl ?_
            refine z_iald X 64 e_B_at rfl i rfl hi (by decide) d_B_first_96 ?_
            refine z_iadd X d_B_first_97 ?_
            refine z_iald X 62 e_B_number rfl (8 * i + mAt M i) (mIx_eq hI hi) (mIx_lt hI hi) (by decide) d_B_first_98 ?_
            refine z_iload_n X 4 d_B_first_99 rfl rfl ?_
            refine z_icmp_ne X 107 d_B_first_100 (by decide) (fun c_100 => ?_) (fun c_100 => ?_)
            · refine z_iconst X (v := 0) d_B_first_107 (by decide) ?_
              refine z_istore X (L' := [(5, zI 0), (4, zI (nI i)), (3, zI (-1)), (0, zR 51), (1, zI a), (2, zI d)]) d_B_first_108 (by decide) rfl ?_
              refine z_iload X 0 d_B_first_110 rfl ?_
              refine z_if_ne X 118 d_B_first_112 (by decide) (fun h => absurd h (by decide)) (fun _ => ?_)
              refine z_goto X 173 d_B_first_115 (by decide) ?_
              refine z_iinc X 1 (v := nI (i + 1)) (L' := [(4, zI (nI (i + 1))), (5, zI 0), (3, zI (-1)), (0, zR 51), (1, zI a), (2, zI d)]) d_B_first_173 rfl (nI_1 i) (by decide) rfl ?_
              refine z_goto X 5 d_B_first_176 (by decide) ?_
              exact z_keep (ks := [0, 2, 3, 4, 5]) (L' := [(4, zI (nI (i + 1))), (3, zI (-1)), (0, zR 51), (1, zI a), (2, zI d)]) rfl (ih (i + 1) none (by omega) (fun j h => by cases h) ((mFst_no (P := mWaits M a d) (M := M) (i := i) (b := none) (fun q => c_100 q.1.2.2)).symm.trans hq))
            · refine z_iconst X (v := 1) d_B_first_103 (by decide) ?_
              refine z_goto X 108 d_B_first_104 (by decide) ?_
              refine z_istore X (L' := [(5, zI 1), (4, zI (nI i)), (3, zI (-1)), (0, zR 51), (1, zI a), (2, zI d)]) d_B_first_108 (by decide) rfl ?_
              refine z_iload X 0 d_B_first_110 rfl ?_
              refine z_if_ne X 118 d_B_first_112 (by decide) (fun _ => ?_) (fun h => absurd h (by decide))
              refine z_iload_n X 2 d_B_first_118 rfl rfl ?_
              refine z_if_lt X 170 d_B_first_119 (by decide) (fun _ => ?_) (fun h => absurd h (by decide))
              refine z_iload X 1 d_B_first_170 rfl ?_
              refine z_istore_n X (L' := [(3, zI (nI i)), (5, zI 1), (4, zI (nI i)), (0, zR 51), (1, zI a), (2, zI d)]) d_B_first_172 rfl (by decide) rfl ?_
              refine z_iinc X 2 (v := nI (i + 1)) (L' := [(4, zI (nI (i + 1))), (3, zI (nI i)), (5, zI 1), (0, zR 51), (1, zI a), (2, zI d)]) d_B_first_173 rfl (nI_1 i) (by decide) rfl ?_
              refine z_goto X 5 d_B_first_176 (by decide) ?_
              exact z_keep (ks := [0, 1, 3, 4, 5]) (L' := [(4, zI (nI (i + 1))), (3, zI (nI i)), (0, zR 51), (1, zI a), (2, zI d)]) rfl (ih (i + 1) (some i) (by omega) (fun j h => by cases h; omega) ((mFst_yes (P := mWaits M a d) (M := M) (i := i) (b := none) ⟨⟨c_56, c_78, c_100⟩, trivial⟩).symm.trans hq))
      | some j =>
        have hj : j < 8 := by have := hb j rfl; omega
        refine z_iload X 0 d_B_first_5 rfl ?_
        refine z_aload_n X 2 d_B_first_7 rfl rfl ?_
        refine z_get X fl_B_97 51 e_B rfl rfl d_B_first_8 ?_
        refine z_icmp_ge X 179 d_B_first_11 (by decide) (fun c_11 => absurd c_11 (by rw [mInv_cnt hI]; exact nI_ge (by omega) (by omega))) (fun c_11 => ?_)
        refine z_iload_n X 3 d_B_first_14 rfl rfl ?_
        refine z_if_ne X 48 d_B_first_15 (by decide) (fun c_15 => ?_) (fun c_15 => absurd c_15 (ha0))
        refine z_aload_n X 2 d_B_first_48 rfl rfl ?_
        refine z_get X fl_B_43 51 e_B rfl rfl d_B_first_49 ?_
        refine z_iload X 0 d_B_first_52 rfl ?_
        refine z_iald X 63 e_B_is rfl i rfl hi (by decide) d_B_first_54 ?_
        refine z_iconst X (v := 2) d_B_first_55 (by decide) ?_
        refine z_icmp_ne X 107 d_B_first_56 (by decide) (fun c_56 => ?_) (fun c_56 => ?_)
        · refine z_iconst X (v := 0) d_B_first_107 (by decide) ?_
          refine z_istore X (L' := [(5, zI 0), (4, zI (nI i)), (3, zI (nI j)), (0, zR 51), (1, zI a), (2, zI d)]) d_B_first_108 (by decide) rfl ?_
          refine z_iload X 0 d_B_first_110 rfl ?_
          refine z_if_ne X 118 d_B_first_112 (by decide) (fun h => absurd h (by decide)) (fun _ => ?_)
          refine z_goto X 173 d_B_first_115 (by decide) ?_
          refine z_iinc X 1 (v := nI (i + 1)) (L' := [(4, zI (nI (i + 1))), (5, zI 0), (3, zI (nI j)), (0, zR 51), (1, zI a), (2, zI d)]) d_B_first_173 rfl (nI_1 i) (by decide) rfl ?_
          refine z_goto X 5 d_B_first_176 (by decide) ?_
          exact z_keep (ks := [0, 2, 3, 4, 5]) (L' := [(4, zI (nI (i + 1))), (3, zI (nI j)), (0, zR 51), (1, zI a), (2, zI d)]) rfl (ih (i + 1) (some j) (by omega) (fun j h => by have := hb j h; omega) ((mFst_no (P := mWaits M a d) (M := M) (i := i) (b := some j) (fun q => c_56 q.1.1)).symm.trans hq))
        · refine z_aload_n X 2 d_B_first_59 rfl rfl ?_
          refine z_get X fl_B_37 51 e_B rfl rfl d_B_first_60 ?_
          refine z_bipush X (v := 8) d_B_first_63 (by decide) ?_
          refine z_iload X 0 d_B_first_65 rfl ?_
          refine z_imul X d_B_first_67 ?_
          refine z_aload_n X 2 d_B_first_68 rfl rfl ?_
          refine z_get X fl_B_46 51 e_B rfl rfl d_B_first_69 ?_
          refine z_iload X 0 d_B_first_72 rfl ?_
          refine z_iald X 64 e_B_at rfl i rfl hi (by decide) d_B_first_74 ?_
          refine z_iadd X d_B_first_75 ?_
          refine z_iald X 61 e_B_order rfl (8 * i + mAt M i) (mIx_eq hI hi) (mIx_lt hI hi) (by decide) d_B_first_76 ?_
          refine z_iload_n X 3 d_B_first_77 rfl rfl ?_
          refine z_icmp_ne X 107 d_B_first_78 (by decide) (fun c_78 => ?_) (fun c_78 => ?_)
          · refine z_iconst X (v := 0) d_B_first_107 (by decide) ?_
            refine z_istore X (L' := [(5, zI 0), (4, zI (nI i)), (3, zI (nI j)), (0, zR 51), (1, zI a), (2, zI d)]) d_B_first_108 (by decide) rfl ?_
            refine z_iload X 0 d_B_first_110 rfl ?_
            refine z_if_ne X 118 d_B_first_112 (by decide) (fun h => absurd h (by decide)) (fun _ => ?_)
            refine z_goto X 173 d_B_first_115 (by decide) ?_
            refine z_iinc X 1 (v := nI (i + 1)) (L' := [(4, zI (nI (i + 1))), (5, zI 0), (3, zI (nI j)), (0, zR 51), (1, zI a), (2, zI d)]) d_B_first_173 rfl (nI_1 i) (by decide) rfl ?_
            refine z_goto X 5 d_B_first_176 (by decide) ?_
            exact z_keep (ks := [0, 2, 3, 4, 5]) (L' := [(4, zI (nI (i + 1))), (3, zI (nI j)), (0, zR 51), (1, zI a), (2, zI d)]) rfl (ih (i + 1) (some j) (by omega) (fun j h => by have := hb j h; omega) ((mFst_no (P := mWaits M a d) (M := M) (i := i) (b := some j) (fun q => c_78 q.1.2.1)).symm.trans hq))
          · refine z_aload_n X 2 d_B_first_81 rfl rfl ?_
            refine z_get X fl_B_40 51 e_B rfl rfl d_B_first_82 ?_
            refine z_bipush X (v := 8) d_B_first_85 (by decide) ?_
            refine z_iload X 0 d_B_first_87 rfl ?_
            refine z_imul X d_B_first_89 ?_
            refine z_aload_n X 2 d_B_first_90 rfl rfl ?_
            refine z_get X fl_B_46 51 e_B rfl rfl d_B_first_91 ?_
            refine z_iload X 0 d_B_first_94 rfl ?_
            refine z_iald X 64 e_B_at rfl i rfl hi (by decide) d_B_first_96 ?_
            refine z_iadd X d_B_first_97 ?_
            refine z_iald X 62 e_B_number rfl (8 * i + mAt M i) (mIx_eq hI hi) (mIx_lt hI hi) (by decide) d_B_first_98 ?_
            refine z_iload_n X 4 d_B_first_99 rfl rfl ?_
            refine z_icmp_ne X 107 d_B_first_100 (by decide) (fun c_100 => ?_) (fun c_100 => ?_)
            · refine z_iconst X (v := 0) d_B_first_107 (by decide) ?_
              refine z_istore X (L' := [(5, zI 0), (4, zI (nI i)), (3, zI (nI j)), (0, zR 51), (1, zI a), (2, zI d)]) d_B_first_108 (by decide) rfl ?_
              refine z_iload X 0 d_B_first_110 rfl ?_
              refine z_if_ne X 118 d_B_first_112 (by decide) (fun h => absurd h (by decide)) (fun _ => ?_)
              refine z_goto X 173 d_B_first_115 (by decide) ?_
              refine z_iinc X 1 (v := nI (i + 1)) (L' := [(4, zI (nI (i + 1))), (5, zI 0), (3, zI (nI j)), (0, zR 51), (1, zI a), (2, zI d)]) d_B_first_173 rfl (nI_1 i) (by decide) rfl ?_
              refine z_goto X 5 d_B_first_176 (by decide) ?_
              exact z_keep (ks := [0, 2, 3, 4, 5]) (L' := [(4, zI (nI (i + 1))), (3, zI (nI j)), (0, zR 51), (1, zI a), (2, zI d)]) rfl (ih (i + 1) (some j) (by omega) (fun j h => by have := hb j h; omega) ((mFst_no (P := mWaits M a d) (M := M) (i := i) (b := some j) (fun q => c_100 q.1.2.2)).symm.trans hq))
            · refine z_iconst X (v := 1) d_B_first_103 (by decide) ?_
              refine z_goto X 108 d_B_first_104 (by decide) ?_
              refine z_istore X (L' := [(5, zI 1), (4, zI (nI i)), (3, zI (nI j)), (0, zR 51), (1, zI a), (2, zI d)]) d_B_first_108 (by decide) rfl ?_
              refine z_iload X 0 d_B_first_110 rfl ?_
              refine z_if_ne X 118 d_B_first_112 (by decide) (fun _ => ?_) (fun h => absurd h (by decide))
              refine z_iload_n X 2 d_B_first_118 rfl rfl ?_
              refine z_if_lt X 170 d_B_first_119 (by decide) (fun c_119 => absurd c_119 (nI_pos (by omega))) (fun c_119 => ?_)
              refine z_aload_n X 3 d_B_first_122 rfl rfl ?_
              refine z_get X fl_B_25 51 e_B rfl rfl d_B_first_123 ?_
              refine z_iload X 1 d_B_first_126 rfl ?_
              refine z_iald X 57 e_B_priority rfl i rfl hi (by decide) d_B_first_128 ?_
              refine z_aload_n X 3 d_B_first_129 rfl rfl ?_
              refine z_get X fl_B_25 51 e_B rfl rfl d_B_first_130 ?_
              refine z_iload_n X 2 d_B_first_133 rfl rfl ?_
              refine z_iald X 57 e_B_priority rfl j rfl hj (by decide) d_B_first_134 ?_
              refine z_icmp_gt X 170 d_B_first_135 (by decide) (fun c_135 => ?_) (fun c_135 => ?_)
              · refine z_iload X 1 d_B_first_170 rfl ?_
                refine z_istore_n X (L' := [(3, zI (nI i)), (5, zI 1), (4, zI (nI i)), (0, zR 51), (1, zI a), (2, zI d)]) d_B_first_172 rfl (by decide) rfl ?_
                refine z_iinc X 2 (v := nI (i + 1)) (L' := [(4, zI (nI (i + 1))), (3, zI (nI i)), (5, zI 1), (0, zR 51), (1, zI a), (2, zI d)]) d_B_first_173 rfl (nI_1 i) (by decide) rfl ?_
                refine z_goto X 5 d_B_first_176 (by decide) ?_
                exact z_keep (ks := [0, 1, 3, 4, 5]) (L' := [(4, zI (nI (i + 1))), (3, zI (nI i)), (0, zR 51), (1, zI a), (2, zI d)]) rfl (ih (i + 1) (some i) (by omega) (fun j h => by cases h; omega) ((mFst_yes (P := mWaits M a d) (M := M) (i := i) (b := some j) ⟨⟨c_56, c_78, c_100⟩, Or.inl c_135⟩).symm.trans hq))
              · refine z_aload_n X 3 d_B_first_138 rfl rfl ?_
                refine z_get X fl_B_25 51 e_B rfl rfl d_B_first_139 ?_
                refine z_iload X 1 d_B_first_142 rfl ?_
                refine z_iald X 57 e_B_priority rfl i rfl hi (by decide) d_B_first_144 ?_
                refine z_aload_n X 3 d_B_first_145 rfl rfl ?_
                refine z_get X fl_B_25 51 e_B rfl rfl d_B_first_146 ?_
                refine z_iload_n X 2 d_B_first_149 rfl rfl ?_
                refine z_iald X 57 e_B_priority rfl j rfl hj (by decide) d_B_first_150 ?_
                refine z_icmp_ne X 173 d_B_first_151 (by decide) (fun c_151 => ?_) (fun c_151 => ?_)
                · refine z_iinc X 1 (v := nI (i + 1)) (L' := [(4, zI (nI (i + 1))), (5, zI 1), (3, zI (nI j)), (0, zR 51), (1, zI a), (2, zI d)]) d_B_first_173 rfl (nI_1 i) (by decide) rfl ?_
                  refine z_goto X 5 d_B_first_176 (by decide) ?_
                  exact z_keep (ks := [0, 2, 3, 4, 5]) (L' := [(4, zI (nI (i + 1))), (3, zI (nI j)), (0, zR 51), (1, zI a), (2, zI d)]) rfl (ih (i + 1) (some j) (by omega) (fun j h => by have := hb j h; omega) ((mFst_no (P := mWaits M a d) (M := M) (i := i) (b := some j) (fun q => q.2.elim c_135 (fun z => c_151 z.1))).symm.trans hq))
                · refine z_aload_n X 3 d_B_first_154 rfl rfl ?_
                  refine z_get X fl_B_73 51 e_B rfl rfl d_B_first_155 ?_
                  refine z_iload X 1 d_B_first_158 rfl ?_
                  refine z_iald X 73 e_B_since rfl i rfl hi (by decide) d_B_first_160 ?_
                  refine z_aload_n X 3 d_B_first_161 rfl rfl ?_
                  refine z_get X fl_B_73 51 e_B rfl rfl d_B_first_162 ?_
                  refine z_iload_n X 2 d_B_first_165 rfl rfl ?_
                  refine z_iald X 73 e_B_since rfl j rfl hj (by decide) d_B_first_166 ?_
                  refine z_icmp_ge X 173 d_B_first_167 (by decide) (fun c_167 => ?_) (fun c_167 => ?_)
                  · refine z_iinc X 1 (v := nI (i + 1)) (L' := [(4, zI (nI (i + 1))), (5, zI 1), (3, zI (nI j)), (0, zR 51), (1, zI a), (2, zI d)]) d_B_first_173 rfl (nI_1 i) (by decide) rfl ?_
                    refine z_goto X 5 d_B_first_176 (by decide) ?_
                    exact z_keep (ks := [0, 2, 3, 4, 5]) (L' := [(4, zI (nI (i + 1))), (3, zI (nI j)), (0, zR 51), (1, zI a), (2, zI d)]) rfl (ih (i + 1) (some j) (by omega) (fun j h => by have := hb j h; omega) ((mFst_no (P := mWaits M a d) (M := M) (i := i) (b := some j) (fun q => q.2.elim c_135 (fun z => absurd z.2 (Int32.not_lt.mpr c_167)))).symm.trans hq))
                  · refine z_iload X 1 d_B_first_170 rfl ?_
                    refine z_istore_n X (L' := [(3, zI (nI i)), (5, zI 1), (4, zI (nI i)), (0, zR 51), (1, zI a), (2, zI d)]) d_B_first_172 rfl (by decide) rfl ?_
                    refine z_iinc X 2 (v := nI (i + 1)) (L' := [(4, zI (nI (i + 1))), (3, zI (nI i)), (5, zI 1), (0, zR 51), (1, zI a), (2, zI d)]) d_B_first_173 rfl (nI_1 i) (by decide) rfl ?_
                    refine z_goto X 5 d_B_first_176 (by decide) ?_
                    exact z_keep (ks := [0, 1, 3, 4, 5]) (L' := [(4, zI (nI (i + 1))), (3, zI (nI i)), (0, zR 51), (1, zI a), (2, zI d)]) rfl (ih (i + 1) (some i) (by omega) (fun j h => by cases h; omega) ((mFst_yes (P := mWaits M a d) (M := M) (i := i) (b := some j) ⟨⟨c_56, c_78, c_100⟩, Or.inr ⟨c_151, Int32.not_le.mp c_167⟩⟩).symm.trans hq))
  refine z_iconst X (v := (-1)) d_B_first_0 (by decide) ?_
  refine z_istore_n X (L' := [(3, zI (-1)), (0, zR 51), (1, zI a), (2, zI d)]) d_B_first_1 rfl (by decide) rfl ?_
  refine z_iconst X (v := 0) d_B_first_2 (by decide) ?_
  refine z_istore X (L' := [(4, zI 0), (3, zI (-1)), (0, zR 51), (1, zI a), (2, zI d)]) d_B_first_3 (by decide) rfl ?_
  exact loop n 0 none (by omega) (fun j h => by cases h) rfl

set_option maxHeartbeats 4000000 in
set_option maxRecDepth 100000 in
theorem c_B_send (l : Launch) (D : va_G) (cA : Nat → ClassId) (ad : Nat → Nat) (M : zM) (n w : Nat) (hI : mInv n w M) (x : Int32) (k : Nat) (hk : k < 8) (ex : x = nI k) (y : Int32) (q : Nat) (hq : q < 4) (ey : y = nI q) : Cv l D cA ad y_B_send b_B_send 5 none (zr 3 63) [zR 51, zI x, zI y] M (fun M' => M' = mSend n k q M) := by
  refine zMv_of (plainFor_of_name (by decide)) (Nat.le_of_ble_eq_true rfl) ?_
  intro p e s m args below meth c A X
  subst ex
  subst ey
  refine z_iload_n X 1 d_B_send_0 rfl rfl ?_
  refine z_bipush X (v := 8) d_B_send_1 (by decide) ?_
  refine z_aload_n X 0 d_B_send_3 rfl rfl ?_
  refine z_get X fl_B_52 51 e_B rfl rfl d_B_send_4 ?_
  refine z_iload_n X 1 d_B_send_7 rfl rfl ?_
  refine z_iald X 66 e_B_rounds rfl k rfl hk (by decide) d_B_send_8 ?_
  refine z_imul X d_B_send_9 ?_
  refine z_iadd X d_B_send_10 ?_
  refine z_istore_n X (L' := [(3, zI ((nI k) + (8 * (M.1 66 k)))), (0, zR 51), (1, zI (nI k)), (2, zI (nI q))]) d_B_send_11 rfl (by decide) rfl ?_
  refine z_aload_n X 1 d_B_send_12 rfl rfl ?_
  refine z_iconst X (v := 2) d_B_send_13 (by decide) ?_
  refine z_iload_n X 3 d_B_send_14 rfl rfl ?_
  refine z_Vi X GG_ok cf_B_120 51 [zI 2, zI (nI q)] [] (c_B_first_W l D cA ad _ n w hI _ (by decide) _) ⟨rfl, rfl⟩ (by decide) e_B rfl rfl rfl rfl (Nat.le_of_ble_eq_true rfl) ⟨Nat.zero_le _, Nat.zero_le _⟩ d_B_send_15 (fun r1 M2 h3 => ?_)
  have qh3 := h3.1.symm
  subst qh3
  obtain ⟨-, rfl⟩ := h3
  rcases hF : mFW n 2 (nI q) M with _ | j
  · refine z_istore X (L' := [(4, zI (-1)), (3, zI ((nI k) + (8 * (M.1 66 k)))), (0, zR 51), (1, zI (nI k)), (2, zI (nI q))]) d_B_send_18 (by decide) rfl ?_
    refine z_iload X 0 d_B_send_20 rfl ?_
    refine z_if_lt X 42 d_B_send_22 (by decide) (fun _ => ?_) (fun h => absurd h (by decide))
    refine z_aload_n X 2 d_B_send_42 rfl rfl ?_
    refine z_get X fl_B_79 51 e_B rfl rfl d_B_send_43 ?_
    refine z_iload_n X 4 d_B_send_46 rfl rfl ?_
    refine z_iald X 75 e_B_messages rfl q rfl hq (by decide) d_B_send_47 ?_
    refine z_iconst X (v := 4) d_B_send_48 (by decide) ?_
    refine z_icmp_ne X 65 d_B_send_49 (by decide) (fun c_49 => ?_) (fun c_49 => ?_)
    · refine z_aload_n X 2 d_B_send_65 rfl rfl ?_
      refine z_get X fl_B_76 51 e_B rfl rfl d_B_send_66 ?_
      refine z_iconst X (v := 4) d_B_send_69 (by decide) ?_
      refine z_iload_n X 4 d_B_send_70 rfl rfl ?_
      refine z_imul X d_B_send_71 ?_
      refine z_aload_n X 2 d_B_send_72 rfl rfl ?_
      refine z_get X fl_B_79 51 e_B rfl rfl d_B_send_73 ?_
      refine z_iload_n X 4 d_B_send_76 rfl rfl ?_
      refine z_iald X 75 e_B_messages rfl q rfl hq (by decide) d_B_send_77 ?_
      refine z_iadd X d_B_send_78 ?_
      refine z_iload_n X 1 d_B_send_79 rfl rfl ?_
      refine z_iast X 74 e_B_message rfl (4 * q + mSz M q) (by rw [mSz_eq hI hq, show (4 : Int32) = nI 4 from rfl, pk_mul, nI_add]) (by have := mSz_lt hI hq c_49; omega) (by decide) d_B_send_80 ?_
      refine z_aload_n X 2 d_B_send_81 rfl rfl ?_
      refine z_get X fl_B_79 51 e_B rfl rfl d_B_send_82 ?_
      refine z_iload_n X 4 d_B_send_85 rfl rfl ?_
      refine z_dup2 X d_B_send_86 rfl rfl ?_
      refine z_iald X 75 e_B_messages rfl q rfl hq (by decide) d_B_send_87 ?_
      refine z_iconst X (v := 1) d_B_send_88 (by decide) ?_
      refine z_iadd X d_B_send_89 ?_
      refine z_iast X 75 e_B_messages rfl q rfl hq (by decide) d_B_send_90 ?_
      refine z_aload_n X 2 d_B_send_91 rfl rfl ?_
      refine z_iload_n X 3 d_B_send_92 rfl rfl ?_
      refine z_Vv X GG_ok cf_B_117 51 [zI (nI k)] [] (c_B_advance l D cA ad _ _ k hk rfl ) ⟨rfl, rfl⟩ (by decide) e_B rfl rfl rfl rfl (Nat.le_of_ble_eq_true rfl) ⟨Nat.zero_le _, Nat.zero_le _⟩ d_B_send_93 (fun M5 h6 => ?_)
      have qh6 := h6.symm
      subst qh6
      exact z_vret X (by unfold mSend mSend0; rw [hF]; simp only [c_49, if_true, if_false]; try unfold mPut mMsg; try rw [z_si_row _ _ _ (show (75 : Nat) ≠ 74 by decide), mSz_eq hI hq, nI_1]) d_B_send_96
    · refine z_aload_n X 2 d_B_send_52 rfl rfl ?_
      refine z_dup X d_B_send_53 rfl ?_
      refine z_get X fl_B_127 51 e_B rfl rfl d_B_send_54 ?_
      refine z_iconst X (v := 1) d_B_send_57 (by decide) ?_
      refine z_iadd X d_B_send_58 ?_
      refine z_puti X fl_B_127 51 e_B rfl rfl rfl d_B_send_59 ?_
      refine z_goto X 91 d_B_send_62 (by decide) ?_
      refine z_aload_n X 2 d_B_send_91 rfl rfl ?_
      refine z_iload_n X 3 d_B_send_92 rfl rfl ?_
      refine z_Vv X GG_ok cf_B_117 51 [zI (nI k)] [] (c_B_advance l D cA ad _ _ k hk rfl ) ⟨rfl, rfl⟩ (by decide) e_B rfl rfl rfl rfl (Nat.le_of_ble_eq_true rfl) ⟨Nat.zero_le _, Nat.zero_le _⟩ d_B_send_93 (fun M8 h9 => ?_)
      have qh9 := h9.symm
      subst qh9
      exact z_vret X (by unfold mSend mSend0; rw [hF]; simp only [c_49, if_true, if_false]; try unfold mPut mMsg; try rw [z_si_row _ _ _ (show (75 : Nat) ≠ 74 by decide), mSz_eq hI hq, nI_1]) d_B_send_96
  · have hj : j < 8 := Nat.lt_of_lt_of_le (mFW_lt hF) (mInv_n hI)
    refine z_istore X (L' := [(4, zI (nI j)), (3, zI ((nI k) + (8 * (M.1 66 k)))), (0, zR 51), (1, zI (nI k)), (2, zI (nI q))]) d_B_send_18 (by decide) rfl ?_
    refine z_iload X 0 d_B_send_20 rfl ?_
    refine z_if_lt X 42 d_B_send_22 (by decide) (fun c_22_10 => absurd c_22_10 (nI_pos (by omega))) (fun c_22_10 => ?_)
    refine z_aload_n X 2 d_B_send_25 rfl rfl ?_
    refine z_get X fl_B_67 51 e_B rfl rfl d_B_send_26 ?_
    refine z_iload X 0 d_B_send_29 rfl ?_
    refine z_iload_n X 1 d_B_send_31 rfl rfl ?_
    refine z_iast X 71 e_B_letter rfl j rfl hj (by decide) d_B_send_32 ?_
    refine z_aload_n X 2 d_B_send_33 rfl rfl ?_
    refine z_iload X 0 d_B_send_34 rfl ?_
    refine z_Vv X GG_ok cf_B_124 51 [zI (nI j)] [] (c_B_wake l D cA ad _ _ j hj rfl ) ⟨rfl, rfl⟩ (by decide) e_B rfl rfl rfl rfl (Nat.le_of_ble_eq_true rfl) ⟨Nat.zero_le _, Nat.zero_le _⟩ d_B_send_36 (fun M12 h13 => ?_)
    have qh13 := h13.symm
    subst qh13
    refine z_goto X 91 d_B_send_39 (by decide) ?_
    refine z_aload_n X 2 d_B_send_91 rfl rfl ?_
    refine z_iload_n X 3 d_B_send_92 rfl rfl ?_
    refine z_Vv X GG_ok cf_B_117 51 [zI (nI k)] [] (c_B_advance l D cA ad _ _ k hk rfl ) ⟨rfl, rfl⟩ (by decide) e_B rfl rfl rfl rfl (Nat.le_of_ble_eq_true rfl) ⟨Nat.zero_le _, Nat.zero_le _⟩ d_B_send_93 (fun M15 h16 => ?_)
    have qh16 := h16.symm
    subst qh16
    exact z_vret X (by unfold mSend; rw [hF]; try rfl) d_B_send_96

set_option maxHeartbeats 4000000 in
set_option maxRecDepth 100000 in
theorem c_B_up (l : Launch) (D : va_G) (cA : Nat → ClassId) (ad : Nat → Nat) (M : zM) (n w : Nat) (hI : mInv n w M) (x : Int32) (k : Nat) (hk : k < 8) (ex : x = nI k) (y : Int32) (q : Nat) (hq : q < 4) (ey : y = nI q) : Cv l D cA ad y_B_up b_B_up 4 none (zr 3 63) [zR 51, zI x, zI y] M (fun M' => M' = mUp n k q M) := by
  refine zMv_of (plainFor_of_name (by decide)) (Nat.le_of_ble_eq_true rfl) ?_
  intro p e s m args below meth c A X
  subst ex
  subst ey
  refine z_aload_n X 0 d_B_up_0 rfl rfl ?_
  refine z_iconst X (v := 4) d_B_up_1 (by decide) ?_
  refine z_iload_n X 2 d_B_up_2 rfl rfl ?_
  refine z_Vi X GG_ok cf_B_120 51 [zI 4, zI (nI q)] [] (c_B_first_W l D cA ad _ n w hI _ (by decide) _) ⟨rfl, rfl⟩ (by decide) e_B rfl rfl rfl rfl (Nat.le_of_ble_eq_true rfl) ⟨Nat.zero_le _, Nat.zero_le _⟩ d_B_up_3 (fun r1 M2 h3 => ?_)
  have qh3 := h3.1.symm
  subst qh3
  obtain ⟨-, rfl⟩ := h3
  rcases hF : mFW n 4 (nI q) M with _ | j
  · refine z_istore_n X (L' := [(3, zI (-1)), (0, zR 51), (1, zI (nI k)), (2, zI (nI q))]) d_B_up_6 rfl (by decide) rfl ?_
    refine z_iload_n X 0 d_B_up_7 rfl rfl ?_
    refine z_if_lt X 19 d_B_up_8 (by decide) (fun _ => ?_) (fun h => absurd h (by decide))
    refine z_aload_n X 1 d_B_up_19 rfl rfl ?_
    refine z_get X fl_B_82 51 e_B rfl rfl d_B_up_20 ?_
    refine z_iload_n X 3 d_B_up_23 rfl rfl ?_
    refine z_iald X 76 e_B_count rfl q rfl hq (by decide) d_B_up_24 ?_
    refine z_bipush X (v := 9) d_B_up_25 (by decide) ?_
    refine z_icmp_ge X 40 d_B_up_27 (by decide) (fun c_27 => ?_) (fun c_27 => ?_)
    · refine z_aload_n X 1 d_B_up_40 rfl rfl ?_
      refine z_iload_n X 2 d_B_up_41 rfl rfl ?_
      refine z_Vv X GG_ok cf_B_117 51 [zI (nI k)] [] (c_B_advance l D cA ad _ _ k hk rfl ) ⟨rfl, rfl⟩ (by decide) e_B rfl rfl rfl rfl (Nat.le_of_ble_eq_true rfl) ⟨Nat.zero_le _, Nat.zero_le _⟩ d_B_up_42 (fun M5 h6 => ?_)
      have qh6 := h6.symm
      subst qh6
      exact z_vret X (by unfold mUp mUp0; rw [hF]; simp only [c_27, if_true, if_false]) d_B_up_45
    · refine z_aload_n X 1 d_B_up_30 rfl rfl ?_
      refine z_get X fl_B_82 51 e_B rfl rfl d_B_up_31 ?_
      refine z_iload_n X 3 d_B_up_34 rfl rfl ?_
      refine z_dup2 X d_B_up_35 rfl rfl ?_
      refine z_iald X 76 e_B_count rfl q rfl hq (by decide) d_B_up_36 ?_
      refine z_iconst X (v := 1) d_B_up_37 (by decide) ?_
      refine z_iadd X d_B_up_38 ?_
      refine z_iast X 76 e_B_count rfl q rfl hq (by decide) d_B_up_39 ?_
      refine z_aload_n X 1 d_B_up_40 rfl rfl ?_
      refine z_iload_n X 2 d_B_up_41 rfl rfl ?_
      refine z_Vv X GG_ok cf_B_117 51 [zI (nI k)] [] (c_B_advance l D cA ad _ _ k hk rfl ) ⟨rfl, rfl⟩ (by decide) e_B rfl rfl rfl rfl (Nat.le_of_ble_eq_true rfl) ⟨Nat.zero_le _, Nat.zero_le _⟩ d_B_up_42 (fun M8 h9 => ?_)
      have qh9 := h9.symm
      subst qh9
      exact z_vret X (by unfold mUp mUp0; rw [hF]; simp only [c_27, if_true, if_false]) d_B_up_45
  · have hj : j < 8 := Nat.lt_of_lt_of_le (mFW_lt hF) (mInv_n hI)
    refine z_istore_n X (L' := [(3, zI (nI j)), (0, zR 51), (1, zI (nI k)), (2, zI (nI q))]) d_B_up_6 rfl (by decide) rfl ?_
    refine z_iload_n X 0 d_B_up_7 rfl rfl ?_
    refine z_if_lt X 19 d_B_up_8 (by decide) (fun c_8_10 => absurd c_8_10 (nI_pos (by omega))) (fun c_8_10 => ?_)
    refine z_aload_n X 1 d_B_up_11 rfl rfl ?_
    refine z_iload_n X 0 d_B_up_12 rfl rfl ?_
    refine z_Vv X GG_ok cf_B_124 51 [zI (nI j)] [] (c_B_wake l D cA ad _ _ j hj rfl ) ⟨rfl, rfl⟩ (by decide) e_B rfl rfl rfl rfl (Nat.le_of_ble_eq_true rfl) ⟨Nat.zero_le _, Nat.zero_le _⟩ d_B_up_13 (fun M12 h13 => ?_)
    have qh13 := h13.symm
    subst qh13
    refine z_goto X 40 d_B_up_16 (by decide) ?_
    refine z_aload_n X 1 d_B_up_40 rfl rfl ?_
    refine z_iload_n X 2 d_B_up_41 rfl rfl ?_
    refine z_Vv X GG_ok cf_B_117 51 [zI (nI k)] [] (c_B_advance l D cA ad _ _ k hk rfl ) ⟨rfl, rfl⟩ (by decide) e_B rfl rfl rfl rfl (Nat.le_of_ble_eq_true rfl) ⟨Nat.zero_le _, Nat.zero_le _⟩ d_B_up_42 (fun M15 h16 => ?_)
    have qh16 := h16.symm
    subst qh16
    exact z_vret X (by unfold mUp; rw [hF]; try rfl) d_B_up_45

set_option maxHeartbeats 4000000 in
set_option maxRecDepth 100000 in
theorem c_B_down (l : Launch) (D : va_G) (cA : Nat → ClassId) (ad : Nat → Nat) (M : zM) (n w : Nat) (hI : mInv n w M) (x : Int32) (k : Nat) (hk : k < 8) (ex : x = nI k) (y : Int32) (q : Nat) (hq : q < 4) (ey : y = nI q) : Cv l D cA ad y_B_down b_B_down 3 none (zr 2 42) [zR 51, zI x, zI y] M (fun M' => M' = mDown k q M) := by
  refine zMv_of (plainFor_of_name (by decide)) (Nat.le_of_ble_eq_true rfl) ?_
  intro p e s m args below meth c A X
  subst ex
  subst ey
  refine z_aload_n X 0 d_B_down_0 rfl rfl ?_
  refine z_get X fl_B_82 51 e_B rfl rfl d_B_down_1 ?_
  refine z_iload_n X 2 d_B_down_4 rfl rfl ?_
  refine z_iald X 76 e_B_count rfl q rfl hq (by decide) d_B_down_5 ?_
  refine z_if_ne X 16 d_B_down_6 (by decide) (fun c_6 => ?_) (fun c_6 => ?_)
  · refine z_aload_n X 0 d_B_down_16 rfl rfl ?_
    refine z_get X fl_B_82 51 e_B rfl rfl d_B_down_17 ?_
    refine z_iload_n X 2 d_B_down_20 rfl rfl ?_
    refine z_dup2 X d_B_down_21 rfl rfl ?_
    refine z_iald X 76 e_B_count rfl q rfl hq (by decide) d_B_down_22 ?_
    refine z_iconst X (v := 1) d_B_down_23 (by decide) ?_
    refine z_isub X d_B_down_24 ?_
    refine z_iast X 76 e_B_count rfl q rfl hq (by decide) d_B_down_25 ?_
    refine z_aload_n X 0 d_B_down_26 rfl rfl ?_
    refine z_iload_n X 1 d_B_down_27 rfl rfl ?_
    refine z_Vv X GG_ok cf_B_117 51 [zI (nI k)] [] (c_B_advance l D cA ad _ _ k hk rfl ) ⟨rfl, rfl⟩ (by decide) e_B rfl rfl rfl rfl (Nat.le_of_ble_eq_true rfl) ⟨Nat.zero_le _, Nat.zero_le _⟩ d_B_down_28 (fun M2 h3 => ?_)
    have qh3 := h3.symm
    subst qh3
    exact z_vret X (by simp only [mDown, c_6, if_true, if_false]) d_B_down_31
  · refine z_aload_n X 0 d_B_down_9 rfl rfl ?_
    refine z_iload_n X 1 d_B_down_10 rfl rfl ?_
    refine z_iconst X (v := 2) d_B_down_11 (by decide) ?_
    refine z_Vv X GG_ok cf_B_110 51 [zI (nI k), zI 2] [] (c_B_become l D cA ad _ _ k hk rfl _) ⟨rfl, rfl⟩ (by decide) e_B rfl rfl rfl rfl (Nat.le_of_ble_eq_true rfl) ⟨Nat.zero_le _, Nat.zero_le _⟩ d_B_down_12 (fun M5 h6 => ?_)
    have qh6 := h6.symm
    subst qh6
    exact z_vret X (by simp only [mDown, c_6, if_true, if_false]) d_B_down_15

set_option maxHeartbeats 4000000 in
set_option maxRecDepth 100000 in
theorem c_B_take (l : Launch) (D : va_G) (cA : Nat → ClassId) (ad : Nat → Nat) (M : zM) (n w : Nat) (hI : mInv n w M) (x : Int32) (k : Nat) (hk : k < 8) (ex : x = nI k) (y : Int32) (q : Nat) (hq : q < 4) (ey : y = nI q) : Cv l D cA ad y_B_take b_B_take 4 none (zr 2 42) [zR 51, zI x, zI y] M (fun M' => M' = mTakes k q M) := by
  refine zMv_of (plainFor_of_name (by decide)) (Nat.le_of_ble_eq_true rfl) ?_
  intro p e s m args below meth c A X
  subst ex
  subst ey
  refine z_aload_n X 0 d_B_take_0 rfl rfl ?_
  refine z_get X fl_B_79 51 e_B rfl rfl d_B_take_1 ?_
  refine z_iload_n X 2 d_B_take_4 rfl rfl ?_
  refine z_iald X 75 e_B_messages rfl q rfl hq (by decide) d_B_take_5 ?_
  refine z_if_ne X 16 d_B_take_6 (by decide) (fun c_6 => ?_) (fun c_6 => ?_)
  · refine z_aload_n X 0 d_B_take_16 rfl rfl ?_
    refine z_get X fl_B_67 51 e_B rfl rfl d_B_take_17 ?_
    refine z_iload_n X 1 d_B_take_20 rfl rfl ?_
    refine z_aload_n X 0 d_B_take_21 rfl rfl ?_
    refine z_get X fl_B_76 51 e_B rfl rfl d_B_take_22 ?_
    refine z_iconst X (v := 4) d_B_take_25 (by decide) ?_
    refine z_iload_n X 2 d_B_take_26 rfl rfl ?_
    refine z_imul X d_B_take_27 ?_
    refine z_iald X 74 e_B_message rfl (4 * q) (by rw [show (4 : Int32) = nI 4 from rfl, pk_mul]) (by omega) (by decide) d_B_take_28 ?_
    refine z_iast X 71 e_B_letter rfl k rfl hk (by decide) d_B_take_29 ?_
    refine z_iconst X (v := 1) d_B_take_30 (by decide) ?_
    refine z_istore_n X (L' := [(3, zI 1), (0, zR 51), (1, zI (nI k)), (2, zI (nI q))]) d_B_take_31 rfl (by decide) rfl ?_
    refine z_iload_n X 0 d_B_take_32 rfl rfl ?_
    refine z_iconst X (v := 4) d_B_take_33 (by decide) ?_
    refine z_icmp_ge X 65 d_B_take_34 (by decide) (fun h => absurd h (by decide)) (fun _ => ?_)
    refine z_aload_n X 1 d_B_take_37 rfl rfl ?_
    refine z_get X fl_B_76 51 e_B rfl rfl d_B_take_38 ?_
    refine z_iconst X (v := 4) d_B_take_41 (by decide) ?_
    refine z_iload_n X 3 d_B_take_42 rfl rfl ?_
    refine z_imul X d_B_take_43 ?_
    refine z_iload_n X 0 d_B_take_44 rfl rfl ?_
    refine z_iadd X d_B_take_45 ?_
    refine z_iconst X (v := 1) d_B_take_46 (by decide) ?_
    refine z_isub X d_B_take_47 ?_
    refine z_aload_n X 1 d_B_take_48 rfl rfl ?_
    refine z_get X fl_B_76 51 e_B rfl rfl d_B_take_49 ?_
    refine z_iconst X (v := 4) d_B_take_52 (by decide) ?_
    refine z_iload_n X 3 d_B_take_53 rfl rfl ?_
    refine z_imul X d_B_take_54 ?_
    refine z_iload_n X 0 d_B_take_55 rfl rfl ?_
    refine z_iadd X d_B_take_56 ?_
    refine z_iald X 74 e_B_message rfl (4 * q + 1) (by rw [show (4 : Int32) = nI 4 from rfl, show (1 : Int32) = nI 1 from rfl, pk_mul, nI_add]) (by omega) (by decide) d_B_take_57 ?_
    refine z_iast X 74 e_B_message rfl (4 * q + 0) (by rw [show (4 : Int32) = nI 4 from rfl, show (1 : Int32) = nI 1 from rfl, pk_mul, nI_add]; exact nI_pred _) (by omega) (by decide) d_B_take_58 ?_
    refine z_iinc X 0 (v := 2) (L' := [(3, zI 2), (0, zR 51), (1, zI (nI k)), (2, zI (nI q))]) d_B_take_59 rfl rfl (by decide) rfl ?_
    refine z_goto X 32 d_B_take_62 (by decide) ?_
    refine z_iload_n X 0 d_B_take_32 rfl rfl ?_
    refine z_iconst X (v := 4) d_B_take_33 (by decide) ?_
    refine z_icmp_ge X 65 d_B_take_34 (by decide) (fun h => absurd h (by decide)) (fun _ => ?_)
    refine z_aload_n X 1 d_B_take_37 rfl rfl ?_
    refine z_get X fl_B_76 51 e_B rfl rfl d_B_take_38 ?_
    refine z_iconst X (v := 4) d_B_take_41 (by decide) ?_
    refine z_iload_n X 3 d_B_take_42 rfl rfl ?_
    refine z_imul X d_B_take_43 ?_
    refine z_iload_n X 0 d_B_take_44 rfl rfl ?_
    refine z_iadd X d_B_take_45 ?_
    refine z_iconst X (v := 1) d_B_take_46 (by decide) ?_
    refine z_isub X d_B_take_47 ?_
    refine z_aload_n X 1 d_B_take_48 rfl rfl ?_
    refine z_get X fl_B_76 51 e_B rfl rfl d_B_take_49 ?_
    refine z_iconst X (v := 4) d_B_take_52 (by decide) ?_
    refine z_iload_n X 3 d_B_take_53 rfl rfl ?_
    refine z_imul X d_B_take_54 ?_
    refine z_iload_n X 0 d_B_take_55 rfl rfl ?_
    refine z_iadd X d_B_take_56 ?_
    refine z_iald X 74 e_B_message rfl (4 * q + 2) (by rw [show (4 : Int32) = nI 4 from rfl, show (2 : Int32) = nI 2 from rfl, pk_mul, nI_add]) (by omega) (by decide) d_B_take_57 ?_
    refine z_iast X 74 e_B_message rfl (4 * q + 1) (by rw [show (4 : Int32) = nI 4 from rfl, show (2 : Int32) = nI 2 from rfl, pk_mul, nI_add]; exact nI_pred _) (by omega) (by decide) d_B_take_58 ?_
    refine z_iinc X 0 (v := 3) (L' := [(3, zI 3), (0, zR 51), (1, zI (nI k)), (2, zI (nI q))]) d_B_take_59 rfl rfl (by decide) rfl ?_
    refine z_goto X 32 d_B_take_62 (by decide) ?_
    refine z_iload_n X 0 d_B_take_32 rfl rfl ?_
    refine z_iconst X (v := 4) d_B_take_33 (by decide) ?_
    refine z_icmp_ge X 65 d_B_take_34 (by decide) (fun h => absurd h (by decide)) (fun _ => ?_)
    refine z_aload_n X 1 d_B_take_37 rfl rfl ?_
    refine z_get X fl_B_76 51 e_B rfl rfl d_B_take_38 ?_
    refine z_iconst X (v := 4) d_B_take_41 (by decide) ?_
    refine z_iload_n X 3 d_B_take_42 rfl rfl ?_
    refine z_imul X d_B_take_43 ?_
    refine z_iload_n X 0 d_B_take_44 rfl rfl ?_
    refine z_iadd X d_B_take_45 ?_
    refine z_iconst X (v := 1) d_B_take_46 (by decide) ?_
    refine z_isub X d_B_take_47 ?_
    refine z_aload_n X 1 d_B_take_48 rfl rfl ?_
    refine z_get X fl_B_76 51 e_B rfl rfl d_B_take_49 ?_
    refine z_iconst X (v := 4) d_B_take_52 (by decide) ?_
    refine z_iload_n X 3 d_B_take_53 rfl rfl ?_
    refine z_imul X d_B_take_54 ?_
    refine z_iload_n X 0 d_B_take_55 rfl rfl ?_
    refine z_iadd X d_B_take_56 ?_
    refine z_iald X 74 e_B_message rfl (4 * q + 3) (by rw [show (4 : Int32) = nI 4 from rfl, show (3 : Int32) = nI 3 from rfl, pk_mul, nI_add]) (by omega) (by decide) d_B_take_57 ?_
    refine z_iast X 74 e_B_message rfl (4 * q + 2) (by rw [show (4 : Int32) = nI 4 from rfl, show (3 : Int32) = nI 3 from rfl, pk_mul, nI_add]; exact nI_pred _) (by omega) (by decide) d_B_take_58 ?_
    refine z_iinc X 0 (v := 4) (L' := [(3, zI 4), (0, zR 51), (1, zI (nI k)), (2, zI (nI q))]) d_B_take_59 rfl rfl (by decide) rfl ?_
    refine z_goto X 32 d_B_take_62 (by decide) ?_
    refine z_iload_n X 0 d_B_take_32 rfl rfl ?_
    refine z_iconst X (v := 4) d_B_take_33 (by decide) ?_
    refine z_icmp_ge X 65 d_B_take_34 (by decide) (fun _ => ?_) (fun h => absurd h (by decide))
    refine z_aload_n X 1 d_B_take_65 rfl rfl ?_
    refine z_get X fl_B_79 51 e_B rfl rfl d_B_take_66 ?_
    refine z_iload_n X 3 d_B_take_69 rfl rfl ?_
    refine z_dup2 X d_B_take_70 rfl rfl ?_
    refine z_iald X 75 e_B_messages rfl q rfl hq (by decide) d_B_take_71 ?_
    refine z_iconst X (v := 1) d_B_take_72 (by decide) ?_
    refine z_isub X d_B_take_73 ?_
    refine z_iast X 75 e_B_messages rfl q rfl hq (by decide) d_B_take_74 ?_
    refine z_aload_n X 1 d_B_take_75 rfl rfl ?_
    refine z_iload_n X 2 d_B_take_76 rfl rfl ?_
    refine z_Vv X GG_ok cf_B_117 51 [zI (nI k)] [] (c_B_advance l D cA ad _ _ k hk rfl ) ⟨rfl, rfl⟩ (by decide) e_B rfl rfl rfl rfl (Nat.le_of_ble_eq_true rfl) ⟨Nat.zero_le _, Nat.zero_le _⟩ d_B_take_77 (fun M5 h6 => ?_)
    have qh6 := h6.symm
    subst qh6
    exact z_vret X (by simp only [mTakes, c_6, if_true, if_false]; try rfl) d_B_take_80
  · refine z_aload_n X 0 d_B_take_9 rfl rfl ?_
    refine z_iload_n X 1 d_B_take_10 rfl rfl ?_
    refine z_iconst X (v := 2) d_B_take_11 (by decide) ?_
    refine z_Vv X GG_ok cf_B_110 51 [zI (nI k), zI 2] [] (c_B_become l D cA ad _ _ k hk rfl _) ⟨rfl, rfl⟩ (by decide) e_B rfl rfl rfl rfl (Nat.le_of_ble_eq_true rfl) ⟨Nat.zero_le _, Nat.zero_le _⟩ d_B_take_12 (fun M8 h9 => ?_)
    have qh9 := h9.symm
    subst qh9
    exact z_vret X (by simp only [mTakes, c_6, if_true, if_false]; try rfl) d_B_take_15
