theorem z_si_id {M : zM} {c k : Nat} {x : Int32} (h : M.1 c k = x) : z_si M c k x = M := by
  refine Prod.ext ?_ rfl
  funext a b
  show (if a = c ∧ b = k then x else M.1 a b) = M.1 a b
  by_cases e : a = c ∧ b = k
  · rw [if_pos e, e.1, e.2, h]
  · rw [if_neg e]
theorem z_cx_mono {n n' : Nat} (h : n ≤ n') (x : zC) (hx : z_cx n x = true) : z_cx n' x = true := by
  rcases x with ⟨ci, fs⟩ | ⟨t, m⟩ | ⟨t, rs⟩
  · refine List.all_eq_true.mpr (fun f hf => ?_)
    have := List.all_eq_true.mp hx f hf
    rcases f with _ | _ | _ | r
    · rfl
    · rfl
    · rfl
    · exact decide_eq_true (Nat.lt_of_lt_of_le (of_decide_eq_true this) h)
  · rfl
  · refine List.all_eq_true.mpr (fun f hf => ?_)
    have := List.all_eq_true.mp hx f hf
    cases f with
    | none => rfl
    | some r => exact decide_eq_true (Nat.lt_of_lt_of_le (of_decide_eq_true this) h)
theorem z_cl_snoc {E : List zC} {n : Nat} (h : E.all (z_cx n) = true) {x : zC} (hx : z_cx (n + 1) x = true) : (E ++ [x]).all (z_cx (n + 1)) = true := by
  rw [List.all_append, Bool.and_eq_true]
  exact ⟨List.all_eq_true.mpr (fun y hy => z_cx_mono (by omega) y (List.all_eq_true.mp h y hy)), by rw [List.all_cons, hx]; rfl⟩
theorem z_cl_set {E : List zC} {n : Nat} (h : E.all (z_cx n) = true) (c : Nat) {x : zC} (hx : z_cx n x = true) : (E.set c x).all (z_cx n) = true := by
  refine List.all_eq_true.mpr (fun y hy => ?_)
  rcases List.mem_or_eq_of_mem_set hy with q | q
  · exact List.all_eq_true.mp h y q
  · rw [q]; exact hx
theorem z_app {E F : List zC} {c : Nat} {x : zC} (h : E[c]? = some x) : (E ++ F)[c]? = some x := by
  rw [List.getElem?_append_left (List.getElem?_eq_some_iff.mp h).1]
  exact h
abbrev zq (f cs ss n : Nat) : Room := { frames := f, cells := cs, slots := ss, locals := n }
abbrev Cc (l : Launch) (D : va_G) (cA : Nat → ClassId) (ad : Nat → Nat) (E : List zC) (y : MethodName) (b : ByteArray) (nL : Nat) (rm : Room) (as : List zA) (M : zM) (E' : List zC) (M' : zM) (mc ms : Nat) : Prop := zMc l D cls (zt cA) cA ad E GG y b nL rm as M E' M' mc ms
set_option maxHeartbeats 4000000 in
set_option maxRecDepth 100000 in
theorem c_P_init (l : Launch) (D : va_G) (cA : Nat → ClassId) (ad : Nat → Nat) (E : List zC) (M : zM) (c0 : Nat) (hE : E[c0]? = some (.inl (0, [ki, ki]))) (h0 : M.1 c0 0 = 0) (h1 : M.1 c0 1 = 0) : Cc l D cA ad E y_P_init b_P_init 1 (zq 1 0 0 12) [zR c0] M E M 0 0 := by
  refine zMc_of (plainFor_of_name (by decide)) rfl (Nat.le_of_ble_eq_true rfl) ?_
  intro p e s m args below meth c A X hin hZ
  refine z_aload_n X 0 d_P_init_0 rfl rfl ?_
  refine z_objI X ob_P ob_2 ob_3 (by decide) (Nat.le_of_ble_eq_true rfl) d_P_init_1 ?_
  refine z_aload_n X 0 d_P_init_4 rfl rfl ?_
  refine z_iconst X (v := 0) d_P_init_5 (by decide) ?_
  refine z_puti X fl_P_9 c0 hE rfl rfl rfl d_P_init_6 ?_
  refine z_aload_n X 0 d_P_init_9 rfl rfl ?_
  refine z_iconst X (v := 0) d_P_init_10 (by decide) ?_
  refine z_puti X fl_P_15 c0 hE rfl rfl rfl d_P_init_11 ?_
  exact z_cretM X (fun _ _ => rfl) rfl (by rw [z_si_id h0, z_si_id h1]) d_P_init_14
theorem z_L0 {c0 n : Nat} (h : c0 < n) : (z_args 0 [zR c0]).all (fun q => z_cv n q.2) = true := by
  show (decide (c0 < n) && true) = true
  rw [decide_eq_true h]
  rfl
theorem z_s1 {c0 n : Nat} (h : c0 < n) : [zR c0].all (z_cv n) = true := by
  show (decide (c0 < n) && true) = true
  rw [decide_eq_true h]
  rfl
set_option maxHeartbeats 4000000 in
set_option maxRecDepth 100000 in
theorem c_O_init (l : Launch) (D : va_G) (cA : Nat → ClassId) (ad : Nat → Nat) (E : List zC) (M : zM) (c0 : Nat) (hE : E[c0]? = some (.inl (1, [kn, ki]))) (hC : E.all (z_cx E.length) = true) (hz : ∀ k, M.1 E.length k = 0) : Cc l D cA ad E y_O_init b_O_init 1 (zq 1 1 4 12) [zR c0] M ((E ++ [ia 4]).set c0 (ob 1 [kr E.length, ki])) M 1 4 := by
  have hc0 : c0 < E.length := (List.getElem?_eq_some_iff.mp hE).1
  refine zMc_of (plainFor_of_name (by decide)) rfl (Nat.le_of_ble_eq_true rfl) ?_
  intro p e s m args below meth c A X hin hZ
  refine z_aload_n X 0 d_O_init_0 rfl rfl ?_
  refine z_objI X ob_O ob_2 ob_3 (by decide) (Nat.le_of_ble_eq_true rfl) d_O_init_1 ?_
  refine z_aload_n X 0 d_O_init_4 rfl rfl ?_
  refine z_iconst X (v := 4) d_O_init_5 (by decide) ?_
  refine z_newa X 0 rfl arr_ok (k := 4) rfl hz hC (z_L0 hc0) (z_s1 hc0) (by decide) (by decide) (by decide) rfl d_O_init_6 (fun ad1 ha1 => ?_)
  refine z_putFr X hin fo_O_9 c0 E.length (z_app hE) (by show 0 < 2; omega) (fun _ => rfl) (fun _ => rfl) d_O_init_8 rfl ?_
  exact z_cretM X ha1 rfl rfl d_O_init_11
set_option maxHeartbeats 4000000 in
set_option maxRecDepth 100000 in
theorem c_G_init (l : Launch) (D : va_G) (cA : Nat → ClassId) (ad : Nat → Nat) (E : List zC) (M : zM) (c0 : Nat) (hE : E[c0]? = some (ob 2 [kn, kn, ki])) (hC : E.all (z_cx E.length) = true) (hz : ∀ k, M.1 E.length k = 0) (hz1 : ∀ k, M.1 (E.length + 1) k = 0) : Cc l D cA ad E y_G_init b_G_init 1 (zq 1 2 16 12) [zR c0] M (((((E ++ [ia 8]).set c0 (ob 2 [kr E.length, kn, ki])) ++ [ia 8]).set c0 (ob 2 [kr E.length, kr (E.length + 1), ki]))) M 2 16 := by
  have hc0 : c0 < E.length := (List.getElem?_eq_some_iff.mp hE).1
  have hl1 : ((E ++ [ia 8]).set c0 (ob 2 [kr E.length, kn, ki])).length = E.length + 1 := by rw [List.length_set, List.length_append]; rfl
  have hE1 : ((E ++ [ia 8]).set c0 (ob 2 [kr E.length, kn, ki]))[c0]? = some (ob 2 [kr E.length, kn, ki]) := by rw [List.getElem?_set_self (by rw [List.length_append]; omega)]
  have hC1 : ((E ++ [ia 8]).set c0 (ob 2 [kr E.length, kn, ki])).all (z_cx (E.length + 1)) = true := z_cl_set (z_cl_snoc hC rfl) c0 (by show (decide (E.length < E.length + 1) && (true && (true && true))) = true; rw [decide_eq_true (by omega)]; rfl)
  refine zMc_of (plainFor_of_name (by decide)) rfl (Nat.le_of_ble_eq_true rfl) ?_
  intro p e s m args below meth c A X hin hZ
  refine z_aload_n X 0 d_G_init_0 rfl rfl ?_
  refine z_objI X ob_G ob_2 ob_3 (by decide) (Nat.le_of_ble_eq_true rfl) d_G_init_1 ?_
  refine z_aload_n X 0 d_G_init_4 rfl rfl ?_
  refine z_bipush X (v := 8) d_G_init_5 (by decide) ?_
  refine z_newa X 0 rfl arr_ok (k := 8) rfl hz hC (z_L0 hc0) (z_s1 hc0) (by decide) (by decide) (by decide) rfl d_G_init_7 (fun ad1 ha1 => ?_)
  refine z_putFr X hin fo_G_9 c0 E.length (z_app hE) (by show 0 < 3; omega) (fun _ => rfl) (fun _ => rfl) d_G_init_9 rfl ?_
  refine z_aload_n X 0 d_G_init_12 rfl rfl ?_
  refine z_bipush X (v := 8) d_G_init_13 (by decide) ?_
  refine z_newa X 0 rfl arr_ok (k := 8) hl1 hz1 hC1 (z_L0 (by omega)) (z_s1 (by omega)) (by decide) (by decide) (by decide) rfl d_G_init_15 (fun ad2 ha2 => ?_)
  refine z_putFr X hin fo_G_15 c0 (E.length + 1) (z_app hE1) (by show 1 < 3; omega) (fun _ => rfl) (fun _ => rfl) d_G_init_17 rfl ?_
  exact z_cretM X (fun q hq => (ha2 q (by omega)).trans (ha1 q hq)) rfl rfl d_G_init_20
set_option maxHeartbeats 4000000 in
set_option maxRecDepth 100000 in
theorem c_Wr_init (l : Launch) (D : va_G) (cA : Nat → ClassId) (ad : Nat → Nat) (E : List zC) (M : zM) (c0 : Nat) (hE : E[c0]? = some (ob 4 [kn, kn, ki])) (hC : E.all (z_cx E.length) = true) (hz : ∀ k, M.1 E.length k = 0) (hz1 : ∀ k, M.1 (E.length + 1) k = 0) : Cc l D cA ad E y_Wr_init b_Wr_init 1 (zq 1 2 16 12) [zR c0] M (((((E ++ [ia 8]).set c0 (ob 4 [kr E.length, kn, ki])) ++ [ia 8]).set c0 (ob 4 [kr E.length, kr (E.length + 1), ki]))) M 2 16 := by
  have hc0 : c0 < E.length := (List.getElem?_eq_some_iff.mp hE).1
  have hl1 : ((E ++ [ia 8]).set c0 (ob 4 [kr E.length, kn, ki])).length = E.length + 1 := by rw [List.length_set, List.length_append]; rfl
  have hE1 : ((E ++ [ia 8]).set c0 (ob 4 [kr E.length, kn, ki]))[c0]? = some (ob 4 [kr E.length, kn, ki]) := by rw [List.getElem?_set_self (by rw [List.length_append]; omega)]
  have hC1 : ((E ++ [ia 8]).set c0 (ob 4 [kr E.length, kn, ki])).all (z_cx (E.length + 1)) = true := z_cl_set (z_cl_snoc hC rfl) c0 (by show (decide (E.length < E.length + 1) && (true && (true && true))) = true; rw [decide_eq_true (by omega)]; rfl)
  refine zMc_of (plainFor_of_name (by decide)) rfl (Nat.le_of_ble_eq_true rfl) ?_
  intro p e s m args below meth c A X hin hZ
  refine z_aload_n X 0 d_Wr_init_0 rfl rfl ?_
  refine z_objI X ob_Wr ob_2 ob_3 (by decide) (Nat.le_of_ble_eq_true rfl) d_Wr_init_1 ?_
  refine z_aload_n X 0 d_Wr_init_4 rfl rfl ?_
  refine z_bipush X (v := 8) d_Wr_init_5 (by decide) ?_
  refine z_newa X 0 rfl arr_ok (k := 8) rfl hz hC (z_L0 hc0) (z_s1 hc0) (by decide) (by decide) (by decide) rfl d_Wr_init_7 (fun ad1 ha1 => ?_)
  refine z_putFr X hin fo_Wr_9 c0 E.length (z_app hE) (by show 0 < 3; omega) (fun _ => rfl) (fun _ => rfl) d_Wr_init_9 rfl ?_
  refine z_aload_n X 0 d_Wr_init_12 rfl rfl ?_
  refine z_bipush X (v := 8) d_Wr_init_13 (by decide) ?_
  refine z_newa X 0 rfl arr_ok (k := 8) hl1 hz1 hC1 (z_L0 (by omega)) (z_s1 (by omega)) (by decide) (by decide) (by decide) rfl d_Wr_init_15 (fun ad2 ha2 => ?_)
  refine z_putFr X hin fo_Wr_15 c0 (E.length + 1) (z_app hE1) (by show 1 < 3; omega) (fun _ => rfl) (fun _ => rfl) d_Wr_init_17 rfl ?_
  exact z_cretM X (fun q hq => (ha2 q (by omega)).trans (ha1 q hq)) rfl rfl d_Wr_init_20
