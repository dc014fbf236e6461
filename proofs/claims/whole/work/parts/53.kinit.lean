abbrev fK0 : List zK := [ki, kn, ki, ki, ki, ki, ki, ki, ki, kj, ki, ki, ki, ki, ki, ki, ki]
abbrev fK (n : Nat) : List zK := [ki, kr n, ki, ki, ki, ki, ki, ki, ki, kj, ki, ki, ki, ki, ki, ki, ki]
/-- the world behind Program's constructor at the world's end -/
abbrev eG (E : List zC) : List zC := ((((E ++ [ob 2 [kn, kn, ki]]) ++ [ia 8]).set E.length (ob 2 [kr (E.length + 1), kn, ki])) ++ [ia 8]).set E.length (ob 2 [kr (E.length + 1), kr (E.length + 1 + 1), ki])
abbrev eK (E : List zC) (c0 : Nat) : List zC := (eG E).set c0 (ob 3 (fK E.length))
def tI (c0 : Nat) (x : Int32) (M : zM) : zM := z_si (z_si (z_si M c0 11 (-1)) c0 16 (-1)) c0 0 x
theorem z_L2 {c0 n : Nat} {x : Int32} (h : c0 < n) : (z_args 0 [zR c0, zI x]).all (fun q => z_cv n q.2) = true := by
  show (decide (c0 < n) && (true && true)) = true
  rw [decide_eq_true h]
  rfl
theorem z_s2 {c0 c1 n : Nat} (h : c0 < n) (h1 : c1 < n) : [zR c1, zR c0].all (z_cv n) = true := by
  show (decide (c1 < n) && (decide (c0 < n) && true)) = true
  rw [decide_eq_true h, decide_eq_true h1]
  rfl
section ZE
variable {p : Program} {l : Launch} {e : Env} {R : Room} {s : State} {m : MethodId} {args : Array Value} {below : List Frame} {meth : Method} {c : Code} {cells slots : Nat} {Q : State → Prop} {A : Nat → Prop} {D : va_G} {cl : List vw_C} {cA : Nat → ClassId} {ad : Nat → Nat} {E : List zC} {nL : Nat} {M : zM} {pc : Nat} {L : List (Nat × zA)} {st : List zA}
theorem z_E {E' : List zC} (h : E = E') (k : zW p l e R s m args below meth c cells slots Q A D cl cA ad E' nL M pc L st) : zW p l e R s m args below meth c cells slots Q A D cl cA ad E nL M pc L st := by
  subst h
  exact k
theorem z_cs {cells' slots' : Nat} (h1 : cells = cells') (h2 : slots = slots') (k : zW p l e R s m args below meth c cells' slots' Q A D cl cA ad E nL M pc L st) : zW p l e R s m args below meth c cells slots Q A D cl cA ad E nL M pc L st := by
  subst h1; subst h2
  exact k
end ZE
set_option maxHeartbeats 4000000 in
set_option maxRecDepth 100000 in
theorem c_K_init (l : Launch) (D : va_G) (cA : Nat → ClassId) (ad : Nat → Nat) (E : List zC) (M : zM) (c0 : Nat) (x : Int32) (hE : E[c0]? = some (ob 3 fK0)) (hC : E.all (z_cx E.length) = true) (h6 : M.1 c0 6 = 0) (hz : ∀ k, M.1 E.length k = 0) (hy : ∀ k, M.2 E.length k = 0) (hz1 : ∀ k, M.1 (E.length + 1) k = 0) (hz2 : ∀ k, M.1 (E.length + 1 + 1) k = 0) : Cc l D cA ad E y_K_init b_K_init 2 (zq 2 3 19 32) [zR c0, zI x] M (eK E c0) (tI c0 x M) 3 19 := by
  have hc0 : c0 < E.length := (List.getElem?_eq_some_iff.mp hE).1
  have hl1 : (E ++ [ob 2 [kn, kn, ki]]).length = E.length + 1 := by rw [List.length_append]; rfl
  have hE1 : (E ++ [ob 2 [kn, kn, ki]])[E.length]? = some (ob 2 [kn, kn, ki]) := by rw [List.getElem?_append_right (Nat.le_refl _), Nat.sub_self]; rfl
  have hC1 : (E ++ [ob 2 [kn, kn, ki]]).all (z_cx (E ++ [ob 2 [kn, kn, ki]]).length) = true := by rw [hl1]; exact z_cl_snoc hC rfl
  have hG := fun ad1 => c_G_init l D cA ad1 (E ++ [ob 2 [kn, kn, ki]]) M E.length hE1 hC1 (by rw [hl1]; exact hz1) (by rw [hl1]; exact hz2)
  have hEc : (eG E)[c0]? = some (ob 3 fK0) := by
    rw [List.getElem?_set_ne (by omega)]
    refine z_app ?_
    rw [List.getElem?_set_ne (by omega)]
    exact z_app (z_app hE)
  have hEk : (eK E c0)[c0]? = some (ob 3 (fK E.length)) := List.getElem?_set_self (List.getElem?_eq_some_iff.mp hEc).1
  refine zMc_of (plainFor_of_name (by decide)) rfl (Nat.le_of_ble_eq_true rfl) ?_
  intro p e s m args below meth c A X hin hZ
  refine z_aload_n X 0 d_K_init_0 rfl rfl ?_
  refine z_objI X ob_K ob_2 ob_3 (by decide) (Nat.le_of_ble_eq_true rfl) d_K_init_1 ?_
  refine z_aload_n X 0 d_K_init_4 rfl rfl ?_
  refine z_new X nf_K_9 rfl hz hy hC (z_L2 hc0) (z_s1 hc0) (by decide) (by decide) d_K_init_5 (fun ad1 ha1 => ?_)
  refine z_dup X d_K_init_8 rfl ?_
  refine z_IcN X hZ GG_ok hZ.2.2.2.2 ci2_G ci3_G ci4_G rfl ci5_G E.length [] [zR E.length, zR c0] (hG ad1) ⟨rfl, rfl⟩ (by decide) rfl rfl (Nat.le_of_ble_eq_true rfl) (by decide) hl1 (z_L2 (by omega)) (z_s2 (by omega) (by omega)) d_K_init_9 (fun ad2 ha2 => ?_)
  rw [hl1]
  refine z_putFr X hin fo_K_12 c0 E.length hEc (by show 1 < 17; omega) (fun _ => rfl) (fun _ => rfl) d_K_init_12 (E' := eK E c0) rfl ?_
  refine z_aload_n X 0 d_K_init_15 rfl rfl ?_
  refine z_iconst X (v := 0) d_K_init_16 (by decide) ?_
  refine z_puti X fl_K_18 c0 hEk rfl rfl rfl d_K_init_17 ?_
  refine z_aload_n X 0 d_K_init_20 rfl rfl ?_
  refine z_iconst X (v := (-1)) d_K_init_21 (by decide) ?_
  refine z_puti X fl_K_22 c0 hEk rfl rfl rfl d_K_init_22 ?_
  refine z_aload_n X 0 d_K_init_25 rfl rfl ?_
  refine z_iconst X (v := (-1)) d_K_init_26 (by decide) ?_
  refine z_puti X fl_K_25 c0 hEk rfl rfl rfl d_K_init_27 ?_
  refine z_aload_n X 0 d_K_init_30 rfl rfl ?_
  refine z_iload_n X 1 d_K_init_31 rfl rfl ?_
  refine z_putFi X hin fo_K_28 c0 hEk rfl d_K_init_32 ?_
  exact z_cretM X (fun q hq => (ha2 q (by omega)).trans (ha1 q hq)) rfl (by unfold tI; rw [z_si_id h6]) d_K_init_35
