/-! WHAT THE TABLES SAY, AND THE LAW'S START -/
set_option maxRecDepth 100000 in
set_option maxHeartbeats 4000000 in
theorem law_K {s : State} {b : Nat} (hts : ∀ w ∈ lw_tbl, w.before #[Value.ref b] s = true) : ∃ (D : va_G) (cA : Nat → ClassId), va_K D cls (zt cA) s ∧ zZ s := by
  have hG : ∀ w ∈ GG, w.before #[Value.ref b] s = true := fun w hw => hts w (List.mem_filter.mp hw).1
  have hm : ∀ (i : Nat) {w : Cond}, lw_tbl[i]? = some w → w.before #[Value.ref b] s = true := fun i w h => hts w (List.mem_of_getElem? h)
  obtain ⟨c0, i0, k0⟩ := u_known (C := R_P) (T := T_P) (N := 2) (n := 2) hG i_P (hm 71 (by decide +kernel))
  obtain ⟨c1, i1, k1⟩ := u_known (C := R_O) (T := T_O) (N := 2) (n := 2) hG i_O (hm 180 (by decide +kernel))
  obtain ⟨c2, i2, k2⟩ := u_known (C := R_G) (T := T_G) (N := 3) (n := 3) hG i_G (hm 93 (by decide +kernel))
  obtain ⟨c3, i3, k3⟩ := u_known (C := R_K) (T := T_K) (N := 17) (n := 17) hG i_K (hm 87 (by decide +kernel))
  obtain ⟨c4, i4, k4⟩ := u_known (C := R_Wr) (T := T_Wr) (N := 3) (n := 3) hG i_Wr (hm 52 (by decide +kernel))
  obtain ⟨c5, i5, k5⟩ := u_known (C := R_A) (T := T_A) (N := 10) (n := 10) hG i_A (hm 44 (by decide +kernel))
  obtain ⟨c6, i6, k6⟩ := u_known (C := R_B) (T := T_B) (N := 31) (n := 31) hG i_B (hm 433 (by decide +kernel))
  obtain ⟨a0, A0⟩ := law_A0 (hG _ arr_ok)
  have w1 : (Cond.arrayOver (.object "WindowPlan$Partition")).before #[Value.ref b] s = true := hm 70 (by decide +kernel)
  have w2 : (Cond.arrayOver (.object "WindowPlan$Task")).before #[Value.ref b] s = true := hm 86 (by decide +kernel)
  have w3 : (Cond.arrayOver (.object "WindowPlan$Port")).before #[Value.ref b] s = true := hm 179 (by decide +kernel)
  have n1 : (Cond.methodLinkNest "WindowPlan" 9 y_Wr_init "WindowPlan").before #[Value.ref b] s = true := hm 53 (by decide +kernel)
  have n2 : (Cond.methodLinkNest "WindowPlan" 22 y_P_init "WindowPlan").before #[Value.ref b] s = true := hm 72 (by decide +kernel)
  have n3 : (Cond.methodLinkNest "WindowPlan" 38 y_O_init "WindowPlan").before #[Value.ref b] s = true := hm 181 (by decide +kernel)
  have n4 : (Cond.methodLinkNest "WindowPlan$Task" 11 y_G_init "WindowPlan").before #[Value.ref b] s = true := hm 94 (by decide +kernel)
  obtain ⟨a1, A1⟩ := law_A w1
  obtain ⟨a2, A2⟩ := law_A w2
  obtain ⟨a3, A3⟩ := law_A w3
  refine ⟨(fun k => [c0, c1, c2, c3, c4, c5, c6].getD k c0, fun k => [i0, i1, i2, i3, i4, i5, i6].getD k i0), fun k => [a0, a1, a2, a3].getD k a0, ⟨?_, ?_⟩, ⟨va_AO.of w1, va_AO.of w2, va_AO.of w3⟩, va_Nw.of rfl n1, va_Nw.of rfl n2, va_Nw.of rfl n3, va_Nw.of rfl n4⟩
  · intro k q hq
    match k, hq with
    | 0, hq => obtain rfl : ((R_P, T_P, 2) : vw_C) = q := Option.some.inj hq; exact k0
    | 1, hq => obtain rfl : ((R_O, T_O, 2) : vw_C) = q := Option.some.inj hq; exact k1
    | 2, hq => obtain rfl : ((R_G, T_G, 3) : vw_C) = q := Option.some.inj hq; exact k2
    | 3, hq => obtain rfl : ((R_K, T_K, 17) : vw_C) = q := Option.some.inj hq; exact k3
    | 4, hq => obtain rfl : ((R_Wr, T_Wr, 3) : vw_C) = q := Option.some.inj hq; exact k4
    | 5, hq => obtain rfl : ((R_A, T_A, 10) : vw_C) = q := Option.some.inj hq; exact k5
    | 6, hq => obtain rfl : ((R_B, T_B, 31) : vw_C) = q := Option.some.inj hq; exact k6
    | k + 7, hq =>
      obtain ⟨h, -⟩ := List.getElem?_eq_some_iff.mp hq
      exact absurd h (Nat.not_lt.mpr (Nat.le_add_left 7 k))
  · intro k q hq
    match k, hq with
    | 0, hq => obtain rfl : ((a0, FieldType.int) : ClassId × FieldType) = q := Option.some.inj hq; exact A0
    | 1, hq => obtain rfl : ((a1, FieldType.object "WindowPlan$Partition") : ClassId × FieldType) = q := Option.some.inj hq; exact A1
    | 2, hq => obtain rfl : ((a2, FieldType.object "WindowPlan$Task") : ClassId × FieldType) = q := Option.some.inj hq; exact A2
    | 3, hq => obtain rfl : ((a3, FieldType.object "WindowPlan$Port") : ClassId × FieldType) = q := Option.some.inj hq; exact A3
    | k + 4, hq =>
      obtain ⟨h, -⟩ := List.getElem?_eq_some_iff.mp hq
      exact absurd h (Nat.not_lt.mpr (Nat.le_add_left 4 k))
theorem eA_len : eA_56.length = 51 := by decide +kernel
theorem eA_c51 : eA_56.all (z_cx 51) = true := by decide +kernel
theorem eA_c77 : eA_56.all (z_cx 77) = true := by decide +kernel
theorem eE_len : EE.length = 77 := by decide +kernel
theorem eE_c77 : EE.all (z_cx 77) = true := by decide +kernel
section Begin
variable {p : Program} {l : Launch} {e : Env} {s : State} {m : MethodId} {below : List Frame} {meth : Method} {c : Code} {D : va_G} {cA : Nat → ClassId} {ad : Nat → Nat} {b Ls : Nat} {xs : Nat → Int32}
set_option maxRecDepth 100000 in
set_option maxHeartbeats 4000000 in
theorem law_b3 (X : lw_X p s m b meth c D cA) (hs : lw_S s b Ls xs ad) : zW p l e room_1 s m #[Value.ref b] below meth c 77 699 (lw_Z below #[Value.ref b] s) (lw_A s) D cls cA ad EE 4 mA_8 15 [(1, zR 0), (0, zR 77)] [zR 51] := by
  refine z_astore_n X (L' := [(2, zR 51), (1, zR 0), (0, zR 77)]) d_Lw_law_15 rfl (by decide) rfl ?_
  refine z_iconst X (v := nI (5 * 0)) d_Lw_law_16 (by decide) ?_
  refine z_istore_n X (L' := lw_L 0) d_Lw_law_17 rfl (by decide) rfl ?_
  exact law_loop X hs 513 0 mA_8 rfl (by omega) ⟨0, 0, 0, 0, sJ_0, Nat.le_refl _, Nat.le_refl _⟩
set_option maxRecDepth 100000 in
set_option maxHeartbeats 4000000 in
theorem law_b2 (X : lw_X p s m b meth c D cA) (hZ : zZ s) (hs : lw_S s b Ls xs ad) : zW p l e room_1 s m #[Value.ref b] below meth c 51 366 (lw_Z below #[Value.ref b] s) (lw_A s) D cls cA ad eA_56 4 mA_8 8 [(1, zR 0), (0, zR 77)] [] := by
  refine z_newL X nf_Lw_10 (n := 51) eA_len (by decide) (fun k => mAz_8 51 (by decide) k) (fun k => mAz_82 51 k) eA_c51 rfl rfl (Nat.le_of_ble_eq_true rfl) (Nat.le_of_ble_eq_true rfl) d_Lw_law_8 (fun ad1 h1 => ?_)
  refine z_E (E' := eB_0) rfl ?_
  refine z_cs (cells' := 52) (slots' := 397) rfl rfl ?_
  refine z_dup X d_Lw_law_11 rfl ?_
  refine z_IcL X hZ GG_ok ci1_Lw_12 ci2_B ci3_B ci4_B rfl ci5_B 51 [] [zR 51] (c_B_init l D cA ad1) ⟨rfl, rfl⟩ (by decide) rfl rfl (Nat.le_of_ble_eq_true rfl) ⟨Nat.le_of_ble_eq_true rfl, Nat.le_of_ble_eq_true rfl⟩ (nE := 52) rfl (by decide) (Nat.le_of_eq eE_len) eE_c77 rfl rfl d_Lw_law_12 (fun ad2 h2 => ?_)
  refine z_cs (cells' := 77) (slots' := 699) rfl rfl ?_
  exact law_b3 X ⟨hs.1, hs.2.1, h2.trans (h1.trans hs.2.2.1), hs.2.2.2⟩
set_option maxRecDepth 100000 in
set_option maxHeartbeats 4000000 in
theorem law_b1 (X : lw_X p s m b meth c D cA) (hZ : zZ s) (hs : lw_S s b Ls xs ad) : zW p l e room_1 s m #[Value.ref b] below meth c 0 0 (lw_Z below #[Value.ref b] s) (lw_A s) D cls cA ad [] 4 mA_0 0 [(0, zR 77)] [] := by
  refine z_newL X nf_Lw_7 (n := 0) rfl (by decide) (fun k => rfl) (fun k => rfl) rfl rfl rfl (Nat.le_of_ble_eq_true rfl) (Nat.le_of_ble_eq_true rfl) d_Lw_law_0 (fun ad1 h1 => ?_)
  refine z_E (E' := eA_0) rfl ?_
  refine z_cs (cells' := 1) (slots' := 10) rfl rfl ?_
  refine z_dup X d_Lw_law_3 rfl ?_
  refine z_IcL X hZ GG_ok ci1_Lw_9 ci2_A ci3_A ci4_A rfl ci5_A 0 [] [zR 0] (c_A_init l D cA ad1) ⟨rfl, rfl⟩ (by decide) rfl rfl (Nat.le_of_ble_eq_true rfl) ⟨Nat.le_of_ble_eq_true rfl, Nat.le_of_ble_eq_true rfl⟩ (nE := 1) rfl (by decide) (by rw [eA_len]; decide) eA_c77 rfl rfl d_Lw_law_4 (fun ad2 h2 => ?_)
  refine z_cs (cells' := 51) (slots' := 366) rfl rfl ?_
  refine z_astore_n X (L' := [(1, zR 0), (0, zR 77)]) d_Lw_law_7 rfl (by decide) rfl ?_
  exact law_b2 X hZ ⟨hs.1, hs.2.1, h2.trans (h1.trans hs.2.2.1), hs.2.2.2⟩
end Begin
theorem whole_start {p : Program} {e : Env} {s : State} {m : MethodId} {below : List Frame} {meth : Method} {c : Code} (l : Launch) {b L : Nat} {xs : Nat → Int32} (hL : L ≤ 2560) (C0 : lw_At p s m meth c b L xs) : W p l e room_1 s m #[Value.ref b] below meth c s.heap [] 0 0 (lw_Z below #[Value.ref b] s) (entryFrame m ([Value.ref b] : List Value).toArray 4) := by
  obtain ⟨hx, hb, hr, hml, hown, hts, hX, hbl, hlocks, hgv⟩ := id C0
  obtain ⟨D, cA, hK, hZ⟩ := law_K hts
  have X : lw_X p s m b meth c D cA := ⟨hx, hb, hml, hown, fun w hw => hts w (List.mem_filter.mp hw).1, hK, fun q h => h, hr, hlocks⟩
  have hs : lw_S s b L xs (fun _ => b) := ⟨hX, hbl, rfl, hL⟩
  have hl := lv_entry ([.ref b]) (n := 4) (Nat.le_of_ble_eq_true rfl)
  rw [lg_entry_eq]
  exact law_b1 X hZ hs s.heap [] _ (fun k q h => by simp [z_w] at h) ⟨fun i j p q h => by simp [z_w] at h, fun k q h => by simp [z_w] at h⟩ va_S.rf hl
