/-! THE LAW'S LOOP -/
theorem sK_mono {a b a' b' : Nat} {M : zM} (h : sK a b M) (h1 : a ≤ a') (h2 : b ≤ b') : sK a' b' M := by
  obtain ⟨n, w, g, t, hJ, hg, ht⟩ := h
  exact ⟨n, w, g, t, hJ, by omega, by omega⟩
section Loop
variable {p : Program} {l : Launch} {e : Env} {s : State} {m : MethodId} {below : List Frame} {meth : Method} {c : Code} {D : va_G} {cA : Nat → ClassId} {ad : Nat → Nat} {b Ls : Nat} {xs : Nat → Int32}
theorem law_exit (X : lw_X p s m b meth c D cA) (M : zM) (k : Nat) : lw_W p l e s m b below meth c (lw_Z below #[Value.ref b] s) D cA ad M 458 k [] := by
  refine z_iconst X (v := 1) d_Lw_law_458 (by decide) ?_
  intro H locs ls hP hD hS hl
  refine va_forget (fun q hq => hS.2.2 q hq) ?_
  refine W.widen (k := 600000) (n := 7302250) (Nat.le_of_ble_eq_true rfl) (Nat.le_of_ble_eq_true rfl) ?_
  exact lw_ret X.1 X.2.1 X.2.2.2.2.2.2.2.1 X.2.2.2.2.2.2.2.2 d_Lw_law_459
theorem law_sw (X : lw_X p s m b meth c D cA) (hs : lw_S s b Ls xs ad) {Q : State → Prop} {M : zM} {k n w g t : Nat} (hk : 5 * k + 5 ≤ Ls) (hJ : sJ n w g t M) (hg : g ≤ 3000000) (ht : t ≤ 40000) (next : ∀ M2 : zM, sK (g + 4860) (t + 60) M2 → lw_W p l e s m b below meth c Q D cA ad M2 452 k []) : lw_W p l e s m b below meth c Q D cA ad M 26 k [] := by
  refine z_aload_n X 3 d_Lw_law_26 rfl rfl ?_
  refine z_iload_n X 0 d_Lw_law_27 rfl rfl ?_
  refine z_sld X hs.1 hs.2.1 (Nat.not_le.mpr hs.2.1) hs.2.2.1 (5 * k) rfl (by omega) (by have := hs.2.2.2; omega) d_Lw_law_28 ?_
  refine z_bipush X (v := 15) d_Lw_law_29 (by decide) ?_
  refine z_iand X d_Lw_law_31 ?_
  refine z_topi X (fun y hy => ?_)
  clear hy
  by_cases h0 : y = 0
  · subst h0
    exact z_tabIn X 96 d_Lw_law_32 (by decide) (by decide) rfl (by decide) (lc_window X hs hk hJ next)
  by_cases h1 : y = 1
  · subst h1
    exact z_tabIn X 129 d_Lw_law_32 (by decide) (by decide) rfl (by decide) (lc_process X hs hk hJ next)
  by_cases h2 : y = 2
  · subst h2
    exact z_tabIn X 182 d_Lw_law_32 (by decide) (by decide) rfl (by decide) (lc_order X hs hk hJ next)
  by_cases h3 : y = 3
  · subst h3
    exact z_tabIn X 225 d_Lw_law_32 (by decide) (by decide) rfl (by decide) (lc_action X hs hk hJ next)
  by_cases h4 : y = 4
  · subst h4
    exact z_tabIn X 258 d_Lw_law_32 (by decide) (by decide) rfl (by decide) (lc_on X hs hk hJ next)
  by_cases h5 : y = 5
  · subst h5
    exact z_tabIn X 281 d_Lw_law_32 (by decide) (by decide) rfl (by decide) (lc_start X hs hk hJ next)
  by_cases h6 : y = 6
  · subst h6
    exact z_tabIn X 304 d_Lw_law_32 (by decide) (by decide) rfl (by decide) (lc_run X hs hk hJ hg ht next)
  by_cases h7 : y = 7
  · subst h7
    exact z_tabIn X 327 d_Lw_law_32 (by decide) (by decide) rfl (by decide) (lc_partition X hs hk hJ next)
  by_cases h8 : y = 8
  · subst h8
    exact z_tabIn X 350 d_Lw_law_32 (by decide) (by decide) rfl (by decide) (lc_state X hs hk hJ next)
  by_cases h9 : y = 9
  · subst h9
    exact z_tabIn X 383 d_Lw_law_32 (by decide) (by decide) rfl (by decide) (lc_port X hs hk hJ next)
  by_cases h10 : y = 10
  · subst h10
    exact z_tabIn X 406 d_Lw_law_32 (by decide) (by decide) rfl (by decide) (lc_semaphore X hs hk hJ next)
  by_cases h11 : y = 11
  · subst h11
    exact z_tabIn X 429 d_Lw_law_32 (by decide) (by decide) rfl (by decide) (lc_count X hs hk hJ hg ht next)
  exact z_tabOut X 452 d_Lw_law_32 (law_out h0 h1 h2 h3 h4 h5 h6 h7 h8 h9 h10 h11) (by decide) (next M (sK_same hJ rfl))
theorem law_loop (X : lw_X p s m b meth c D cA) (hs : lw_S s b Ls xs ad) : ∀ (f k : Nat) (M : zM), k + f = 513 → 5 * k ≤ Ls → sK (4860 * k) (60 * k) M → lw_W p l e s m b below meth c (lw_Z below #[Value.ref b] s) D cA ad M 18 k []
  | 0, k, M, hf, hk, hK => by
    have := hs.2.2.2
    omega
  | f + 1, k, M, hf, hk, hK => by
    refine z_iload_n X 0 d_Lw_law_18 rfl rfl ?_
    refine z_aload_n X 3 d_Lw_law_19 rfl rfl ?_
    refine z_slen X hs.1 hs.2.1 (Nat.not_le.mpr hs.2.1) hs.2.2.1 d_Lw_law_20 ?_
    refine z_iconst X (v := 5) d_Lw_law_21 (by decide) ?_
    refine z_isub X d_Lw_law_22 ?_
    refine z_icmp_gt X 458 d_Lw_law_23 (by decide) (fun _ => law_exit X M k) (fun h => ?_)
    have hk5 := law_cmp hs.2.2.2 hk h
    obtain ⟨n, w, g, t, hJ, hg, ht⟩ := hK
    have hL := hs.2.2.2
    refine law_sw X hs hk5 hJ (by omega) (by omega) (fun M2 h2 => ?_)
    refine z_iinc X 0 (v := nI (5 * (k + 1))) (L' := lw_L (k + 1)) d_Lw_law_452 rfl (by rw [show Int32.ofInt 5 = nI 5 by decide]; exact nI_add (5 * k) 5) (by decide) rfl ?_
    refine z_goto X 18 d_Lw_law_455 (by decide) ?_
    exact law_loop X hs f (k + 1) M2 (by omega) (by omega) (sK_mono h2 (by omega) (by omega))
end Loop
