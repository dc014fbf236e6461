/-! THE LAW'S OWN ROWS: its script lies outside of the world, as 'cell' 77 -/
def z_c7 (n : Nat) : zA → Bool
  | .inr (.inr (some r)) => decide (r < n) || decide (r = 77)
  | _ => true
theorem z_v_7 {ad ad' : Nat → Nat} {n : Nat} (h : ∀ c, c < n → ad' c = ad c) (h7 : ad' 77 = ad 77) (v : zA) (hv : z_c7 n v = true) : z_v ad' v = z_v ad v := by
  rcases v with x | x | _ | r
  · rfl
  · rfl
  · rfl
  · show Value.ref _ = Value.ref _
    rcases (Bool.or_eq_true _ _).mp hv with q | q
    · rw [h r (of_decide_eq_true q)]
    · rw [of_decide_eq_true q, h7]
theorem z_L_7 {ad ad' : Nat → Nat} {n : Nat} (h : ∀ c, c < n → ad' c = ad c) (h7 : ad' 77 = ad 77) : ∀ L : List (Nat × zA), L.all (fun q => z_c7 n q.2) = true → L.map (fun q => (q.1, z_v ad' q.2)) = L.map (fun q => (q.1, z_v ad q.2))
  | [], _ => rfl
  | q :: L, hL => by
    rw [List.all_cons, Bool.and_eq_true] at hL
    rw [List.map_cons, List.map_cons, z_v_7 h h7 q.2 hL.1, z_L_7 h h7 L hL.2]
section ZLaw
variable {p : Program} {l : Launch} {e : Env} {R : Room} {s : State} {m : MethodId} {args : Array Value} {below : List Frame} {meth : Method} {c : Code} {cells slots : Nat} {Q : State → Prop} {A : Nat → Prop} {D : va_G} {cl : List vw_C} {tys : List (ClassId × FieldType)} {cA : Nat → ClassId} {ad : Nat → Nat} {E E' : List zC} {nL : Nat} {M M' : zM} {pc : Nat} {L L' : List (Nat × zA)} {st stk : List zA} {Ts : List Cond} {own : String} {cc : ByteArray} {ret : Option FieldType}
theorem z_newL (X : zX p s m args meth c A D cl tys Ts own cc nL ret) {index ci Nf : Nat} {fs : List zK} (nf : zN1 cl Ts own index ci Nf fs) {n : Nat} (hn : E.length = n) (hn7 : n < 77) (h1 : ∀ k, M.1 n k = 0) (h2 : ∀ k, M.2 n k = 0) (hE : E.all (z_cx n) = true) (hL : L.all (fun q => z_c7 n q.2) = true) (hst : st.all (z_cv n) = true) (hcells : cells + 1 ≤ R.cells) (hslots : slots + Nf ≤ R.slots) (hd : decode cc pc = .ok (.new index, 3))
    (kk : ∀ ad' : Nat → Nat, ad' 77 = ad 77 → zW p l e R s m args below meth c (cells + 1) (slots + Nf) Q A D cl cA ad' (E ++ [.inl (ci, fs)]) nL M (pc + 3) L (zR n :: st)) : zW p l e R s m args below meth c cells slots Q A D cl cA ad E nL M pc L st := by
  subst hn
  intro H locs ls hP hD hS hl
  obtain ⟨C, T, tf, g1, g2, g3, g4, g5, g6, g7, g8⟩ := nf
  refine va_new (ci := ci) (fs := fs.map z_dv) (C := C) (T := T) (N := Nf) X.1 X.2.1 X.2.2.2.2.1 g2 tf g3 X.2.2.2.1 (X.2.2.2.2.1 _ g4) (X.2.2.2.2.1 _ g5) (X.2.2.2.2.1 _ g6) X.2.2.2.2.2.1 hP hD hS X.2.2.2.2.2.2.1 g1 g8 hcells hslots hd (fun q H1 hP1 hD1 hS1 => ?_)
  have ho := z_up_old ad E.length q
  have h7 : va_up ad E.length q 77 = ad 77 := by
    show (if 77 = E.length then q else ad 77) = ad 77
    rw [if_neg (by omega)]
  have hw : z_w cA ad M 0 E ++ [(q, .inr (ci, fs.map z_dv))] = z_w cA (va_up ad E.length q) M 0 (E ++ [.inl (ci, fs)]) := by
    rw [z_w_snoc cA M ho hE, z_up_new]
    show _ = _ ++ [(q, Sum.inr (ci, z_fs (va_up ad E.length q) M E.length 0 fs))]
    rw [z_fs_0 (va_up ad E.length q) h1 h2 fs 0 g7]
  rw [hw] at hP1 hD1
  have hk := kk (va_up ad E.length q) h7 H1 locs ls hP1 hD1 hS1 (by rw [z_L_7 ho h7 L hL]; exact hl)
  rw [List.map_cons, z_st_ad ho st hst] at hk
  have e1 : z_v (va_up ad E.length q) (zR E.length) = .ref q := by
    show Value.ref _ = Value.ref _
    rw [z_up_new]
  rw [e1] at hk
  exact hk
theorem z_IcL {y : MethodName} {b2 : ByteArray} {nL2 n index mc ms : Nat} {rm : Room} (X : zX p s m args meth c A D cl tys Ts own cc nL ret) (hZ : zZ s) (hGG : GoodIn Ts Ts) (h1 : Cond.methodLink own index y ∈ Ts) (h2 : Cond.instanceMethod y ∈ Ts) (h3 : Cond.initialized y.cls ∈ Ts) (h4 : Cond.code y b2 nL2 none ∈ Ts) (hy1 : y.name = "<init>") (hy : y.cls ≠ "java/lang/invoke/MethodHandle" ∧ y.cls ≠ "java/lang/invoke/VarHandle" ∧ (parseMethodDescriptor y.desc).map (fun d => d.parameters.length) = some n) (c0 : Nat) (as st : List zA) (hM : zMc l D cl tys cA ad E Ts y b2 nL2 rm (zR c0 :: as) M E' M' mc ms) (hrm : rm.cells = mc ∧ rm.slots = ms) (hroom : rm.frames + 1 ≤ R.frames ∧ 8 + (nL2 + 11) + rm.locals ≤ R.locals) (hn : as.length = n) (hs : stk = as.reverse ++ zR c0 :: st) (hW : ((st.map (z_v ad)).map fun v => v.category).sum ≤ 8) (hf : cells + mc ≤ R.cells ∧ slots + ms ≤ R.slots) {nE : Nat} (hnE : E.length = nE) (hnE7 : nE ≤ 77) (hE7 : E'.length ≤ 77) (hEc : E'.all (z_cx 77) = true) (hL : L.all (fun q => z_c7 nE q.2) = true) (hst : st.all (z_cv nE) = true) (hd : decode cc pc = .ok (.invokespecial index, 3))
    (k : ∀ ad' : Nat → Nat, ad' 77 = ad 77 → zW p l e R s m args below meth c (cells + mc) (slots + ms) Q A D cl cA ad' E' nL M' (pc + 3) L st) : zW p l e R s m args below meth c cells slots Q A D cl cA ad E nL M pc L stk := by
  subst hnE
  subst hs
  intro H locs ls hP hD hS hl
  have hFc := z_A cA ad hD hS X.2.2.2.2.2.2.1
  have hG : GoodIn Ts (Cond.code y b2 nL2 none :: Ts) := fun w hw => by
    rcases List.mem_cons.mp hw with q | q
    · subst q; exact hGG _ h4
    · exact hGG w q
  refine va_callv (va_runI (As := as.map (z_v ad)) (rest := st.map (z_v ad)) (b := ad c0) ⟨X.1, X.2.1, X.2.2.1, X.2.2.2.1, X.2.2.2.2.1⟩ (hM H.size) (cwI n X.2.2.2.2.1 hG rfl hrm.1 hrm.2 (X.2.2.2.2.1 _ h3) (X.2.2.2.2.1 _ h1) (X.2.2.2.2.1 _ h2) hy1 hy hroom) ⟨fun a U g mk q => by obtain ⟨q0, q1, qP, qK, qD, qZ⟩ := q; exact ⟨q0, q1, qP, va_K.moved (u := U) (U := U.calling g mk a) (Vm.Alike.refl U.vm) qK, qD, zZ_same rfl qZ⟩, fun U hU hW2 => ⟨rfl, by rw [hU], by rw [hU]; exact hP, va_K.moved hW2.alike X.2.2.2.2.2.1, hD.weaken (fun _ _ _ _ => trivial), zZ_warm hW2 hZ⟩⟩ rfl (by rw [List.length_map]; exact hn) hl.1 (by show List.map _ _ = _; rw [List.map_append, List.map_reverse]; rfl) (lv_room hW) hd hf) hS (fun q _ h => hFc q h) hFc (fun ad' t H1 locs1 ht hvm hw hB hz1 hk1 hS1 => ?_)
  have h7 : va_up ad' 77 (ad 77) 77 = ad 77 := z_up_new ad' 77 (ad 77)
  have ho := z_up_old ad' 77 (ad 77)
  have hw2 : ∀ q, q < E.length → va_up ad' 77 (ad 77) q = ad q := fun q hq => (ho q (by omega)).trans (hw q hq)
  have eW : z_w cA (va_up ad' 77 (ad 77)) M' 0 E' = z_w cA ad' M' 0 E' := z_w_ad ho cA M' E' 0 (by omega) hEc
  have hk := k (va_up ad' 77 (ad 77)) h7 H1 locs1 ls (by rw [eW, ← ht]; exact hB.1) (by rw [eW]; exact hB.2.weaken (fun _ _ _ z => hFc _ z)) hS1 (by rw [z_L_7 hw2 h7 L hL]; exact hl)
  rw [z_st_ad hw2 st hst] at hk
  exact hk
theorem z_sld (X : zX p s m args meth c A D cl tys Ts own cc nL ret) {b Ls : Nat} {xs : Nat → Int32} (hX : va_X b Ls xs s s.heap) (hbl : b < s.heap.size) (hbA : ¬ A b) (hb : ad 77 = b) {i : Int32} (j : Nat) (hi : i = nI j) (hj : j < Ls) (hn : Ls < 2 ^ 31) (hd : decode cc pc = .ok (.iaload, 1)) (kk : zW p l e R s m args below meth c cells slots Q A D cl cA ad E nL M (pc + 1) L (zI (xs j) :: st)) : zW p l e R s m args below meth c cells slots Q A D cl cA ad E nL M pc L (zI i :: zR 77 :: st) := by
  subst hi
  subst hb
  intro H locs ls hP hD hS hl
  refine va_sld X.1 X.2.1 hX hbl hbA hS (vp_in_nI hj hn) hd ?_
  rw [nI_clamp (n := j) (by omega)]
  exact kk H locs ls hP hD hS hl
theorem z_slen (X : zX p s m args meth c A D cl tys Ts own cc nL ret) {b Ls : Nat} {xs : Nat → Int32} (hX : va_X b Ls xs s s.heap) (hbl : b < s.heap.size) (hbA : ¬ A b) (hb : ad 77 = b) (hd : decode cc pc = .ok (.arraylength, 1)) (kk : zW p l e R s m args below meth c cells slots Q A D cl cA ad E nL M (pc + 1) L (zI (nI Ls) :: st)) : zW p l e R s m args below meth c cells slots Q A D cl cA ad E nL M pc L (zR 77 :: st) := by
  subst hb
  intro H locs ls hP hD hS hl
  exact va_slen X.1 X.2.1 hX hbl hbA hS hd (kk H locs ls hP hD hS hl)
end ZLaw
theorem law_cmp {L k : Nat} (hL : L ≤ 2560) (hk : 5 * k ≤ L) (h : ¬ nI L - 5 < nI (5 * k)) : 5 * k + 5 ≤ L := by
  rcases Nat.lt_or_ge L 5 with q | q
  · have hk0 : k = 0 := by omega
    subst hk0
    exfalso
    rcases (show L = 0 ∨ L = 1 ∨ L = 2 ∨ L = 3 ∨ L = 4 by omega) with rfl | rfl | rfl | rfl | rfl <;> exact absurd h (by decide)
  · have e : nI L - 5 = nI (L - 5) := by
      have a := nI_add (L - 5) 5
      rw [show L - 5 + 5 = L by omega] at a
      rw [← a]
      exact Int32.add_sub_cancel (nI (L - 5)) 5
    rw [e] at h
    refine Nat.le_of_not_lt fun z => h (nI_lt (by omega) (by omega))
theorem law_out {y : Int32} (h0 : ¬ y = 0) (h1 : ¬ y = 1) (h2 : ¬ y = 2) (h3 : ¬ y = 3) (h4 : ¬ y = 4) (h5 : ¬ y = 5) (h6 : ¬ y = 6) (h7 : ¬ y = 7) (h8 : ¬ y = 8) (h9 : ¬ y = 9) (h10 : ¬ y = 10) (h11 : ¬ y = 11) : y.toInt < 0 ∨ 11 < y.toInt := by
  refine Classical.byContradiction fun z => ?_
  have hz : 0 ≤ y.toInt ∧ y.toInt ≤ 11 := by omega
  rcases (show y.toInt = 0 ∨ y.toInt = 1 ∨ y.toInt = 2 ∨ y.toInt = 3 ∨ y.toInt = 4 ∨ y.toInt = 5 ∨ y.toInt = 6 ∨ y.toInt = 7 ∨ y.toInt = 8 ∨ y.toInt = 9 ∨ y.toInt = 10 ∨ y.toInt = 11 by omega) with q | q | q | q | q | q | q | q | q | q | q | q
  · exact h0 (Int32.toInt_inj.mp (q.trans (by decide)))
  · exact h1 (Int32.toInt_inj.mp (q.trans (by decide)))
  · exact h2 (Int32.toInt_inj.mp (q.trans (by decide)))
  · exact h3 (Int32.toInt_inj.mp (q.trans (by decide)))
  · exact h4 (Int32.toInt_inj.mp (q.trans (by decide)))
  · exact h5 (Int32.toInt_inj.mp (q.trans (by decide)))
  · exact h6 (Int32.toInt_inj.mp (q.trans (by decide)))
  · exact h7 (Int32.toInt_inj.mp (q.trans (by decide)))
  · exact h8 (Int32.toInt_inj.mp (q.trans (by decide)))
  · exact h9 (Int32.toInt_inj.mp (q.trans (by decide)))
  · exact h10 (Int32.toInt_inj.mp (q.trans (by decide)))
  · exact h11 (Int32.toInt_inj.mp (q.trans (by decide)))
theorem law_A {s : State} {args : Array Value} {C : String} (h : (Cond.arrayOver (.object C)).before args s = true) : ∃ cA : ClassId, ArrOfT s cA (.object C) ∧ va_RA s cA (.object C) := by
  obtain ⟨comp, cA, k, f1, -, f3, f4, f5⟩ := Cond.arrayOver_spec h
  exact ⟨cA, fun N z => ⟨(fun k h => by cases h), k, f3, comp, f4⟩, k, comp, f3, f4, f1, f5⟩
theorem law_A0 {s : State} {args : Array Value} (h : (Cond.arrayClass .int).before args s = true) : ∃ cA : ClassId, ArrOfT s cA .int ∧ va_RA s cA .int := by
  obtain ⟨cA, k, comp, f1, f2, f3⟩ := Cond.arrayClass_spec h
  exact ⟨cA, fun N z => ⟨(fun k h => by cases h), k, f2, comp, f3⟩, f1⟩
