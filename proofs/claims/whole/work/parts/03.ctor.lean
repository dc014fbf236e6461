/-! THE LAYER, second part: worlds that grow (constructors) -/
def z_ck (n : Nat) : zK → Bool
  | .inr (.inr (some r)) => decide (r < n)
  | _ => true
def z_co (n : Nat) : Option Nat → Bool
  | none => true
  | some r => decide (r < n)
def z_cx (n : Nat) : zC → Bool
  | .inl q => q.2.all (z_ck n)
  | .inr (.inl _) => true
  | .inr (.inr q) => q.2.all (z_co n)
def z_cv (n : Nat) : zA → Bool
  | .inr (.inr (some r)) => decide (r < n)
  | _ => true
theorem z_v_ad {ad ad' : Nat → Nat} {n : Nat} (h : ∀ c, c < n → ad' c = ad c) (v : zA) (hv : z_cv n v = true) : z_v ad' v = z_v ad v := by
  rcases v with x | x | _ | r
  · rfl
  · rfl
  · rfl
  · show Value.ref _ = Value.ref _
    rw [h r (of_decide_eq_true hv)]
theorem z_fs_ad {ad ad' : Nat → Nat} {n : Nat} (h : ∀ c, c < n → ad' c = ad c) (M : zM) (c : Nat) : ∀ (fs : List zK) (k : Nat), fs.all (z_ck n) = true → z_fs ad' M c k fs = z_fs ad M c k fs
  | [], k, _ => rfl
  | f :: fs, k, hf => by
    rw [List.all_cons, Bool.and_eq_true] at hf
    have e : z_f ad' M c k f = z_f ad M c k f := by
      rcases f with _ | _ | _ | r
      · rfl
      · rfl
      · rfl
      · show Value.ref _ = Value.ref _
        rw [h r (of_decide_eq_true hf.1)]
    show z_f ad' M c k f :: z_fs ad' M c (k + 1) fs = z_f ad M c k f :: z_fs ad M c (k + 1) fs
    rw [e, z_fs_ad h M c fs (k + 1) hf.2]
theorem z_rs_ad {ad ad' : Nat → Nat} {n : Nat} (h : ∀ c, c < n → ad' c = ad c) : ∀ (rs : List (Option Nat)) (j : Nat), rs.all (z_co n) = true → (rs.getD j none).map ad' = (rs.getD j none).map ad
  | [], j, _ => by simp
  | o :: rs, 0, hf => by
    rw [List.all_cons, Bool.and_eq_true] at hf
    cases o with
    | none => rfl
    | some r =>
      show some (ad' r) = some (ad r)
      rw [h r (of_decide_eq_true hf.1)]
  | o :: rs, j + 1, hf => by
    rw [List.all_cons, Bool.and_eq_true] at hf
    simpa using z_rs_ad h rs j hf.2
theorem z_e_ad {ad ad' : Nat → Nat} {n : Nat} (h : ∀ c, c < n → ad' c = ad c) (cA : Nat → ClassId) (M : zM) (c : Nat) (x : zC) (hx : z_cx n x = true) : z_e cA ad' M c x = z_e cA ad M c x := by
  rcases x with ⟨ci, fs⟩ | ⟨t, m⟩ | ⟨t, rs⟩
  · show Sum.inr (ci, _) = Sum.inr (ci, _)
    rw [z_fs_ad h M c fs 0 hx]
  · rfl
  · have e : (fun j => (rs.getD j none).map ad') = (fun j => (rs.getD j none).map ad) := funext fun j => z_rs_ad h rs j hx
    show (Sum.inl (cA t, rs.length, Sum.inr (Sum.inr (Sum.inr (Sum.inr _)))) : va_E) = Sum.inl (cA t, rs.length, Sum.inr (Sum.inr (Sum.inr (Sum.inr _))))
    rw [e]
theorem z_w_ad {ad ad' : Nat → Nat} {n : Nat} (h : ∀ c, c < n → ad' c = ad c) (cA : Nat → ClassId) (M : zM) : ∀ (E : List zC) (k : Nat), k + E.length ≤ n → E.all (z_cx n) = true → z_w cA ad' M k E = z_w cA ad M k E
  | [], k, _, _ => rfl
  | x :: E, k, hk, hE => by
    rw [List.all_cons, Bool.and_eq_true] at hE
    rw [List.length_cons] at hk
    show (ad' k, z_e cA ad' M k x) :: z_w cA ad' M (k + 1) E = (ad k, z_e cA ad M k x) :: z_w cA ad M (k + 1) E
    rw [h k (by omega), z_e_ad h cA M k x hE.1, z_w_ad h cA M E (k + 1) (by omega) hE.2]
theorem z_w_app (cA : Nat → ClassId) (ad : Nat → Nat) (M : zM) (F : List zC) : ∀ (E : List zC) (k : Nat), z_w cA ad M k (E ++ F) = z_w cA ad M k E ++ z_w cA ad M (k + E.length) F
  | [], k => rfl
  | x :: E, k => by
    show (ad k, z_e cA ad M k x) :: z_w cA ad M (k + 1) (E ++ F) = _
    rw [z_w_app cA ad M F E (k + 1), List.length_cons, show k + 1 + E.length = k + (E.length + 1) by omega]
    rfl
theorem z_w_snoc {ad ad' : Nat → Nat} (cA : Nat → ClassId) (M : zM) {E : List zC} (h : ∀ c, c < E.length → ad' c = ad c) (hE : E.all (z_cx E.length) = true) (x : zC) : z_w cA ad' M 0 (E ++ [x]) = z_w cA ad M 0 E ++ [(ad' E.length, z_e cA ad' M E.length x)] := by
  rw [z_w_app, z_w_ad h cA M E 0 (by omega) hE, Nat.zero_add]
  rfl
theorem z_L_ad {ad ad' : Nat → Nat} {n : Nat} (h : ∀ c, c < n → ad' c = ad c) : ∀ L : List (Nat × zA), L.all (fun q => z_cv n q.2) = true → L.map (fun q => (q.1, z_v ad' q.2)) = L.map (fun q => (q.1, z_v ad q.2))
  | [], _ => rfl
  | q :: L, hL => by
    rw [List.all_cons, Bool.and_eq_true] at hL
    rw [List.map_cons, List.map_cons, z_v_ad h q.2 hL.1, z_L_ad h L hL.2]
theorem z_st_ad {ad ad' : Nat → Nat} {n : Nat} (h : ∀ c, c < n → ad' c = ad c) : ∀ st : List zA, st.all (z_cv n) = true → st.map (z_v ad') = st.map (z_v ad)
  | [], _ => rfl
  | v :: st, hL => by
    rw [List.all_cons, Bool.and_eq_true] at hL
    rw [List.map_cons, List.map_cons, z_v_ad h v hL.1, z_st_ad h st hL.2]
/-- the same address function, with a new place -/
theorem z_up_old (ad : Nat → Nat) (n q : Nat) : ∀ c, c < n → va_up ad n q c = ad c := fun c hc => by
  show (if c = n then q else ad c) = ad c
  rw [if_neg (by omega)]
theorem z_up_new (ad : Nat → Nat) (n q : Nat) : va_up ad n q n = q := by
  show (if n = n then q else ad n) = q
  rw [if_pos rfl]
def z_dv : zK → Value
  | .inl _ => .int 0
  | .inr (.inl _) => .long 0
  | .inr (.inr _) => .null
def z_k0 : zK → Bool
  | .inr (.inr (some _)) => false
  | _ => true
theorem z_fs_0 (ad : Nat → Nat) {M : zM} {c : Nat} (h1 : ∀ k, M.1 c k = 0) (h2 : ∀ k, M.2 c k = 0) : ∀ (fs : List zK) (k : Nat), fs.all z_k0 = true → z_fs ad M c k fs = fs.map z_dv
  | [], k, _ => rfl
  | f :: fs, k, hf => by
    rw [List.all_cons, Bool.and_eq_true] at hf
    have e : z_f ad M c k f = z_dv f := by
      rcases f with _ | _ | _ | r
      · show Value.int _ = Value.int _
        rw [h1]
      · show Value.long _ = Value.long _
        rw [h2]
      · rfl
      · cases hf.1
    show z_f ad M c k f :: z_fs ad M c (k + 1) fs = z_dv f :: fs.map z_dv
    rw [e, z_fs_0 ad h1 h2 fs (k + 1) hf.2]
/-- a class that can be made: its number, its fields, all of them at their first values -/
def zN1 (cl : List vw_C) (Ts : List Cond) (own : String) (index ci Nf : Nat) (fs : List zK) : Prop :=
  ∃ (C : String) (T : u_T) (tf : Nat → FieldType), cl[ci]? = some (C, T, Nf) ∧ (∀ w ∈ u_ws C T Nf, w ∈ Ts) ∧ (∀ j, j < Nf → parseFieldDescriptor (T j).2.2.1 = some (tf j)) ∧ Cond.classLink own index C ∈ Ts ∧ Cond.instantiable C Nf ∈ Ts ∧ Cond.initialized C ∈ Ts ∧ fs.all z_k0 = true ∧ (∀ j, j < Nf → defaultValue (tf j) = vp_V (fs.map z_dv) j)
section ZGrow
variable {p : Program} {l : Launch} {e : Env} {R : Room} {s : State} {m : MethodId} {args : Array Value} {below : List Frame} {meth : Method} {c : Code} {cells slots : Nat} {Q : State → Prop} {A : Nat → Prop} {D : va_G} {cl : List vw_C} {tys : List (ClassId × FieldType)} {cA : Nat → ClassId} {ad : Nat → Nat} {E : List zC} {nL : Nat} {M : zM} {pc : Nat} {L L' : List (Nat × zA)} {st stk : List zA} {Ts : List Cond} {own : String} {cc : ByteArray} {ret : Option FieldType}
theorem z_new (X : zX p s m args meth c A D cl tys Ts own cc nL ret) {index ci Nf : Nat} {fs : List zK} (nf : zN1 cl Ts own index ci Nf fs) {n : Nat} (hn : E.length = n) (h1 : ∀ k, M.1 n k = 0) (h2 : ∀ k, M.2 n k = 0) (hE : E.all (z_cx n) = true) (hL : L.all (fun q => z_cv n q.2) = true) (hst : st.all (z_cv n) = true) (hcells : cells + 1 ≤ R.cells) (hslots : slots + Nf ≤ R.slots) (hd : decode cc pc = .ok (.new index, 3))
    (kk : ∀ ad' : Nat → Nat, (∀ c, c < n → ad' c = ad c) → zW p l e R s m args below meth c (cells + 1) (slots + Nf) Q A D cl cA ad' (E ++ [.inl (ci, fs)]) nL M (pc + 3) L (zR n :: st)) : zW p l e R s m args below meth c cells slots Q A D cl cA ad E nL M pc L st := by
  subst hn
  intro H locs ls hP hD hS hl
  obtain ⟨C, T, tf, g1, g2, g3, g4, g5, g6, g7, g8⟩ := nf
  refine va_new (ci := ci) (fs := fs.map z_dv) (C := C) (T := T) (N := Nf) X.1 X.2.1 X.2.2.2.2.1 g2 tf g3 X.2.2.2.1 (X.2.2.2.2.1 _ g4) (X.2.2.2.2.1 _ g5) (X.2.2.2.2.1 _ g6) X.2.2.2.2.2.1 hP hD hS X.2.2.2.2.2.2.1 g1 g8 hcells hslots hd (fun q H1 hP1 hD1 hS1 => ?_)
  have ho := z_up_old ad E.length q
  have hw : z_w cA ad M 0 E ++ [(q, .inr (ci, fs.map z_dv))] = z_w cA (va_up ad E.length q) M 0 (E ++ [.inl (ci, fs)]) := by
    rw [z_w_snoc cA M ho hE, z_up_new]
    show _ = _ ++ [(q, Sum.inr (ci, z_fs (va_up ad E.length q) M E.length 0 fs))]
    rw [z_fs_0 (va_up ad E.length q) h1 h2 fs 0 g7]
  rw [hw] at hP1 hD1
  have hk := kk (va_up ad E.length q) ho H1 locs ls hP1 hD1 hS1 (by rw [z_L_ad ho L hL]; exact hl)
  rw [List.map_cons, z_st_ad ho st hst] at hk
  have e1 : z_v (va_up ad E.length q) (zR E.length) = .ref q := by
    show Value.ref _ = Value.ref _
    rw [z_up_new]
  rw [e1] at hk
  exact hk
theorem z_newa (X : zX p s m args meth c A D cl tys Ts own cc nL ret) (t : Nat) (ht : tys[t]? = some (cA t, .int)) (harr : Cond.arrayClass .int ∈ Ts) {n k : Nat} (hn : E.length = n) (h1 : ∀ k, M.1 n k = 0) (hE : E.all (z_cx n) = true) (hL : L.all (fun q => z_cv n q.2) = true) (hst : st.all (z_cv n) = true) (hk : k * 4 ≤ 536870912) (hcells : cells + 1 ≤ R.cells) (hslots : slots + k ≤ R.slots) {x : Int32} (hx : x = nI k) (hd : decode cc pc = .ok (.newarray .int, 2))
    (kk : ∀ ad' : Nat → Nat, (∀ c, c < n → ad' c = ad c) → zW p l e R s m args below meth c (cells + 1) (slots + k) Q A D cl cA ad' (E ++ [.inr (.inl (t, k))]) nL M (pc + 2) L (zR n :: st)) : zW p l e R s m args below meth c cells slots Q A D cl cA ad E nL M pc L (zI x :: st) := by
  subst hn
  subst hx
  intro H locs ls hP hD hS hl
  have hk31 : k < 2 ^ 31 := by omega
  refine va_newa (atype := .int) (a0 := (k, .inl (fun _ => 0))) (ty := .int) (N' := k) X.1 X.2.1 (X.2.2.2.2.1 _ harr) rfl X.2.2.2.2.2.1 hP hD hS X.2.2.2.2.2.2.1 (fun _ => rfl) (nI_pos hk31) (nI_clamp hk31) hk hcells hslots hd (fun q cA' H1 hK1 hP1 hD1 hS1 => ?_)
  have ho := z_up_old ad E.length q
  have hc : cA' = cA t := by
    have a1 := (hK1.2 tys.length (cA', .int) (by rw [List.getElem?_append_right (Nat.le_refl _), Nat.sub_self]; rfl)).2
    have a2 := (X.2.2.2.2.2.1.2 t _ ht).2
    exact Option.some.inj (a1.symm.trans a2)
  subst hc
  have hw : z_w cA ad M 0 E ++ [(q, .inl (cA t, k, .inl (fun _ => 0)))] = z_w cA (va_up ad E.length q) M 0 (E ++ [.inr (.inl (t, k))]) := by
    rw [z_w_snoc cA M ho hE, z_up_new]
    show _ = _ ++ [(q, Sum.inl (cA t, k, Sum.inl (M.1 E.length)))]
    rw [show M.1 E.length = (fun _ => 0) from funext h1]
  rw [hw] at hP1 hD1
  have hk2 := kk (va_up ad E.length q) ho H1 locs ls hP1 hD1 hS1 (by rw [z_L_ad ho L hL]; exact hl)
  rw [List.map_cons, z_st_ad ho st hst] at hk2
  have e1 : z_v (va_up ad E.length q) (zR E.length) = .ref q := by
    show Value.ref _ = Value.ref _
    rw [z_up_new]
  rw [e1] at hk2
  exact hk2
theorem z_newq (X : zX p s m args meth c A D cl tys Ts own cc nL ret) (t : Nat) {C : String} (ht : tys[t]? = some (cA t, .object C)) {index : Nat} (hcl : Cond.classLink own index C ∈ Ts) (hao : va_AO C s) {n k : Nat} (hn : E.length = n) (hE : E.all (z_cx n) = true) (hL : L.all (fun q => z_cv n q.2) = true) (hst : st.all (z_cv n) = true) (hk : k * 4 ≤ 536870912) (hcells : cells + 1 ≤ R.cells) (hslots : slots + k ≤ R.slots) {x : Int32} (hx : x = nI k) (hd : decode cc pc = .ok (.anewarray index, 3))
    (kk : ∀ ad' : Nat → Nat, (∀ c, c < n → ad' c = ad c) → zW p l e R s m args below meth c (cells + 1) (slots + k) Q A D cl cA ad' (E ++ [.inr (.inr (t, List.replicate k none))]) nL M (pc + 3) L (zR n :: st)) : zW p l e R s m args below meth c cells slots Q A D cl cA ad E nL M pc L (zI x :: st) := by
  subst hn
  subst hx
  intro H locs ls hP hD hS hl
  have hk31 : k < 2 ^ 31 := by omega
  refine va_newq (C := C) (N' := k) X.1 X.2.1 X.2.2.2.1 (X.2.2.2.2.1 _ hcl) hao X.2.2.2.2.2.1 hP hD hS X.2.2.2.2.2.2.1 (nI_pos hk31) (nI_clamp hk31) hk hcells hslots hd (fun q cA' H1 hK1 hP1 hD1 hS1 => ?_)
  have ho := z_up_old ad E.length q
  have hc : cA' = cA t := by
    obtain ⟨_, _, _, _, _, a1⟩ := (hK1.2 tys.length (cA', .object C) (by rw [List.getElem?_append_right (Nat.le_refl _), Nat.sub_self]; rfl)).2
    obtain ⟨_, _, _, _, _, a2⟩ := (X.2.2.2.2.2.1.2 t _ ht).2
    exact Option.some.inj (a1.symm.trans a2)
  subst hc
  have hr : (fun j => ((List.replicate k (none : Option Nat)).getD j none).map (va_up ad E.length q)) = (fun _ => none) := by
    funext j
    have h9 : (List.replicate k (none : Option Nat)).getD j none = none := by
      rw [List.getD_eq_getElem?_getD, List.getElem?_replicate]
      split <;> rfl
    rw [h9]
    rfl
  have hw : z_w cA ad M 0 E ++ [(q, .inl (cA t, k, .inr (.inr (.inr (.inr (fun _ => none))))))] = z_w cA (va_up ad E.length q) M 0 (E ++ [.inr (.inr (t, List.replicate k none))]) := by
    rw [z_w_snoc cA M ho hE, z_up_new]
    show _ = _ ++ [(q, Sum.inl (cA t, (List.replicate k (none : Option Nat)).length, Sum.inr (Sum.inr (Sum.inr (Sum.inr (fun j => ((List.replicate k (none : Option Nat)).getD j none).map (va_up ad E.length q))))))) ]
    rw [hr, List.length_replicate]
  rw [hw] at hP1 hD1
  have hk2 := kk (va_up ad E.length q) ho H1 locs ls hP1 hD1 hS1 (by rw [z_L_ad ho L hL]; exact hl)
  rw [List.map_cons, z_st_ad ho st hst] at hk2
  have e1 : z_v (va_up ad E.length q) (zR E.length) = .ref q := by
    show Value.ref _ = Value.ref _
    rw [z_up_new]
  rw [e1] at hk2
  exact hk2
end ZGrow
