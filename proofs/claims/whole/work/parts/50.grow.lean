/-! THE LAYER, third part: constructors. What they need beside the words: array classes, nest mates -/
def zZ (U : State) : Prop := (va_AO "WindowPlan$Partition" U ∧ va_AO "WindowPlan$Task" U ∧ va_AO "WindowPlan$Port" U) ∧ va_Nw (.methodLinkNest "WindowPlan" 9 y_Wr_init "WindowPlan") U ∧ va_Nw (.methodLinkNest "WindowPlan" 22 y_P_init "WindowPlan") U ∧ va_Nw (.methodLinkNest "WindowPlan" 38 y_O_init "WindowPlan") U ∧ va_Nw (.methodLinkNest "WindowPlan$Task" 11 y_G_init "WindowPlan") U
theorem zZ_warm {s U : State} (hW : s.WarmedH U.vm) (h : zZ s) : zZ U := ⟨⟨h.1.1.moved hW.alike, h.1.2.1.moved hW.alike, h.1.2.2.moved hW.alike⟩, h.2.1.warmM hW, h.2.2.1.warmM hW, h.2.2.2.1.warmM hW, h.2.2.2.2.warmM hW⟩
theorem zZ_same {u U : State} (e : u.vm = U.vm) (h : zZ u) : zZ U := ⟨⟨h.1.1.moved (e ▸ Vm.Alike.refl u.vm), h.1.2.1.moved (e ▸ Vm.Alike.refl u.vm), h.1.2.2.moved (e ▸ Vm.Alike.refl u.vm)⟩, h.2.1.same rfl e, h.2.2.1.same rfl e, h.2.2.2.1.same rfl e, h.2.2.2.2.same rfl e⟩
/-- a constructor's contract: the world E with memory M becomes E' with M'; old cells keep their addresses -/
def zMc (l : Launch) (D : va_G) (cl : List vw_C) (tys : List (ClassId × FieldType)) (cA : Nat → ClassId) (ad : Nat → Nat) (E : List zC) (Ts : List Cond) (y : MethodName) (b : ByteArray) (nL : Nat) (rm : Room) (as : List zA) (M : zM) (E' : List zC) (M' : zM) (mc ms : Nat) : Prop :=
  ∀ sz : Nat, Met l y (.code y b nL none :: Ts) rm (va_Pc (as.map (z_v ad)) (fun U => U.heap.size = sz ∧ va_P D cl (z_w cA ad M 0 E) U.heap ∧ va_K D cl tys U ∧ va_D (fun _ => True) (z_w cA ad M 0 E) ∧ zZ U)) (va_Qv (fun ad' : Nat → Nat => ∀ c, c < E.length → ad' c = ad c) (fun ad' t => va_P D cl (z_w cA ad' M' 0 E') t.heap ∧ va_D (va_A (z_w cA ad M 0 E) sz) (z_w cA ad' M' 0 E')) (va_A (z_w cA ad M 0 E) sz)) mc ms (va_A (z_w cA ad M 0 E) sz)
abbrev zQc (D : va_G) (cl : List vw_C) (cA : Nat → ClassId) (n0 : Nat) (ad0 : Nat → Nat) (E' : List zC) (M' : zM) (A : Nat → Prop) : Array Value → State → Outcome → State → Prop := va_Qv (fun ad' : Nat → Nat => ∀ c, c < n0 → ad' c = ad0 c) (fun ad' t => va_P D cl (z_w cA ad' M' 0 E') t.heap ∧ va_D A (z_w cA ad' M' 0 E')) A
theorem zMc_of {l : Launch} {D : va_G} {cl : List vw_C} {tys : List (ClassId × FieldType)} {cA : Nat → ClassId} {ad : Nat → Nat} {E E' : List zC} {Ts : List Cond} {y : MethodName} {b : ByteArray} {nL : Nat} {rm : Room} {as : List zA} {M M' : zM} {mc ms : Nat} (hy : plainFor y = true) (hi : y.name = "<init>") (hlen : z_len as ≤ nL)
    (body : ∀ (p : Program) (e : Env) (s : State) (m : MethodId) (args : Array Value) (below : List Frame) (meth : Method) (c : Code) (A : Nat → Prop), zX p s m args meth c A D cl tys Ts y.cls b nL none → meth.name = "<init>" → zZ s →
      zW p l e rm s m args below meth c 0 0 (MQ below (zQc D cl cA E.length ad E' M' A) args s mc ms A) A D cl cA ad E nL M 0 (z_args 0 as) []) : zMc l D cl tys cA ad E Ts y b nL rm as M E' M' mc ms := by
  intro sz
  refine z_ofW (cc := b) (maxL := nL) (ret := none) hy rfl ?_
  intro p e s m args below meth c s₁ B hml hv
  obtain ⟨rfl, hsz, hP, hK, hD0, hZ⟩ := hv
  subst hsz
  have hts := atoms_spec (ws := .code y b nL none :: Ts) B.pre
  have hown : s.vm.findClass y.cls = some m.cls := findClass_of_methodNamed B.named
  have hname : meth.name = "<init>" := (name_of_methodNamed B.named B.method).1.trans hi
  have hD := hD0.self (sz := s.heap.size)
  generalize hAe : va_A (z_w cA ad M 0 E) s.heap.size = A at hD ⊢
  have hA : ∀ q : Nat, s.heap.size ≤ q → A q := fun q h => by rw [← hAe]; exact Or.inr h
  have hl := lv_entry (as.map (z_v ad)) (n := nL) (by rw [z_len_eq]; exact hlen)
  rw [lg_entry_eq]
  exact body p e s m _ below meth c A ⟨B.exec, B.bytes, hml, hown, fun w hw => hts w (List.mem_cons_of_mem _ hw), hK, hA, B.returns, B.notSynchronized⟩ hname hZ s.heap [] _ hP hD va_S.rf (by rw [z_args_map]; exact hl)
/-- a final field of the class whose constructor runs -/
def zFo (cl : List vw_C) (Ts : List Cond) (own : String) (index ci k : Nat) (ty : FieldType) : Prop :=
  ∃ (C : String) (T : u_T) (Nf : Nat) (tf : Nat → FieldType), cl[ci]? = some (C, T, Nf) ∧ k < Nf ∧ (∀ w ∈ u_ws C T Nf, w ∈ Ts) ∧ Cond.fieldLink own index (T k).1 (T k).2.1 (T k).2.2.1 ∈ Ts ∧ (∀ j, j < Nf → parseFieldDescriptor (T j).2.2.1 = some (tf j)) ∧ (∀ a, a < Nf → ∀ b, b < Nf → a ≠ b → (T a).2.1 ≠ (T b).2.1) ∧ parseFieldDescriptor (T k).2.2.1 = some ty ∧ (T k).2.2.2 = true ∧ (T k).1 = own
section ZG3
variable {p : Program} {l : Launch} {e : Env} {R : Room} {s : State} {m : MethodId} {args : Array Value} {below : List Frame} {meth : Method} {c : Code} {cells slots : Nat} {Q : State → Prop} {A : Nat → Prop} {D : va_G} {cl : List vw_C} {tys : List (ClassId × FieldType)} {cA : Nat → ClassId} {ad : Nat → Nat} {E E' : List zC} {nL : Nat} {M M' : zM} {pc : Nat} {L L' : List (Nat × zA)} {st stk : List zA} {Ts : List Cond} {own : String} {cc : ByteArray} {ret : Option FieldType}
theorem z_objI (X : zX p s m args meth c A D cl tys Ts own cc nL ret) {idx c0 : Nat} (h1 : Cond.methodLink own idx objectInit ∈ Ts) (h2 : Cond.instanceMethod objectInit ∈ Ts) (h3 : Cond.code objectInit ⟨#[0xb1]⟩ 1 none ∈ Ts) (hfr : 1 ≤ R.frames) (hlo : ((st.map (z_v ad)).map fun v => v.category).sum + 12 ≤ R.locals) (hd : decode cc pc = .ok (.invokespecial idx, 3)) (k : zW p l e R s m args below meth c cells slots Q A D cl cA ad E nL M (pc + 3) L st) : zW p l e R s m args below meth c cells slots Q A D cl cA ad E nL M pc L (zR c0 :: st) := by
  intro H locs ls hP hD hS hl
  refine W.objInit X.1 X.2.1 X.2.2.2.1 (X.2.2.2.2.1 _ h1) (X.2.2.2.2.1 _ h2) (X.2.2.2.2.1 _ h3) rfl (by rw [X.2.2.1]; exact hl.1) rfl hd hfr ?_ (k H locs ls hP hD hS hl)
  show 2 * 0 + _ + 12 ≤ _
  omega
theorem z_fs_sr (ad : Nat → Nat) (M : zM) (c j r : Nat) {fs : List zK} (h : j < fs.length) : (z_fs ad M c 0 fs).set j (.ref (ad r)) = z_fs ad M c 0 (fs.set j (kr r)) := by
  apply List.ext_getElem?
  intro i
  rw [List.getElem?_set, z_fs_get, z_fs_get, List.getElem?_set]
  by_cases hij : j = i
  · subst hij
    rw [if_pos rfl, if_pos (by rw [z_fs_len]; exact h), if_pos rfl, if_pos h]
    rfl
  · rw [if_neg hij, if_neg hij]
theorem z_putFr (X : zX p s m args meth c A D cl tys Ts own cc nL ret) (hin : meth.name = "<init>") {index ci k : Nat} {ty : FieldType} (fl : zFo cl Ts own index ci k ty) (c0 r : Nat) {fs : List zK} (hE : E[c0]? = some (.inl (ci, fs))) (hk : k < fs.length) (hn : ∀ a, narrow ty (.ref a) = .ref a) (hfit : ∀ a, fits ty (.ref a) = true) (hd : decode cc pc = .ok (.putfield index, 3)) (hE' : E.set c0 (.inl (ci, fs.set k (kr r))) = E') (kk : zW p l e R s m args below meth c cells slots Q A D cl cA ad E' nL M (pc + 3) L st) : zW p l e R s m args below meth c cells slots Q A D cl cA ad E nL M pc L (zR r :: zR c0 :: st) := by
  subst hE'
  intro H locs ls hP hD hS hl
  obtain ⟨C, T, Nf, tf, h1, h2, h3, h4, h5, h6, h7, h8, h9⟩ := fl
  have hw : (z_w cA ad M 0 E)[c0]? = some (ad c0, .inr (ci, z_fs ad M c0 0 fs)) := by
    rw [z_w_get cA ad M hE]
    rfl
  have he : (z_w cA ad M 0 E).set c0 (ad c0, .inr (ci, (z_fs ad M c0 0 fs).set k (.ref (ad r)))) = z_w cA ad M 0 (E.set c0 (.inl (ci, fs.set k (kr r)))) := by
    refine z_w_set cA ad hE ?_ (fun _ _ => rfl) (fun _ _ => rfl)
    rw [z_fs_sr ad M c0 k r hk]
    rfl
  refine va_putF (D := D) (ci := ci) (v := .ref (ad r)) (ty := ty) (C := C) (T := T) (N := Nf) X.1 X.2.1 X.2.2.2.2.1 h3 tf h5 h6 X.2.2.2.1 X.2.2.2.2.2.1 hP hD hS c0 hw h1 k h2 (X.2.2.2.2.1 _ h4) (fun _ h9 => h9) h8 hin h9 h7 (hn _) (hfit _) (by rw [z_fs_len]; exact hk) hd (fun H1 locs1 hP1 hD1 hS1 => ?_)
  rw [he] at hP1 hD1
  exact kk H1 locs1 ls hP1 hD1 hS1 hl
theorem z_putFi (X : zX p s m args meth c A D cl tys Ts own cc nL ret) (hin : meth.name = "<init>") {index ci k : Nat} (fl : zFo cl Ts own index ci k .int) (c0 : Nat) {fs : List zK} (hE : E[c0]? = some (.inl (ci, fs))) (hf : fs[k]? = some ki) {x : Int32} (hd : decode cc pc = .ok (.putfield index, 3)) (kk : zW p l e R s m args below meth c cells slots Q A D cl cA ad E nL (z_si M c0 k x) (pc + 3) L st) : zW p l e R s m args below meth c cells slots Q A D cl cA ad E nL M pc L (zI x :: zR c0 :: st) := by
  intro H locs ls hP hD hS hl
  obtain ⟨C, T, Nf, tf, h1, h2, h3, h4, h5, h6, h7, h8, h9⟩ := fl
  have hw : (z_w cA ad M 0 E)[c0]? = some (ad c0, .inr (ci, z_fs ad M c0 0 fs)) := by
    rw [z_w_get cA ad M hE]
    rfl
  have he : (z_w cA ad M 0 E).set c0 (ad c0, .inr (ci, (z_fs ad M c0 0 fs).set k (.int x))) = z_w cA ad (z_si M c0 k x) 0 E := by
    rw [z_w_set cA ad (M := M) (M' := z_si M c0 k x) hE (x' := .inl (ci, fs)) ?_ (fun d hd2 => z_si_row M k x hd2) (fun _ _ => rfl), z_set_self hE]
    rw [z_fs_si ad M c0 k x hf]
    rfl
  refine va_putF (D := D) (ci := ci) (v := .int x) (ty := .int) (C := C) (T := T) (N := Nf) X.1 X.2.1 X.2.2.2.2.1 h3 tf h5 h6 X.2.2.2.1 X.2.2.2.2.2.1 hP hD hS c0 hw h1 k h2 (X.2.2.2.2.1 _ h4) (fun _ h9 => h9) h8 hin h9 h7 rfl rfl (by rw [z_fs_len]; exact (List.getElem?_eq_some_iff.mp hf).1) hd (fun H1 locs1 hP1 hD1 hS1 => ?_)
  rw [he] at hP1 hD1
  exact kk H1 locs1 ls hP1 hD1 hS1 hl
/-- an object into an array of objects -/
theorem z_astq (X : zX p s m args meth c A D cl tys Ts own cc nL ret) (c0 r : Nat) {t : Nat} {rs : List (Option Nat)} (hE : E[c0]? = some (.inr (.inr (t, rs)))) {ci : Nat} {fs : List zK} (hr : E[r]? = some (.inl (ci, fs))) {r0 : vw_C} (hc : cl[ci]? = some r0) (ht : tys[t]? = some (cA t, .object r0.1)) {i : Int32} (j : Nat) (hi : i = nI j) (hj : j < rs.length) (hn : rs.length < 2 ^ 31) (hd : decode cc pc = .ok (.aastore, 1)) (hE' : E.set c0 (.inr (.inr (t, rs.set j (some r)))) = E') (kk : zW p l e R s m args below meth c cells slots Q A D cl cA ad E' nL M (pc + 1) L st) : zW p l e R s m args below meth c cells slots Q A D cl cA ad E nL M pc L (zR r :: zI i :: zR c0 :: st) := by
  subst hE'
  subst hi
  intro H locs ls hP hD hS hl
  have hw : (z_w cA ad M 0 E)[c0]? = some (ad c0, .inl (cA t, rs.length, .inr (.inr (.inr (.inr (fun j => (rs.getD j none).map ad)))))) := by
    rw [z_w_get cA ad M hE]
    rfl
  have hw2 : (z_w cA ad M 0 E)[r]? = some (ad r, .inr (ci, z_fs ad M r 0 fs)) := by
    rw [z_w_get cA ad M hr]
    rfl
  have hf : va_up (fun j => (rs.getD j none).map ad) (nI j).toNatClampNeg (some (ad r)) = (fun k => ((rs.set j (some r)).getD k none).map ad) := by
    rw [nI_clamp (n := j) (by omega)]
    funext k
    show (if k = j then some (ad r) else (rs.getD k none).map ad) = _
    rw [List.getD_eq_getElem?_getD, List.getD_eq_getElem?_getD, List.getElem?_set]
    by_cases e : k = j
    · subst e
      rw [if_pos rfl, if_pos rfl, if_pos hj]
      rfl
    · rw [if_neg e, if_neg (fun q => e q.symm)]
  have he : (z_w cA ad M 0 E).set c0 (ad c0, .inl (cA t, rs.length, .inr (.inr (.inr (.inr (va_up (fun j => (rs.getD j none).map ad) (nI j).toNatClampNeg (some (ad r)))))))) = z_w cA ad M 0 (E.set c0 (.inr (.inr (t, rs.set j (some r))))) := by
    refine z_w_set cA ad hE ?_ (fun _ _ => rfl) (fun _ _ => rfl)
    rw [hf]
    show _ = (Sum.inl (cA t, (rs.set j (some r)).length, Sum.inr (Sum.inr (Sum.inr (Sum.inr (fun k => ((rs.set j (some r)).getD k none).map ad))))) : va_E)
    rw [List.length_set]
  refine va_astq X.1 X.2.1 X.2.2.2.2.2.1 hP hD hS c0 t r ci hw ht hw2 hc (vp_in_nI hj hn) hd (fun H1 locs1 hP1 hD1 hS1 => ?_)
  rw [he] at hP1 hD1
  exact kk H1 locs1 ls hP1 hD1 hS1 hl
theorem z_cret (X : zX p s m args meth c A D cl tys Ts own cc nL none) {n0 : Nat} {ad0 : Nat → Nat} (had : ∀ q, q < n0 → ad q = ad0 q) (hd : decode cc pc = .ok (.return_, 1)) : zW p l e R s m args below meth c cells slots (MQ below (zQc D cl cA n0 ad0 E M A) args s cells slots A) A D cl cA ad E nL M pc L [] :=
  fun H locs ls hP hD hS hl => W.vret X.1 X.2.1 X.2.2.2.2.2.2.2.1 (fun t ht hW => ⟨⟨ad, rfl, had, by show va_P D cl _ t.heap ∧ _; rw [ht]; exact ⟨hP, hD⟩⟩, hS.F ht⟩) hS.2.2 hd X.2.2.2.2.2.2.2.2
theorem z_cretM (X : zX p s m args meth c A D cl tys Ts own cc nL none) {n0 : Nat} {ad0 : Nat → Nat} (had : ∀ q, q < n0 → ad q = ad0 q) (hE : E = E') (hM : M = M') (hd : decode cc pc = .ok (.return_, 1)) : zW p l e R s m args below meth c cells slots (MQ below (zQc D cl cA n0 ad0 E' M' A) args s cells slots A) A D cl cA ad E nL M pc L [] := by
  subst hE; subst hM
  exact z_cret X had hd
section ZI
variable {y : MethodName} {b2 : ByteArray} {nL2 n index mc ms : Nat} {rm : Room}
theorem z_Ic (X : zX p s m args meth c A D cl tys Ts own cc nL ret) (hZ : zZ s) (hGG : GoodIn Ts Ts) (h1 : Cond.methodLink own index y ∈ Ts) (h2 : Cond.instanceMethod y ∈ Ts) (h3 : Cond.initialized y.cls ∈ Ts) (h4 : Cond.code y b2 nL2 none ∈ Ts) (hy1 : y.name = "<init>") (hy : y.cls ≠ "java/lang/invoke/MethodHandle" ∧ y.cls ≠ "java/lang/invoke/VarHandle" ∧ (parseMethodDescriptor y.desc).map (fun d => d.parameters.length) = some n) (c0 : Nat) (as st : List zA) (hM : zMc l D cl tys cA ad E Ts y b2 nL2 rm (zR c0 :: as) M E' M' mc ms) (hrm : rm.cells = mc ∧ rm.slots = ms) (hroom : rm.frames + 1 ≤ R.frames ∧ 8 + (nL2 + 11) + rm.locals ≤ R.locals) (hn : as.length = n) (hs : stk = as.reverse ++ zR c0 :: st) (hW : ((st.map (z_v ad)).map fun v => v.category).sum ≤ 8) (hf : cells + mc ≤ R.cells ∧ slots + ms ≤ R.slots) {nE : Nat} (hnE : E.length = nE) (hL : L.all (fun q => z_cv nE q.2) = true) (hst : st.all (z_cv nE) = true) (hd : decode cc pc = .ok (.invokespecial index, 3))
    (k : ∀ ad' : Nat → Nat, (∀ q, q < nE → ad' q = ad q) → zW p l e R s m args below meth c (cells + mc) (slots + ms) Q A D cl cA ad' E' nL M' (pc + 3) L st) : zW p l e R s m args below meth c cells slots Q A D cl cA ad E nL M pc L stk := by
  subst hnE
  subst hs
  intro H locs ls hP hD hS hl
  have hFc := z_A cA ad hD hS X.2.2.2.2.2.2.1
  have hG : GoodIn Ts (Cond.code y b2 nL2 none :: Ts) := fun w hw => by
    rcases List.mem_cons.mp hw with q | q
    · subst q; exact hGG _ h4
    · exact hGG w q
  refine va_callv (va_runI (As := as.map (z_v ad)) (rest := st.map (z_v ad)) (b := ad c0) ⟨X.1, X.2.1, X.2.2.1, X.2.2.2.1, X.2.2.2.2.1⟩ (hM H.size) (cwI n X.2.2.2.2.1 hG rfl hrm.1 hrm.2 (X.2.2.2.2.1 _ h3) (X.2.2.2.2.1 _ h1) (X.2.2.2.2.1 _ h2) hy1 hy hroom) ⟨fun a U g mk q => by obtain ⟨q0, q1, qP, qK, qD, qZ⟩ := q; exact ⟨q0, q1, qP, va_K.moved (u := U) (U := U.calling g mk a) (Vm.Alike.refl U.vm) qK, qD, zZ_same rfl qZ⟩, fun U hU hW2 => ⟨rfl, by rw [hU], by rw [hU]; exact hP, va_K.moved hW2.alike X.2.2.2.2.2.1, hD.weaken (fun _ _ _ _ => trivial), zZ_warm hW2 hZ⟩⟩ rfl (by rw [List.length_map]; exact hn) hl.1 (by show List.map _ _ = _; rw [List.map_append, List.map_reverse]; rfl) (lv_room hW) hd hf) hS (fun q _ h => hFc q h) hFc (fun ad' t H1 locs1 ht hvm hw hB hz1 hk1 hS1 => ?_)
  have hk := k ad' hw H1 locs1 ls (by rw [← ht]; exact hB.1) (hB.2.weaken (fun _ _ _ z => hFc _ z)) hS1 (by rw [z_L_ad hw L hL]; exact hl)
  rw [z_st_ad hw st hst] at hk
  exact hk
theorem z_IcN (X : zX p s m args meth c A D cl tys Ts own cc nL ret) (hZ : zZ s) (hGG : GoodIn Ts Ts) {host : String} (h1 : va_Nw (.methodLinkNest own index y host) s) (h2 : Cond.instanceMethod y ∈ Ts) (h3 : Cond.initialized y.cls ∈ Ts) (h4 : Cond.code y b2 nL2 none ∈ Ts) (hy1 : y.name = "<init>") (hy : y.cls ≠ "java/lang/invoke/MethodHandle" ∧ y.cls ≠ "java/lang/invoke/VarHandle" ∧ (parseMethodDescriptor y.desc).map (fun d => d.parameters.length) = some n) (c0 : Nat) (as st : List zA) (hM : zMc l D cl tys cA ad E Ts y b2 nL2 rm (zR c0 :: as) M E' M' mc ms) (hrm : rm.cells = mc ∧ rm.slots = ms) (hroom : rm.frames + 1 ≤ R.frames ∧ 8 + (nL2 + 11) + rm.locals ≤ R.locals) (hn : as.length = n) (hs : stk = as.reverse ++ zR c0 :: st) (hW : ((st.map (z_v ad)).map fun v => v.category).sum ≤ 8) (hf : cells + mc ≤ R.cells ∧ slots + ms ≤ R.slots) {nE : Nat} (hnE : E.length = nE) (hL : L.all (fun q => z_cv nE q.2) = true) (hst : st.all (z_cv nE) = true) (hd : decode cc pc = .ok (.invokespecial index, 3))
    (k : ∀ ad' : Nat → Nat, (∀ q, q < nE → ad' q = ad q) → zW p l e R s m args below meth c (cells + mc) (slots + ms) Q A D cl cA ad' E' nL M' (pc + 3) L st) : zW p l e R s m args below meth c cells slots Q A D cl cA ad E nL M pc L stk := by
  subst hnE
  subst hs
  intro H locs ls hP hD hS hl
  have hFc := z_A cA ad hD hS X.2.2.2.2.2.2.1
  have hG : GoodIn Ts (Cond.code y b2 nL2 none :: Ts) := fun w hw => by
    rcases List.mem_cons.mp hw with q | q
    · subst q; exact hGG _ h4
    · exact hGG w q
  refine va_callv (va_runIN (As := as.map (z_v ad)) (rest := st.map (z_v ad)) (b := ad c0) ⟨X.1, X.2.1, X.2.2.1, X.2.2.2.1, X.2.2.2.2.1⟩ (hM H.size) ⟨va_cnB n X.2.2.2.2.1 hG rfl hrm.1 hrm.2 h1 (X.2.2.2.2.1 _ h3) hy hroom, hy1, X.2.2.2.2.1 _ h2⟩ ⟨fun a U g mk q => by obtain ⟨q0, q1, qP, qK, qD, qZ⟩ := q; exact ⟨q0, q1, qP, va_K.moved (u := U) (U := U.calling g mk a) (Vm.Alike.refl U.vm) qK, qD, zZ_same rfl qZ⟩, fun U hU hW2 => ⟨rfl, by rw [hU], by rw [hU]; exact hP, va_K.moved hW2.alike X.2.2.2.2.2.1, hD.weaken (fun _ _ _ _ => trivial), zZ_warm hW2 hZ⟩⟩ rfl (by rw [List.length_map]; exact hn) hl.1 (by show List.map _ _ = _; rw [List.map_append, List.map_reverse]; rfl) (lv_room hW) hd hf) hS (fun q _ h => hFc q h) hFc (fun ad' t H1 locs1 ht hvm hw hB hz1 hk1 hS1 => ?_)
  have hk := k ad' hw H1 locs1 ls (by rw [← ht]; exact hB.1) (hB.2.weaken (fun _ _ _ z => hFc _ z)) hS1 (by rw [z_L_ad hw L hL]; exact hl)
  rw [z_st_ad hw st hst] at hk
  exact hk
end ZI
end ZG3
