/-! THE LAYER: a world whose shape is fixed, as a numbered memory. Cell number c lies at the address ad c; what it is, the list E says; its numbers stand in M. -/
abbrev zA : Type := Int32 ⊕ (Int64 ⊕ Option Nat)
abbrev zI (x : Int32) : zA := .inl x
abbrev zJ (x : Int64) : zA := .inr (.inl x)
abbrev zR (c : Nat) : zA := .inr (.inr (some c))
abbrev zN : zA := .inr (.inr none)
abbrev zM : Type := (Nat → Nat → Int32) × (Nat → Nat → Int64)
abbrev zK : Type := Unit ⊕ (Unit ⊕ Option Nat)
abbrev zC : Type := (Nat × List zK) ⊕ ((Nat × Nat) ⊕ (Nat × List (Option Nat)))
abbrev ki : zK := .inl ()
abbrev kj : zK := .inr (.inl ())
abbrev kr (c : Nat) : zK := .inr (.inr (some c))
def z_v (ad : Nat → Nat) : zA → Value
  | .inl x => .int x
  | .inr (.inl x) => .long x
  | .inr (.inr none) => .null
  | .inr (.inr (some r)) => .ref (ad r)
def z_two : zA → Bool
  | .inr (.inl _) => true
  | _ => false
theorem z_cat (ad : Nat → Nat) (v : zA) : ((z_v ad v).category == 2) = z_two v := by
  rcases v with x | x | _ | r <;> rfl
def z_f (ad : Nat → Nat) (M : zM) (c k : Nat) : zK → Value
  | .inl _ => .int (M.1 c k)
  | .inr (.inl _) => .long (M.2 c k)
  | .inr (.inr none) => .null
  | .inr (.inr (some r)) => .ref (ad r)
def z_fa (M : zM) (c k : Nat) : zK → zA
  | .inl _ => .inl (M.1 c k)
  | .inr (.inl _) => .inr (.inl (M.2 c k))
  | .inr (.inr r) => .inr (.inr r)
theorem z_vfa (ad : Nat → Nat) (M : zM) (c k : Nat) (f : zK) : z_f ad M c k f = z_v ad (z_fa M c k f) := by
  rcases f with _ | _ | _ | r <;> rfl
def z_fs (ad : Nat → Nat) (M : zM) (c : Nat) : Nat → List zK → List Value
  | _, [] => []
  | k, f :: fs => z_f ad M c k f :: z_fs ad M c (k + 1) fs
theorem z_fs_get (ad : Nat → Nat) (M : zM) (c : Nat) : ∀ (fs : List zK) (k j : Nat), (z_fs ad M c k fs)[j]? = (fs[j]?).map (z_f ad M c (k + j))
  | [], k, j => by simp [z_fs]
  | f :: fs, k, 0 => by simp [z_fs]
  | f :: fs, k, j + 1 => by
    have h := z_fs_get ad M c fs (k + 1) j
    rw [show k + (j + 1) = k + 1 + j by omega]
    simpa [z_fs] using h
theorem z_fs_len (ad : Nat → Nat) (M : zM) (c : Nat) : ∀ (fs : List zK) (k : Nat), (z_fs ad M c k fs).length = fs.length
  | [], k => by simp [z_fs]
  | f :: fs, k => by simp [z_fs, z_fs_len ad M c fs (k + 1)]
def z_si (M : zM) (c k : Nat) (x : Int32) : zM := (fun c' k' => if c' = c ∧ k' = k then x else M.1 c' k', M.2)
def z_sj (M : zM) (c k : Nat) (x : Int64) : zM := (M.1, fun c' k' => if c' = c ∧ k' = k then x else M.2 c' k')
theorem z_si_same (M : zM) (c k : Nat) (x : Int32) : (z_si M c k x).1 c k = x := by simp [z_si]
theorem z_si_other (M : zM) {c k c' k' : Nat} (x : Int32) (h : ¬ (c' = c ∧ k' = k)) : (z_si M c k x).1 c' k' = M.1 c' k' := by simp [z_si, h]
theorem z_si_row (M : zM) {c c' : Nat} (k : Nat) (x : Int32) (h : c' ≠ c) : (z_si M c k x).1 c' = M.1 c' := by funext k'; simp [z_si, h]
theorem z_si_2 (M : zM) (c k : Nat) (x : Int32) : (z_si M c k x).2 = M.2 := rfl
theorem z_sj_1 (M : zM) (c k : Nat) (x : Int64) : (z_sj M c k x).1 = M.1 := rfl
theorem z_sj_same (M : zM) (c k : Nat) (x : Int64) : (z_sj M c k x).2 c k = x := by simp [z_sj]
theorem z_sj_other (M : zM) {c k c' k' : Nat} (x : Int64) (h : ¬ (c' = c ∧ k' = k)) : (z_sj M c k x).2 c' k' = M.2 c' k' := by simp [z_sj, h]
theorem z_sj_row (M : zM) {c c' : Nat} (k : Nat) (x : Int64) (h : c' ≠ c) : (z_sj M c k x).2 c' = M.2 c' := by funext k'; simp [z_sj, h]
theorem z_fs_si (ad : Nat → Nat) (M : zM) (c j : Nat) (x : Int32) {fs : List zK} {u : Unit} (h : fs[j]? = some (.inl u)) : (z_fs ad M c 0 fs).set j (.int x) = z_fs ad (z_si M c j x) c 0 fs := by
  apply List.ext_getElem?
  intro i
  rw [List.getElem?_set, z_fs_get, z_fs_get]
  by_cases hij : j = i
  · subst hij
    have hl : j < (z_fs ad M c 0 fs).length := by rw [z_fs_len]; exact (List.getElem?_eq_some_iff.mp h).1
    rw [if_pos rfl, if_pos hl, h]
    simp [z_f, z_si]
  · rw [if_neg hij]
    have e : z_f ad (z_si M c j x) c (0 + i) = z_f ad M c (0 + i) := by
      funext f
      have hn : ¬ (c = c ∧ 0 + i = j) := fun q => hij (by omega)
      rcases f with _ | _ | _ | r
      · show Value.int _ = Value.int _
        rw [z_si_other M x hn]
      · rfl
      · rfl
      · rfl
    rw [e]
theorem z_fs_sj (ad : Nat → Nat) (M : zM) (c j : Nat) (x : Int64) {fs : List zK} {u : Unit} (h : fs[j]? = some (.inr (.inl u))) : (z_fs ad M c 0 fs).set j (.long x) = z_fs ad (z_sj M c j x) c 0 fs := by
  apply List.ext_getElem?
  intro i
  rw [List.getElem?_set, z_fs_get, z_fs_get]
  by_cases hij : j = i
  · subst hij
    have hl : j < (z_fs ad M c 0 fs).length := by rw [z_fs_len]; exact (List.getElem?_eq_some_iff.mp h).1
    rw [if_pos rfl, if_pos hl, h]
    simp [z_f, z_sj]
  · rw [if_neg hij]
    have e : z_f ad (z_sj M c j x) c (0 + i) = z_f ad M c (0 + i) := by
      funext f
      have hn : ¬ (c = c ∧ 0 + i = j) := fun q => hij (by omega)
      rcases f with _ | _ | _ | r
      · rfl
      · show Value.long _ = Value.long _
        rw [z_sj_other M x hn]
      · rfl
      · rfl
    rw [e]
theorem z_fs_congr (ad : Nat → Nat) {M M' : zM} {c : Nat} (h1 : M'.1 c = M.1 c) (h2 : M'.2 c = M.2 c) : ∀ (fs : List zK) (k : Nat), z_fs ad M' c k fs = z_fs ad M c k fs
  | [], k => rfl
  | f :: fs, k => by
    have e : z_f ad M' c k f = z_f ad M c k f := by
      rcases f with _ | _ | _ | r
      · show Value.int _ = Value.int _
        rw [h1]
      · show Value.long _ = Value.long _
        rw [h2]
      · rfl
      · rfl
    show z_f ad M' c k f :: z_fs ad M' c (k + 1) fs = z_f ad M c k f :: z_fs ad M c (k + 1) fs
    rw [e, z_fs_congr ad h1 h2 fs (k + 1)]
def z_e (cA : Nat → ClassId) (ad : Nat → Nat) (M : zM) (c : Nat) : zC → va_E
  | .inl q => .inr (q.1, z_fs ad M c 0 q.2)
  | .inr (.inl q) => .inl (cA q.1, q.2, .inl (M.1 c))
  | .inr (.inr q) => .inl (cA q.1, q.2.length, .inr (.inr (.inr (.inr (fun j => (q.2.getD j none).map ad)))))
theorem z_e_congr (cA : Nat → ClassId) (ad : Nat → Nat) {M M' : zM} {c : Nat} (h1 : M'.1 c = M.1 c) (h2 : M'.2 c = M.2 c) (x : zC) : z_e cA ad M' c x = z_e cA ad M c x := by
  rcases x with ⟨ci, fs⟩ | ⟨t, n⟩ | ⟨t, rs⟩
  · show Sum.inr (ci, _) = Sum.inr (ci, _)
    rw [z_fs_congr ad h1 h2]
  · show Sum.inl (cA t, n, Sum.inl _) = Sum.inl (cA t, n, Sum.inl _)
    rw [h1]
  · rfl
/-- the world: cell k of the list E lies at ad k -/
def z_w (cA : Nat → ClassId) (ad : Nat → Nat) (M : zM) : Nat → List zC → va_W
  | _, [] => []
  | k, x :: E => (ad k, z_e cA ad M k x) :: z_w cA ad M (k + 1) E
theorem z_w_el (cA : Nat → ClassId) (ad : Nat → Nat) (M : zM) : ∀ (E : List zC) (k c : Nat), (z_w cA ad M k E)[c]? = (E[c]?).map (fun x => (ad (k + c), z_e cA ad M (k + c) x))
  | [], k, c => by simp [z_w]
  | x :: E, k, 0 => by simp [z_w]
  | x :: E, k, c + 1 => by
    have h := z_w_el cA ad M E (k + 1) c
    rw [show k + (c + 1) = k + 1 + c by omega]
    simpa [z_w] using h
theorem z_w_get (cA : Nat → ClassId) (ad : Nat → Nat) (M : zM) {E : List zC} {c : Nat} {x : zC} (h : E[c]? = some x) : (z_w cA ad M 0 E)[c]? = some (ad c, z_e cA ad M c x) := by
  rw [z_w_el, h, Nat.zero_add]
  rfl
theorem z_w_at (cA : Nat → ClassId) (ad : Nat → Nat) (M : zM) {E : List zC} {c : Nat} {q : Nat × va_E} (h : (z_w cA ad M 0 E)[c]? = some q) : ∃ x, E[c]? = some x ∧ q = (ad c, z_e cA ad M c x) := by
  rw [z_w_el, Nat.zero_add] at h
  cases hx : E[c]? with
  | none => rw [hx] at h; cases h
  | some x => rw [hx] at h; exact ⟨x, rfl, (Option.some.inj h).symm⟩
theorem z_w_set (cA : Nat → ClassId) (ad : Nat → Nat) {E : List zC} {M M' : zM} {c : Nat} {x x' : zC} (hE : E[c]? = some x) {e : va_E} (he : e = z_e cA ad M' c x') (h1 : ∀ d, d ≠ c → M'.1 d = M.1 d) (h2 : ∀ d, d ≠ c → M'.2 d = M.2 d) :
    (z_w cA ad M 0 E).set c (ad c, e) = z_w cA ad M' 0 (E.set c x') := by
  subst he
  have hc : c < E.length := (List.getElem?_eq_some_iff.mp hE).1
  apply List.ext_getElem?
  intro j
  rw [List.getElem?_set, z_w_el cA ad M', List.getElem?_set]
  by_cases hj : c = j
  · subst hj
    have hl : c < (z_w cA ad M 0 E).length := (List.getElem?_eq_some_iff.mp (z_w_get cA ad M hE)).1
    rw [if_pos rfl, if_pos hl, if_pos rfl, if_pos hc, Nat.zero_add]
    rfl
  · rw [if_neg hj, if_neg hj, z_w_el, Nat.zero_add]
    cases E[j]? with
    | none => rfl
    | some y =>
      show some (ad j, z_e cA ad M j y) = some (ad j, z_e cA ad M' j y)
      rw [z_e_congr cA ad (h1 j (Ne.symm hj)) (h2 j (Ne.symm hj))]
theorem z_set_self {E : List zC} {c : Nat} {x : zC} (h : E[c]? = some x) : E.set c x = E := by
  apply List.ext_getElem?
  intro j
  rw [List.getElem?_set]
  by_cases hj : c = j
  · subst hj
    rw [if_pos rfl, if_pos (List.getElem?_eq_some_iff.mp h).1, h]
  · rw [if_neg hj]
theorem z_D (cA : Nat → ClassId) (ad : Nat → Nat) {E : List zC} {M : zM} (M' : zM) {A : Nat → Prop} (h : va_D A (z_w cA ad M 0 E)) : va_D A (z_w cA ad M' 0 E) := by
  refine ⟨fun i j p q hi hj e => ?_, fun k q hk => ?_⟩
  · obtain ⟨x, hx, rfl⟩ := z_w_at cA ad M' hi
    obtain ⟨y, hy, rfl⟩ := z_w_at cA ad M' hj
    exact h.1 i j _ _ (z_w_get cA ad M hx) (z_w_get cA ad M hy) e
  · obtain ⟨x, hx, rfl⟩ := z_w_at cA ad M' hk
    exact h.2 k (ad k, z_e cA ad M k x) (z_w_get cA ad M hx)
theorem z_A (cA : Nat → ClassId) (ad : Nat → Nat) {E : List zC} {M : zM} {A : Nat → Prop} {H0 H : Heap} {locs : List Loc} (hD : va_D A (z_w cA ad M 0 E)) (hS : va_S A H0 H locs) (hA : ∀ q, H0.size ≤ q → A q) : ∀ q, va_A (z_w cA ad M 0 E) H.size q → A q := by
  intro q hq
  rcases hq with ⟨k, e, hk⟩ | hq
  · exact hD.2 k _ hk
  · exact hA q (Nat.le_trans hS.1 hq)
/-- the walk, over numbered memory -/
def zW (p : Program) (l : Launch) (e : Env) (R : Room) (s : State) (m : MethodId) (args : Array Value) (below : List Frame) (meth : Method) (c : Code) (cells slots : Nat) (Q : State → Prop) (A : Nat → Prop) (D : va_G) (cl : List vw_C) (cA : Nat → ClassId) (ad : Nat → Nat) (E : List zC) (nL : Nat) (M : zM) (pc : Nat) (L : List (Nat × zA)) (st : List zA) : Prop :=
  ∀ (H : Heap) (locs : List Loc) (ls : Array Slot), va_P D cl (z_w cA ad M 0 E) H → va_D A (z_w cA ad M 0 E) → va_S A s.heap H locs → lv_has ls nL (L.map (fun q => (q.1, z_v ad q.2))) → W p l e R s m args below meth c H locs cells slots Q (F0 m pc ls (st.map (z_v ad)))
/-- what is known of the method that is walked -/
def zX (p : Program) (s : State) (m : MethodId) (args : Array Value) (meth : Method) (c : Code) (A : Nat → Prop) (D : va_G) (cl : List vw_C) (tys : List (ClassId × FieldType)) (Ts : List Cond) (own : String) (cc : ByteArray) (nL : Nat) (ret : Option FieldType) : Prop :=
  p.tables.exec = Jvm.exec ∧ c.code = cc ∧ c.maxLocals = nL ∧ s.vm.findClass own = some m.cls ∧ (∀ w ∈ Ts, w.before args s = true) ∧ va_K D cl tys s ∧ (∀ q, s.heap.size ≤ q → A q) ∧ meth.sig.returnType = ret ∧ meth.locks = false
/-- a field reference: own's pool number index names the field k of class ci -/
def zF (cl : List vw_C) (Ts : List Cond) (own : String) (index ci k : Nat) (ty : FieldType) (fin : Bool) : Prop :=
  ∃ (C : String) (T : u_T) (Nf : Nat) (tf : Nat → FieldType), cl[ci]? = some (C, T, Nf) ∧ k < Nf ∧ (∀ w ∈ u_ws C T Nf, w ∈ Ts) ∧ Cond.fieldLink own index (T k).1 (T k).2.1 (T k).2.2.1 ∈ Ts ∧ (∀ j, j < Nf → parseFieldDescriptor (T j).2.2.1 = some (tf j)) ∧ (∀ a, a < Nf → ∀ b, b < Nf → a ≠ b → (T a).2.1 ≠ (T b).2.1) ∧ parseFieldDescriptor (T k).2.2.1 = some ty ∧ (T k).2.2.2 = fin
section ZRows
variable {p : Program} {l : Launch} {e : Env} {R : Room} {s : State} {m : MethodId} {args : Array Value} {below : List Frame} {meth : Method} {c : Code} {cells slots : Nat} {Q : State → Prop} {A : Nat → Prop} {D : va_G} {cl : List vw_C} {tys : List (ClassId × FieldType)} {cA : Nat → ClassId} {ad : Nat → Nat} {E : List zC} {nL : Nat} {M : zM} {pc : Nat} {L L' : List (Nat × zA)} {st : List zA} {Ts : List Cond} {own : String} {cc : ByteArray} {ret : Option FieldType}
theorem z_L {k i : Nat} {v : zA} (h : L[k]? = some (i, v)) : (L.map (fun q => (q.1, z_v ad q.2)))[k]? = some (i, z_v ad v) := by
  rw [List.getElem?_map, h]; rfl
theorem z_iconst (X : zX p s m args meth c A D cl tys Ts own cc nL ret) {n : Int} {v : Int32} (hd : decode cc pc = .ok (.iconst n, 1)) (hv : Int32.ofInt n = v) (k : zW p l e R s m args below meth c cells slots Q A D cl cA ad E nL M (pc + 1) L (zI v :: st)) : zW p l e R s m args below meth c cells slots Q A D cl cA ad E nL M pc L st :=
  fun H locs ls hP hD hS hl => lv_iconst X.1 X.2.1 hd hv (k H locs ls hP hD hS hl)
theorem z_bipush (X : zX p s m args meth c A D cl tys Ts own cc nL ret) {n : Int} {v : Int32} (hd : decode cc pc = .ok (.bipush n, 2)) (hv : (Int8.ofInt n).toInt32 = v) (k : zW p l e R s m args below meth c cells slots Q A D cl cA ad E nL M (pc + 2) L (zI v :: st)) : zW p l e R s m args below meth c cells slots Q A D cl cA ad E nL M pc L st :=
  fun H locs ls hP hD hS hl => lv_bipush X.1 X.2.1 hd hv (k H locs ls hP hD hS hl)
theorem z_sipush (X : zX p s m args meth c A D cl tys Ts own cc nL ret) {n : Int} {v : Int32} (hd : decode cc pc = .ok (.sipush n, 3)) (hv : (Int16.ofInt n).toInt32 = v) (k : zW p l e R s m args below meth c cells slots Q A D cl cA ad E nL M (pc + 3) L (zI v :: st)) : zW p l e R s m args below meth c cells slots Q A D cl cA ad E nL M pc L st :=
  fun H locs ls hP hD hS hl => lv_sipush X.1 X.2.1 hd hv (k H locs ls hP hD hS hl)
theorem z_lconst (X : zX p s m args meth c A D cl tys Ts own cc nL ret) {n : Fin 2} {v : Int64} (hd : decode cc pc = .ok (.lconst n, 1)) (hv : Int64.ofNat (n : Nat) = v) (k : zW p l e R s m args below meth c cells slots Q A D cl cA ad E nL M (pc + 1) L (zJ v :: st)) : zW p l e R s m args below meth c cells slots Q A D cl cA ad E nL M pc L st :=
  fun H locs ls hP hD hS hl => lv_lconst X.1 X.2.1 hd hv (k H locs ls hP hD hS hl)
theorem z_null (X : zX p s m args meth c A D cl tys Ts own cc nL ret) (hd : decode cc pc = .ok (.aconst_null, 1)) (k : zW p l e R s m args below meth c cells slots Q A D cl cA ad E nL M (pc + 1) L (zN :: st)) : zW p l e R s m args below meth c cells slots Q A D cl cA ad E nL M pc L st :=
  fun H locs ls hP hD hS hl => lv_null X.1 X.2.1 hd (k H locs ls hP hD hS hl)
theorem z_iload_n (X : zX p s m args meth c A D cl tys Ts own cc nL ret) {kf : Fin 4} {i : Nat} (j : Nat) {x : Int32} (hd : decode cc pc = .ok (.iload_n kf, 1)) (hi : (kf : Nat) = i) (hj : L[j]? = some (i, zI x)) (k : zW p l e R s m args below meth c cells slots Q A D cl cA ad E nL M (pc + 1) L (zI x :: st)) : zW p l e R s m args below meth c cells slots Q A D cl cA ad E nL M pc L st :=
  fun H locs ls hP hD hS hl => lv_iload_n X.1 X.2.1 hd hi (lv_at hl j (z_L hj)) (k H locs ls hP hD hS hl)
theorem z_iload (X : zX p s m args meth c A D cl tys Ts own cc nL ret) {i : Nat} (j : Nat) {x : Int32} (hd : decode cc pc = .ok (.iload i, 2)) (hj : L[j]? = some (i, zI x)) (k : zW p l e R s m args below meth c cells slots Q A D cl cA ad E nL M (pc + 2) L (zI x :: st)) : zW p l e R s m args below meth c cells slots Q A D cl cA ad E nL M pc L st :=
  fun H locs ls hP hD hS hl => lv_iload X.1 X.2.1 hd (lv_at hl j (z_L hj)) (k H locs ls hP hD hS hl)
theorem z_lload_n (X : zX p s m args meth c A D cl tys Ts own cc nL ret) {kf : Fin 4} {i : Nat} (j : Nat) {x : Int64} (hd : decode cc pc = .ok (.lload_n kf, 1)) (hi : (kf : Nat) = i) (hj : L[j]? = some (i, zJ x)) (k : zW p l e R s m args below meth c cells slots Q A D cl cA ad E nL M (pc + 1) L (zJ x :: st)) : zW p l e R s m args below meth c cells slots Q A D cl cA ad E nL M pc L st :=
  fun H locs ls hP hD hS hl => lv_lload_n X.1 X.2.1 hd hi (lv_at hl j (z_L hj)) (k H locs ls hP hD hS hl)
theorem z_aload_n (X : zX p s m args meth c A D cl tys Ts own cc nL ret) {kf : Fin 4} {i : Nat} (j : Nat) {x : Nat} (hd : decode cc pc = .ok (.aload_n kf, 1)) (hi : (kf : Nat) = i) (hj : L[j]? = some (i, zR x)) (k : zW p l e R s m args below meth c cells slots Q A D cl cA ad E nL M (pc + 1) L (zR x :: st)) : zW p l e R s m args below meth c cells slots Q A D cl cA ad E nL M pc L st :=
  fun H locs ls hP hD hS hl => lv_aload_n X.1 X.2.1 hd hi (lv_at hl j (z_L hj)) (k H locs ls hP hD hS hl)
theorem z_aload (X : zX p s m args meth c A D cl tys Ts own cc nL ret) {i : Nat} (j : Nat) {x : Nat} (hd : decode cc pc = .ok (.aload i, 2)) (hj : L[j]? = some (i, zR x)) (k : zW p l e R s m args below meth c cells slots Q A D cl cA ad E nL M (pc + 2) L (zR x :: st)) : zW p l e R s m args below meth c cells slots Q A D cl cA ad E nL M pc L st :=
  fun H locs ls hP hD hS hl => lv_aload X.1 X.2.1 hd (lv_at hl j (z_L hj)) (k H locs ls hP hD hS hl)
theorem z_aload_nN (X : zX p s m args meth c A D cl tys Ts own cc nL ret) {kf : Fin 4} {i : Nat} (j : Nat) (hd : decode cc pc = .ok (.aload_n kf, 1)) (hi : (kf : Nat) = i) (hj : L[j]? = some (i, zN)) (k : zW p l e R s m args below meth c cells slots Q A D cl cA ad E nL M (pc + 1) L (zN :: st)) : zW p l e R s m args below meth c cells slots Q A D cl cA ad E nL M pc L st :=
  fun H locs ls hP hD hS hl => lv_aload_nN X.1 X.2.1 hd hi (lv_at hl j (z_L hj)) (k H locs ls hP hD hS hl)
theorem z_fil (i : Nat) (L : List (Nat × zA)) : (L.map (fun q => (q.1, z_v ad q.2))).filter (fun q => !(q.1 == i) && !(q.1 + 1 == i && q.2.category == 2)) = (L.filter (fun q => !(q.1 == i) && !(q.1 + 1 == i && z_two q.2))).map (fun q => (q.1, z_v ad q.2)) := by
  rw [List.filter_map]
  congr 1
  apply List.filter_congr
  intro q _
  show (!(q.1 == i) && !(q.1 + 1 == i && (z_v ad q.2).category == 2)) = _
  rw [z_cat]
theorem z_fil2 (i : Nat) (L : List (Nat × zA)) : (L.map (fun q => (q.1, z_v ad q.2))).filter (fun q => !(q.1 == i) && (!(q.1 == i + 1) && !(q.1 + 1 == i && q.2.category == 2))) = (L.filter (fun q => !(q.1 == i) && (!(q.1 == i + 1) && !(q.1 + 1 == i && z_two q.2)))).map (fun q => (q.1, z_v ad q.2)) := by
  rw [List.filter_map]
  congr 1
  apply List.filter_congr
  intro q _
  show (!(q.1 == i) && (!(q.1 == i + 1) && !(q.1 + 1 == i && (z_v ad q.2).category == 2))) = _
  rw [z_cat]
theorem z_istore_n (X : zX p s m args meth c A D cl tys Ts own cc nL ret) {kf : Fin 4} {i : Nat} {x : Int32} (hd : decode cc pc = .ok (.istore_n kf, 1)) (hi : (kf : Nat) = i) (hn : i < nL) (hl' : (i, zI x) :: L.filter (fun q => !(q.1 == i) && !(q.1 + 1 == i && z_two q.2)) = L') (k : zW p l e R s m args below meth c cells slots Q A D cl cA ad E nL M (pc + 1) L' st) : zW p l e R s m args below meth c cells slots Q A D cl cA ad E nL M pc L (zI x :: st) :=
  fun H locs ls hP hD hS hl => lv_istore_n X.1 X.2.1 hd hi hl hn (by rw [z_fil, ← hl']; rfl) (fun ls' hl2 => k H locs ls' hP hD hS hl2)
theorem z_istore (X : zX p s m args meth c A D cl tys Ts own cc nL ret) {i : Nat} {x : Int32} (hd : decode cc pc = .ok (.istore i, 2)) (hn : i < nL) (hl' : (i, zI x) :: L.filter (fun q => !(q.1 == i) && !(q.1 + 1 == i && z_two q.2)) = L') (k : zW p l e R s m args below meth c cells slots Q A D cl cA ad E nL M (pc + 2) L' st) : zW p l e R s m args below meth c cells slots Q A D cl cA ad E nL M pc L (zI x :: st) :=
  fun H locs ls hP hD hS hl => lv_istore X.1 X.2.1 hd hl hn (by rw [z_fil, ← hl']; rfl) (fun ls' hl2 => k H locs ls' hP hD hS hl2)
theorem z_astore_n (X : zX p s m args meth c A D cl tys Ts own cc nL ret) {kf : Fin 4} {i : Nat} {x : Nat} (hd : decode cc pc = .ok (.astore_n kf, 1)) (hi : (kf : Nat) = i) (hn : i < nL) (hl' : (i, zR x) :: L.filter (fun q => !(q.1 == i) && !(q.1 + 1 == i && z_two q.2)) = L') (k : zW p l e R s m args below meth c cells slots Q A D cl cA ad E nL M (pc + 1) L' st) : zW p l e R s m args below meth c cells slots Q A D cl cA ad E nL M pc L (zR x :: st) :=
  fun H locs ls hP hD hS hl => lv_astore_n X.1 X.2.1 hd hi hl hn (by rw [z_fil, ← hl']; rfl) (fun ls' hl2 => k H locs ls' hP hD hS hl2)
theorem z_astore (X : zX p s m args meth c A D cl tys Ts own cc nL ret) {i : Nat} {x : Nat} (hd : decode cc pc = .ok (.astore i, 2)) (hn : i < nL) (hl' : (i, zR x) :: L.filter (fun q => !(q.1 == i) && !(q.1 + 1 == i && z_two q.2)) = L') (k : zW p l e R s m args below meth c cells slots Q A D cl cA ad E nL M (pc + 2) L' st) : zW p l e R s m args below meth c cells slots Q A D cl cA ad E nL M pc L (zR x :: st) :=
  fun H locs ls hP hD hS hl => lv_astore X.1 X.2.1 hd hl hn (by rw [z_fil, ← hl']; rfl) (fun ls' hl2 => k H locs ls' hP hD hS hl2)
theorem z_astore_nN (X : zX p s m args meth c A D cl tys Ts own cc nL ret) {kf : Fin 4} {i : Nat} (hd : decode cc pc = .ok (.astore_n kf, 1)) (hi : (kf : Nat) = i) (hn : i < nL) (hl' : (i, zN) :: L.filter (fun q => !(q.1 == i) && !(q.1 + 1 == i && z_two q.2)) = L') (k : zW p l e R s m args below meth c cells slots Q A D cl cA ad E nL M (pc + 1) L' st) : zW p l e R s m args below meth c cells slots Q A D cl cA ad E nL M pc L (zN :: st) :=
  fun H locs ls hP hD hS hl => lv_astore_nN X.1 X.2.1 hd hi hl hn (by rw [z_fil, ← hl']; rfl) (fun ls' hl2 => k H locs ls' hP hD hS hl2)
theorem z_iinc (X : zX p s m args meth c A D cl tys Ts own cc nL ret) {i : Nat} (j : Nat) {n : Int} {x v : Int32} (hd : decode cc pc = .ok (.iinc i n, 3)) (hj : L[j]? = some (i, zI x)) (hv : x + Int32.ofInt n = v) (hn : i < nL) (hl' : (i, zI v) :: L.filter (fun q => !(q.1 == i) && !(q.1 + 1 == i && z_two q.2)) = L') (k : zW p l e R s m args below meth c cells slots Q A D cl cA ad E nL M (pc + 3) L' st) : zW p l e R s m args below meth c cells slots Q A D cl cA ad E nL M pc L st :=
  fun H locs ls hP hD hS hl => lv_iinc X.1 X.2.1 hd hl (k := j) (z_L hj) hv hn (by rw [z_fil, ← hl']; rfl) (fun ls' hl2 => k H locs ls' hP hD hS hl2)
theorem z_cat1 {v : zA} (h : z_two v = false) : (z_v ad v).category = 1 := by
  rcases v with x | x | _ | r
  · rfl
  · cases h
  · rfl
  · rfl
theorem z_keep {ks : List Nat} (hp : ks.filterMap (fun k => L[k]?) = L') (k : zW p l e R s m args below meth c cells slots Q A D cl cA ad E nL M pc L' st) : zW p l e R s m args below meth c cells slots Q A D cl cA ad E nL M pc L st := by
  intro H locs ls hP hD hS hl
  refine k H locs ls hP hD hS (lv_sub hl ks ?_)
  rw [← hp]
  show ks.filterMap (fun k => (L.map _)[k]?) = _
  rw [List.map_filterMap]
  congr 1
  funext k
  rw [List.getElem?_map]
theorem z_iadd (X : zX p s m args meth c A D cl tys Ts own cc nL ret) {x y : Int32} (hd : decode cc pc = .ok (.iadd, 1)) (k : zW p l e R s m args below meth c cells slots Q A D cl cA ad E nL M (pc + 1) L (zI (x + y) :: st)) : zW p l e R s m args below meth c cells slots Q A D cl cA ad E nL M pc L (zI y :: zI x :: st) :=
  fun H locs ls hP hD hS hl => lv_iadd X.1 X.2.1 hd (k H locs ls hP hD hS hl)
theorem z_isub (X : zX p s m args meth c A D cl tys Ts own cc nL ret) {x y : Int32} (hd : decode cc pc = .ok (.isub, 1)) (k : zW p l e R s m args below meth c cells slots Q A D cl cA ad E nL M (pc + 1) L (zI (x - y) :: st)) : zW p l e R s m args below meth c cells slots Q A D cl cA ad E nL M pc L (zI y :: zI x :: st) :=
  fun H locs ls hP hD hS hl => lv_isub X.1 X.2.1 hd (k H locs ls hP hD hS hl)
theorem z_imul (X : zX p s m args meth c A D cl tys Ts own cc nL ret) {x y : Int32} (hd : decode cc pc = .ok (.imul, 1)) (k : zW p l e R s m args below meth c cells slots Q A D cl cA ad E nL M (pc + 1) L (zI (x * y) :: st)) : zW p l e R s m args below meth c cells slots Q A D cl cA ad E nL M pc L (zI y :: zI x :: st) :=
  fun H locs ls hP hD hS hl => lv_imul X.1 X.2.1 hd (k H locs ls hP hD hS hl)
theorem z_iand (X : zX p s m args meth c A D cl tys Ts own cc nL ret) {x y : Int32} (hd : decode cc pc = .ok (.iand, 1)) (k : zW p l e R s m args below meth c cells slots Q A D cl cA ad E nL M (pc + 1) L (zI (x &&& y) :: st)) : zW p l e R s m args below meth c cells slots Q A D cl cA ad E nL M pc L (zI y :: zI x :: st) :=
  fun H locs ls hP hD hS hl => lv_iand X.1 X.2.1 hd (k H locs ls hP hD hS hl)
theorem z_ior (X : zX p s m args meth c A D cl tys Ts own cc nL ret) {x y : Int32} (hd : decode cc pc = .ok (.ior, 1)) (k : zW p l e R s m args below meth c cells slots Q A D cl cA ad E nL M (pc + 1) L (zI (x ||| y) :: st)) : zW p l e R s m args below meth c cells slots Q A D cl cA ad E nL M pc L (zI y :: zI x :: st) :=
  fun H locs ls hP hD hS hl => lv_ior X.1 X.2.1 hd (k H locs ls hP hD hS hl)
theorem z_ixor (X : zX p s m args meth c A D cl tys Ts own cc nL ret) {x y : Int32} (hd : decode cc pc = .ok (.ixor, 1)) (k : zW p l e R s m args below meth c cells slots Q A D cl cA ad E nL M (pc + 1) L (zI (x ^^^ y) :: st)) : zW p l e R s m args below meth c cells slots Q A D cl cA ad E nL M pc L (zI y :: zI x :: st) :=
  fun H locs ls hP hD hS hl => lv_ixor X.1 X.2.1 hd (k H locs ls hP hD hS hl)
theorem z_idiv (X : zX p s m args meth c A D cl tys Ts own cc nL ret) {x y : Int32} (hd : decode cc pc = .ok (.idiv, 1)) (hne : ¬ y = 0) (k : zW p l e R s m args below meth c cells slots Q A D cl cA ad E nL M (pc + 1) L (zI (x / y) :: st)) : zW p l e R s m args below meth c cells slots Q A D cl cA ad E nL M pc L (zI y :: zI x :: st) :=
  fun H locs ls hP hD hS hl => lv_idiv X.1 X.2.1 hd hne (k H locs ls hP hD hS hl)
theorem z_irem (X : zX p s m args meth c A D cl tys Ts own cc nL ret) {x y : Int32} (hd : decode cc pc = .ok (.irem, 1)) (hne : ¬ y = 0) (k : zW p l e R s m args below meth c cells slots Q A D cl cA ad E nL M (pc + 1) L (zI (x - x / y * y) :: st)) : zW p l e R s m args below meth c cells slots Q A D cl cA ad E nL M pc L (zI y :: zI x :: st) :=
  fun H locs ls hP hD hS hl => lv_irem X.1 X.2.1 hd hne (k H locs ls hP hD hS hl)
theorem z_ineg (X : zX p s m args meth c A D cl tys Ts own cc nL ret) {x : Int32} (hd : decode cc pc = .ok (.ineg, 1)) (k : zW p l e R s m args below meth c cells slots Q A D cl cA ad E nL M (pc + 1) L (zI (-x) :: st)) : zW p l e R s m args below meth c cells slots Q A D cl cA ad E nL M pc L (zI x :: st) :=
  fun H locs ls hP hD hS hl => lv_ineg X.1 X.2.1 hd (k H locs ls hP hD hS hl)
theorem z_ladd (X : zX p s m args meth c A D cl tys Ts own cc nL ret) {x y : Int64} (hd : decode cc pc = .ok (.ladd, 1)) (k : zW p l e R s m args below meth c cells slots Q A D cl cA ad E nL M (pc + 1) L (zJ (x + y) :: st)) : zW p l e R s m args below meth c cells slots Q A D cl cA ad E nL M pc L (zJ y :: zJ x :: st) :=
  fun H locs ls hP hD hS hl => lv_ladd X.1 X.2.1 hd (k H locs ls hP hD hS hl)
theorem z_lsub (X : zX p s m args meth c A D cl tys Ts own cc nL ret) {x y : Int64} (hd : decode cc pc = .ok (.lsub, 1)) (k : zW p l e R s m args below meth c cells slots Q A D cl cA ad E nL M (pc + 1) L (zJ (x - y) :: st)) : zW p l e R s m args below meth c cells slots Q A D cl cA ad E nL M pc L (zJ y :: zJ x :: st) :=
  fun H locs ls hP hD hS hl => lv_lsub X.1 X.2.1 hd (k H locs ls hP hD hS hl)
theorem z_lcmp (X : zX p s m args meth c A D cl tys Ts own cc nL ret) {x y : Int64} (hd : decode cc pc = .ok (.lcmp, 1)) (k : zW p l e R s m args below meth c cells slots Q A D cl cA ad E nL M (pc + 1) L (zI (lg_cmp x y) :: st)) : zW p l e R s m args below meth c cells slots Q A D cl cA ad E nL M pc L (zJ y :: zJ x :: st) :=
  fun H locs ls hP hD hS hl => W.lcmp X.1 X.2.1 hd (k H locs ls hP hD hS hl)
theorem z_i2l (X : zX p s m args meth c A D cl tys Ts own cc nL ret) {x : Int32} (hd : decode cc pc = .ok (.i2l, 1)) (k : zW p l e R s m args below meth c cells slots Q A D cl cA ad E nL M (pc + 1) L (zJ x.toInt64 :: st)) : zW p l e R s m args below meth c cells slots Q A D cl cA ad E nL M pc L (zI x :: st) :=
  fun H locs ls hP hD hS hl => lv_i2l X.1 X.2.1 hd rfl (k H locs ls hP hD hS hl)
theorem z_topi (X : zX p s m args meth c A D cl tys Ts own cc nL ret) {x : Int32} (k : ∀ y : Int32, y = x → zW p l e R s m args below meth c cells slots Q A D cl cA ad E nL M pc L (zI y :: st)) : zW p l e R s m args below meth c cells slots Q A D cl cA ad E nL M pc L (zI x :: st) :=
  k x rfl
theorem z_dup (X : zX p s m args meth c A D cl tys Ts own cc nL ret) {v : zA} (hd : decode cc pc = .ok (.dup, 1)) (hv : z_two v = false) (k : zW p l e R s m args below meth c cells slots Q A D cl cA ad E nL M (pc + 1) L (v :: v :: st)) : zW p l e R s m args below meth c cells slots Q A D cl cA ad E nL M pc L (v :: st) :=
  fun H locs ls hP hD hS hl => lv_dup X.1 X.2.1 hd (z_cat1 hv) (k H locs ls hP hD hS hl)
theorem z_pop (X : zX p s m args meth c A D cl tys Ts own cc nL ret) {v : zA} (hd : decode cc pc = .ok (.pop, 1)) (hv : z_two v = false) (k : zW p l e R s m args below meth c cells slots Q A D cl cA ad E nL M (pc + 1) L st) : zW p l e R s m args below meth c cells slots Q A D cl cA ad E nL M pc L (v :: st) :=
  fun H locs ls hP hD hS hl => lv_pop X.1 X.2.1 hd (z_cat1 hv) (k H locs ls hP hD hS hl)
theorem z_dup_x1 (X : zX p s m args meth c A D cl tys Ts own cc nL ret) {v w : zA} (hd : decode cc pc = .ok (.dup_x1, 1)) (hv : z_two v = false) (hw : z_two w = false) (k : zW p l e R s m args below meth c cells slots Q A D cl cA ad E nL M (pc + 1) L (v :: w :: v :: st)) : zW p l e R s m args below meth c cells slots Q A D cl cA ad E nL M pc L (v :: w :: st) :=
  fun H locs ls hP hD hS hl => lv_dup_x1 X.1 X.2.1 hd (z_cat1 hv) (z_cat1 hw) (k H locs ls hP hD hS hl)
theorem z_dup2 (X : zX p s m args meth c A D cl tys Ts own cc nL ret) {v w : zA} (hd : decode cc pc = .ok (.dup2, 1)) (hv : z_two v = false) (hw : z_two w = false) (k : zW p l e R s m args below meth c cells slots Q A D cl cA ad E nL M (pc + 1) L (v :: w :: v :: w :: st)) : zW p l e R s m args below meth c cells slots Q A D cl cA ad E nL M pc L (v :: w :: st) :=
  fun H locs ls hP hD hS hl => lv_dup2_11 X.1 X.2.1 hd (z_cat1 hv) (z_cat1 hw) (k H locs ls hP hD hS hl)
theorem z_if_eq (X : zX p s m args meth c A D cl tys Ts own cc nL ret) {x : Int32} {off : Int} (tgt : Nat) (hd : decode cc pc = .ok (.ifCond .eq off, 3)) (ht : (pc : Int) + off = (tgt : Int)) (kt : x = 0 → zW p l e R s m args below meth c cells slots Q A D cl cA ad E nL M tgt L st) (kf : ¬ x = 0 → zW p l e R s m args below meth c cells slots Q A D cl cA ad E nL M (pc + 3) L st) : zW p l e R s m args below meth c cells slots Q A D cl cA ad E nL M pc L (zI x :: st) :=
  fun H locs ls hP hD hS hl => lv_if_eq X.1 X.2.1 hd ht (fun h => kt h H locs ls hP hD hS hl) (fun h => kf h H locs ls hP hD hS hl)
theorem z_if_ne (X : zX p s m args meth c A D cl tys Ts own cc nL ret) {x : Int32} {off : Int} (tgt : Nat) (hd : decode cc pc = .ok (.ifCond .ne off, 3)) (ht : (pc : Int) + off = (tgt : Int)) (kt : ¬ x = 0 → zW p l e R s m args below meth c cells slots Q A D cl cA ad E nL M tgt L st) (kf : x = 0 → zW p l e R s m args below meth c cells slots Q A D cl cA ad E nL M (pc + 3) L st) : zW p l e R s m args below meth c cells slots Q A D cl cA ad E nL M pc L (zI x :: st) :=
  fun H locs ls hP hD hS hl => lv_if_ne X.1 X.2.1 hd ht (fun h => kt h H locs ls hP hD hS hl) (fun h => kf h H locs ls hP hD hS hl)
theorem z_if_lt (X : zX p s m args meth c A D cl tys Ts own cc nL ret) {x : Int32} {off : Int} (tgt : Nat) (hd : decode cc pc = .ok (.ifCond .lt off, 3)) (ht : (pc : Int) + off = (tgt : Int)) (kt : x < 0 → zW p l e R s m args below meth c cells slots Q A D cl cA ad E nL M tgt L st) (kf : ¬ x < 0 → zW p l e R s m args below meth c cells slots Q A D cl cA ad E nL M (pc + 3) L st) : zW p l e R s m args below meth c cells slots Q A D cl cA ad E nL M pc L (zI x :: st) :=
  fun H locs ls hP hD hS hl => lv_if_lt X.1 X.2.1 hd ht (fun h => kt h H locs ls hP hD hS hl) (fun h => kf h H locs ls hP hD hS hl)
theorem z_if_ge (X : zX p s m args meth c A D cl tys Ts own cc nL ret) {x : Int32} {off : Int} (tgt : Nat) (hd : decode cc pc = .ok (.ifCond .ge off, 3)) (ht : (pc : Int) + off = (tgt : Int)) (kt : 0 ≤ x → zW p l e R s m args below meth c cells slots Q A D cl cA ad E nL M tgt L st) (kf : ¬ 0 ≤ x → zW p l e R s m args below meth c cells slots Q A D cl cA ad E nL M (pc + 3) L st) : zW p l e R s m args below meth c cells slots Q A D cl cA ad E nL M pc L (zI x :: st) :=
  fun H locs ls hP hD hS hl => lv_if_ge X.1 X.2.1 hd ht (fun h => kt h H locs ls hP hD hS hl) (fun h => kf h H locs ls hP hD hS hl)
theorem z_if_gt (X : zX p s m args meth c A D cl tys Ts own cc nL ret) {x : Int32} {off : Int} (tgt : Nat) (hd : decode cc pc = .ok (.ifCond .gt off, 3)) (ht : (pc : Int) + off = (tgt : Int)) (kt : 0 < x → zW p l e R s m args below meth c cells slots Q A D cl cA ad E nL M tgt L st) (kf : ¬ 0 < x → zW p l e R s m args below meth c cells slots Q A D cl cA ad E nL M (pc + 3) L st) : zW p l e R s m args below meth c cells slots Q A D cl cA ad E nL M pc L (zI x :: st) :=
  fun H locs ls hP hD hS hl => lv_if_gt X.1 X.2.1 hd ht (fun h => kt h H locs ls hP hD hS hl) (fun h => kf h H locs ls hP hD hS hl)
theorem z_if_le (X : zX p s m args meth c A D cl tys Ts own cc nL ret) {x : Int32} {off : Int} (tgt : Nat) (hd : decode cc pc = .ok (.ifCond .le off, 3)) (ht : (pc : Int) + off = (tgt : Int)) (kt : x ≤ 0 → zW p l e R s m args below meth c cells slots Q A D cl cA ad E nL M tgt L st) (kf : ¬ x ≤ 0 → zW p l e R s m args below meth c cells slots Q A D cl cA ad E nL M (pc + 3) L st) : zW p l e R s m args below meth c cells slots Q A D cl cA ad E nL M pc L (zI x :: st) :=
  fun H locs ls hP hD hS hl => lv_if_le X.1 X.2.1 hd ht (fun h => kt h H locs ls hP hD hS hl) (fun h => kf h H locs ls hP hD hS hl)
theorem z_icmp_eq (X : zX p s m args meth c A D cl tys Ts own cc nL ret) {x y : Int32} {off : Int} (tgt : Nat) (hd : decode cc pc = .ok (.if_icmp .eq off, 3)) (ht : (pc : Int) + off = (tgt : Int)) (kt : x = y → zW p l e R s m args below meth c cells slots Q A D cl cA ad E nL M tgt L st) (kf : ¬ x = y → zW p l e R s m args below meth c cells slots Q A D cl cA ad E nL M (pc + 3) L st) : zW p l e R s m args below meth c cells slots Q A D cl cA ad E nL M pc L (zI y :: zI x :: st) :=
  fun H locs ls hP hD hS hl => lv_icmp_eq X.1 X.2.1 hd ht (fun h => kt h H locs ls hP hD hS hl) (fun h => kf h H locs ls hP hD hS hl)
theorem z_icmp_ne (X : zX p s m args meth c A D cl tys Ts own cc nL ret) {x y : Int32} {off : Int} (tgt : Nat) (hd : decode cc pc = .ok (.if_icmp .ne off, 3)) (ht : (pc : Int) + off = (tgt : Int)) (kt : ¬ x = y → zW p l e R s m args below meth c cells slots Q A D cl cA ad E nL M tgt L st) (kf : x = y → zW p l e R s m args below meth c cells slots Q A D cl cA ad E nL M (pc + 3) L st) : zW p l e R s m args below meth c cells slots Q A D cl cA ad E nL M pc L (zI y :: zI x :: st) :=
  fun H locs ls hP hD hS hl => lv_icmp_ne X.1 X.2.1 hd ht (fun h => kt h H locs ls hP hD hS hl) (fun h => kf h H locs ls hP hD hS hl)
theorem z_icmp_lt (X : zX p s m args meth c A D cl tys Ts own cc nL ret) {x y : Int32} {off : Int} (tgt : Nat) (hd : decode cc pc = .ok (.if_icmp .lt off, 3)) (ht : (pc : Int) + off = (tgt : Int)) (kt : x < y → zW p l e R s m args below meth c cells slots Q A D cl cA ad E nL M tgt L st) (kf : ¬ x < y → zW p l e R s m args below meth c cells slots Q A D cl cA ad E nL M (pc + 3) L st) : zW p l e R s m args below meth c cells slots Q A D cl cA ad E nL M pc L (zI y :: zI x :: st) :=
  fun H locs ls hP hD hS hl => lv_icmp_lt X.1 X.2.1 hd ht (fun h => kt h H locs ls hP hD hS hl) (fun h => kf h H locs ls hP hD hS hl)
theorem z_icmp_ge (X : zX p s m args meth c A D cl tys Ts own cc nL ret) {x y : Int32} {off : Int} (tgt : Nat) (hd : decode cc pc = .ok (.if_icmp .ge off, 3)) (ht : (pc : Int) + off = (tgt : Int)) (kt : y ≤ x → zW p l e R s m args below meth c cells slots Q A D cl cA ad E nL M tgt L st) (kf : ¬ y ≤ x → zW p l e R s m args below meth c cells slots Q A D cl cA ad E nL M (pc + 3) L st) : zW p l e R s m args below meth c cells slots Q A D cl cA ad E nL M pc L (zI y :: zI x :: st) :=
  fun H locs ls hP hD hS hl => lv_icmp_ge X.1 X.2.1 hd ht (fun h => kt h H locs ls hP hD hS hl) (fun h => kf h H locs ls hP hD hS hl)
theorem z_icmp_gt (X : zX p s m args meth c A D cl tys Ts own cc nL ret) {x y : Int32} {off : Int} (tgt : Nat) (hd : decode cc pc = .ok (.if_icmp .gt off, 3)) (ht : (pc : Int) + off = (tgt : Int)) (kt : y < x → zW p l e R s m args below meth c cells slots Q A D cl cA ad E nL M tgt L st) (kf : ¬ y < x → zW p l e R s m args below meth c cells slots Q A D cl cA ad E nL M (pc + 3) L st) : zW p l e R s m args below meth c cells slots Q A D cl cA ad E nL M pc L (zI y :: zI x :: st) :=
  fun H locs ls hP hD hS hl => lv_icmp_gt X.1 X.2.1 hd ht (fun h => kt h H locs ls hP hD hS hl) (fun h => kf h H locs ls hP hD hS hl)
theorem z_icmp_le (X : zX p s m args meth c A D cl tys Ts own cc nL ret) {x y : Int32} {off : Int} (tgt : Nat) (hd : decode cc pc = .ok (.if_icmp .le off, 3)) (ht : (pc : Int) + off = (tgt : Int)) (kt : x ≤ y → zW p l e R s m args below meth c cells slots Q A D cl cA ad E nL M tgt L st) (kf : ¬ x ≤ y → zW p l e R s m args below meth c cells slots Q A D cl cA ad E nL M (pc + 3) L st) : zW p l e R s m args below meth c cells slots Q A D cl cA ad E nL M pc L (zI y :: zI x :: st) :=
  fun H locs ls hP hD hS hl => lv_icmp_le X.1 X.2.1 hd ht (fun h => kt h H locs ls hP hD hS hl) (fun h => kf h H locs ls hP hD hS hl)
theorem z_goto (X : zX p s m args meth c A D cl tys Ts own cc nL ret) {off : Int} (tgt : Nat) (hd : decode cc pc = .ok (.goto off, 3)) (ht : (pc : Int) + off = (tgt : Int)) (k : zW p l e R s m args below meth c cells slots Q A D cl cA ad E nL M tgt L st) : zW p l e R s m args below meth c cells slots Q A D cl cA ad E nL M pc L st :=
  fun H locs ls hP hD hS hl => lv_goto X.1 X.2.1 hd ht (k H locs ls hP hD hS hl)
theorem z_ifnull (X : zX p s m args meth c A D cl tys Ts own cc nL ret) {x : Nat} {off : Int} (hd : decode cc pc = .ok (.ifnull off, 3)) (k : zW p l e R s m args below meth c cells slots Q A D cl cA ad E nL M (pc + 3) L st) : zW p l e R s m args below meth c cells slots Q A D cl cA ad E nL M pc L (zR x :: st) :=
  fun H locs ls hP hD hS hl => lv_ifnull X.1 X.2.1 hd (k H locs ls hP hD hS hl)
theorem z_ifnullN (X : zX p s m args meth c A D cl tys Ts own cc nL ret) {off : Int} (tgt : Nat) (hd : decode cc pc = .ok (.ifnull off, 3)) (ht : (pc : Int) + off = (tgt : Int)) (k : zW p l e R s m args below meth c cells slots Q A D cl cA ad E nL M tgt L st) : zW p l e R s m args below meth c cells slots Q A D cl cA ad E nL M pc L (zN :: st) :=
  fun H locs ls hP hD hS hl => lv_ifnullN X.1 X.2.1 hd ht (k H locs ls hP hD hS hl)
theorem z_ifnonnull (X : zX p s m args meth c A D cl tys Ts own cc nL ret) {x : Nat} {off : Int} (tgt : Nat) (hd : decode cc pc = .ok (.ifnonnull off, 3)) (ht : (pc : Int) + off = (tgt : Int)) (k : zW p l e R s m args below meth c cells slots Q A D cl cA ad E nL M tgt L st) : zW p l e R s m args below meth c cells slots Q A D cl cA ad E nL M pc L (zR x :: st) :=
  fun H locs ls hP hD hS hl => lv_ifnonnull X.1 X.2.1 hd ht (k H locs ls hP hD hS hl)
theorem z_ifnonnullN (X : zX p s m args meth c A D cl tys Ts own cc nL ret) {off : Int} (hd : decode cc pc = .ok (.ifnonnull off, 3)) (k : zW p l e R s m args below meth c cells slots Q A D cl cA ad E nL M (pc + 3) L st) : zW p l e R s m args below meth c cells slots Q A D cl cA ad E nL M pc L (zN :: st) :=
  fun H locs ls hP hD hS hl => lv_ifnonnullN X.1 X.2.1 hd (k H locs ls hP hD hS hl)
theorem z_tabOut (X : zX p s m args meth c A D cl tys Ts own cc nL ret) {dflt lo hi : Int} {offs : Array Int} {len : Nat} {x : Int32} (tgt : Nat) (hd : decode cc pc = .ok (.tableswitch dflt lo hi offs, len)) (h : x.toInt < lo ∨ hi < x.toInt) (ht : (pc : Int) + dflt = (tgt : Int)) (k : zW p l e R s m args below meth c cells slots Q A D cl cA ad E nL M tgt L st) : zW p l e R s m args below meth c cells slots Q A D cl cA ad E nL M pc L (zI x :: st) :=
  fun H locs ls hP hD hS hl => lv_tableOut X.1 X.2.1 hd h ht (k H locs ls hP hD hS hl)
theorem z_tabIn (X : zX p s m args meth c A D cl tys Ts own cc nL ret) {dflt lo hi : Int} {offs : Array Int} {len : Nat} {x : Int32} {off : Int} (tgt : Nat) (hd : decode cc pc = .ok (.tableswitch dflt lo hi offs, len)) (h1 : ¬ x.toInt < lo) (h2 : ¬ hi < x.toInt) (ho : offs[(x.toInt - lo).toNat]? = some off) (ht : (pc : Int) + off = (tgt : Int)) (k : zW p l e R s m args below meth c cells slots Q A D cl cA ad E nL M tgt L st) : zW p l e R s m args below meth c cells slots Q A D cl cA ad E nL M pc L (zI x :: st) :=
  fun H locs ls hP hD hS hl => lv_tableIn X.1 X.2.1 hd h1 h2 ho ht (k H locs ls hP hD hS hl)
theorem z_look (X : zX p s m args meth c A D cl tys Ts own cc nL ret) {dflt : Int} {ps : Array (Int × Int)} {len : Nat} {x : Int32} {off : Int} (tgt : Nat) (hd : decode cc pc = .ok (.lookupswitch dflt ps, len)) (hp : (ps.toList.zip (ps.toList.drop 1)).all (fun (a, next) => a.1 < next.1) = true) (ho : Op.lookupswitch.offset ps.toList dflt x.toInt = off) (ht : (pc : Int) + off = (tgt : Int)) (k : zW p l e R s m args below meth c cells slots Q A D cl cA ad E nL M tgt L st) : zW p l e R s m args below meth c cells slots Q A D cl cA ad E nL M pc L (zI x :: st) :=
  fun H locs ls hP hD hS hl => lv_lookup X.1 X.2.1 hd hp ho ht (k H locs ls hP hD hS hl)
theorem z_get (X : zX p s m args meth c A D cl tys Ts own cc nL ret) {index ci k : Nat} {ty : FieldType} {fin : Bool} (fl : zF cl Ts own index ci k ty fin) (c0 : Nat) {fs : List zK} (hE : E[c0]? = some (.inl (ci, fs))) {f : zK} (hf : fs[k]? = some f) {v : zA} (hv : z_fa M c0 k f = v) (hd : decode cc pc = .ok (.getfield index, 3)) (kk : zW p l e R s m args below meth c cells slots Q A D cl cA ad E nL M (pc + 3) L (v :: st)) : zW p l e R s m args below meth c cells slots Q A D cl cA ad E nL M pc L (zR c0 :: st) := by
  intro H locs ls hP hD hS hl
  obtain ⟨C, T, Nf, tf, h1, h2, h3, h4, h5, h6, h7, h8⟩ := fl
  have hw : (z_w cA ad M 0 E)[c0]? = some (ad c0, .inr (ci, z_fs ad M c0 0 fs)) := by
    rw [z_w_get cA ad M hE]
    rfl
  refine va_get (D := D) (ci := ci) (v := z_v ad v) (C := C) (T := T) (N := Nf) X.1 X.2.1 X.2.2.2.2.1 h3 X.2.2.2.1 X.2.2.2.2.2.1 hP c0 hw h1 k h2 (X.2.2.2.2.1 _ h4) (fun _ h9 => h9) ?_ hd (kk H locs ls hP hD hS hl)
  rw [z_fs_get, hf, ← hv, ← z_vfa, Nat.zero_add]
  rfl
theorem z_puti (X : zX p s m args meth c A D cl tys Ts own cc nL ret) {index ci k : Nat} {ty : FieldType} (fl : zF cl Ts own index ci k ty false) (c0 : Nat) {fs : List zK} (hE : E[c0]? = some (.inl (ci, fs))) (hf : fs[k]? = some ki) {x : Int32} (hn : narrow ty (.int x) = .int x) (hfit : fits ty (.int x) = true) (hd : decode cc pc = .ok (.putfield index, 3)) (kk : zW p l e R s m args below meth c cells slots Q A D cl cA ad E nL (z_si M c0 k x) (pc + 3) L st) : zW p l e R s m args below meth c cells slots Q A D cl cA ad E nL M pc L (zI x :: zR c0 :: st) := by
  intro H locs ls hP hD hS hl
  obtain ⟨C, T, Nf, tf, h1, h2, h3, h4, h5, h6, h7, h8⟩ := fl
  have hw : (z_w cA ad M 0 E)[c0]? = some (ad c0, .inr (ci, z_fs ad M c0 0 fs)) := by
    rw [z_w_get cA ad M hE]
    rfl
  have he : (z_w cA ad M 0 E).set c0 (ad c0, .inr (ci, (z_fs ad M c0 0 fs).set k (.int x))) = z_w cA ad (z_si M c0 k x) 0 E := by
    rw [z_w_set cA ad (M := M) (M' := z_si M c0 k x) hE (x' := .inl (ci, fs)) ?_ (fun d hd2 => z_si_row M k x hd2) (fun _ _ => rfl), z_set_self hE]
    rw [z_fs_si ad M c0 k x hf]
    rfl
  refine va_put (D := D) (ci := ci) (v := .int x) (ty := ty) (C := C) (T := T) (N := Nf) X.1 X.2.1 X.2.2.2.2.1 h3 tf h5 h6 X.2.2.2.1 X.2.2.2.2.2.1 hP hD hS c0 hw h1 k h2 (X.2.2.2.2.1 _ h4) (fun _ h9 => h9) h8 h7 hn hfit (by rw [z_fs_len]; exact (List.getElem?_eq_some_iff.mp hf).1) hd (fun H1 locs1 hP1 hD1 hS1 => ?_)
  rw [he] at hP1 hD1
  exact kk H1 locs1 ls hP1 hD1 hS1 hl
theorem z_putj (X : zX p s m args meth c A D cl tys Ts own cc nL ret) {index ci k : Nat} (fl : zF cl Ts own index ci k .long false) (c0 : Nat) {fs : List zK} (hE : E[c0]? = some (.inl (ci, fs))) (hf : fs[k]? = some kj) {x : Int64} (hd : decode cc pc = .ok (.putfield index, 3)) (kk : zW p l e R s m args below meth c cells slots Q A D cl cA ad E nL (z_sj M c0 k x) (pc + 3) L st) : zW p l e R s m args below meth c cells slots Q A D cl cA ad E nL M pc L (zJ x :: zR c0 :: st) := by
  intro H locs ls hP hD hS hl
  obtain ⟨C, T, Nf, tf, h1, h2, h3, h4, h5, h6, h7, h8⟩ := fl
  have hw : (z_w cA ad M 0 E)[c0]? = some (ad c0, .inr (ci, z_fs ad M c0 0 fs)) := by
    rw [z_w_get cA ad M hE]
    rfl
  have he : (z_w cA ad M 0 E).set c0 (ad c0, .inr (ci, (z_fs ad M c0 0 fs).set k (.long x))) = z_w cA ad (z_sj M c0 k x) 0 E := by
    rw [z_w_set cA ad (M := M) (M' := z_sj M c0 k x) hE (x' := .inl (ci, fs)) ?_ (fun _ _ => rfl) (fun d hd2 => z_sj_row M k x hd2), z_set_self hE]
    rw [z_fs_sj ad M c0 k x hf]
    rfl
  refine va_put (D := D) (ci := ci) (v := .long x) (ty := .long) (C := C) (T := T) (N := Nf) X.1 X.2.1 X.2.2.2.2.1 h3 tf h5 h6 X.2.2.2.1 X.2.2.2.2.2.1 hP hD hS c0 hw h1 k h2 (X.2.2.2.2.1 _ h4) (fun _ h9 => h9) h8 h7 rfl rfl (by rw [z_fs_len]; exact (List.getElem?_eq_some_iff.mp hf).1) hd (fun H1 locs1 hP1 hD1 hS1 => ?_)
  rw [he] at hP1 hD1
  exact kk H1 locs1 ls hP1 hD1 hS1 hl
theorem z_iald (X : zX p s m args meth c A D cl tys Ts own cc nL ret) (c0 : Nat) {t n : Nat} (hE : E[c0]? = some (.inr (.inl (t, n)))) (ht : tys[t]? = some (cA t, .int)) {i : Int32} (j : Nat) (hi : i = nI j) (hj : j < n) (hn : n < 2 ^ 31) (hd : decode cc pc = .ok (.iaload, 1)) (kk : zW p l e R s m args below meth c cells slots Q A D cl cA ad E nL M (pc + 1) L (zI (M.1 c0 j) :: st)) : zW p l e R s m args below meth c cells slots Q A D cl cA ad E nL M pc L (zI i :: zR c0 :: st) := by
  subst hi
  intro H locs ls hP hD hS hl
  have hw : (z_w cA ad M 0 E)[c0]? = some (ad c0, .inl (cA t, n, .inl (M.1 c0))) := by
    rw [z_w_get cA ad M hE]
    rfl
  refine va_iald X.1 X.2.1 X.2.2.2.2.2.1 hP c0 t hw ht (vp_in_nI hj hn) hd ?_
  rw [nI_clamp (n := j) (by omega)]
  exact kk H locs ls hP hD hS hl
theorem z_iast (X : zX p s m args meth c A D cl tys Ts own cc nL ret) (c0 : Nat) {t n : Nat} (hE : E[c0]? = some (.inr (.inl (t, n)))) (ht : tys[t]? = some (cA t, .int)) {i x : Int32} (j : Nat) (hi : i = nI j) (hj : j < n) (hn : n < 2 ^ 31) (hd : decode cc pc = .ok (.iastore, 1)) (kk : zW p l e R s m args below meth c cells slots Q A D cl cA ad E nL (z_si M c0 j x) (pc + 1) L st) : zW p l e R s m args below meth c cells slots Q A D cl cA ad E nL M pc L (zI x :: zI i :: zR c0 :: st) := by
  subst hi
  intro H locs ls hP hD hS hl
  have hw : (z_w cA ad M 0 E)[c0]? = some (ad c0, .inl (cA t, n, .inl (M.1 c0))) := by
    rw [z_w_get cA ad M hE]
    rfl
  have he : (z_w cA ad M 0 E).set c0 (ad c0, .inl (cA t, n, .inl (upd (M.1 c0) (nI j).toNatClampNeg x))) = z_w cA ad (z_si M c0 j x) 0 E := by
    rw [z_w_set cA ad (M := M) (M' := z_si M c0 j x) hE (x' := .inr (.inl (t, n))) ?_ (fun d hd2 => z_si_row M j x hd2) (fun _ _ => rfl), z_set_self hE]
    rw [nI_clamp (n := j) (by omega), show upd (M.1 c0) j x = (z_si M c0 j x).1 c0 from by funext q; simp [upd, z_si]]
    rfl
  refine va_iast X.1 X.2.1 X.2.2.2.2.2.1 hP hD hS c0 t hw ht (vp_in_nI hj hn) hd (fun H1 locs1 hP1 hD1 hS1 => ?_)
  rw [he] at hP1 hD1
  exact kk H1 locs1 ls hP1 hD1 hS1 hl
theorem z_aald (X : zX p s m args meth c A D cl tys Ts own cc nL ret) (c0 : Nat) {t : Nat} {rs : List (Option Nat)} {C : String} (hE : E[c0]? = some (.inr (.inr (t, rs)))) (ht : tys[t]? = some (cA t, .object C)) {i : Int32} (j : Nat) (hi : i = nI j) (hj : j < rs.length) (hn : rs.length < 2 ^ 31) {r : Nat} (hr : rs.getD j none = some r) (hd : decode cc pc = .ok (.aaload, 1)) (kk : zW p l e R s m args below meth c cells slots Q A D cl cA ad E nL M (pc + 1) L (zR r :: st)) : zW p l e R s m args below meth c cells slots Q A D cl cA ad E nL M pc L (zI i :: zR c0 :: st) := by
  subst hi
  intro H locs ls hP hD hS hl
  have hw : (z_w cA ad M 0 E)[c0]? = some (ad c0, .inl (cA t, rs.length, .inr (.inr (.inr (.inr (fun j => (rs.getD j none).map ad)))))) := by
    rw [z_w_get cA ad M hE]
    rfl
  refine va_aldq X.1 X.2.1 X.2.2.2.2.2.1 hP c0 t hw ht (vp_in_nI hj hn) hd ?_
  rw [nI_clamp (n := j) (by omega), hr]
  exact kk H locs ls hP hD hS hl
theorem z_alen (X : zX p s m args meth c A D cl tys Ts own cc nL ret) (c0 : Nat) {t n : Nat} (hE : E[c0]? = some (.inr (.inl (t, n)))) {ty : FieldType} (ht : tys[t]? = some (cA t, ty)) {v : Int32} (hv : Int32.ofNat n = v) (hd : decode cc pc = .ok (.arraylength, 1)) (kk : zW p l e R s m args below meth c cells slots Q A D cl cA ad E nL M (pc + 1) L (zI v :: st)) : zW p l e R s m args below meth c cells slots Q A D cl cA ad E nL M pc L (zR c0 :: st) := by
  intro H locs ls hP hD hS hl
  have hw : (z_w cA ad M 0 E)[c0]? = some (ad c0, .inl (cA t, n, .inl (M.1 c0))) := by
    rw [z_w_get cA ad M hE]
    rfl
  exact va_alen X.1 X.2.1 X.2.2.2.2.2.1 hP c0 t hw ht hv hd (kk H locs ls hP hD hS hl)
end ZRows
/-- a contract out of a walk of the body, for a method that no row of the natives' table runs instead -/
theorem z_ofW {l : Launch} {y : MethodName} {ws ws' : List Cond} {rm : Room} {Pc : Array Value → State → Prop} {Qc : Array Value → State → Outcome → State → Prop} {mc ms : Nat} {free : Addr → Prop} {cc : ByteArray} {maxL : Nat} {ret : Option FieldType} (hy : plainFor y = true) (hw : ws = Cond.code y cc maxL ret :: ws')
    (body : ∀ p e s m args below meth c s₁, BodyLoose p l y (headSpec ws rm) cc maxL ret e s m args below meth c s₁ → c.maxLocals = maxL → Pc args s → W p l e (headSpec ws rm).room s m args below meth c s.heap [] 0 0 (MQ below Qc args s mc ms free) (entryFrame m args maxL)) : Met l y ws rm Pc Qc mc ms free := by
  refine MetFree.of_bodySF (code := cc) (maxLocals := maxL) (ret := ret) hy (fun args s m h hn => ?_) (fun p e s m args below meth c s₁ B hml hP _ => ?_)
  · have hcode := atoms_spec (ws := ws) h (Cond.code y cc maxL ret) (by rw [hw]; exact List.mem_cons_self)
    obtain ⟨meth, c, h1, h2, h3, h4, h5, h6, -, -⟩ := Cond.code_spec hn hcode
    exact ⟨meth, c, h1, h2, h3, h4, h5, h6⟩
  · have hh : s₁.heap = s.heap := by rw [B.state]; rfl
    obtain ⟨t, st, o, e1, e2, e3⟩ := body p e s m args below meth c s₁ B hml hP s₁ hh (Stand.of_body B)
    exact ⟨t, o, st, e1, e2, e3⟩
/-- the locals that a method begins with -/
def z_args : Nat → List zA → List (Nat × zA)
  | _, [] => []
  | i, v :: vs => (i, v) :: z_args (if z_two v = true then i + 2 else i + 1) vs
def z_len : List zA → Nat
  | [] => 0
  | v :: vs => (if z_two v = true then 2 else 1) + z_len vs
theorem z_cat2 (ad : Nat → Nat) (v : zA) : (z_v ad v).category = 2 ↔ z_two v = true := by
  rw [← z_cat ad v]
  exact (beq_iff_eq).symm
theorem z_args_map (ad : Nat → Nat) : ∀ (as : List zA) (i : Nat), (z_args i as).map (fun q => (q.1, z_v ad q.2)) = lv_args i (as.map (z_v ad))
  | [], i => rfl
  | v :: vs, i => by
    show (i, z_v ad v) :: (z_args _ vs).map _ = (i, z_v ad v) :: lv_args _ (vs.map (z_v ad))
    rw [z_args_map ad vs]
    by_cases h : z_two v = true
    · rw [if_pos h, if_pos ((z_cat2 ad v).mpr h)]
    · rw [if_neg h, if_neg (fun q => h ((z_cat2 ad v).mp q))]
theorem z_len_eq (ad : Nat → Nat) : ∀ as : List zA, (lg_sl (as.map (z_v ad))).length = z_len as
  | [] => rfl
  | v :: vs => by
    have h := z_len_eq ad vs
    unfold lg_sl at h ⊢
    rw [List.map_cons, List.flatMap_cons, List.length_append, h]
    show _ = (if z_two v = true then 2 else 1) + z_len vs
    by_cases h2 : z_two v = true
    · rw [if_pos h2, if_pos ((z_cat2 ad v).mpr h2)]
      rfl
    · rw [if_neg h2, if_neg (fun q => h2 ((z_cat2 ad v).mp q))]
      rfl
def zMi (l : Launch) (D : va_G) (cl : List vw_C) (tys : List (ClassId × FieldType)) (cA : Nat → ClassId) (ad : Nat → Nat) (E : List zC) (Ts : List Cond) (y : MethodName) (b : ByteArray) (nL : Nat) (ret : Option FieldType) (rm : Room) (as : List zA) (M : zM) (post : Int32 → zM → Prop) : Prop :=
  ∀ sz : Nat, Met l y (.code y b nL ret :: Ts) rm (va_Pc (as.map (z_v ad)) (fun U => U.heap.size = sz ∧ va_P D cl (z_w cA ad M 0 E) U.heap ∧ va_K D cl tys U ∧ va_D (fun _ => True) (z_w cA ad M 0 E))) (va_Qi post (fun M' t => va_P D cl (z_w cA ad M' 0 E) t.heap) (va_A (z_w cA ad M 0 E) sz)) 0 0 (va_A (z_w cA ad M 0 E) sz)
theorem zMi_of {l : Launch} {D : va_G} {cl : List vw_C} {tys : List (ClassId × FieldType)} {cA : Nat → ClassId} {ad : Nat → Nat} {E : List zC} {Ts : List Cond} {y : MethodName} {b : ByteArray} {nL : Nat} {ret : Option FieldType} {rm : Room} {as : List zA} {M : zM} {post : Int32 → zM → Prop} (hy : plainFor y = true) (hlen : z_len as ≤ nL)
    (body : ∀ (p : Program) (e : Env) (s : State) (m : MethodId) (args : Array Value) (below : List Frame) (meth : Method) (c : Code) (A : Nat → Prop), zX p s m args meth c A D cl tys Ts y.cls b nL ret →
      zW p l e rm s m args below meth c 0 0 (MQ below (va_Qi post (fun M' t => va_P D cl (z_w cA ad M' 0 E) t.heap) A) args s 0 0 A) A D cl cA ad E nL M 0 (z_args 0 as) []) : zMi l D cl tys cA ad E Ts y b nL ret rm as M post := by
  intro sz
  refine z_ofW (cc := b) (maxL := nL) (ret := ret) hy rfl ?_
  intro p e s m args below meth c s₁ B hml hv
  obtain ⟨rfl, hsz, hP, hK, hD0⟩ := hv
  subst hsz
  have hts := atoms_spec (ws := .code y b nL ret :: Ts) B.pre
  have hown : s.vm.findClass y.cls = some m.cls := findClass_of_methodNamed B.named
  have hD := hD0.self (sz := s.heap.size)
  generalize hAe : va_A (z_w cA ad M 0 E) s.heap.size = A at hD ⊢
  have hA : ∀ q : Nat, s.heap.size ≤ q → A q := fun q h => by rw [← hAe]; exact Or.inr h
  have hl := lv_entry (as.map (z_v ad)) (n := nL) (by rw [z_len_eq]; exact hlen)
  rw [lg_entry_eq]
  exact body p e s m _ below meth c A ⟨B.exec, B.bytes, hml, hown, fun w hw => hts w (List.mem_cons_of_mem _ hw), hK, hA, B.returns, B.notSynchronized⟩ s.heap [] _ hP hD va_S.rf (by rw [z_args_map]; exact hl)
def zMj (l : Launch) (D : va_G) (cl : List vw_C) (tys : List (ClassId × FieldType)) (cA : Nat → ClassId) (ad : Nat → Nat) (E : List zC) (Ts : List Cond) (y : MethodName) (b : ByteArray) (nL : Nat) (ret : Option FieldType) (rm : Room) (as : List zA) (M : zM) (post : Int64 → zM → Prop) : Prop :=
  ∀ sz : Nat, Met l y (.code y b nL ret :: Ts) rm (va_Pc (as.map (z_v ad)) (fun U => U.heap.size = sz ∧ va_P D cl (z_w cA ad M 0 E) U.heap ∧ va_K D cl tys U ∧ va_D (fun _ => True) (z_w cA ad M 0 E))) (va_Ql post (fun M' t => va_P D cl (z_w cA ad M' 0 E) t.heap) (va_A (z_w cA ad M 0 E) sz)) 0 0 (va_A (z_w cA ad M 0 E) sz)
theorem zMj_of {l : Launch} {D : va_G} {cl : List vw_C} {tys : List (ClassId × FieldType)} {cA : Nat → ClassId} {ad : Nat → Nat} {E : List zC} {Ts : List Cond} {y : MethodName} {b : ByteArray} {nL : Nat} {ret : Option FieldType} {rm : Room} {as : List zA} {M : zM} {post : Int64 → zM → Prop} (hy : plainFor y = true) (hlen : z_len as ≤ nL)
    (body : ∀ (p : Program) (e : Env) (s : State) (m : MethodId) (args : Array Value) (below : List Frame) (meth : Method) (c : Code) (A : Nat → Prop), zX p s m args meth c A D cl tys Ts y.cls b nL ret →
      zW p l e rm s m args below meth c 0 0 (MQ below (va_Ql post (fun M' t => va_P D cl (z_w cA ad M' 0 E) t.heap) A) args s 0 0 A) A D cl cA ad E nL M 0 (z_args 0 as) []) : zMj l D cl tys cA ad E Ts y b nL ret rm as M post := by
  intro sz
  refine z_ofW (cc := b) (maxL := nL) (ret := ret) hy rfl ?_
  intro p e s m args below meth c s₁ B hml hv
  obtain ⟨rfl, hsz, hP, hK, hD0⟩ := hv
  subst hsz
  have hts := atoms_spec (ws := .code y b nL ret :: Ts) B.pre
  have hown : s.vm.findClass y.cls = some m.cls := findClass_of_methodNamed B.named
  have hD := hD0.self (sz := s.heap.size)
  generalize hAe : va_A (z_w cA ad M 0 E) s.heap.size = A at hD ⊢
  have hA : ∀ q : Nat, s.heap.size ≤ q → A q := fun q h => by rw [← hAe]; exact Or.inr h
  have hl := lv_entry (as.map (z_v ad)) (n := nL) (by rw [z_len_eq]; exact hlen)
  rw [lg_entry_eq]
  exact body p e s m _ below meth c A ⟨B.exec, B.bytes, hml, hown, fun w hw => hts w (List.mem_cons_of_mem _ hw), hK, hA, B.returns, B.notSynchronized⟩ s.heap [] _ hP hD va_S.rf (by rw [z_args_map]; exact hl)
def zMv (l : Launch) (D : va_G) (cl : List vw_C) (tys : List (ClassId × FieldType)) (cA : Nat → ClassId) (ad : Nat → Nat) (E : List zC) (Ts : List Cond) (y : MethodName) (b : ByteArray) (nL : Nat) (ret : Option FieldType) (rm : Room) (as : List zA) (M : zM) (post : zM → Prop) : Prop :=
  ∀ sz : Nat, Met l y (.code y b nL ret :: Ts) rm (va_Pc (as.map (z_v ad)) (fun U => U.heap.size = sz ∧ va_P D cl (z_w cA ad M 0 E) U.heap ∧ va_K D cl tys U ∧ va_D (fun _ => True) (z_w cA ad M 0 E))) (va_Qv post (fun M' t => va_P D cl (z_w cA ad M' 0 E) t.heap) (va_A (z_w cA ad M 0 E) sz)) 0 0 (va_A (z_w cA ad M 0 E) sz)
theorem zMv_of {l : Launch} {D : va_G} {cl : List vw_C} {tys : List (ClassId × FieldType)} {cA : Nat → ClassId} {ad : Nat → Nat} {E : List zC} {Ts : List Cond} {y : MethodName} {b : ByteArray} {nL : Nat} {ret : Option FieldType} {rm : Room} {as : List zA} {M : zM} {post : zM → Prop} (hy : plainFor y = true) (hlen : z_len as ≤ nL)
    (body : ∀ (p : Program) (e : Env) (s : State) (m : MethodId) (args : Array Value) (below : List Frame) (meth : Method) (c : Code) (A : Nat → Prop), zX p s m args meth c A D cl tys Ts y.cls b nL ret →
      zW p l e rm s m args below meth c 0 0 (MQ below (va_Qv post (fun M' t => va_P D cl (z_w cA ad M' 0 E) t.heap) A) args s 0 0 A) A D cl cA ad E nL M 0 (z_args 0 as) []) : zMv l D cl tys cA ad E Ts y b nL ret rm as M post := by
  intro sz
  refine z_ofW (cc := b) (maxL := nL) (ret := ret) hy rfl ?_
  intro p e s m args below meth c s₁ B hml hv
  obtain ⟨rfl, hsz, hP, hK, hD0⟩ := hv
  subst hsz
  have hts := atoms_spec (ws := .code y b nL ret :: Ts) B.pre
  have hown : s.vm.findClass y.cls = some m.cls := findClass_of_methodNamed B.named
  have hD := hD0.self (sz := s.heap.size)
  generalize hAe : va_A (z_w cA ad M 0 E) s.heap.size = A at hD ⊢
  have hA : ∀ q : Nat, s.heap.size ≤ q → A q := fun q h => by rw [← hAe]; exact Or.inr h
  have hl := lv_entry (as.map (z_v ad)) (n := nL) (by rw [z_len_eq]; exact hlen)
  rw [lg_entry_eq]
  exact body p e s m _ below meth c A ⟨B.exec, B.bytes, hml, hown, fun w hw => hts w (List.mem_cons_of_mem _ hw), hK, hA, B.returns, B.notSynchronized⟩ s.heap [] _ hP hD va_S.rf (by rw [z_args_map]; exact hl)
def zMq (l : Launch) (D : va_G) (cl : List vw_C) (tys : List (ClassId × FieldType)) (cA : Nat → ClassId) (ad : Nat → Nat) (E : List zC) (Ts : List Cond) (y : MethodName) (b : ByteArray) (nL : Nat) (ret : Option FieldType) (rm : Room) (as : List zA) (M : zM) (post : Option Nat → zM → Prop) : Prop :=
  ∀ sz : Nat, Met l y (.code y b nL ret :: Ts) rm (va_Pc (as.map (z_v ad)) (fun U => U.heap.size = sz ∧ va_P D cl (z_w cA ad M 0 E) U.heap ∧ va_K D cl tys U ∧ va_D (fun _ => True) (z_w cA ad M 0 E))) (va_Qq (fun (r : Option Nat) (u : zM) => ∃ o : Option Nat, r = o.map ad ∧ post o u) (fun M' t => va_P D cl (z_w cA ad M' 0 E) t.heap) (va_A (z_w cA ad M 0 E) sz)) 0 0 (va_A (z_w cA ad M 0 E) sz)
theorem zMq_of {l : Launch} {D : va_G} {cl : List vw_C} {tys : List (ClassId × FieldType)} {cA : Nat → ClassId} {ad : Nat → Nat} {E : List zC} {Ts : List Cond} {y : MethodName} {b : ByteArray} {nL : Nat} {ret : Option FieldType} {rm : Room} {as : List zA} {M : zM} {post : Option Nat → zM → Prop} (hy : plainFor y = true) (hlen : z_len as ≤ nL)
    (body : ∀ (p : Program) (e : Env) (s : State) (m : MethodId) (args : Array Value) (below : List Frame) (meth : Method) (c : Code) (A : Nat → Prop), zX p s m args meth c A D cl tys Ts y.cls b nL ret →
      zW p l e rm s m args below meth c 0 0 (MQ below (va_Qq (fun (r : Option Nat) (u : zM) => ∃ o : Option Nat, r = o.map ad ∧ post o u) (fun M' t => va_P D cl (z_w cA ad M' 0 E) t.heap) A) args s 0 0 A) A D cl cA ad E nL M 0 (z_args 0 as) []) : zMq l D cl tys cA ad E Ts y b nL ret rm as M post := by
  intro sz
  refine z_ofW (cc := b) (maxL := nL) (ret := ret) hy rfl ?_
  intro p e s m args below meth c s₁ B hml hv
  obtain ⟨rfl, hsz, hP, hK, hD0⟩ := hv
  subst hsz
  have hts := atoms_spec (ws := .code y b nL ret :: Ts) B.pre
  have hown : s.vm.findClass y.cls = some m.cls := findClass_of_methodNamed B.named
  have hD := hD0.self (sz := s.heap.size)
  generalize hAe : va_A (z_w cA ad M 0 E) s.heap.size = A at hD ⊢
  have hA : ∀ q : Nat, s.heap.size ≤ q → A q := fun q h => by rw [← hAe]; exact Or.inr h
  have hl := lv_entry (as.map (z_v ad)) (n := nL) (by rw [z_len_eq]; exact hlen)
  rw [lg_entry_eq]
  exact body p e s m _ below meth c A ⟨B.exec, B.bytes, hml, hown, fun w hw => hts w (List.mem_cons_of_mem _ hw), hK, hA, B.returns, B.notSynchronized⟩ s.heap [] _ hP hD va_S.rf (by rw [z_args_map]; exact hl)
/-- what a call needs of the words: invokevirtual, invokestatic -/
def zV (Ts : List Cond) (own : String) (index : Nat) (C : String) (y : MethodName) (b : ByteArray) (nL : Nat) (ret : Option FieldType) (n : Nat) : Prop := GoodIn Ts (wsV own index C y [.code y b nL ret]) ∧ (y.cls = C ∧ y.cls ≠ "java/lang/invoke/MethodHandle" ∧ y.cls ≠ "java/lang/invoke/VarHandle" ∧ (parseMethodDescriptor y.desc).map (fun d => d.parameters.length) = some n)
def zS (Ts : List Cond) (own : String) (index : Nat) (y : MethodName) (b : ByteArray) (nL : Nat) (ret : Option FieldType) (n : Nat) : Prop := GoodIn Ts (va_wsS own index y [.code y b nL ret]) ∧ (y.cls ≠ "java/lang/invoke/MethodHandle" ∧ y.cls ≠ "java/lang/invoke/VarHandle" ∧ (parseMethodDescriptor y.desc).map (fun d => d.parameters.length) = some n)
theorem zV_in {Ts : List Cond} {own : String} {index : Nat} {C : String} {y : MethodName} {b : ByteArray} {nL : Nat} {ret : Option FieldType} {n : Nat} (hGG : GoodIn Ts Ts) (h : zV Ts own index C y b nL ret n) : GoodIn Ts (wsV own index C y (.code y b nL ret :: Ts)) := by
  intro w hw
  unfold wsV at hw
  rcases List.mem_append.mp hw with q | q
  · exact h.1 w (by unfold wsV; exact List.mem_append_left _ q)
  · rcases List.mem_cons.mp q with q | q
    · subst q
      exact h.1 _ (by unfold wsV; exact List.mem_append_right _ List.mem_cons_self)
    · exact hGG w q
theorem zS_in {Ts : List Cond} {own : String} {index : Nat} {y : MethodName} {b : ByteArray} {nL : Nat} {ret : Option FieldType} {n : Nat} (hGG : GoodIn Ts Ts) (h : zS Ts own index y b nL ret n) : GoodIn Ts (va_wsS own index y (.code y b nL ret :: Ts)) := by
  intro w hw
  unfold va_wsS at hw
  rcases List.mem_append.mp hw with q | q
  · exact h.1 w (by unfold va_wsS; exact List.mem_append_left _ q)
  · rcases List.mem_cons.mp q with q | q
    · subst q
      exact h.1 _ (by unfold va_wsS; exact List.mem_append_right _ List.mem_cons_self)
    · exact hGG w q
section ZCalls
variable {p : Program} {l : Launch} {e : Env} {R : Room} {s : State} {m : MethodId} {args : Array Value} {below : List Frame} {meth : Method} {c : Code} {cells slots : Nat} {Q : State → Prop} {A : Nat → Prop} {D : va_G} {cl : List vw_C} {tys : List (ClassId × FieldType)} {cA : Nat → ClassId} {ad : Nat → Nat} {E : List zC} {nL : Nat} {M : zM} {pc : Nat} {L L' : List (Nat × zA)} {st stk : List zA} {Ts : List Cond} {own : String} {cc : ByteArray} {ret : Option FieldType}
  {y : MethodName} {b2 : ByteArray} {nL2 n index : Nat} {ret2 : Option FieldType} {rm : Room}
theorem z_Vi (X : zX p s m args meth c A D cl tys Ts own cc nL ret) (hGG : GoodIn Ts Ts) {C : String} (cf : zV Ts own index C y b2 nL2 ret2 n) (c0 : Nat) (as st : List zA) {post : Int32 → zM → Prop} (hM : zMi l D cl tys cA ad E Ts y b2 nL2 ret2 rm (zR c0 :: as) M post) (hrm : rm.cells = 0 ∧ rm.slots = 0) (hroom : rm.frames + 1 ≤ R.frames ∧ 8 + (nL2 + 11) + rm.locals ≤ R.locals) {ci : Nat} {fs : List zK} (hE : E[c0]? = some (.inl (ci, fs))) {r0 : vw_C} (hcl : cl[ci]? = some r0) (hC : r0.1 = C) (hn : as.length = n) (hs : stk = as.reverse ++ zR c0 :: st) (hW : ((st.map (z_v ad)).map fun v => v.category).sum ≤ 8) (hf : cells ≤ R.cells ∧ slots ≤ R.slots) (hd : decode cc pc = .ok (.invokevirtual index, 3)) (k : ∀ (r : Int32) (M' : zM), post r M' → zW p l e R s m args below meth c cells slots Q A D cl cA ad E nL M' (pc + 3) L (zI r :: st)) : zW p l e R s m args below meth c cells slots Q A D cl cA ad E nL M pc L stk := by
  intro H locs ls hP hD hS hl
  subst hs
  subst hC
  have hFc := z_A cA ad hD hS X.2.2.2.2.2.2.1
  have hw : (z_w cA ad M 0 E)[c0]? = some (ad c0, .inr (ci, z_fs ad M c0 0 fs)) := by
    rw [z_w_get cA ad M hE]
    rfl
  refine va_calli (va_runV (As := as.map (z_v ad)) (rest := st.map (z_v ad)) (b := ad c0) ⟨X.1, X.2.1, X.2.2.1, X.2.2.2.1, X.2.2.2.2.1⟩ (hM H.size) (cwV n X.2.2.2.2.1 (zV_in hGG cf) rfl hrm.1 hrm.2 cf.2 hroom) ⟨fun a U g mk q => by obtain ⟨q0, q1, qP, qK, qD⟩ := q; exact ⟨q0, q1, qP, va_K.moved (u := U) (U := U.calling g mk a) (Vm.Alike.refl U.vm) qK, qD⟩, va_recv X.2.2.2.2.2.1 hP hcl hw, fun U hU hW2 => ⟨rfl, by rw [hU], by rw [hU]; exact hP, va_K.moved hW2.alike X.2.2.2.2.2.1, hD.weaken (fun _ _ _ _ => trivial)⟩⟩ rfl (by rw [List.length_map]; exact hn) hl.1 (by show List.map _ _ = _; rw [List.map_append, List.map_reverse]; rfl) (lv_room hW) hd ⟨hf.1, hf.2⟩) hS (fun q _ h => hFc q h) hFc (fun r M' t H1 locs1 ht hvm hw hB hz1 hk1 hS1 => ?_)
  exact k r M' hw H1 locs1 ls (by rw [← ht]; exact hB) (z_D cA ad M' hD) hS1 hl
theorem z_Si (X : zX p s m args meth c A D cl tys Ts own cc nL ret) (hGG : GoodIn Ts Ts) (cf : zS Ts own index y b2 nL2 ret2 n) (as st : List zA) {post : Int32 → zM → Prop} (hM : zMi l D cl tys cA ad E Ts y b2 nL2 ret2 rm as M post) (hrm : rm.cells = 0 ∧ rm.slots = 0) (hroom : rm.frames + 1 ≤ R.frames ∧ 8 + (nL2 + 11) + rm.locals ≤ R.locals) (hn : as.length = n) (hs : stk = as.reverse ++ st) (hW : ((st.map (z_v ad)).map fun v => v.category).sum ≤ 8) (hf : cells ≤ R.cells ∧ slots ≤ R.slots) (hd : decode cc pc = .ok (.invokestatic index, 3)) (k : ∀ (r : Int32) (M' : zM), post r M' → zW p l e R s m args below meth c cells slots Q A D cl cA ad E nL M' (pc + 3) L (zI r :: st)) : zW p l e R s m args below meth c cells slots Q A D cl cA ad E nL M pc L stk := by
  intro H locs ls hP hD hS hl
  subst hs
  have hFc := z_A cA ad hD hS X.2.2.2.2.2.2.1
  refine va_calli (va_runS (As := as.map (z_v ad)) (rest := st.map (z_v ad)) ⟨X.1, X.2.1, X.2.2.1, X.2.2.2.1, X.2.2.2.2.1⟩ (hM H.size) (va_cwS n X.2.2.2.2.1 (zS_in hGG cf) rfl hrm.1 hrm.2 cf.2 hroom) ⟨fun a U g mk q => by obtain ⟨q0, q1, qP, qK, qD⟩ := q; exact ⟨q0, q1, qP, va_K.moved (u := U) (U := U.calling g mk a) (Vm.Alike.refl U.vm) qK, qD⟩, fun U hU hW2 => ⟨rfl, by rw [hU], by rw [hU]; exact hP, va_K.moved hW2.alike X.2.2.2.2.2.1, hD.weaken (fun _ _ _ _ => trivial)⟩⟩ rfl (by rw [List.length_map]; exact hn) hl.1 (by show List.map _ _ = _; rw [List.map_append, List.map_reverse]) (lv_room hW) hd ⟨hf.1, hf.2⟩) hS (fun q _ h => hFc q h) hFc (fun r M' t H1 locs1 ht hvm hw hB hz1 hk1 hS1 => ?_)
  exact k r M' hw H1 locs1 ls (by rw [← ht]; exact hB) (z_D cA ad M' hD) hS1 hl
theorem z_Vj (X : zX p s m args meth c A D cl tys Ts own cc nL ret) (hGG : GoodIn Ts Ts) {C : String} (cf : zV Ts own index C y b2 nL2 ret2 n) (c0 : Nat) (as st : List zA) {post : Int64 → zM → Prop} (hM : zMj l D cl tys cA ad E Ts y b2 nL2 ret2 rm (zR c0 :: as) M post) (hrm : rm.cells = 0 ∧ rm.slots = 0) (hroom : rm.frames + 1 ≤ R.frames ∧ 8 + (nL2 + 11) + rm.locals ≤ R.locals) {ci : Nat} {fs : List zK} (hE : E[c0]? = some (.inl (ci, fs))) {r0 : vw_C} (hcl : cl[ci]? = some r0) (hC : r0.1 = C) (hn : as.length = n) (hs : stk = as.reverse ++ zR c0 :: st) (hW : ((st.map (z_v ad)).map fun v => v.category).sum ≤ 8) (hf : cells ≤ R.cells ∧ slots ≤ R.slots) (hd : decode cc pc = .ok (.invokevirtual index, 3)) (k : ∀ (r : Int64) (M' : zM), post r M' → zW p l e R s m args below meth c cells slots Q A D cl cA ad E nL M' (pc + 3) L (zJ r :: st)) : zW p l e R s m args below meth c cells slots Q A D cl cA ad E nL M pc L stk := by
  intro H locs ls hP hD hS hl
  subst hs
  subst hC
  have hFc := z_A cA ad hD hS X.2.2.2.2.2.2.1
  have hw : (z_w cA ad M 0 E)[c0]? = some (ad c0, .inr (ci, z_fs ad M c0 0 fs)) := by
    rw [z_w_get cA ad M hE]
    rfl
  refine va_calll (va_runV (As := as.map (z_v ad)) (rest := st.map (z_v ad)) (b := ad c0) ⟨X.1, X.2.1, X.2.2.1, X.2.2.2.1, X.2.2.2.2.1⟩ (hM H.size) (cwV n X.2.2.2.2.1 (zV_in hGG cf) rfl hrm.1 hrm.2 cf.2 hroom) ⟨fun a U g mk q => by obtain ⟨q0, q1, qP, qK, qD⟩ := q; exact ⟨q0, q1, qP, va_K.moved (u := U) (U := U.calling g mk a) (Vm.Alike.refl U.vm) qK, qD⟩, va_recv X.2.2.2.2.2.1 hP hcl hw, fun U hU hW2 => ⟨rfl, by rw [hU], by rw [hU]; exact hP, va_K.moved hW2.alike X.2.2.2.2.2.1, hD.weaken (fun _ _ _ _ => trivial)⟩⟩ rfl (by rw [List.length_map]; exact hn) hl.1 (by show List.map _ _ = _; rw [List.map_append, List.map_reverse]; rfl) (lv_room hW) hd ⟨hf.1, hf.2⟩) hS (fun q _ h => hFc q h) hFc (fun r M' t H1 locs1 ht hvm hw hB hz1 hk1 hS1 => ?_)
  exact k r M' hw H1 locs1 ls (by rw [← ht]; exact hB) (z_D cA ad M' hD) hS1 hl
theorem z_Sj (X : zX p s m args meth c A D cl tys Ts own cc nL ret) (hGG : GoodIn Ts Ts) (cf : zS Ts own index y b2 nL2 ret2 n) (as st : List zA) {post : Int64 → zM → Prop} (hM : zMj l D cl tys cA ad E Ts y b2 nL2 ret2 rm as M post) (hrm : rm.cells = 0 ∧ rm.slots = 0) (hroom : rm.frames + 1 ≤ R.frames ∧ 8 + (nL2 + 11) + rm.locals ≤ R.locals) (hn : as.length = n) (hs : stk = as.reverse ++ st) (hW : ((st.map (z_v ad)).map fun v => v.category).sum ≤ 8) (hf : cells ≤ R.cells ∧ slots ≤ R.slots) (hd : decode cc pc = .ok (.invokestatic index, 3)) (k : ∀ (r : Int64) (M' : zM), post r M' → zW p l e R s m args below meth c cells slots Q A D cl cA ad E nL M' (pc + 3) L (zJ r :: st)) : zW p l e R s m args below meth c cells slots Q A D cl cA ad E nL M pc L stk := by
  intro H locs ls hP hD hS hl
  subst hs
  have hFc := z_A cA ad hD hS X.2.2.2.2.2.2.1
  refine va_calll (va_runS (As := as.map (z_v ad)) (rest := st.map (z_v ad)) ⟨X.1, X.2.1, X.2.2.1, X.2.2.2.1, X.2.2.2.2.1⟩ (hM H.size) (va_cwS n X.2.2.2.2.1 (zS_in hGG cf) rfl hrm.1 hrm.2 cf.2 hroom) ⟨fun a U g mk q => by obtain ⟨q0, q1, qP, qK, qD⟩ := q; exact ⟨q0, q1, qP, va_K.moved (u := U) (U := U.calling g mk a) (Vm.Alike.refl U.vm) qK, qD⟩, fun U hU hW2 => ⟨rfl, by rw [hU], by rw [hU]; exact hP, va_K.moved hW2.alike X.2.2.2.2.2.1, hD.weaken (fun _ _ _ _ => trivial)⟩⟩ rfl (by rw [List.length_map]; exact hn) hl.1 (by show List.map _ _ = _; rw [List.map_append, List.map_reverse]) (lv_room hW) hd ⟨hf.1, hf.2⟩) hS (fun q _ h => hFc q h) hFc (fun r M' t H1 locs1 ht hvm hw hB hz1 hk1 hS1 => ?_)
  exact k r M' hw H1 locs1 ls (by rw [← ht]; exact hB) (z_D cA ad M' hD) hS1 hl
theorem z_Vv (X : zX p s m args meth c A D cl tys Ts own cc nL ret) (hGG : GoodIn Ts Ts) {C : String} (cf : zV Ts own index C y b2 nL2 ret2 n) (c0 : Nat) (as st : List zA) {post : zM → Prop} (hM : zMv l D cl tys cA ad E Ts y b2 nL2 ret2 rm (zR c0 :: as) M post) (hrm : rm.cells = 0 ∧ rm.slots = 0) (hroom : rm.frames + 1 ≤ R.frames ∧ 8 + (nL2 + 11) + rm.locals ≤ R.locals) {ci : Nat} {fs : List zK} (hE : E[c0]? = some (.inl (ci, fs))) {r0 : vw_C} (hcl : cl[ci]? = some r0) (hC : r0.1 = C) (hn : as.length = n) (hs : stk = as.reverse ++ zR c0 :: st) (hW : ((st.map (z_v ad)).map fun v => v.category).sum ≤ 8) (hf : cells ≤ R.cells ∧ slots ≤ R.slots) (hd : decode cc pc = .ok (.invokevirtual index, 3)) (k : ∀ (M' : zM), post M' → zW p l e R s m args below meth c cells slots Q A D cl cA ad E nL M' (pc + 3) L st) : zW p l e R s m args below meth c cells slots Q A D cl cA ad E nL M pc L stk := by
  intro H locs ls hP hD hS hl
  subst hs
  subst hC
  have hFc := z_A cA ad hD hS X.2.2.2.2.2.2.1
  have hw : (z_w cA ad M 0 E)[c0]? = some (ad c0, .inr (ci, z_fs ad M c0 0 fs)) := by
    rw [z_w_get cA ad M hE]
    rfl
  refine va_callv (va_runV (As := as.map (z_v ad)) (rest := st.map (z_v ad)) (b := ad c0) ⟨X.1, X.2.1, X.2.2.1, X.2.2.2.1, X.2.2.2.2.1⟩ (hM H.size) (cwV n X.2.2.2.2.1 (zV_in hGG cf) rfl hrm.1 hrm.2 cf.2 hroom) ⟨fun a U g mk q => by obtain ⟨q0, q1, qP, qK, qD⟩ := q; exact ⟨q0, q1, qP, va_K.moved (u := U) (U := U.calling g mk a) (Vm.Alike.refl U.vm) qK, qD⟩, va_recv X.2.2.2.2.2.1 hP hcl hw, fun U hU hW2 => ⟨rfl, by rw [hU], by rw [hU]; exact hP, va_K.moved hW2.alike X.2.2.2.2.2.1, hD.weaken (fun _ _ _ _ => trivial)⟩⟩ rfl (by rw [List.length_map]; exact hn) hl.1 (by show List.map _ _ = _; rw [List.map_append, List.map_reverse]; rfl) (lv_room hW) hd ⟨hf.1, hf.2⟩) hS (fun q _ h => hFc q h) hFc (fun M' t H1 locs1 ht hvm hw hB hz1 hk1 hS1 => ?_)
  exact k M' hw H1 locs1 ls (by rw [← ht]; exact hB) (z_D cA ad M' hD) hS1 hl
theorem z_Sv (X : zX p s m args meth c A D cl tys Ts own cc nL ret) (hGG : GoodIn Ts Ts) (cf : zS Ts own index y b2 nL2 ret2 n) (as st : List zA) {post : zM → Prop} (hM : zMv l D cl tys cA ad E Ts y b2 nL2 ret2 rm as M post) (hrm : rm.cells = 0 ∧ rm.slots = 0) (hroom : rm.frames + 1 ≤ R.frames ∧ 8 + (nL2 + 11) + rm.locals ≤ R.locals) (hn : as.length = n) (hs : stk = as.reverse ++ st) (hW : ((st.map (z_v ad)).map fun v => v.category).sum ≤ 8) (hf : cells ≤ R.cells ∧ slots ≤ R.slots) (hd : decode cc pc = .ok (.invokestatic index, 3)) (k : ∀ (M' : zM), post M' → zW p l e R s m args below meth c cells slots Q A D cl cA ad E nL M' (pc + 3) L st) : zW p l e R s m args below meth c cells slots Q A D cl cA ad E nL M pc L stk := by
  intro H locs ls hP hD hS hl
  subst hs
  have hFc := z_A cA ad hD hS X.2.2.2.2.2.2.1
  refine va_callv (va_runS (As := as.map (z_v ad)) (rest := st.map (z_v ad)) ⟨X.1, X.2.1, X.2.2.1, X.2.2.2.1, X.2.2.2.2.1⟩ (hM H.size) (va_cwS n X.2.2.2.2.1 (zS_in hGG cf) rfl hrm.1 hrm.2 cf.2 hroom) ⟨fun a U g mk q => by obtain ⟨q0, q1, qP, qK, qD⟩ := q; exact ⟨q0, q1, qP, va_K.moved (u := U) (U := U.calling g mk a) (Vm.Alike.refl U.vm) qK, qD⟩, fun U hU hW2 => ⟨rfl, by rw [hU], by rw [hU]; exact hP, va_K.moved hW2.alike X.2.2.2.2.2.1, hD.weaken (fun _ _ _ _ => trivial)⟩⟩ rfl (by rw [List.length_map]; exact hn) hl.1 (by show List.map _ _ = _; rw [List.map_append, List.map_reverse]) (lv_room hW) hd ⟨hf.1, hf.2⟩) hS (fun q _ h => hFc q h) hFc (fun M' t H1 locs1 ht hvm hw hB hz1 hk1 hS1 => ?_)
  exact k M' hw H1 locs1 ls (by rw [← ht]; exact hB) (z_D cA ad M' hD) hS1 hl
theorem z_Vq (X : zX p s m args meth c A D cl tys Ts own cc nL ret) (hGG : GoodIn Ts Ts) {C : String} (cf : zV Ts own index C y b2 nL2 ret2 n) (c0 : Nat) (as st : List zA) {post : Option Nat → zM → Prop} (hM : zMq l D cl tys cA ad E Ts y b2 nL2 ret2 rm (zR c0 :: as) M post) (hrm : rm.cells = 0 ∧ rm.slots = 0) (hroom : rm.frames + 1 ≤ R.frames ∧ 8 + (nL2 + 11) + rm.locals ≤ R.locals) {ci : Nat} {fs : List zK} (hE : E[c0]? = some (.inl (ci, fs))) {r0 : vw_C} (hcl : cl[ci]? = some r0) (hC : r0.1 = C) (hn : as.length = n) (hs : stk = as.reverse ++ zR c0 :: st) (hW : ((st.map (z_v ad)).map fun v => v.category).sum ≤ 8) (hf : cells ≤ R.cells ∧ slots ≤ R.slots) (hd : decode cc pc = .ok (.invokevirtual index, 3)) (k : ∀ (r : Option Nat) (M' : zM), post r M' → zW p l e R s m args below meth c cells slots Q A D cl cA ad E nL M' (pc + 3) L ((.inr (.inr r) : zA) :: st)) : zW p l e R s m args below meth c cells slots Q A D cl cA ad E nL M pc L stk := by
  intro H locs ls hP hD hS hl
  subst hs
  subst hC
  have hFc := z_A cA ad hD hS X.2.2.2.2.2.2.1
  have hw : (z_w cA ad M 0 E)[c0]? = some (ad c0, .inr (ci, z_fs ad M c0 0 fs)) := by
    rw [z_w_get cA ad M hE]
    rfl
  refine va_callq (va_runV (As := as.map (z_v ad)) (rest := st.map (z_v ad)) (b := ad c0) ⟨X.1, X.2.1, X.2.2.1, X.2.2.2.1, X.2.2.2.2.1⟩ (hM H.size) (cwV n X.2.2.2.2.1 (zV_in hGG cf) rfl hrm.1 hrm.2 cf.2 hroom) ⟨fun a U g mk q => by obtain ⟨q0, q1, qP, qK, qD⟩ := q; exact ⟨q0, q1, qP, va_K.moved (u := U) (U := U.calling g mk a) (Vm.Alike.refl U.vm) qK, qD⟩, va_recv X.2.2.2.2.2.1 hP hcl hw, fun U hU hW2 => ⟨rfl, by rw [hU], by rw [hU]; exact hP, va_K.moved hW2.alike X.2.2.2.2.2.1, hD.weaken (fun _ _ _ _ => trivial)⟩⟩ rfl (by rw [List.length_map]; exact hn) hl.1 (by show List.map _ _ = _; rw [List.map_append, List.map_reverse]; rfl) (lv_room hW) hd ⟨hf.1, hf.2⟩) hS (fun q _ h => hFc q h) hFc (fun r M' t H1 locs1 ht hvm hw hB hz1 hk1 hS1 => ?_)
  obtain ⟨o, rfl, hw⟩ := hw
  have h9 := k o M' hw H1 locs1 ls (by rw [← ht]; exact hB) (z_D cA ad M' hD) hS1 hl
  cases o with
  | none => exact h9
  | some o => exact h9
theorem z_Sq (X : zX p s m args meth c A D cl tys Ts own cc nL ret) (hGG : GoodIn Ts Ts) (cf : zS Ts own index y b2 nL2 ret2 n) (as st : List zA) {post : Option Nat → zM → Prop} (hM : zMq l D cl tys cA ad E Ts y b2 nL2 ret2 rm as M post) (hrm : rm.cells = 0 ∧ rm.slots = 0) (hroom : rm.frames + 1 ≤ R.frames ∧ 8 + (nL2 + 11) + rm.locals ≤ R.locals) (hn : as.length = n) (hs : stk = as.reverse ++ st) (hW : ((st.map (z_v ad)).map fun v => v.category).sum ≤ 8) (hf : cells ≤ R.cells ∧ slots ≤ R.slots) (hd : decode cc pc = .ok (.invokestatic index, 3)) (k : ∀ (r : Option Nat) (M' : zM), post r M' → zW p l e R s m args below meth c cells slots Q A D cl cA ad E nL M' (pc + 3) L ((.inr (.inr r) : zA) :: st)) : zW p l e R s m args below meth c cells slots Q A D cl cA ad E nL M pc L stk := by
  intro H locs ls hP hD hS hl
  subst hs
  have hFc := z_A cA ad hD hS X.2.2.2.2.2.2.1
  refine va_callq (va_runS (As := as.map (z_v ad)) (rest := st.map (z_v ad)) ⟨X.1, X.2.1, X.2.2.1, X.2.2.2.1, X.2.2.2.2.1⟩ (hM H.size) (va_cwS n X.2.2.2.2.1 (zS_in hGG cf) rfl hrm.1 hrm.2 cf.2 hroom) ⟨fun a U g mk q => by obtain ⟨q0, q1, qP, qK, qD⟩ := q; exact ⟨q0, q1, qP, va_K.moved (u := U) (U := U.calling g mk a) (Vm.Alike.refl U.vm) qK, qD⟩, fun U hU hW2 => ⟨rfl, by rw [hU], by rw [hU]; exact hP, va_K.moved hW2.alike X.2.2.2.2.2.1, hD.weaken (fun _ _ _ _ => trivial)⟩⟩ rfl (by rw [List.length_map]; exact hn) hl.1 (by show List.map _ _ = _; rw [List.map_append, List.map_reverse]) (lv_room hW) hd ⟨hf.1, hf.2⟩) hS (fun q _ h => hFc q h) hFc (fun r M' t H1 locs1 ht hvm hw hB hz1 hk1 hS1 => ?_)
  obtain ⟨o, rfl, hw⟩ := hw
  have h9 := k o M' hw H1 locs1 ls (by rw [← ht]; exact hB) (z_D cA ad M' hD) hS1 hl
  cases o with
  | none => exact h9
  | some o => exact h9
theorem z_iret (X : zX p s m args meth c A D cl tys Ts own cc nL (some .int)) {post : Int32 → zM → Prop} {v : Int32} (hp : post v M) (hd : decode cc pc = .ok (.ireturn, 1)) : zW p l e R s m args below meth c cells slots (MQ below (va_Qi post (fun M' t => va_P D cl (z_w cA ad M' 0 E) t.heap) A) args s cells slots A) A D cl cA ad E nL M pc L [zI v] :=
  fun H locs ls hP hD hS hl => W.iret (v := v) X.1 X.2.1 X.2.2.2.2.2.2.2.1 (fun t ht hW => ⟨⟨v, M, rfl, hp, by show va_P D cl _ t.heap; rw [ht]; exact hP⟩, hS.F ht⟩) hS.2.2 hd X.2.2.2.2.2.2.2.2
theorem z_zret (X : zX p s m args meth c A D cl tys Ts own cc nL (some .boolean)) {post : Int32 → zM → Prop} {v : Int32} (hv : narrow .boolean (.int v) = .int v) (hp : post v M) (hd : decode cc pc = .ok (.ireturn, 1)) : zW p l e R s m args below meth c cells slots (MQ below (va_Qi post (fun M' t => va_P D cl (z_w cA ad M' 0 E) t.heap) A) args s cells slots A) A D cl cA ad E nL M pc L [zI v] :=
  fun H locs ls hP hD hS hl => W.zret (v := v) X.1 X.2.1 X.2.2.2.2.2.2.2.1 hv (fun t ht hW => ⟨⟨v, M, rfl, hp, by show va_P D cl _ t.heap; rw [ht]; exact hP⟩, hS.F ht⟩) hS.2.2 hd X.2.2.2.2.2.2.2.2
theorem z_lret (X : zX p s m args meth c A D cl tys Ts own cc nL (some .long)) {post : Int64 → zM → Prop} {v : Int64} (hp : post v M) (hd : decode cc pc = .ok (.lreturn, 1)) : zW p l e R s m args below meth c cells slots (MQ below (va_Ql post (fun M' t => va_P D cl (z_w cA ad M' 0 E) t.heap) A) args s cells slots A) A D cl cA ad E nL M pc L [zJ v] :=
  fun H locs ls hP hD hS hl => W.lret (v := v) X.1 X.2.1 X.2.2.2.2.2.2.2.1 (fun t ht hW => ⟨⟨v, M, rfl, hp, by show va_P D cl _ t.heap; rw [ht]; exact hP⟩, hS.F ht⟩) hS.2.2 hd X.2.2.2.2.2.2.2.2
theorem z_vret (X : zX p s m args meth c A D cl tys Ts own cc nL none) {post : zM → Prop}  (hp : post M) (hd : decode cc pc = .ok (.return_, 1)) : zW p l e R s m args below meth c cells slots (MQ below (va_Qv post (fun M' t => va_P D cl (z_w cA ad M' 0 E) t.heap) A) args s cells slots A) A D cl cA ad E nL M pc L [] :=
  fun H locs ls hP hD hS hl => W.vret X.1 X.2.1 X.2.2.2.2.2.2.2.1 (fun t ht hW => ⟨⟨M, rfl, hp, by show va_P D cl _ t.heap; rw [ht]; exact hP⟩, hS.F ht⟩) hS.2.2 hd X.2.2.2.2.2.2.2.2
theorem z_aret {C : String} (X : zX p s m args meth c A D cl tys Ts own cc nL (some (.object C))) {post : Option Nat → zM → Prop} {o : Option Nat} (hp : post o M) (hd : decode cc pc = .ok (.areturn, 1)) : zW p l e R s m args below meth c cells slots (MQ below (va_Qq (fun (r : Option Nat) (u : zM) => ∃ o : Option Nat, r = o.map ad ∧ post o u) (fun M' t => va_P D cl (z_w cA ad M' 0 E) t.heap) A) args s cells slots A) A D cl cA ad E nL M pc L [(.inr (.inr o) : zA)] :=
  fun H locs ls hP hD hS hl => W.aret (v := z_v ad (.inr (.inr o))) X.1 X.2.1 X.2.2.2.2.2.2.2.1 (Or.inl ⟨C, rfl⟩) (by cases o with | none => exact Or.inl rfl | some o => exact Or.inr ⟨_, rfl⟩) (fun t ht hW => ⟨⟨o.map ad, M, by cases o <;> rfl, ⟨o, rfl, hp⟩, by show va_P D cl _ t.heap; rw [ht]; exact hP⟩, hS.F ht⟩) hS.2.2 hd X.2.2.2.2.2.2.2.2
end ZCalls
