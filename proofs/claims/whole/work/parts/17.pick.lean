theorem kFst_no {P : Nat → Prop} {M : zM} {k i : Nat} {b : Option Nat} (h : ¬ (P i ∧ kBef M i b)) : kFst P M (k + 1) i b = kFst P M k (i + 1) b := by rw [kFst, if_neg h]
theorem kFst_yes {P : Nat → Prop} {M : zM} {k i : Nat} {b : Option Nat} (h : P i ∧ kBef M i b) : kFst P M (k + 1) i b = kFst P M k (i + 1) (some i) := by rw [kFst, if_pos h]
theorem kPartAt_ok {n w : Nat} {M : zM} (h : kInv n w M) {t : Int32} (h1 : ¬ kPartAt M w t = (-1)) : kPartAt M w t = nI (kPartAt M w t).toNatClampNeg ∧ (kPartAt M w t).toNatClampNeg < 3 := by
  unfold kPartAt at h1 ⊢
  by_cases h0 : w = 0
  · rw [if_pos h0] at h1
    exact absurd rfl h1
  · rw [if_neg h0]
    obtain ⟨q, hq, e⟩ := h.1.2.2.2.2.2.1 (kIdx M w t) (kIdx_lt M h0 t)
    rw [e, nI_clamp (n := q) (by omega)]
    exact ⟨rfl, hq⟩
theorem kGo_none {n : Nat} {p : Int32} {f : Nat} {M : zM} (h : kFR n p M = none) : kGo n p (f + 1) M = kIdle M := by rw [kGo, h]
theorem kGo_work {n : Nat} {p : Int32} {f : Nat} {M : zM} {j : Nat} (h : kFR n p M = some j) (h0 : kOrd M j = 0) : kGo n p (f + 1) M = kDo n j M := by
  rw [kGo, h]
  exact if_pos h0
theorem kGo_on {n : Nat} {p : Int32} {f : Nat} {M : zM} {j : Nat} (h : kFR n p M = some j) (h0 : ¬ kOrd M j = 0) : kGo n p (f + 1) M = kGo n p f (kDo n j M) := by
  rw [kGo, h]
  exact if_neg h0
section ZMore
variable {p : Program} {l : Launch} {e : Env} {R : Room} {s : State} {m : MethodId} {args : Array Value} {below : List Frame} {meth : Method} {c : Code} {cells slots : Nat} {Q : State → Prop} {A : Nat → Prop} {D : va_G} {cl : List vw_C} {tys : List (ClassId × FieldType)} {cA : Nat → ClassId} {ad : Nat → Nat} {E : List zC} {nL : Nat} {M : zM} {pc : Nat} {L L' : List (Nat × zA)} {st : List zA} {Ts : List Cond} {own : String} {cc : ByteArray} {ret : Option FieldType}
theorem z_aloadN (X : zX p s m args meth c A D cl tys Ts own cc nL ret) {i : Nat} (j : Nat) (hd : decode cc pc = .ok (.aload i, 2)) (hj : L[j]? = some (i, zN)) (k : zW p l e R s m args below meth c cells slots Q A D cl cA ad E nL M (pc + 2) L (zN :: st)) : zW p l e R s m args below meth c cells slots Q A D cl cA ad E nL M pc L st :=
  fun H locs ls hP hD hS hl => lv_aloadN X.1 X.2.1 hd (lv_at hl j (z_L hj)) (k H locs ls hP hD hS hl)
theorem z_astoreN (X : zX p s m args meth c A D cl tys Ts own cc nL ret) {i : Nat} (hd : decode cc pc = .ok (.astore i, 2)) (hn : i < nL) (hl' : (i, zN) :: L.filter (fun q => !(q.1 == i) && !(q.1 + 1 == i && z_two q.2)) = L') (k : zW p l e R s m args below meth c cells slots Q A D cl cA ad E nL M (pc + 2) L' st) : zW p l e R s m args below meth c cells slots Q A D cl cA ad E nL M pc L (zN :: st) :=
  fun H locs ls hP hD hS hl => lv_astoreN X.1 X.2.1 hd hl hn (by rw [z_fil, ← hl']; rfl) (fun ls' hl2 => k H locs ls' hP hD hS hl2)
end ZMore
