section
-- ===== PART A: goes FIRST, ahead of the names: the tables' words, and 'selects' of the private methods out of them =====
/-- a private method of a class that the tables say can be made, by its rows of tables_1 -/
def lw_okq (q : MethodName × Nat) : Prop := (q.1.cls ≠ "java/lang/invoke/MethodHandle" ∧ q.1.cls ≠ "java/lang/invoke/VarHandle") ∧ Cond.instantiable q.1.cls q.2 ∈ tables_1 ∧ Cond.privateMethod q.1 ∈ tables_1 ∧ Cond.instanceMethod q.1 ∈ tables_1
theorem lw_p0 : lw_okq (⟨"WindowPlan", "allOff", "()Z"⟩, 10) := ⟨⟨by decide +kernel, by decide +kernel⟩, List.mem_of_getElem? (i := 10) (by decide +kernel), List.mem_of_getElem? (i := 201) (by decide +kernel), List.mem_of_getElem? (i := 202) (by decide +kernel)⟩
theorem lw_p1 : lw_okq (⟨"WindowPlan", "isProcess", "(I)Z"⟩, 10) := ⟨⟨by decide +kernel, by decide +kernel⟩, List.mem_of_getElem? (i := 10) (by decide +kernel), List.mem_of_getElem? (i := 221) (by decide +kernel), List.mem_of_getElem? (i := 222) (by decide +kernel)⟩
theorem lw_p2 : lw_okq (⟨"WindowPlan", "isOn", "(I)Z"⟩, 10) := ⟨⟨by decide +kernel, by decide +kernel⟩, List.mem_of_getElem? (i := 10) (by decide +kernel), List.mem_of_getElem? (i := 240) (by decide +kernel), List.mem_of_getElem? (i := 241) (by decide +kernel)⟩
theorem lw_p3 : lw_okq (⟨"WindowPlan", "restAll", "(I)V"⟩, 10) := ⟨⟨by decide +kernel, by decide +kernel⟩, List.mem_of_getElem? (i := 10) (by decide +kernel), List.mem_of_getElem? (i := 244) (by decide +kernel), List.mem_of_getElem? (i := 245) (by decide +kernel)⟩
theorem lw_p4 : lw_okq (⟨"WindowPlan", "newTurn", "()J"⟩, 10) := ⟨⟨by decide +kernel, by decide +kernel⟩, List.mem_of_getElem? (i := 10) (by decide +kernel), List.mem_of_getElem? (i := 256) (by decide +kernel), List.mem_of_getElem? (i := 257) (by decide +kernel)⟩
theorem lw_p5 : lw_okq (⟨"WindowPlan", "tick", "()V"⟩, 10) := ⟨⟨by decide +kernel, by decide +kernel⟩, List.mem_of_getElem? (i := 10) (by decide +kernel), List.mem_of_getElem? (i := 277) (by decide +kernel), List.mem_of_getElem? (i := 278) (by decide +kernel)⟩
theorem lw_p6 : lw_okq (⟨"WindowPlan", "releaseDue", "()V"⟩, 10) := ⟨⟨by decide +kernel, by decide +kernel⟩, List.mem_of_getElem? (i := 10) (by decide +kernel), List.mem_of_getElem? (i := 281) (by decide +kernel), List.mem_of_getElem? (i := 282) (by decide +kernel)⟩
theorem lw_p7 : lw_okq (⟨"WindowPlan", "missDue", "()V"⟩, 10) := ⟨⟨by decide +kernel, by decide +kernel⟩, List.mem_of_getElem? (i := 10) (by decide +kernel), List.mem_of_getElem? (i := 285) (by decide +kernel), List.mem_of_getElem? (i := 286) (by decide +kernel)⟩
theorem lw_p8 : lw_okq (⟨"WindowPlan", "miss", "(LWindowPlan$Task;)V"⟩, 10) := ⟨⟨by decide +kernel, by decide +kernel⟩, List.mem_of_getElem? (i := 10) (by decide +kernel), List.mem_of_getElem? (i := 289) (by decide +kernel), List.mem_of_getElem? (i := 290) (by decide +kernel)⟩
theorem lw_p9 : lw_okq (⟨"WindowPlan", "giveProcessor", "()V"⟩, 10) := ⟨⟨by decide +kernel, by decide +kernel⟩, List.mem_of_getElem? (i := 10) (by decide +kernel), List.mem_of_getElem? (i := 294) (by decide +kernel), List.mem_of_getElem? (i := 295) (by decide +kernel)⟩
theorem lw_p10 : lw_okq (⟨"WindowPlan$WindowRow", "offsetAt", "(I)I"⟩, 3) := ⟨⟨by decide +kernel, by decide +kernel⟩, List.mem_of_getElem? (i := 18) (by decide +kernel), List.mem_of_getElem? (i := 302) (by decide +kernel), List.mem_of_getElem? (i := 303) (by decide +kernel)⟩
theorem lw_p11 : lw_okq (⟨"WindowPlan$WindowRow", "indexOf", "(I)I"⟩, 3) := ⟨⟨by decide +kernel, by decide +kernel⟩, List.mem_of_getElem? (i := 18) (by decide +kernel), List.mem_of_getElem? (i := 309) (by decide +kernel), List.mem_of_getElem? (i := 310) (by decide +kernel)⟩
theorem lw_p12 : lw_okq (⟨"WindowPlan", "firstReady", "(I)LWindowPlan$Task;"⟩, 10) := ⟨⟨by decide +kernel, by decide +kernel⟩, List.mem_of_getElem? (i := 10) (by decide +kernel), List.mem_of_getElem? (i := 313) (by decide +kernel), List.mem_of_getElem? (i := 314) (by decide +kernel)⟩
theorem lw_p13 : lw_okq (⟨"WindowPlan", "doOrder", "(LWindowPlan$Task;)Z"⟩, 10) := ⟨⟨by decide +kernel, by decide +kernel⟩, List.mem_of_getElem? (i := 10) (by decide +kernel), List.mem_of_getElem? (i := 321) (by decide +kernel), List.mem_of_getElem? (i := 322) (by decide +kernel)⟩
theorem lw_p14 : lw_okq (⟨"WindowPlan", "send", "(LWindowPlan$Task;I)V"⟩, 10) := ⟨⟨by decide +kernel, by decide +kernel⟩, List.mem_of_getElem? (i := 10) (by decide +kernel), List.mem_of_getElem? (i := 333) (by decide +kernel), List.mem_of_getElem? (i := 334) (by decide +kernel)⟩
theorem lw_p15 : lw_okq (⟨"WindowPlan", "firstWaiting", "(II)LWindowPlan$Task;"⟩, 10) := ⟨⟨by decide +kernel, by decide +kernel⟩, List.mem_of_getElem? (i := 10) (by decide +kernel), List.mem_of_getElem? (i := 337) (by decide +kernel), List.mem_of_getElem? (i := 338) (by decide +kernel)⟩
def lw_privs_1 : List (MethodName × Nat) := [(⟨"WindowPlan", "allOff", "()Z"⟩, 10), (⟨"WindowPlan", "isProcess", "(I)Z"⟩, 10), (⟨"WindowPlan", "isOn", "(I)Z"⟩, 10), (⟨"WindowPlan", "restAll", "(I)V"⟩, 10), (⟨"WindowPlan", "newTurn", "()J"⟩, 10), (⟨"WindowPlan", "tick", "()V"⟩, 10), (⟨"WindowPlan", "releaseDue", "()V"⟩, 10), (⟨"WindowPlan", "missDue", "()V"⟩, 10), (⟨"WindowPlan", "miss", "(LWindowPlan$Task;)V"⟩, 10), (⟨"WindowPlan", "giveProcessor", "()V"⟩, 10), (⟨"WindowPlan$WindowRow", "offsetAt", "(I)I"⟩, 3), (⟨"WindowPlan$WindowRow", "indexOf", "(I)I"⟩, 3), (⟨"WindowPlan", "firstReady", "(I)LWindowPlan$Task;"⟩, 10), (⟨"WindowPlan", "doOrder", "(LWindowPlan$Task;)Z"⟩, 10), (⟨"WindowPlan", "send", "(LWindowPlan$Task;I)V"⟩, 10), (⟨"WindowPlan", "firstWaiting", "(II)LWindowPlan$Task;"⟩, 10)]
theorem lw_r1 : ∀ q ∈ lw_privs_1, lw_okq q := List.forall_mem_cons.mpr ⟨lw_p0, List.forall_mem_cons.mpr ⟨lw_p1, List.forall_mem_cons.mpr ⟨lw_p2, List.forall_mem_cons.mpr ⟨lw_p3, List.forall_mem_cons.mpr ⟨lw_p4, List.forall_mem_cons.mpr ⟨lw_p5, List.forall_mem_cons.mpr ⟨lw_p6, List.forall_mem_cons.mpr ⟨lw_p7, List.forall_mem_cons.mpr ⟨lw_p8, List.forall_mem_cons.mpr ⟨lw_p9, List.forall_mem_cons.mpr ⟨lw_p10, List.forall_mem_cons.mpr ⟨lw_p11, List.forall_mem_cons.mpr ⟨lw_p12, List.forall_mem_cons.mpr ⟨lw_p13, List.forall_mem_cons.mpr ⟨lw_p14, List.forall_mem_cons.mpr ⟨lw_p15, fun _ h => absurd h List.not_mem_nil⟩⟩⟩⟩⟩⟩⟩⟩⟩⟩⟩⟩⟩⟩⟩⟩
theorem lw_p16 : lw_okq (⟨"WindowPlan", "take", "(LWindowPlan$Task;I)V"⟩, 10) := ⟨⟨by decide +kernel, by decide +kernel⟩, List.mem_of_getElem? (i := 10) (by decide +kernel), List.mem_of_getElem? (i := 351) (by decide +kernel), List.mem_of_getElem? (i := 352) (by decide +kernel)⟩
theorem lw_p17 : lw_okq (⟨"WindowPlan", "up", "(LWindowPlan$Task;I)V"⟩, 10) := ⟨⟨by decide +kernel, by decide +kernel⟩, List.mem_of_getElem? (i := 10) (by decide +kernel), List.mem_of_getElem? (i := 363) (by decide +kernel), List.mem_of_getElem? (i := 364) (by decide +kernel)⟩
theorem lw_p18 : lw_okq (⟨"WindowPlan", "down", "(LWindowPlan$Task;I)V"⟩, 10) := ⟨⟨by decide +kernel, by decide +kernel⟩, List.mem_of_getElem? (i := 10) (by decide +kernel), List.mem_of_getElem? (i := 367) (by decide +kernel), List.mem_of_getElem? (i := 368) (by decide +kernel)⟩
theorem lw_p19 : lw_okq (⟨"WindowPlanModel", "allOff", "()Z"⟩, 31) := ⟨⟨by decide +kernel, by decide +kernel⟩, List.mem_of_getElem? (i := 399) (by decide +kernel), List.mem_of_getElem? (i := 506) (by decide +kernel), List.mem_of_getElem? (i := 507) (by decide +kernel)⟩
theorem lw_p20 : lw_okq (⟨"WindowPlanModel", "rest", "(I)V"⟩, 31) := ⟨⟨by decide +kernel, by decide +kernel⟩, List.mem_of_getElem? (i := 399) (by decide +kernel), List.mem_of_getElem? (i := 526) (by decide +kernel), List.mem_of_getElem? (i := 527) (by decide +kernel)⟩
theorem lw_p21 : lw_okq (⟨"WindowPlanModel", "release", "(I)V"⟩, 31) := ⟨⟨by decide +kernel, by decide +kernel⟩, List.mem_of_getElem? (i := 399) (by decide +kernel), List.mem_of_getElem? (i := 534) (by decide +kernel), List.mem_of_getElem? (i := 535) (by decide +kernel)⟩
theorem lw_p22 : lw_okq (⟨"WindowPlanModel", "become", "(II)V"⟩, 31) := ⟨⟨by decide +kernel, by decide +kernel⟩, List.mem_of_getElem? (i := 399) (by decide +kernel), List.mem_of_getElem? (i := 538) (by decide +kernel), List.mem_of_getElem? (i := 539) (by decide +kernel)⟩
theorem lw_p23 : lw_okq (⟨"WindowPlanModel", "releases", "()V"⟩, 31) := ⟨⟨by decide +kernel, by decide +kernel⟩, List.mem_of_getElem? (i := 399) (by decide +kernel), List.mem_of_getElem? (i := 546) (by decide +kernel), List.mem_of_getElem? (i := 547) (by decide +kernel)⟩
theorem lw_p24 : lw_okq (⟨"WindowPlanModel", "monitor", "()V"⟩, 31) := ⟨⟨by decide +kernel, by decide +kernel⟩, List.mem_of_getElem? (i := 399) (by decide +kernel), List.mem_of_getElem? (i := 550) (by decide +kernel), List.mem_of_getElem? (i := 551) (by decide +kernel)⟩
theorem lw_p25 : lw_okq (⟨"WindowPlanModel", "holder", "(Z)I"⟩, 31) := ⟨⟨by decide +kernel, by decide +kernel⟩, List.mem_of_getElem? (i := 399) (by decide +kernel), List.mem_of_getElem? (i := 554) (by decide +kernel), List.mem_of_getElem? (i := 555) (by decide +kernel)⟩
theorem lw_p26 : lw_okq (⟨"WindowPlanModel", "first", "(II)I"⟩, 31) := ⟨⟨by decide +kernel, by decide +kernel⟩, List.mem_of_getElem? (i := 399) (by decide +kernel), List.mem_of_getElem? (i := 558) (by decide +kernel), List.mem_of_getElem? (i := 559) (by decide +kernel)⟩
theorem lw_p27 : lw_okq (⟨"WindowPlanModel", "one", "(I)Z"⟩, 31) := ⟨⟨by decide +kernel, by decide +kernel⟩, List.mem_of_getElem? (i := 399) (by decide +kernel), List.mem_of_getElem? (i := 562) (by decide +kernel), List.mem_of_getElem? (i := 563) (by decide +kernel)⟩
theorem lw_p28 : lw_okq (⟨"WindowPlanModel", "advance", "(I)V"⟩, 31) := ⟨⟨by decide +kernel, by decide +kernel⟩, List.mem_of_getElem? (i := 399) (by decide +kernel), List.mem_of_getElem? (i := 566) (by decide +kernel), List.mem_of_getElem? (i := 567) (by decide +kernel)⟩
theorem lw_p29 : lw_okq (⟨"WindowPlanModel", "send", "(II)V"⟩, 31) := ⟨⟨by decide +kernel, by decide +kernel⟩, List.mem_of_getElem? (i := 399) (by decide +kernel), List.mem_of_getElem? (i := 570) (by decide +kernel), List.mem_of_getElem? (i := 571) (by decide +kernel)⟩
theorem lw_p30 : lw_okq (⟨"WindowPlanModel", "wake", "(I)V"⟩, 31) := ⟨⟨by decide +kernel, by decide +kernel⟩, List.mem_of_getElem? (i := 399) (by decide +kernel), List.mem_of_getElem? (i := 574) (by decide +kernel), List.mem_of_getElem? (i := 575) (by decide +kernel)⟩
theorem lw_p31 : lw_okq (⟨"WindowPlanModel", "take", "(II)V"⟩, 31) := ⟨⟨by decide +kernel, by decide +kernel⟩, List.mem_of_getElem? (i := 399) (by decide +kernel), List.mem_of_getElem? (i := 578) (by decide +kernel), List.mem_of_getElem? (i := 579) (by decide +kernel)⟩
def lw_privs_2 : List (MethodName × Nat) := [(⟨"WindowPlan", "take", "(LWindowPlan$Task;I)V"⟩, 10), (⟨"WindowPlan", "up", "(LWindowPlan$Task;I)V"⟩, 10), (⟨"WindowPlan", "down", "(LWindowPlan$Task;I)V"⟩, 10), (⟨"WindowPlanModel", "allOff", "()Z"⟩, 31), (⟨"WindowPlanModel", "rest", "(I)V"⟩, 31), (⟨"WindowPlanModel", "release", "(I)V"⟩, 31), (⟨"WindowPlanModel", "become", "(II)V"⟩, 31), (⟨"WindowPlanModel", "releases", "()V"⟩, 31), (⟨"WindowPlanModel", "monitor", "()V"⟩, 31), (⟨"WindowPlanModel", "holder", "(Z)I"⟩, 31), (⟨"WindowPlanModel", "first", "(II)I"⟩, 31), (⟨"WindowPlanModel", "one", "(I)Z"⟩, 31), (⟨"WindowPlanModel", "advance", "(I)V"⟩, 31), (⟨"WindowPlanModel", "send", "(II)V"⟩, 31), (⟨"WindowPlanModel", "wake", "(I)V"⟩, 31), (⟨"WindowPlanModel", "take", "(II)V"⟩, 31)]
theorem lw_r2 : ∀ q ∈ lw_privs_2, lw_okq q := List.forall_mem_cons.mpr ⟨lw_p16, List.forall_mem_cons.mpr ⟨lw_p17, List.forall_mem_cons.mpr ⟨lw_p18, List.forall_mem_cons.mpr ⟨lw_p19, List.forall_mem_cons.mpr ⟨lw_p20, List.forall_mem_cons.mpr ⟨lw_p21, List.forall_mem_cons.mpr ⟨lw_p22, List.forall_mem_cons.mpr ⟨lw_p23, List.forall_mem_cons.mpr ⟨lw_p24, List.forall_mem_cons.mpr ⟨lw_p25, List.forall_mem_cons.mpr ⟨lw_p26, List.forall_mem_cons.mpr ⟨lw_p27, List.forall_mem_cons.mpr ⟨lw_p28, List.forall_mem_cons.mpr ⟨lw_p29, List.forall_mem_cons.mpr ⟨lw_p30, List.forall_mem_cons.mpr ⟨lw_p31, fun _ h => absurd h List.not_mem_nil⟩⟩⟩⟩⟩⟩⟩⟩⟩⟩⟩⟩⟩⟩⟩⟩
theorem lw_p32 : lw_okq (⟨"WindowPlanModel", "up", "(II)V"⟩, 31) := ⟨⟨by decide +kernel, by decide +kernel⟩, List.mem_of_getElem? (i := 399) (by decide +kernel), List.mem_of_getElem? (i := 582) (by decide +kernel), List.mem_of_getElem? (i := 583) (by decide +kernel)⟩
theorem lw_p33 : lw_okq (⟨"WindowPlanModel", "down", "(II)V"⟩, 31) := ⟨⟨by decide +kernel, by decide +kernel⟩, List.mem_of_getElem? (i := 399) (by decide +kernel), List.mem_of_getElem? (i := 586) (by decide +kernel), List.mem_of_getElem? (i := 587) (by decide +kernel)⟩
def lw_privs_3 : List (MethodName × Nat) := [(⟨"WindowPlanModel", "up", "(II)V"⟩, 31), (⟨"WindowPlanModel", "down", "(II)V"⟩, 31)]
theorem lw_r3 : ∀ q ∈ lw_privs_3, lw_okq q := List.forall_mem_cons.mpr ⟨lw_p32, List.forall_mem_cons.mpr ⟨lw_p33, fun _ h => absurd h List.not_mem_nil⟩⟩
def lw_privs : List (MethodName × Nat) := lw_privs_1 ++ (lw_privs_2 ++ (lw_privs_3))
def lw_tbl : List Cond := k2_sels lw_privs ++ tables_1
theorem lw_privs_ok : ∀ q ∈ lw_privs, lw_okq q := by
  show ∀ q ∈ lw_privs_1 ++ (lw_privs_2 ++ (lw_privs_3)), lw_okq q
  exact List.forall_mem_append.mpr ⟨lw_r1, List.forall_mem_append.mpr ⟨lw_r2, lw_r3⟩⟩
end
section
/-! THE LAYER: a world whose shape is fixed, as a numbered memory. Cell number c lies at the address ad c; what it is, the list E says; its numbers stand in M. -/
abbrev zA : Type := Int32 ⊕ (Int64 ⊕ Option Nat)
abbrev zI (x : Int32) : zA := .inl x
abbrev zJ (x : Int64) : zA := .inr (.inl x)
abbrev zR (c : Nat) : zA := .inr (.inr (some c))
abbrev zN : zA := .inr (.inr none)
abbrev zM : Type := (Nat → Nat → Int32) × (Nat → Nat → Int64)
abbrev zK : Type := Unit ⊕ (Unit ⊕ Option Nat)
abbrev zC : Type := (Nat × List zK) ⊕ ((Nat × Nat) ⊕ (Nat × List (Option Nat)))
abbrev ki : zK := .inl ()
abbrev kj : zK := .inr (.inl ())
abbrev kr (c : Nat) : zK := .inr (.inr (some c))
def z_v (ad : Nat → Nat) : zA → Value
  | .inl x => .int x
  | .inr (.inl x) => .long x
  | .inr (.inr none) => .null
  | .inr (.inr (some r)) => .ref (ad r)
def z_two : zA → Bool
  | .inr (.inl _) => true
  | _ => false
theorem z_cat (ad : Nat → Nat) (v : zA) : ((z_v ad v).category == 2) = z_two v := by
  rcases v with x | x | _ | r <;> rfl
def z_f (ad : Nat → Nat) (M : zM) (c k : Nat) : zK → Value
  | .inl _ => .int (M.1 c k)
  | .inr (.inl _) => .long (M.2 c k)
  | .inr (.inr none) => .null
  | .inr (.inr (some r)) => .ref (ad r)
def z_fa (M : zM) (c k : Nat) : zK → zA
  | .inl _ => .inl (M.1 c k)
  | .inr (.inl _) => .inr (.inl (M.2 c k))
  | .inr (.inr r) => .inr (.inr r)
theorem z_vfa (ad : Nat → Nat) (M : zM) (c k : Nat) (f : zK) : z_f ad M c k f = z_v ad (z_fa M c k f) := by
  rcases f with _ | _ | _ | r <;> rfl
def z_fs (ad : Nat → Nat) (M : zM) (c : Nat) : Nat → List zK → List Value
  | _, [] => []
  | k, f :: fs => z_f ad M c k f :: z_fs ad M c (k + 1) fs
theorem z_fs_get (ad : Nat → Nat) (M : zM) (c : Nat) : ∀ (fs : List zK) (k j : Nat), (z_fs ad M c k fs)[j]? = (fs[j]?).map (z_f ad M c (k + j))
  | [], k, j => by simp [z_fs]
  | f :: fs, k, 0 => by simp [z_fs]
  | f :: fs, k, j + 1 => by
    have h := z_fs_get ad M c fs (k + 1) j
    rw [show k + (j + 1) = k + 1 + j by omega]
    simpa [z_fs] using h
theorem z_fs_len (ad : Nat → Nat) (M : zM) (c : Nat) : ∀ (fs : List zK) (k : Nat), (z_fs ad M c k fs).length = fs.length
  | [], k => by simp [z_fs]
  | f :: fs, k => by simp [z_fs, z_fs_len ad M c fs (k + 1)]
def z_si (M : zM) (c k : Nat) (x : Int32) : zM := (fun c' k' => if c' = c ∧ k' = k then x else M.1 c' k', M.2)
def z_sj (M : zM) (c k : Nat) (x : Int64) : zM := (M.1, fun c' k' => if c' = c ∧ k' = k then x else M.2 c' k')
theorem z_si_same (M : zM) (c k : Nat) (x : Int32) : (z_si M c k x).1 c k = x := by simp [z_si]
theorem z_si_other (M : zM) {c k c' k' : Nat} (x : Int32) (h : ¬ (c' = c ∧ k' = k)) : (z_si M c k x).1 c' k' = M.1 c' k' := by simp [z_si, h]
theorem z_si_row (M : zM) {c c' : Nat} (k : Nat) (x : Int32) (h : c' ≠ c) : (z_si M c k x).1 c' = M.1 c' := by funext k'; simp [z_si, h]
theorem z_si_2 (M : zM) (c k : Nat) (x : Int32) : (z_si M c k x).2 = M.2 := rfl
theorem z_sj_1 (M : zM) (c k : Nat) (x : Int64) : (z_sj M c k x).1 = M.1 := rfl
theorem z_sj_same (M : zM) (c k : Nat) (x : Int64) : (z_sj M c k x).2 c k = x := by simp [z_sj]
theorem z_sj_other (M : zM) {c k c' k' : Nat} (x : Int64) (h : ¬ (c' = c ∧ k' = k)) : (z_sj M c k x).2 c' k' = M.2 c' k' := by simp [z_sj, h]
theorem z_sj_row (M : zM) {c c' : Nat} (k : Nat) (x : Int64) (h : c' ≠ c) : (z_sj M c k x).2 c' = M.2 c' := by funext k'; simp [z_sj, h]
theorem z_fs_si (ad : Nat → Nat) (M : zM) (c j : Nat) (x : Int32) {fs : List zK} {u : Unit} (h : fs[j]? = some (.inl u)) : (z_fs ad M c 0 fs).set j (.int x) = z_fs ad (z_si M c j x) c 0 fs := by
  apply List.ext_getElem?
  intro i
  rw [List.getElem?_set, z_fs_get, z_fs_get]
  by_cases hij : j = i
  · subst hij
    have hl : j < (z_fs ad M c 0 fs).length := by rw [z_fs_len]; exact (List.getElem?_eq_some_iff.mp h).1
    rw [if_pos rfl, if_pos hl, h]
    simp [z_f, z_si]
  · rw [if_neg hij]
    have e : z_f ad (z_si M c j x) c (0 + i) = z_f ad M c (0 + i) := by
      funext f
      have hn : ¬ (c = c ∧ 0 + i = j) := fun q => hij (by omega)
      rcases f with _ | _ | _ | r
      · show Value.int _ = Value.int _
        rw [z_si_other M x hn]
      · rfl
      · rfl
      · rfl
    rw [e]
theorem z_fs_sj (ad : Nat → Nat) (M : zM) (c j : Nat) (x : Int64) {fs : List zK} {u : Unit} (h : fs[j]? = some (.inr (.inl u))) : (z_fs ad M c 0 fs).set j (.long x) = z_fs ad (z_sj M c j x) c 0 fs := by
  apply List.ext_getElem?
  intro i
  rw [List.getElem?_set, z_fs_get, z_fs_get]
  by_cases hij : j = i
  · subst hij
    have hl : j < (z_fs ad M c 0 fs).length := by rw [z_fs_len]; exact (List.getElem?_eq_some_iff.mp h).1
    rw [if_pos rfl, if_pos hl, h]
    simp [z_f, z_sj]
  · rw [if_neg hij]
    have e : z_f ad (z_sj M c j x) c (0 + i) = z_f ad M c (0 + i) := by
      funext f
      have hn : ¬ (c = c ∧ 0 + i = j) := fun q => hij (by omega)
      rcases f with _ | _ | _ | r
      · rfl
      · show Value.long _ = Value.long _
        rw [z_sj_other M x hn]
      · rfl
      · rfl
    rw [e]
theorem z_fs_congr (ad : Nat → Nat) {M M' : zM} {c : Nat} (h1 : M'.1 c = M.1 c) (h2 : M'.2 c = M.2 c) : ∀ (fs : List zK) (k : Nat), z_fs ad M' c k fs = z_fs ad M c k fs
  | [], k => rfl
  | f :: fs, k => by
    have e : z_f ad M' c k f = z_f ad M c k f := by
      rcases f with _ | _ | _ | r
      · show Value.int _ = Value.int _
        rw [h1]
      · show Value.long _ = Value.long _
        rw [h2]
      · rfl
      · rfl
    show z_f ad M' c k f :: z_fs ad M' c (k + 1) fs = z_f ad M c k f :: z_fs ad M c (k + 1) fs
    rw [e, z_fs_congr ad h1 h2 fs (k + 1)]
def z_e (cA : Nat → ClassId) (ad : Nat → Nat) (M : zM) (c : Nat) : zC → va_E
  | .inl q => .inr (q.1, z_fs ad M c 0 q.2)
  | .inr (.inl q) => .inl (cA q.1, q.2, .inl (M.1 c))
  | .inr (.inr q) => .inl (cA q.1, q.2.length, .inr (.inr (.inr (.inr (fun j => (q.2.getD j none).map ad)))))
theorem z_e_congr (cA : Nat → ClassId) (ad : Nat → Nat) {M M' : zM} {c : Nat} (h1 : M'.1 c = M.1 c) (h2 : M'.2 c = M.2 c) (x : zC) : z_e cA ad M' c x = z_e cA ad M c x := by
  rcases x with ⟨ci, fs⟩ | ⟨t, n⟩ | ⟨t, rs⟩
  · show Sum.inr (ci, _) = Sum.inr (ci, _)
    rw [z_fs_congr ad h1 h2]
  · show Sum.inl (cA t, n, Sum.inl _) = Sum.inl (cA t, n, Sum.inl _)
    rw [h1]
  · rfl
/-- the world: cell k of the list E lies at ad k -/
def z_w (cA : Nat → ClassId) (ad : Nat → Nat) (M : zM) : Nat → List zC → va_W
  | _, [] => []
  | k, x :: E => (ad k, z_e cA ad M k x) :: z_w cA ad M (k + 1) E
theorem z_w_el (cA : Nat → ClassId) (ad : Nat → Nat) (M : zM) : ∀ (E : List zC) (k c : Nat), (z_w cA ad M k E)[c]? = (E[c]?).map (fun x => (ad (k + c), z_e cA ad M (k + c) x))
  | [], k, c => by simp [z_w]
  | x :: E, k, 0 => by simp [z_w]
  | x :: E, k, c + 1 => by
    have h := z_w_el cA ad M E (k + 1) c
    rw [show k + (c + 1) = k + 1 + c by omega]
    simpa [z_w] using h
theorem z_w_get (cA : Nat → ClassId) (ad : Nat → Nat) (M : zM) {E : List zC} {c : Nat} {x : zC} (h : E[c]? = some x) : (z_w cA ad M 0 E)[c]? = some (ad c, z_e cA ad M c x) := by
  rw [z_w_el, h, Nat.zero_add]
  rfl
theorem z_w_at (cA : Nat → ClassId) (ad : Nat → Nat) (M : zM) {E : List zC} {c : Nat} {q : Nat × va_E} (h : (z_w cA ad M 0 E)[c]? = some q) : ∃ x, E[c]? = some x ∧ q = (ad c, z_e cA ad M c x) := by
  rw [z_w_el, Nat.zero_add] at h
  cases hx : E[c]? with
  | none => rw [hx] at h; cases h
  | some x => rw [hx] at h; exact ⟨x, rfl, (Option.some.inj h).symm⟩
theorem z_w_set (cA : Nat → ClassId) (ad : Nat → Nat) {E : List zC} {M M' : zM} {c : Nat} {x x' : zC} (hE : E[c]? = some x) {e : va_E} (he : e = z_e cA ad M' c x') (h1 : ∀ d, d ≠ c → M'.1 d = M.1 d) (h2 : ∀ d, d ≠ c → M'.2 d = M.2 d) :
    (z_w cA ad M 0 E).set c (ad c, e) = z_w cA ad M' 0 (E.set c x') := by
  subst he
  have hc : c < E.length := (List.getElem?_eq_some_iff.mp hE).1
  apply List.ext_getElem?
  intro j
  rw [List.getElem?_set, z_w_el cA ad M', List.getElem?_set]
  by_cases hj : c = j
  · subst hj
    have hl : c < (z_w cA ad M 0 E).length := (List.getElem?_eq_some_iff.mp (z_w_get cA ad M hE)).1
    rw [if_pos rfl, if_pos hl, if_pos rfl, if_pos hc, Nat.zero_add]
    rfl
  · rw [if_neg hj, if_neg hj, z_w_el, Nat.zero_add]
    cases E[j]? with
    | none => rfl
    | some y =>
      show some (ad j, z_e cA ad M j y) = some (ad j, z_e cA ad M' j y)
      rw [z_e_congr cA ad (h1 j (Ne.symm hj)) (h2 j (Ne.symm hj))]
theorem z_set_self {E : List zC} {c : Nat} {x : zC} (h : E[c]? = some x) : E.set c x = E := by
  apply List.ext_getElem?
  intro j
  rw [List.getElem?_set]
  by_cases hj : c = j
  · subst hj
    rw [if_pos rfl, if_pos (List.getElem?_eq_some_iff.mp h).1, h]
  · rw [if_neg hj]
theorem z_D (cA : Nat → ClassId) (ad : Nat → Nat) {E : List zC} {M : zM} (M' : zM) {A : Nat → Prop} (h : va_D A (z_w cA ad M 0 E)) : va_D A (z_w cA ad M' 0 E) := by
  refine ⟨fun i j p q hi hj e => ?_, fun k q hk => ?_⟩
  · obtain ⟨x, hx, rfl⟩ := z_w_at cA ad M' hi
    obtain ⟨y, hy, rfl⟩ := z_w_at cA ad M' hj
    exact h.1 i j _ _ (z_w_get cA ad M hx) (z_w_get cA ad M hy) e
  · obtain ⟨x, hx, rfl⟩ := z_w_at cA ad M' hk
    exact h.2 k (ad k, z_e cA ad M k x) (z_w_get cA ad M hx)
theorem z_A (cA : Nat → ClassId) (ad : Nat → Nat) {E : List zC} {M : zM} {A : Nat → Prop} {H0 H : Heap} {locs : List Loc} (hD : va_D A (z_w cA ad M 0 E)) (hS : va_S A H0 H locs) (hA : ∀ q, H0.size ≤ q → A q) : ∀ q, va_A (z_w cA ad M 0 E) H.size q → A q := by
  intro q hq
  rcases hq with ⟨k, e, hk⟩ | hq
  · exact hD.2 k _ hk
  · exact hA q (Nat.le_trans hS.1 hq)
/-- the walk, over numbered memory -/
def zW (p : Program) (l : Launch) (e : Env) (R : Room) (s : State) (m : MethodId) (args : Array Value) (below : List Frame) (meth : Method) (c : Code) (cells slots : Nat) (Q : State → Prop) (A : Nat → Prop) (D : va_G) (cl : List vw_C) (cA : Nat → ClassId) (ad : Nat → Nat) (E : List zC) (nL : Nat) (M : zM) (pc : Nat) (L : List (Nat × zA)) (st : List zA) : Prop :=
  ∀ (H : Heap) (locs : List Loc) (ls : Array Slot), va_P D cl (z_w cA ad M 0 E) H → va_D A (z_w cA ad M 0 E) → va_S A s.heap H locs → lv_has ls nL (L.map (fun q => (q.1, z_v ad q.2))) → W p l e R s m args below meth c H locs cells slots Q (F0 m pc ls (st.map (z_v ad)))
/-- what is known of the method that is walked -/
def zX (p : Program) (s : State) (m : MethodId) (args : Array Value) (meth : Method) (c : Code) (A : Nat → Prop) (D : va_G) (cl : List vw_C) (tys : List (ClassId × FieldType)) (Ts : List Cond) (own : String) (cc : ByteArray) (nL : Nat) (ret : Option FieldType) : Prop :=
  p.tables.exec = Jvm.exec ∧ c.code = cc ∧ c.maxLocals = nL ∧ s.vm.findClass own = some m.cls ∧ (∀ w ∈ Ts, w.before args s = true) ∧ va_K D cl tys s ∧ (∀ q, s.heap.size ≤ q → A q) ∧ meth.sig.returnType = ret ∧ meth.locks = false
/-- a field reference: own's pool number index names the field k of class ci -/
def zF (cl : List vw_C) (Ts : List Cond) (own : String) (index ci k : Nat) (ty : FieldType) (fin : Bool) : Prop :=
  ∃ (C : String) (T : u_T) (Nf : Nat) (tf : Nat → FieldType), cl[ci]? = some (C, T, Nf) ∧ k < Nf ∧ (∀ w ∈ u_ws C T Nf, w ∈ Ts) ∧ Cond.fieldLink own index (T k).1 (T k).2.1 (T k).2.2.1 ∈ Ts ∧ (∀ j, j < Nf → parseFieldDescriptor (T j).2.2.1 = some (tf j)) ∧ (∀ a, a < Nf → ∀ b, b < Nf → a ≠ b → (T a).2.1 ≠ (T b).2.1) ∧ parseFieldDescriptor (T k).2.2.1 = some ty ∧ (T k).2.2.2 = fin
section ZRows
variable {p : Program} {l : Launch} {e : Env} {R : Room} {s : State} {m : MethodId} {args : Array Value} {below : List Frame} {meth : Method} {c : Code} {cells slots : Nat} {Q : State → Prop} {A : Nat → Prop} {D : va_G} {cl : List vw_C} {tys : List (ClassId × FieldType)} {cA : Nat → ClassId} {ad : Nat → Nat} {E : List zC} {nL : Nat} {M : zM} {pc : Nat} {L L' : List (Nat × zA)} {st : List zA} {Ts : List Cond} {own : String} {cc : ByteArray} {ret : Option FieldType}
theorem z_L {k i : Nat} {v : zA} (h : L[k]? = some (i, v)) : (L.map (fun q => (q.1, z_v ad q.2)))[k]? = some (i, z_v ad v) := by
  rw [List.getElem?_map, h]; rfl
theorem z_iconst (X : zX p s m args meth c A D cl tys Ts own cc nL ret) {n : Int} {v : Int32} (hd : decode cc pc = .ok (.iconst n, 1)) (hv : Int32.ofInt n = v) (k : zW p l e R s m args below meth c cells slots Q A D cl cA ad E nL M (pc + 1) L (zI v :: st)) : zW p l e R s m args below meth c cells slots Q A D cl cA ad E nL M pc L st :=
  fun H locs ls hP hD hS hl => lv_iconst X.1 X.2.1 hd hv (k H locs ls hP hD hS hl)
theorem z_bipush (X : zX p s m args meth c A D cl tys Ts own cc nL ret) {n : Int} {v : Int32} (hd : decode cc pc = .ok (.bipush n, 2)) (hv : (Int8.ofInt n).toInt32 = v) (k : zW p l e R s m args below meth c cells slots Q A D cl cA ad E nL M (pc + 2) L (zI v :: st)) : zW p l e R s m args below meth c cells slots Q A D cl cA ad E nL M pc L st :=
  fun H locs ls hP hD hS hl => lv_bipush X.1 X.2.1 hd hv (k H locs ls hP hD hS hl)
theorem z_sipush (X : zX p s m args meth c A D cl tys Ts own cc nL ret) {n : Int} {v : Int32} (hd : decode cc pc = .ok (.sipush n, 3)) (hv : (Int16.ofInt n).toInt32 = v) (k : zW p l e R s m args below meth c cells slots Q A D cl cA ad E nL M (pc + 3) L (zI v :: st)) : zW p l e R s m args below meth c cells slots Q A D cl cA ad E nL M pc L st :=
  fun H locs ls hP hD hS hl => lv_sipush X.1 X.2.1 hd hv (k H locs ls hP hD hS hl)
theorem z_lconst (X : zX p s m args meth c A D cl tys Ts own cc nL ret) {n : Fin 2} {v : Int64} (hd : decode cc pc = .ok (.lconst n, 1)) (hv : Int64.ofNat (n : Nat) = v) (k : zW p l e R s m args below meth c cells slots Q A D cl cA ad E nL M (pc + 1) L (zJ v :: st)) : zW p l e R s m args below meth c cells slots Q A D cl cA ad E nL M pc L st :=
  fun H locs ls hP hD hS hl => lv_lconst X.1 X.2.1 hd hv (k H locs ls hP hD hS hl)
theorem z_null (X : zX p s m args meth c A D cl tys Ts own cc nL ret) (hd : decode cc pc = .ok (.aconst_null, 1)) (k : zW p l e R s m args below meth c cells slots Q A D cl cA ad E nL M (pc + 1) L (zN :: st)) : zW p l e R s m args below meth c cells slots Q A D cl cA ad E nL M pc L st :=
  fun H locs ls hP hD hS hl => lv_null X.1 X.2.1 hd (k H locs ls hP hD hS hl)
theorem z_iload_n (X : zX p s m args meth c A D cl tys Ts own cc nL ret) {kf : Fin 4} {i : Nat} (j : Nat) {x : Int32} (hd : decode cc pc = .ok (.iload_n kf, 1)) (hi : (kf : Nat) = i) (hj : L[j]? = some (i, zI x)) (k : zW p l e R s m args below meth c cells slots Q A D cl cA ad E nL M (pc + 1) L (zI x :: st)) : zW p l e R s m args below meth c cells slots Q A D cl cA ad E nL M pc L st :=
  fun H locs ls hP hD hS hl => lv_iload_n X.1 X.2.1 hd hi (lv_at hl j (z_L hj)) (k H locs ls hP hD hS hl)
theorem z_iload (X : zX p s m args meth c A D cl tys Ts own cc nL ret) {i : Nat} (j : Nat) {x : Int32} (hd : decode cc pc = .ok (.iload i, 2)) (hj : L[j]? = some (i, zI x)) (k : zW p l e R s m args below meth c cells slots Q A D cl cA ad E nL M (pc + 2) L (zI x :: st)) : zW p l e R s m args below meth c cells slots Q A D cl cA ad E nL M pc L st :=
  fun H locs ls hP hD hS hl => lv_iload X.1 X.2.1 hd (lv_at hl j (z_L hj)) (k H locs ls hP hD hS hl)
theorem z_lload_n (X : zX p s m args meth c A D cl tys Ts own cc nL ret) {kf : Fin 4} {i : Nat} (j : Nat) {x : Int64} (hd : decode cc pc = .ok (.lload_n kf, 1)) (hi : (kf : Nat) = i) (hj : L[j]? = some (i, zJ x)) (k : zW p l e R s m args below meth c cells slots Q A D cl cA ad E nL M (pc + 1) L (zJ x :: st)) : zW p l e R s m args below meth c cells slots Q A D cl cA ad E nL M pc L st :=
  fun H locs ls hP hD hS hl => lv_lload_n X.1 X.2.1 hd hi (lv_at hl j (z_L hj)) (k H locs ls hP hD hS hl)
theorem z_aload_n (X : zX p s m args meth c A D cl tys Ts own cc nL ret) {kf : Fin 4} {i : Nat} (j : Nat) {x : Nat} (hd : decode cc pc = .ok (.aload_n kf, 1)) (hi : (kf : Nat) = i) (hj : L[j]? = some (i, zR x)) (k : zW p l e R s m args below meth c cells slots Q A D cl cA ad E nL M (pc + 1) L (zR x :: st)) : zW p l e R s m args below meth c cells slots Q A D cl cA ad E nL M pc L st :=
  fun H locs ls hP hD hS hl => lv_aload_n X.1 X.2.1 hd hi (lv_at hl j (z_L hj)) (k H locs ls hP hD hS hl)
theorem z_aload (X : zX p s m args meth c A D cl tys Ts own cc nL ret) {i : Nat} (j : Nat) {x : Nat} (hd : decode cc pc = .ok (.aload i, 2)) (hj : L[j]? = some (i, zR x)) (k : zW p l e R s m args below meth c cells slots Q A D cl cA ad E nL M (pc + 2) L (zR x :: st)) : zW p l e R s m args below meth c cells slots Q A D cl cA ad E nL M pc L st :=
  fun H locs ls hP hD hS hl => lv_aload X.1 X.2.1 hd (lv_at hl j (z_L hj)) (k H locs ls hP hD hS hl)
theorem z_aload_nN (X : zX p s m args meth c A D cl tys Ts own cc nL ret) {kf : Fin 4} {i : Nat} (j : Nat) (hd : decode cc pc = .ok (.aload_n kf, 1)) (hi : (kf : Nat) = i) (hj : L[j]? = some (i, zN)) (k : zW p l e R s m args below meth c cells slots Q A D cl cA ad E nL M (pc + 1) L (zN :: st)) : zW p l e R s m args below meth c cells slots Q A D cl cA ad E nL M pc L st :=
  fun H locs ls hP hD hS hl => lv_aload_nN X.1 X.2.1 hd hi (lv_at hl j (z_L hj)) (k H locs ls hP hD hS hl)
theorem z_fil (i : Nat) (L : List (Nat × zA)) : (L.map (fun q => (q.1, z_v ad q.2))).filter (fun q => !(q.1 == i) && !(q.1 + 1 == i && q.2.category == 2)) = (L.filter (fun q => !(q.1 == i) && !(q.1 + 1 == i && z_two q.2))).map (fun q => (q.1, z_v ad q.2)) := by
  rw [List.filter_map]
  congr 1
  apply List.filter_congr
  intro q _
  show (!(q.1 == i) && !(q.1 + 1 == i && (z_v ad q.2).category == 2)) = _
  rw [z_cat]
theorem z_fil2 (i : Nat) (L : List (Nat × zA)) : (L.map (fun q => (q.1, z_v ad q.2))).filter (fun q => !(q.1 == i) && (!(q.1 == i + 1) && !(q.1 + 1 == i && q.2.category == 2))) = (L.filter (fun q => !(q.1 == i) && (!(q.1 == i + 1) && !(q.1 + 1 == i && z_two q.2)))).map (fun q => (q.1, z_v ad q.2)) := by
  rw [List.filter_map]
  congr 1
  apply List.filter_congr
  intro q _
  show (!(q.1 == i) && (!(q.1 == i + 1) && !(q.1 + 1 == i && (z_v ad q.2).category == 2))) = _
  rw [z_cat]
theorem z_istore_n (X : zX p s m args meth c A D cl tys Ts own cc nL ret) {kf : Fin 4} {i : Nat} {x : Int32} (hd : decode cc pc = .ok (.istore_n kf, 1)) (hi : (kf : Nat) = i) (hn : i < nL) (hl' : (i, zI x) :: L.filter (fun q => !(q.1 == i) && !(q.1 + 1 == i && z_two q.2)) = L') (k : zW p l e R s m args below meth c cells slots Q A D cl cA ad E nL M (pc + 1) L' st) : zW p l e R s m args below meth c cells slots Q A D cl cA ad E nL M pc L (zI x :: st) :=
  fun H locs ls hP hD hS hl => lv_istore_n X.1 X.2.1 hd hi hl hn (by rw [z_fil, ← hl']; rfl) (fun ls' hl2 => k H locs ls' hP hD hS hl2)
theorem z_istore (X : zX p s m args meth c A D cl tys Ts own cc nL ret) {i : Nat} {x : Int32} (hd : decode cc pc = .ok (.istore i, 2)) (hn : i < nL) (hl' : (i, zI x) :: L.filter (fun q => !(q.1 == i) && !(q.1 + 1 == i && z_two q.2)) = L') (k : zW p l e R s m args below meth c cells slots Q A D cl cA ad E nL M (pc + 2) L' st) : zW p l e R s m args below meth c cells slots Q A D cl cA ad E nL M pc L (zI x :: st) :=
  fun H locs ls hP hD hS hl => lv_istore X.1 X.2.1 hd hl hn (by rw [z_fil, ← hl']; rfl) (fun ls' hl2 => k H locs ls' hP hD hS hl2)
theorem z_astore_n (X : zX p s m args meth c A D cl tys Ts own cc nL ret) {kf : Fin 4} {i : Nat} {x : Nat} (hd : decode cc pc = .ok (.astore_n kf, 1)) (hi : (kf : Nat) = i) (hn : i < nL) (hl' : (i, zR x) :: L.filter (fun q => !(q.1 == i) && !(q.1 + 1 == i && z_two q.2)) = L') (k : zW p l e R s m args below meth c cells slots Q A D cl cA ad E nL M (pc + 1) L' st) : zW p l e R s m args below meth c cells slots Q A D cl cA ad E nL M pc L (zR x :: st) :=
  fun H locs ls hP hD hS hl => lv_astore_n X.1 X.2.1 hd hi hl hn (by rw [z_fil, ← hl']; rfl) (fun ls' hl2 => k H locs ls' hP hD hS hl2)
theorem z_astore (X : zX p s m args meth c A D cl tys Ts own cc nL ret) {i : Nat} {x : Nat} (hd : decode cc pc = .ok (.astore i, 2)) (hn : i < nL) (hl' : (i, zR x) :: L.filter (fun q => !(q.1 == i) && !(q.1 + 1 == i && z_two q.2)) = L') (k : zW p l e R s m args below meth c cells slots Q A D cl cA ad E nL M (pc + 2) L' st) : zW p l e R s m args below meth c cells slots Q A D cl cA ad E nL M pc L (zR x :: st) :=
  fun H locs ls hP hD hS hl => lv_astore X.1 X.2.1 hd hl hn (by rw [z_fil, ← hl']; rfl) (fun ls' hl2 => k H locs ls' hP hD hS hl2)
theorem z_astore_nN (X : zX p s m args meth c A D cl tys Ts own cc nL ret) {kf : Fin 4} {i : Nat} (hd : decode cc pc = .ok (.astore_n kf, 1)) (hi : (kf : Nat) = i) (hn : i < nL) (hl' : (i, zN) :: L.filter (fun q => !(q.1 == i) && !(q.1 + 1 == i && z_two q.2)) = L') (k : zW p l e R s m args below meth c cells slots Q A D cl cA ad E nL M (pc + 1) L' st) : zW p l e R s m args below meth c cells slots Q A D cl cA ad E nL M pc L (zN :: st) :=
  fun H locs ls hP hD hS hl => lv_astore_nN X.1 X.2.1 hd hi hl hn (by rw [z_fil, ← hl']; rfl) (fun ls' hl2 => k H locs ls' hP hD hS hl2)
theorem z_iinc (X : zX p s m args meth c A D cl tys Ts own cc nL ret) {i : Nat} (j : Nat) {n : Int} {x v : Int32} (hd : decode cc pc = .ok (.iinc i n, 3)) (hj : L[j]? = some (i, zI x)) (hv : x + Int32.ofInt n = v) (hn : i < nL) (hl' : (i, zI v) :: L.filter (fun q => !(q.1 == i) && !(q.1 + 1 == i && z_two q.2)) = L') (k : zW p l e R s m args below meth c cells slots Q A D cl cA ad E nL M (pc + 3) L' st) : zW p l e R s m args below meth c cells slots Q A D cl cA ad E nL M pc L st :=
  fun H locs ls hP hD hS hl => lv_iinc X.1 X.2.1 hd hl (k := j) (z_L hj) hv hn (by rw [z_fil, ← hl']; rfl) (fun ls' hl2 => k H locs ls' hP hD hS hl2)
theorem z_cat1 {v : zA} (h : z_two v = false) : (z_v ad v).category = 1 := by
  rcases v with x | x | _ | r
  · rfl
  · cases h
  · rfl
  · rfl
theorem z_keep {ks : List Nat} (hp : ks.filterMap (fun k => L[k]?) = L') (k : zW p l e R s m args below meth c cells slots Q A D cl cA ad E nL M pc L' st) : zW p l e R s m args below meth c cells slots Q A D cl cA ad E nL M pc L st := by
  intro H locs ls hP hD hS hl
  refine k H locs ls hP hD hS (lv_sub hl ks ?_)
  rw [← hp]
  show ks.filterMap (fun k => (L.map _)[k]?) = _
  rw [List.map_filterMap]
  congr 1
  funext k
  rw [List.getElem?_map]
theorem z_iadd (X : zX p s m args meth c A D cl tys Ts own cc nL ret) {x y : Int32} (hd : decode cc pc = .ok (.iadd, 1)) (k : zW p l e R s m args below meth c cells slots Q A D cl cA ad E nL M (pc + 1) L (zI (x + y) :: st)) : zW p l e R s m args below meth c cells slots Q A D cl cA ad E nL M pc L (zI y :: zI x :: st) :=
  fun H locs ls hP hD hS hl => lv_iadd X.1 X.2.1 hd (k H locs ls hP hD hS hl)
theorem z_isub (X : zX p s m args meth c A D cl tys Ts own cc nL ret) {x y : Int32} (hd : decode cc pc = .ok (.isub, 1)) (k : zW p l e R s m args below meth c cells slots Q A D cl cA ad E nL M (pc + 1) L (zI (x - y) :: st)) : zW p l e R s m args below meth c cells slots Q A D cl cA ad E nL M pc L (zI y :: zI x :: st) :=
  fun H locs ls hP hD hS hl => lv_isub X.1 X.2.1 hd (k H locs ls hP hD hS hl)
theorem z_imul (X : zX p s m args meth c A D cl tys Ts own cc nL ret) {x y : Int32} (hd : decode cc pc = .ok (.imul, 1)) (k : zW p l e R s m args below meth c cells slots Q A D cl cA ad E nL M (pc + 1) L (zI (x * y) :: st)) : zW p l e R s m args below meth c cells slots Q A D cl cA ad E nL M pc L (zI y :: zI x :: st) :=
  fun H locs ls hP hD hS hl => lv_imul X.1 X.2.1 hd (k H locs ls hP hD hS hl)
theorem z_iand (X : zX p s m args meth c A D cl tys Ts own cc nL ret) {x y : Int32} (hd : decode cc pc = .ok (.iand, 1)) (k : zW p l e R s m args below meth c cells slots Q A D cl cA ad E nL M (pc + 1) L (zI (x &&& y) :: st)) : zW p l e R s m args below meth c cells slots Q A D cl cA ad E nL M pc L (zI y :: zI x :: st) :=
  fun H locs ls hP hD hS hl => lv_iand X.1 X.2.1 hd (k H locs ls hP hD hS hl)
theorem z_ior (X : zX p s m args meth c A D cl tys Ts own cc nL ret) {x y : Int32} (hd : decode cc pc = .ok (.ior, 1)) (k : zW p l e R s m args below meth c cells slots Q A D cl cA ad E nL M (pc + 1) L (zI (x ||| y) :: st)) : zW p l e R s m args below meth c cells slots Q A D cl cA ad E nL M pc L (zI y :: zI x :: st) :=
  fun H locs ls hP hD hS hl => lv_ior X.1 X.2.1 hd (k H locs ls hP hD hS hl)
theorem z_ixor (X : zX p s m args meth c A D cl tys Ts own cc nL ret) {x y : Int32} (hd : decode cc pc = .ok (.ixor, 1)) (k : zW p l e R s m args below meth c cells slots Q A D cl cA ad E nL M (pc + 1) L (zI (x ^^^ y) :: st)) : zW p l e R s m args below meth c cells slots Q A D cl cA ad E nL M pc L (zI y :: zI x :: st) :=
  fun H locs ls hP hD hS hl => lv_ixor X.1 X.2.1 hd (k H locs ls hP hD hS hl)
theorem z_idiv (X : zX p s m args meth c A D cl tys Ts own cc nL ret) {x y : Int32} (hd : decode cc pc = .ok (.idiv, 1)) (hne : ¬ y = 0) (k : zW p l e R s m args below meth c cells slots Q A D cl cA ad E nL M (pc + 1) L (zI (x / y) :: st)) : zW p l e R s m args below meth c cells slots Q A D cl cA ad E nL M pc L (zI y :: zI x :: st) :=
  fun H locs ls hP hD hS hl => lv_idiv X.1 X.2.1 hd hne (k H locs ls hP hD hS hl)
theorem z_irem (X : zX p s m args meth c A D cl tys Ts own cc nL ret) {x y : Int32} (hd : decode cc pc = .ok (.irem, 1)) (hne : ¬ y = 0) (k : zW p l e R s m args below meth c cells slots Q A D cl cA ad E nL M (pc + 1) L (zI (x - x / y * y) :: st)) : zW p l e R s m args below meth c cells slots Q A D cl cA ad E nL M pc L (zI y :: zI x :: st) :=
  fun H locs ls hP hD hS hl => lv_irem X.1 X.2.1 hd hne (k H locs ls hP hD hS hl)
theorem z_ineg (X : zX p s m args meth c A D cl tys Ts own cc nL ret) {x : Int32} (hd : decode cc pc = .ok (.ineg, 1)) (k : zW p l e R s m args below meth c cells slots Q A D cl cA ad E nL M (pc + 1) L (zI (-x) :: st)) : zW p l e R s m args below meth c cells slots Q A D cl cA ad E nL M pc L (zI x :: st) :=
  fun H locs ls hP hD hS hl => lv_ineg X.1 X.2.1 hd (k H locs ls hP hD hS hl)
theorem z_ladd (X : zX p s m args meth c A D cl tys Ts own cc nL ret) {x y : Int64} (hd : decode cc pc = .ok (.ladd, 1)) (k : zW p l e R s m args below meth c cells slots Q A D cl cA ad E nL M (pc + 1) L (zJ (x + y) :: st)) : zW p l e R s m args below meth c cells slots Q A D cl cA ad E nL M pc L (zJ y :: zJ x :: st) :=
  fun H locs ls hP hD hS hl => lv_ladd X.1 X.2.1 hd (k H locs ls hP hD hS hl)
theorem z_lsub (X : zX p s m args meth c A D cl tys Ts own cc nL ret) {x y : Int64} (hd : decode cc pc = .ok (.lsub, 1)) (k : zW p l e R s m args below meth c cells slots Q A D cl cA ad E nL M (pc + 1) L (zJ (x - y) :: st)) : zW p l e R s m args below meth c cells slots Q A D cl cA ad E nL M pc L (zJ y :: zJ x :: st) :=
  fun H locs ls hP hD hS hl => lv_lsub X.1 X.2.1 hd (k H locs ls hP hD hS hl)
theorem z_lcmp (X : zX p s m args meth c A D cl tys Ts own cc nL ret) {x y : Int64} (hd : decode cc pc = .ok (.lcmp, 1)) (k : zW p l e R s m args below meth c cells slots Q A D cl cA ad E nL M (pc + 1) L (zI (lg_cmp x y) :: st)) : zW p l e R s m args below meth c cells slots Q A D cl cA ad E nL M pc L (zJ y :: zJ x :: st) :=
  fun H locs ls hP hD hS hl => W.lcmp X.1 X.2.1 hd (k H locs ls hP hD hS hl)
theorem z_i2l (X : zX p s m args meth c A D cl tys Ts own cc nL ret) {x : Int32} (hd : decode cc pc = .ok (.i2l, 1)) (k : zW p l e R s m args below meth c cells slots Q A D cl cA ad E nL M (pc + 1) L (zJ x.toInt64 :: st)) : zW p l e R s m args below meth c cells slots Q A D cl cA ad E nL M pc L (zI x :: st) :=
  fun H locs ls hP hD hS hl => lv_i2l X.1 X.2.1 hd rfl (k H locs ls hP hD hS hl)
theorem z_topi (X : zX p s m args meth c A D cl tys Ts own cc nL ret) {x : Int32} (k : ∀ y : Int32, y = x → zW p l e R s m args below meth c cells slots Q A D cl cA ad E nL M pc L (zI y :: st)) : zW p l e R s m args below meth c cells slots Q A D cl cA ad E nL M pc L (zI x :: st) :=
  k x rfl
theorem z_dup (X : zX p s m args meth c A D cl tys Ts own cc nL ret) {v : zA} (hd : decode cc pc = .ok (.dup, 1)) (hv : z_two v = false) (k : zW p l e R s m args below meth c cells slots Q A D cl cA ad E nL M (pc + 1) L (v :: v :: st)) : zW p l e R s m args below meth c cells slots Q A D cl cA ad E nL M pc L (v :: st) :=
  fun H locs ls hP hD hS hl => lv_dup X.1 X.2.1 hd (z_cat1 hv) (k H locs ls hP hD hS hl)
theorem z_pop (X : zX p s m args meth c A D cl tys Ts own cc nL ret) {v : zA} (hd : decode cc pc = .ok (.pop, 1)) (hv : z_two v = false) (k : zW p l e R s m args below meth c cells slots Q A D cl cA ad E nL M (pc + 1) L st) : zW p l e R s m args below meth c cells slots Q A D cl cA ad E nL M pc L (v :: st) :=
  fun H locs ls hP hD hS hl => lv_pop X.1 X.2.1 hd (z_cat1 hv) (k H locs ls hP hD hS hl)
theorem z_dup_x1 (X : zX p s m args meth c A D cl tys Ts own cc nL ret) {v w : zA} (hd : decode cc pc = .ok (.dup_x1, 1)) (hv : z_two v = false) (hw : z_two w = false) (k : zW p l e R s m args below meth c cells slots Q A D cl cA ad E nL M (pc + 1) L (v :: w :: v :: st)) : zW p l e R s m args below meth c cells slots Q A D cl cA ad E nL M pc L (v :: w :: st) :=
  fun H locs ls hP hD hS hl => lv_dup_x1 X.1 X.2.1 hd (z_cat1 hv) (z_cat1 hw) (k H locs ls hP hD hS hl)
theorem z_dup2 (X : zX p s m args meth c A D cl tys Ts own cc nL ret) {v w : zA} (hd : decode cc pc = .ok (.dup2, 1)) (hv : z_two v = false) (hw : z_two w = false) (k : zW p l e R s m args below meth c cells slots Q A D cl cA ad E nL M (pc + 1) L (v :: w :: v :: w :: st)) : zW p l e R s m args below meth c cells slots Q A D cl cA ad E nL M pc L (v :: w :: st) :=
  fun H locs ls hP hD hS hl => lv_dup2_11 X.1 X.2.1 hd (z_cat1 hv) (z_cat1 hw) (k H locs ls hP hD hS hl)
theorem z_if_eq (X : zX p s m args meth c A D cl tys Ts own cc nL ret) {x : Int32} {off : Int} (tgt : Nat) (hd : decode cc pc = .ok (.ifCond .eq off, 3)) (ht : (pc : Int) + off = (tgt : Int)) (kt : x = 0 → zW p l e R s m args below meth c cells slots Q A D cl cA ad E nL M tgt L st) (kf : ¬ x = 0 → zW p l e R s m args below meth c cells slots Q A D cl cA ad E nL M (pc + 3) L st) : zW p l e R s m args below meth c cells slots Q A D cl cA ad E nL M pc L (zI x :: st) :=
  fun H locs ls hP hD hS hl => lv_if_eq X.1 X.2.1 hd ht (fun h => kt h H locs ls hP hD hS hl) (fun h => kf h H locs ls hP hD hS hl)
theorem z_if_ne (X : zX p s m args meth c A D cl tys Ts own cc nL ret) {x : Int32} {off : Int} (tgt : Nat) (hd : decode cc pc = .ok (.ifCond .ne off, 3)) (ht : (pc : Int) + off = (tgt : Int)) (kt : ¬ x = 0 → zW p l e R s m args below meth c cells slots Q A D cl cA ad E nL M tgt L st) (kf : x = 0 → zW p l e R s m args below meth c cells slots Q A D cl cA ad E nL M (pc + 3) L st) : zW p l e R s m args below meth c cells slots Q A D cl cA ad E nL M pc L (zI x :: st) :=
  fun H locs ls hP hD hS hl => lv_if_ne X.1 X.2.1 hd ht (fun h => kt h H locs ls hP hD hS hl) (fun h => kf h H locs ls hP hD hS hl)
theorem z_if_lt (X : zX p s m args meth c A D cl tys Ts own cc nL ret) {x : Int32} {off : Int} (tgt : Nat) (hd : decode cc pc = .ok (.ifCond .lt off, 3)) (ht : (pc : Int) + off = (tgt : Int)) (kt : x < 0 → zW p l e R s m args below meth c cells slots Q A D cl cA ad E nL M tgt L st) (kf : ¬ x < 0 → zW p l e R s m args below meth c cells slots Q A D cl cA ad E nL M (pc + 3) L st) : zW p l e R s m args below meth c cells slots Q A D cl cA ad E nL M pc L (zI x :: st) :=
  fun H locs ls hP hD hS hl => lv_if_lt X.1 X.2.1 hd ht (fun h => kt h H locs ls hP hD hS hl) (fun h => kf h H locs ls hP hD hS hl)
theorem z_if_ge (X : zX p s m args meth c A D cl tys Ts own cc nL ret) {x : Int32} {off : Int} (tgt : Nat) (hd : decode cc pc = .ok (.ifCond .ge off, 3)) (ht : (pc : Int) + off = (tgt : Int)) (kt : 0 ≤ x → zW p l e R s m args below meth c cells slots Q A D cl cA ad E nL M tgt L st) (kf : ¬ 0 ≤ x → zW p l e R s m args below meth c cells slots Q A D cl cA ad E nL M (pc + 3) L st) : zW p l e R s m args below meth c cells slots Q A D cl cA ad E nL M pc L (zI x :: st) :=
  fun H locs ls hP hD hS hl => lv_if_ge X.1 X.2.1 hd ht (fun h => kt h H locs ls hP hD hS hl) (fun h => kf h H locs ls hP hD hS hl)
theorem z_if_gt (X : zX p s m args meth c A D cl tys Ts own cc nL ret) {x : Int32} {off : Int} (tgt : Nat) (hd : decode cc pc = .ok (.ifCond .gt off, 3)) (ht : (pc : Int) + off = (tgt : Int)) (kt : 0 < x → zW p l e R s m args below meth c cells slots Q A D cl cA ad E nL M tgt L st) (kf : ¬ 0 < x → zW p l e R s m args below meth c cells slots Q A D cl cA ad E nL M (pc + 3) L st) : zW p l e R s m args below meth c cells slots Q A D cl cA ad E nL M pc L (zI x :: st) :=
  fun H locs ls hP hD hS hl => lv_if_gt X.1 X.2.1 hd ht (fun h => kt h H locs ls hP hD hS hl) (fun h => kf h H locs ls hP hD hS hl)
theorem z_if_le (X : zX p s m args meth c A D cl tys Ts own cc nL ret) {x : Int32} {off : Int} (tgt : Nat) (hd : decode cc pc = .ok (.ifCond .le off, 3)) (ht : (pc : Int) + off = (tgt : Int)) (kt : x ≤ 0 → zW p l e R s m args below meth c cells slots Q A D cl cA ad E nL M tgt L st) (kf : ¬ x ≤ 0 → zW p l e R s m args below meth c cells slots Q A D cl cA ad E nL M (pc + 3) L st) : zW p l e R s m args below meth c cells slots Q A D cl cA ad E nL M pc L (zI x :: st) :=
  fun H locs ls hP hD hS hl => lv_if_le X.1 X.2.1 hd ht (fun h => kt h H locs ls hP hD hS hl) (fun h => kf h H locs ls hP hD hS hl)
theorem z_icmp_eq (X : zX p s m args meth c A D cl tys Ts own cc nL ret) {x y : Int32} {off : Int} (tgt : Nat) (hd : decode cc pc = .ok (.if_icmp .eq off, 3)) (ht : (pc : Int) + off = (tgt : Int)) (kt : x = y → zW p l e R s m args below meth c cells slots Q A D cl cA ad E nL M tgt L st) (kf : ¬ x = y → zW p l e R s m args below meth c cells slots Q A D cl cA ad E nL M (pc + 3) L st) : zW p l e R s m args below meth c cells slots Q A D cl cA ad E nL M pc L (zI y :: zI x :: st) :=
  fun H locs ls hP hD hS hl => lv_icmp_eq X.1 X.2.1 hd ht (fun h => kt h H locs ls hP hD hS hl) (fun h => kf h H locs ls hP hD hS hl)
theorem z_icmp_ne (X : zX p s m args meth c A D cl tys Ts own cc nL ret) {x y : Int32} {off : Int} (tgt : Nat) (hd : decode cc pc = .ok (.if_icmp .ne off, 3)) (ht : (pc : Int) + off = (tgt : Int)) (kt : ¬ x = y → zW p l e R s m args below meth c cells slots Q A D cl cA ad E nL M tgt L st) (kf : x = y → zW p l e R s m args below meth c cells slots Q A D cl cA ad E nL M (pc + 3) L st) : zW p l e R s m args below meth c cells slots Q A D cl cA ad E nL M pc L (zI y :: zI x :: st) :=
  fun H locs ls hP hD hS hl => lv_icmp_ne X.1 X.2.1 hd ht (fun h => kt h H locs ls hP hD hS hl) (fun h => kf h H locs ls hP hD hS hl)
theorem z_icmp_lt (X : zX p s m args meth c A D cl tys Ts own cc nL ret) {x y : Int32} {off : Int} (tgt : Nat) (hd : decode cc pc = .ok (.if_icmp .lt off, 3)) (ht : (pc : Int) + off = (tgt : Int)) (kt : x < y → zW p l e R s m args below meth c cells slots Q A D cl cA ad E nL M tgt L st) (kf : ¬ x < y → zW p l e R s m args below meth c cells slots Q A D cl cA ad E nL M (pc + 3) L st) : zW p l e R s m args below meth c cells slots Q A D cl cA ad E nL M pc L (zI y :: zI x :: st) :=
  fun H locs ls hP hD hS hl => lv_icmp_lt X.1 X.2.1 hd ht (fun h => kt h H locs ls hP hD hS hl) (fun h => kf h H locs ls hP hD hS hl)
theorem z_icmp_ge (X : zX p s m args meth c A D cl tys Ts own cc nL ret) {x y : Int32} {off : Int} (tgt : Nat) (hd : decode cc pc = .ok (.if_icmp .ge off, 3)) (ht : (pc : Int) + off = (tgt : Int)) (kt : y ≤ x → zW p l e R s m args below meth c cells slots Q A D cl cA ad E nL M tgt L st) (kf : ¬ y ≤ x → zW p l e R s m args below meth c cells slots Q A D cl cA ad E nL M (pc + 3) L st) : zW p l e R s m args below meth c cells slots Q A D cl cA ad E nL M pc L (zI y :: zI x :: st) :=
  fun H locs ls hP hD hS hl => lv_icmp_ge X.1 X.2.1 hd ht (fun h => kt h H locs ls hP hD hS hl) (fun h => kf h H locs ls hP hD hS hl)
theorem z_icmp_gt (X : zX p s m args meth c A D cl tys Ts own cc nL ret) {x y : Int32} {off : Int} (tgt : Nat) (hd : decode cc pc = .ok (.if_icmp .gt off, 3)) (ht : (pc : Int) + off = (tgt : Int)) (kt : y < x → zW p l e R s m args below meth c cells slots Q A D cl cA ad E nL M tgt L st) (kf : ¬ y < x → zW p l e R s m args below meth c cells slots Q A D cl cA ad E nL M (pc + 3) L st) : zW p l e R s m args below meth c cells slots Q A D cl cA ad E nL M pc L (zI y :: zI x :: st) :=
  fun H locs ls hP hD hS hl => lv_icmp_gt X.1 X.2.1 hd ht (fun h => kt h H locs ls hP hD hS hl) (fun h => kf h H locs ls hP hD hS hl)
theorem z_icmp_le (X : zX p s m args meth c A D cl tys Ts own cc nL ret) {x y : Int32} {off : Int} (tgt : Nat) (hd : decode cc pc = .ok (.if_icmp .le off, 3)) (ht : (pc : Int) + off = (tgt : Int)) (kt : x ≤ y → zW p l e R s m args below meth c cells slots Q A D cl cA ad E nL M tgt L st) (kf : ¬ x ≤ y → zW p l e R s m args below meth c cells slots Q A D cl cA ad E nL M (pc + 3) L st) : zW p l e R s m args below meth c cells slots Q A D cl cA ad E nL M pc L (zI y :: zI x :: st) :=
  fun H locs ls hP hD hS hl => lv_icmp_le X.1 X.2.1 hd ht (fun h => kt h H locs ls hP hD hS hl) (fun h => kf h H locs ls hP hD hS hl)
theorem z_goto (X : zX p s m args meth c A D cl tys Ts own cc nL ret) {off : Int} (tgt : Nat) (hd : decode cc pc = .ok (.goto off, 3)) (ht : (pc : Int) + off = (tgt : Int)) (k : zW p l e R s m args below meth c cells slots Q A D cl cA ad E nL M tgt L st) : zW p l e R s m args below meth c cells slots Q A D cl cA ad E nL M pc L st :=
  fun H locs ls hP hD hS hl => lv_goto X.1 X.2.1 hd ht (k H locs ls hP hD hS hl)
theorem z_ifnull (X : zX p s m args meth c A D cl tys Ts own cc nL ret) {x : Nat} {off : Int} (hd : decode cc pc = .ok (.ifnull off, 3)) (k : zW p l e R s m args below meth c cells slots Q A D cl cA ad E nL M (pc + 3) L st) : zW p l e R s m args below meth c cells slots Q A D cl cA ad E nL M pc L (zR x :: st) :=
  fun H locs ls hP hD hS hl => lv_ifnull X.1 X.2.1 hd (k H locs ls hP hD hS hl)
theorem z_ifnullN (X : zX p s m args meth c A D cl tys Ts own cc nL ret) {off : Int} (tgt : Nat) (hd : decode cc pc = .ok (.ifnull off, 3)) (ht : (pc : Int) + off = (tgt : Int)) (k : zW p l e R s m args below meth c cells slots Q A D cl cA ad E nL M tgt L st) : zW p l e R s m args below meth c cells slots Q A D cl cA ad E nL M pc L (zN :: st) :=
  fun H locs ls hP hD hS hl => lv_ifnullN X.1 X.2.1 hd ht (k H locs ls hP hD hS hl)
theorem z_ifnonnull (X : zX p s m args meth c A D cl tys Ts own cc nL ret) {x : Nat} {off : Int} (tgt : Nat) (hd : decode cc pc = .ok (.ifnonnull off, 3)) (ht : (pc : Int) + off = (tgt : Int)) (k : zW p l e R s m args below meth c cells slots Q A D cl cA ad E nL M tgt L st) : zW p l e R s m args below meth c cells slots Q A D cl cA ad E nL M pc L (zR x :: st) :=
  fun H locs ls hP hD hS hl => lv_ifnonnull X.1 X.2.1 hd ht (k H locs ls hP hD hS hl)
theorem z_ifnonnullN (X : zX p s m args meth c A D cl tys Ts own cc nL ret) {off : Int} (hd : decode cc pc = .ok (.ifnonnull off, 3)) (k : zW p l e R s m args below meth c cells slots Q A D cl cA ad E nL M (pc + 3) L st) : zW p l e R s m args below meth c cells slots Q A D cl cA ad E nL M pc L (zN :: st) :=
  fun H locs ls hP hD hS hl => lv_ifnonnullN X.1 X.2.1 hd (k H locs ls hP hD hS hl)
theorem z_tabOut (X : zX p s m args meth c A D cl tys Ts own cc nL ret) {dflt lo hi : Int} {offs : Array Int} {len : Nat} {x : Int32} (tgt : Nat) (hd : decode cc pc = .ok (.tableswitch dflt lo hi offs, len)) (h : x.toInt < lo ∨ hi < x.toInt) (ht : (pc : Int) + dflt = (tgt : Int)) (k : zW p l e R s m args below meth c cells slots Q A D cl cA ad E nL M tgt L st) : zW p l e R s m args below meth c cells slots Q A D cl cA ad E nL M pc L (zI x :: st) :=
  fun H locs ls hP hD hS hl => lv_tableOut X.1 X.2.1 hd h ht (k H locs ls hP hD hS hl)
theorem z_tabIn (X : zX p s m args meth c A D cl tys Ts own cc nL ret) {dflt lo hi : Int} {offs : Array Int} {len : Nat} {x : Int32} {off : Int} (tgt : Nat) (hd : decode cc pc = .ok (.tableswitch dflt lo hi offs, len)) (h1 : ¬ x.toInt < lo) (h2 : ¬ hi < x.toInt) (ho : offs[(x.toInt - lo).toNat]? = some off) (ht : (pc : Int) + off = (tgt : Int)) (k : zW p l e R s m args below meth c cells slots Q A D cl cA ad E nL M tgt L st) : zW p l e R s m args below meth c cells slots Q A D cl cA ad E nL M pc L (zI x :: st) :=
  fun H locs ls hP hD hS hl => lv_tableIn X.1 X.2.1 hd h1 h2 ho ht (k H locs ls hP hD hS hl)
theorem z_look (X : zX p s m args meth c A D cl tys Ts own cc nL ret) {dflt : Int} {ps : Array (Int × Int)} {len : Nat} {x : Int32} {off : Int} (tgt : Nat) (hd : decode cc pc = .ok (.lookupswitch dflt ps, len)) (hp : (ps.toList.zip (ps.toList.drop 1)).all (fun (a, next) => a.1 < next.1) = true) (ho : Op.lookupswitch.offset ps.toList dflt x.toInt = off) (ht : (pc : Int) + off = (tgt : Int)) (k : zW p l e R s m args below meth c cells slots Q A D cl cA ad E nL M tgt L st) : zW p l e R s m args below meth c cells slots Q A D cl cA ad E nL M pc L (zI x :: st) :=
  fun H locs ls hP hD hS hl => lv_lookup X.1 X.2.1 hd hp ho ht (k H locs ls hP hD hS hl)
theorem z_get (X : zX p s m args meth c A D cl tys Ts own cc nL ret) {index ci k : Nat} {ty : FieldType} {fin : Bool} (fl : zF cl Ts own index ci k ty fin) (c0 : Nat) {fs : List zK} (hE : E[c0]? = some (.inl (ci, fs))) {f : zK} (hf : fs[k]? = some f) {v : zA} (hv : z_fa M c0 k f = v) (hd : decode cc pc = .ok (.getfield index, 3)) (kk : zW p l e R s m args below meth c cells slots Q A D cl cA ad E nL M (pc + 3) L (v :: st)) : zW p l e R s m args below meth c cells slots Q A D cl cA ad E nL M pc L (zR c0 :: st) := by
  intro H locs ls hP hD hS hl
  obtain ⟨C, T, Nf, tf, h1, h2, h3, h4, h5, h6, h7, h8⟩ := fl
  have hw : (z_w cA ad M 0 E)[c0]? = some (ad c0, .inr (ci, z_fs ad M c0 0 fs)) := by
    rw [z_w_get cA ad M hE]
    rfl
  refine va_get (D := D) (ci := ci) (v := z_v ad v) (C := C) (T := T) (N := Nf) X.1 X.2.1 X.2.2.2.2.1 h3 X.2.2.2.1 X.2.2.2.2.2.1 hP c0 hw h1 k h2 (X.2.2.2.2.1 _ h4) (fun _ h9 => h9) ?_ hd (kk H locs ls hP hD hS hl)
  rw [z_fs_get, hf, ← hv, ← z_vfa, Nat.zero_add]
  rfl
theorem z_puti (X : zX p s m args meth c A D cl tys Ts own cc nL ret) {index ci k : Nat} {ty : FieldType} (fl : zF cl Ts own index ci k ty false) (c0 : Nat) {fs : List zK} (hE : E[c0]? = some (.inl (ci, fs))) (hf : fs[k]? = some ki) {x : Int32} (hn : narrow ty (.int x) = .int x) (hfit : fits ty (.int x) = true) (hd : decode cc pc = .ok (.putfield index, 3)) (kk : zW p l e R s m args below meth c cells slots Q A D cl cA ad E nL (z_si M c0 k x) (pc + 3) L st) : zW p l e R s m args below meth c cells slots Q A D cl cA ad E nL M pc L (zI x :: zR c0 :: st) := by
  intro H locs ls hP hD hS hl
  obtain ⟨C, T, Nf, tf, h1, h2, h3, h4, h5, h6, h7, h8⟩ := fl
  have hw : (z_w cA ad M 0 E)[c0]? = some (ad c0, .inr (ci, z_fs ad M c0 0 fs)) := by
    rw [z_w_get cA ad M hE]
    rfl
  have he : (z_w cA ad M 0 E).set c0 (ad c0, .inr (ci, (z_fs ad M c0 0 fs).set k (.int x))) = z_w cA ad (z_si M c0 k x) 0 E := by
    rw [z_w_set cA ad (M := M) (M' := z_si M c0 k x) hE (x' := .inl (ci, fs)) ?_ (fun d hd2 => z_si_row M k x hd2) (fun _ _ => rfl), z_set_self hE]
    rw [z_fs_si ad M c0 k x hf]
    rfl
  refine va_put (D := D) (ci := ci) (v := .int x) (ty := ty) (C := C) (T := T) (N := Nf) X.1 X.2.1 X.2.2.2.2.1 h3 tf h5 h6 X.2.2.2.1 X.2.2.2.2.2.1 hP hD hS c0 hw h1 k h2 (X.2.2.2.2.1 _ h4) (fun _ h9 => h9) h8 h7 hn hfit (by rw [z_fs_len]; exact (List.getElem?_eq_some_iff.mp hf).1) hd (fun H1 locs1 hP1 hD1 hS1 => ?_)
  rw [he] at hP1 hD1
  exact kk H1 locs1 ls hP1 hD1 hS1 hl
theorem z_putj (X : zX p s m args meth c A D cl tys Ts own cc nL ret) {index ci k : Nat} (fl : zF cl Ts own index ci k .long false) (c0 : Nat) {fs : List zK} (hE : E[c0]? = some (.inl (ci, fs))) (hf : fs[k]? = some kj) {x : Int64} (hd : decode cc pc = .ok (.putfield index, 3)) (kk : zW p l e R s m args below meth c cells slots Q A D cl cA ad E nL (z_sj M c0 k x) (pc + 3) L st) : zW p l e R s m args below meth c cells slots Q A D cl cA ad E nL M pc L (zJ x :: zR c0 :: st) := by
  intro H locs ls hP hD hS hl
  obtain ⟨C, T, Nf, tf, h1, h2, h3, h4, h5, h6, h7, h8⟩ := fl
  have hw : (z_w cA ad M 0 E)[c0]? = some (ad c0, .inr (ci, z_fs ad M c0 0 fs)) := by
    rw [z_w_get cA ad M hE]
    rfl
  have he : (z_w cA ad M 0 E).set c0 (ad c0, .inr (ci, (z_fs ad M c0 0 fs).set k (.long x))) = z_w cA ad (z_sj M c0 k x) 0 E := by
    rw [z_w_set cA ad (M := M) (M' := z_sj M c0 k x) hE (x' := .inl (ci, fs)) ?_ (fun _ _ => rfl) (fun d hd2 => z_sj_row M k x hd2), z_set_self hE]
    rw [z_fs_sj ad M c0 k x hf]
    rfl
  refine va_put (D := D) (ci := ci) (v := .long x) (ty := .long) (C := C) (T := T) (N := Nf) X.1 X.2.1 X.2.2.2.2.1 h3 tf h5 h6 X.2.2.2.1 X.2.2.2.2.2.1 hP hD hS c0 hw h1 k h2 (X.2.2.2.2.1 _ h4) (fun _ h9 => h9) h8 h7 rfl rfl (by rw [z_fs_len]; exact (List.getElem?_eq_some_iff.mp hf).1) hd (fun H1 locs1 hP1 hD1 hS1 => ?_)
  rw [he] at hP1 hD1
  exact kk H1 locs1 ls hP1 hD1 hS1 hl
theorem z_iald (X : zX p s m args meth c A D cl tys Ts own cc nL ret) (c0 : Nat) {t n : Nat} (hE : E[c0]? = some (.inr (.inl (t, n)))) (ht : tys[t]? = some (cA t, .int)) {i : Int32} (j : Nat) (hi : i = nI j) (hj : j < n) (hn : n < 2 ^ 31) (hd : decode cc pc = .ok (.iaload, 1)) (kk : zW p l e R s m args below meth c cells slots Q A D cl cA ad E nL M (pc + 1) L (zI (M.1 c0 j) :: st)) : zW p l e R s m args below meth c cells slots Q A D cl cA ad E nL M pc L (zI i :: zR c0 :: st) := by
  subst hi
  intro H locs ls hP hD hS hl
  have hw : (z_w cA ad M 0 E)[c0]? = some (ad c0, .inl (cA t, n, .inl (M.1 c0))) := by
    rw [z_w_get cA ad M hE]
    rfl
  refine va_iald X.1 X.2.1 X.2.2.2.2.2.1 hP c0 t hw ht (vp_in_nI hj hn) hd ?_
  rw [nI_clamp (n := j) (by omega)]
  exact kk H locs ls hP hD hS hl
theorem z_iast (X : zX p s m args meth c A D cl tys Ts own cc nL ret) (c0 : Nat) {t n : Nat} (hE : E[c0]? = some (.inr (.inl (t, n)))) (ht : tys[t]? = some (cA t, .int)) {i x : Int32} (j : Nat) (hi : i = nI j) (hj : j < n) (hn : n < 2 ^ 31) (hd : decode cc pc = .ok (.iastore, 1)) (kk : zW p l e R s m args below meth c cells slots Q A D cl cA ad E nL (z_si M c0 j x) (pc + 1) L st) : zW p l e R s m args below meth c cells slots Q A D cl cA ad E nL M pc L (zI x :: zI i :: zR c0 :: st) := by
  subst hi
  intro H locs ls hP hD hS hl
  have hw : (z_w cA ad M 0 E)[c0]? = some (ad c0, .inl (cA t, n, .inl (M.1 c0))) := by
    rw [z_w_get cA ad M hE]
    rfl
  have he : (z_w cA ad M 0 E).set c0 (ad c0, .inl (cA t, n, .inl (upd (M.1 c0) (nI j).toNatClampNeg x))) = z_w cA ad (z_si M c0 j x) 0 E := by
    rw [z_w_set cA ad (M := M) (M' := z_si M c0 j x) hE (x' := .inr (.inl (t, n))) ?_ (fun d hd2 => z_si_row M j x hd2) (fun _ _ => rfl), z_set_self hE]
    rw [nI_clamp (n := j) (by omega), show upd (M.1 c0) j x = (z_si M c0 j x).1 c0 from by funext q; simp [upd, z_si]]
    rfl
  refine va_iast X.1 X.2.1 X.2.2.2.2.2.1 hP hD hS c0 t hw ht (vp_in_nI hj hn) hd (fun H1 locs1 hP1 hD1 hS1 => ?_)
  rw [he] at hP1 hD1
  exact kk H1 locs1 ls hP1 hD1 hS1 hl
theorem z_aald (X : zX p s m args meth c A D cl tys Ts own cc nL ret) (c0 : Nat) {t : Nat} {rs : List (Option Nat)} {C : String} (hE : E[c0]? = some (.inr (.inr (t, rs)))) (ht : tys[t]? = some (cA t, .object C)) {i : Int32} (j : Nat) (hi : i = nI j) (hj : j < rs.length) (hn : rs.length < 2 ^ 31) {r : Nat} (hr : rs.getD j none = some r) (hd : decode cc pc = .ok (.aaload, 1)) (kk : zW p l e R s m args below meth c cells slots Q A D cl cA ad E nL M (pc + 1) L (zR r :: st)) : zW p l e R s m args below meth c cells slots Q A D cl cA ad E nL M pc L (zI i :: zR c0 :: st) := by
  subst hi
  intro H locs ls hP hD hS hl
  have hw : (z_w cA ad M 0 E)[c0]? = some (ad c0, .inl (cA t, rs.length, .inr (.inr (.inr (.inr (fun j => (rs.getD j none).map ad)))))) := by
    rw [z_w_get cA ad M hE]
    rfl
  refine va_aldq X.1 X.2.1 X.2.2.2.2.2.1 hP c0 t hw ht (vp_in_nI hj hn) hd ?_
  rw [nI_clamp (n := j) (by omega), hr]
  exact kk H locs ls hP hD hS hl
theorem z_alen (X : zX p s m args meth c A D cl tys Ts own cc nL ret) (c0 : Nat) {t n : Nat} (hE : E[c0]? = some (.inr (.inl (t, n)))) {ty : FieldType} (ht : tys[t]? = some (cA t, ty)) {v : Int32} (hv : Int32.ofNat n = v) (hd : decode cc pc = .ok (.arraylength, 1)) (kk : zW p l e R s m args below meth c cells slots Q A D cl cA ad E nL M (pc + 1) L (zI v :: st)) : zW p l e R s m args below meth c cells slots Q A D cl cA ad E nL M pc L (zR c0 :: st) := by
  intro H locs ls hP hD hS hl
  have hw : (z_w cA ad M 0 E)[c0]? = some (ad c0, .inl (cA t, n, .inl (M.1 c0))) := by
    rw [z_w_get cA ad M hE]
    rfl
  exact va_alen X.1 X.2.1 X.2.2.2.2.2.1 hP c0 t hw ht hv hd (kk H locs ls hP hD hS hl)
end ZRows
/-- a contract out of a walk of the body, for a method that no row of the natives' table runs instead -/
theorem z_ofW {l : Launch} {y : MethodName} {ws ws' : List Cond} {rm : Room} {Pc : Array Value → State → Prop} {Qc : Array Value → State → Outcome → State → Prop} {mc ms : Nat} {free : Addr → Prop} {cc : ByteArray} {maxL : Nat} {ret : Option FieldType} (hy : plainFor y = true) (hw : ws = Cond.code y cc maxL ret :: ws')
    (body : ∀ p e s m args below meth c s₁, BodyLoose p l y (headSpec ws rm) cc maxL ret e s m args below meth c s₁ → c.maxLocals = maxL → Pc args s → W p l e (headSpec ws rm).room s m args below meth c s.heap [] 0 0 (MQ below Qc args s mc ms free) (entryFrame m args maxL)) : Met l y ws rm Pc Qc mc ms free := by
  refine MetFree.of_bodySF (code := cc) (maxLocals := maxL) (ret := ret) hy (fun args s m h hn => ?_) (fun p e s m args below meth c s₁ B hml hP _ => ?_)
  · have hcode := atoms_spec (ws := ws) h (Cond.code y cc maxL ret) (by rw [hw]; exact List.mem_cons_self)
    obtain ⟨meth, c, h1, h2, h3, h4, h5, h6, -, -⟩ := Cond.code_spec hn hcode
    exact ⟨meth, c, h1, h2, h3, h4, h5, h6⟩
  · have hh : s₁.heap = s.heap := by rw [B.state]; rfl
    obtain ⟨t, st, o, e1, e2, e3⟩ := body p e s m args below meth c s₁ B hml hP s₁ hh (Stand.of_body B)
    exact ⟨t, o, st, e1, e2, e3⟩
/-- the locals that a method begins with -/
def z_args : Nat → List zA → List (Nat × zA)
  | _, [] => []
  | i, v :: vs => (i, v) :: z_args (if z_two v = true then i + 2 else i + 1) vs
def z_len : List zA → Nat
  | [] => 0
  | v :: vs => (if z_two v = true then 2 else 1) + z_len vs
theorem z_cat2 (ad : Nat → Nat) (v : zA) : (z_v ad v).category = 2 ↔ z_two v = true := by
  rw [← z_cat ad v]
  exact (beq_iff_eq).symm
theorem z_args_map (ad : Nat → Nat) : ∀ (as : List zA) (i : Nat), (z_args i as).map (fun q => (q.1, z_v ad q.2)) = lv_args i (as.map (z_v ad))
  | [], i => rfl
  | v :: vs, i => by
    show (i, z_v ad v) :: (z_args _ vs).map _ = (i, z_v ad v) :: lv_args _ (vs.map (z_v ad))
    rw [z_args_map ad vs]
    by_cases h : z_two v = true
    · rw [if_pos h, if_pos ((z_cat2 ad v).mpr h)]
    · rw [if_neg h, if_neg (fun q => h ((z_cat2 ad v).mp q))]
theorem z_len_eq (ad : Nat → Nat) : ∀ as : List zA, (lg_sl (as.map (z_v ad))).length = z_len as
  | [] => rfl
  | v :: vs => by
    have h := z_len_eq ad vs
    unfold lg_sl at h ⊢
    rw [List.map_cons, List.flatMap_cons, List.length_append, h]
    show _ = (if z_two v = true then 2 else 1) + z_len vs
    by_cases h2 : z_two v = true
    · rw [if_pos h2, if_pos ((z_cat2 ad v).mpr h2)]
      rfl
    · rw [if_neg h2, if_neg (fun q => h2 ((z_cat2 ad v).mp q))]
      rfl
def zMi (l : Launch) (D : va_G) (cl : List vw_C) (tys : List (ClassId × FieldType)) (cA : Nat → ClassId) (ad : Nat → Nat) (E : List zC) (Ts : List Cond) (y : MethodName) (b : ByteArray) (nL : Nat) (ret : Option FieldType) (rm : Room) (as : List zA) (M : zM) (post : Int32 → zM → Prop) : Prop :=
  ∀ sz : Nat, Met l y (.code y b nL ret :: Ts) rm (va_Pc (as.map (z_v ad)) (fun U => U.heap.size = sz ∧ va_P D cl (z_w cA ad M 0 E) U.heap ∧ va_K D cl tys U ∧ va_D (fun _ => True) (z_w cA ad M 0 E))) (va_Qi post (fun M' t => va_P D cl (z_w cA ad M' 0 E) t.heap) (va_A (z_w cA ad M 0 E) sz)) 0 0 (va_A (z_w cA ad M 0 E) sz)
theorem zMi_of {l : Launch} {D : va_G} {cl : List vw_C} {tys : List (ClassId × FieldType)} {cA : Nat → ClassId} {ad : Nat → Nat} {E : List zC} {Ts : List Cond} {y : MethodName} {b : ByteArray} {nL : Nat} {ret : Option FieldType} {rm : Room} {as : List zA} {M : zM} {post : Int32 → zM → Prop} (hy : plainFor y = true) (hlen : z_len as ≤ nL)
    (body : ∀ (p : Program) (e : Env) (s : State) (m : MethodId) (args : Array Value) (below : List Frame) (meth : Method) (c : Code) (A : Nat → Prop), zX p s m args meth c A D cl tys Ts y.cls b nL ret →
      zW p l e rm s m args below meth c 0 0 (MQ below (va_Qi post (fun M' t => va_P D cl (z_w cA ad M' 0 E) t.heap) A) args s 0 0 A) A D cl cA ad E nL M 0 (z_args 0 as) []) : zMi l D cl tys cA ad E Ts y b nL ret rm as M post := by
  intro sz
  refine z_ofW (cc := b) (maxL := nL) (ret := ret) hy rfl ?_
  intro p e s m args below meth c s₁ B hml hv
  obtain ⟨rfl, hsz, hP, hK, hD0⟩ := hv
  subst hsz
  have hts := atoms_spec (ws := .code y b nL ret :: Ts) B.pre
  have hown : s.vm.findClass y.cls = some m.cls := findClass_of_methodNamed B.named
  have hD := hD0.self (sz := s.heap.size)
  generalize hAe : va_A (z_w cA ad M 0 E) s.heap.size = A at hD ⊢
  have hA : ∀ q : Nat, s.heap.size ≤ q → A q := fun q h => by rw [← hAe]; exact Or.inr h
  have hl := lv_entry (as.map (z_v ad)) (n := nL) (by rw [z_len_eq]; exact hlen)
  rw [lg_entry_eq]
  exact body p e s m _ below meth c A ⟨B.exec, B.bytes, hml, hown, fun w hw => hts w (List.mem_cons_of_mem _ hw), hK, hA, B.returns, B.notSynchronized⟩ s.heap [] _ hP hD va_S.rf (by rw [z_args_map]; exact hl)
def zMj (l : Launch) (D : va_G) (cl : List vw_C) (tys : List (ClassId × FieldType)) (cA : Nat → ClassId) (ad : Nat → Nat) (E : List zC) (Ts : List Cond) (y : MethodName) (b : ByteArray) (nL : Nat) (ret : Option FieldType) (rm : Room) (as : List zA) (M : zM) (post : Int64 → zM → Prop) : Prop :=
  ∀ sz : Nat, Met l y (.code y b nL ret :: Ts) rm (va_Pc (as.map (z_v ad)) (fun U => U.heap.size = sz ∧ va_P D cl (z_w cA ad M 0 E) U.heap ∧ va_K D cl tys U ∧ va_D (fun _ => True) (z_w cA ad M 0 E))) (va_Ql post (fun M' t => va_P D cl (z_w cA ad M' 0 E) t.heap) (va_A (z_w cA ad M 0 E) sz)) 0 0 (va_A (z_w cA ad M 0 E) sz)
theorem zMj_of {l : Launch} {D : va_G} {cl : List vw_C} {tys : List (ClassId × FieldType)} {cA : Nat → ClassId} {ad : Nat → Nat} {E : List zC} {Ts : List Cond} {y : MethodName} {b : ByteArray} {nL : Nat} {ret : Option FieldType} {rm : Room} {as : List zA} {M : zM} {post : Int64 → zM → Prop} (hy : plainFor y = true) (hlen : z_len as ≤ nL)
    (body : ∀ (p : Program) (e : Env) (s : State) (m : MethodId) (args : Array Value) (below : List Frame) (meth : Method) (c : Code) (A : Nat → Prop), zX p s m args meth c A D cl tys Ts y.cls b nL ret →
      zW p l e rm s m args below meth c 0 0 (MQ below (va_Ql post (fun M' t => va_P D cl (z_w cA ad M' 0 E) t.heap) A) args s 0 0 A) A D cl cA ad E nL M 0 (z_args 0 as) []) : zMj l D cl tys cA ad E Ts y b nL ret rm as M post := by
  intro sz
  refine z_ofW (cc := b) (maxL := nL) (ret := ret) hy rfl ?_
  intro p e s m args below meth c s₁ B hml hv
  obtain ⟨rfl, hsz, hP, hK, hD0⟩ := hv
  subst hsz
  have hts := atoms_spec (ws := .code y b nL ret :: Ts) B.pre
  have hown : s.vm.findClass y.cls = some m.cls := findClass_of_methodNamed B.named
  have hD := hD0.self (sz := s.heap.size)
  generalize hAe : va_A (z_w cA ad M 0 E) s.heap.size = A at hD ⊢
  have hA : ∀ q : Nat, s.heap.size ≤ q → A q := fun q h => by rw [← hAe]; exact Or.inr h
  have hl := lv_entry (as.map (z_v ad)) (n := nL) (by rw [z_len_eq]; exact hlen)
  rw [lg_entry_eq]
  exact body p e s m _ below meth c A ⟨B.exec, B.bytes, hml, hown, fun w hw => hts w (List.mem_cons_of_mem _ hw), hK, hA, B.returns, B.notSynchronized⟩ s.heap [] _ hP hD va_S.rf (by rw [z_args_map]; exact hl)
def zMv (l : Launch) (D : va_G) (cl : List vw_C) (tys : List (ClassId × FieldType)) (cA : Nat → ClassId) (ad : Nat → Nat) (E : List zC) (Ts : List Cond) (y : MethodName) (b : ByteArray) (nL : Nat) (ret : Option FieldType) (rm : Room) (as : List zA) (M : zM) (post : zM → Prop) : Prop :=
  ∀ sz : Nat, Met l y (.code y b nL ret :: Ts) rm (va_Pc (as.map (z_v ad)) (fun U => U.heap.size = sz ∧ va_P D cl (z_w cA ad M 0 E) U.heap ∧ va_K D cl tys U ∧ va_D (fun _ => True) (z_w cA ad M 0 E))) (va_Qv post (fun M' t => va_P D cl (z_w cA ad M' 0 E) t.heap) (va_A (z_w cA ad M 0 E) sz)) 0 0 (va_A (z_w cA ad M 0 E) sz)
theorem zMv_of {l : Launch} {D : va_G} {cl : List vw_C} {tys : List (ClassId × FieldType)} {cA : Nat → ClassId} {ad : Nat → Nat} {E : List zC} {Ts : List Cond} {y : MethodName} {b : ByteArray} {nL : Nat} {ret : Option FieldType} {rm : Room} {as : List zA} {M : zM} {post : zM → Prop} (hy : plainFor y = true) (hlen : z_len as ≤ nL)
    (body : ∀ (p : Program) (e : Env) (s : State) (m : MethodId) (args : Array Value) (below : List Frame) (meth : Method) (c : Code) (A : Nat → Prop), zX p s m args meth c A D cl tys Ts y.cls b nL ret →
      zW p l e rm s m args below meth c 0 0 (MQ below (va_Qv post (fun M' t => va_P D cl (z_w cA ad M' 0 E) t.heap) A) args s 0 0 A) A D cl cA ad E nL M 0 (z_args 0 as) []) : zMv l D cl tys cA ad E Ts y b nL ret rm as M post := by
  intro sz
  refine z_ofW (cc := b) (maxL := nL) (ret := ret) hy rfl ?_
  intro p e s m args below meth c s₁ B hml hv
  obtain ⟨rfl, hsz, hP, hK, hD0⟩ := hv
  subst hsz
  have hts := atoms_spec (ws := .code y b nL ret :: Ts) B.pre
  have hown : s.vm.findClass y.cls = some m.cls := findClass_of_methodNamed B.named
  have hD := hD0.self (sz := s.heap.size)
  generalize hAe : va_A (z_w cA ad M 0 E) s.heap.size = A at hD ⊢
  have hA : ∀ q : Nat, s.heap.size ≤ q → A q := fun q h => by rw [← hAe]; exact Or.inr h
  have hl := lv_entry (as.map (z_v ad)) (n := nL) (by rw [z_len_eq]; exact hlen)
  rw [lg_entry_eq]
  exact body p e s m _ below meth c A ⟨B.exec, B.bytes, hml, hown, fun w hw => hts w (List.mem_cons_of_mem _ hw), hK, hA, B.returns, B.notSynchronized⟩ s.heap [] _ hP hD va_S.rf (by rw [z_args_map]; exact hl)
def zMq (l : Launch) (D : va_G) (cl : List vw_C) (tys : List (ClassId × FieldType)) (cA : Nat → ClassId) (ad : Nat → Nat) (E : List zC) (Ts : List Cond) (y : MethodName) (b : ByteArray) (nL : Nat) (ret : Option FieldType) (rm : Room) (as : List zA) (M : zM) (post : Option Nat → zM → Prop) : Prop :=
  ∀ sz : Nat, Met l y (.code y b nL ret :: Ts) rm (va_Pc (as.map (z_v ad)) (fun U => U.heap.size = sz ∧ va_P D cl (z_w cA ad M 0 E) U.heap ∧ va_K D cl tys U ∧ va_D (fun _ => True) (z_w cA ad M 0 E))) (va_Qq (fun (r : Option Nat) (u : zM) => ∃ o : Option Nat, r = o.map ad ∧ post o u) (fun M' t => va_P D cl (z_w cA ad M' 0 E) t.heap) (va_A (z_w cA ad M 0 E) sz)) 0 0 (va_A (z_w cA ad M 0 E) sz)
theorem zMq_of {l : Launch} {D : va_G} {cl : List vw_C} {tys : List (ClassId × FieldType)} {cA : Nat → ClassId} {ad : Nat → Nat} {E : List zC} {Ts : List Cond} {y : MethodName} {b : ByteArray} {nL : Nat} {ret : Option FieldType} {rm : Room} {as : List zA} {M : zM} {post : Option Nat → zM → Prop} (hy : plainFor y = true) (hlen : z_len as ≤ nL)
    (body : ∀ (p : Program) (e : Env) (s : State) (m : MethodId) (args : Array Value) (below : List Frame) (meth : Method) (c : Code) (A : Nat → Prop), zX p s m args meth c A D cl tys Ts y.cls b nL ret →
      zW p l e rm s m args below meth c 0 0 (MQ below (va_Qq (fun (r : Option Nat) (u : zM) => ∃ o : Option Nat, r = o.map ad ∧ post o u) (fun M' t => va_P D cl (z_w cA ad M' 0 E) t.heap) A) args s 0 0 A) A D cl cA ad E nL M 0 (z_args 0 as) []) : zMq l D cl tys cA ad E Ts y b nL ret rm as M post := by
  intro sz
  refine z_ofW (cc := b) (maxL := nL) (ret := ret) hy rfl ?_
  intro p e s m args below meth c s₁ B hml hv
  obtain ⟨rfl, hsz, hP, hK, hD0⟩ := hv
  subst hsz
  have hts := atoms_spec (ws := .code y b nL ret :: Ts) B.pre
  have hown : s.vm.findClass y.cls = some m.cls := findClass_of_methodNamed B.named
  have hD := hD0.self (sz := s.heap.size)
  generalize hAe : va_A (z_w cA ad M 0 E) s.heap.size = A at hD ⊢
  have hA : ∀ q : Nat, s.heap.size ≤ q → A q := fun q h => by rw [← hAe]; exact Or.inr h
  have hl := lv_entry (as.map (z_v ad)) (n := nL) (by rw [z_len_eq]; exact hlen)
  rw [lg_entry_eq]
  exact body p e s m _ below meth c A ⟨B.exec, B.bytes, hml, hown, fun w hw => hts w (List.mem_cons_of_mem _ hw), hK, hA, B.returns, B.notSynchronized⟩ s.heap [] _ hP hD va_S.rf (by rw [z_args_map]; exact hl)
/-- what a call needs of the words: invokevirtual, invokestatic -/
def zV (Ts : List Cond) (own : String) (index : Nat) (C : String) (y : MethodName) (b : ByteArray) (nL : Nat) (ret : Option FieldType) (n : Nat) : Prop := GoodIn Ts (wsV own index C y [.code y b nL ret]) ∧ (y.cls = C ∧ y.cls ≠ "java/lang/invoke/MethodHandle" ∧ y.cls ≠ "java/lang/invoke/VarHandle" ∧ (parseMethodDescriptor y.desc).map (fun d => d.parameters.length) = some n)
def zS (Ts : List Cond) (own : String) (index : Nat) (y : MethodName) (b : ByteArray) (nL : Nat) (ret : Option FieldType) (n : Nat) : Prop := GoodIn Ts (va_wsS own index y [.code y b nL ret]) ∧ (y.cls ≠ "java/lang/invoke/MethodHandle" ∧ y.cls ≠ "java/lang/invoke/VarHandle" ∧ (parseMethodDescriptor y.desc).map (fun d => d.parameters.length) = some n)
theorem zV_in {Ts : List Cond} {own : String} {index : Nat} {C : String} {y : MethodName} {b : ByteArray} {nL : Nat} {ret : Option FieldType} {n : Nat} (hGG : GoodIn Ts Ts) (h : zV Ts own index C y b nL ret n) : GoodIn Ts (wsV own index C y (.code y b nL ret :: Ts)) := by
  intro w hw
  unfold wsV at hw
  rcases List.mem_append.mp hw with q | q
  · exact h.1 w (by unfold wsV; exact List.mem_append_left _ q)
  · rcases List.mem_cons.mp q with q | q
    · subst q
      exact h.1 _ (by unfold wsV; exact List.mem_append_right _ List.mem_cons_self)
    · exact hGG w q
theorem zS_in {Ts : List Cond} {own : String} {index : Nat} {y : MethodName} {b : ByteArray} {nL : Nat} {ret : Option FieldType} {n : Nat} (hGG : GoodIn Ts Ts) (h : zS Ts own index y b nL ret n) : GoodIn Ts (va_wsS own index y (.code y b nL ret :: Ts)) := by
  intro w hw
  unfold va_wsS at hw
  rcases List.mem_append.mp hw with q | q
  · exact h.1 w (by unfold va_wsS; exact List.mem_append_left _ q)
  · rcases List.mem_cons.mp q with q | q
    · subst q
      exact h.1 _ (by unfold va_wsS; exact List.mem_append_right _ List.mem_cons_self)
    · exact hGG w q
section ZCalls
variable {p : Program} {l : Launch} {e : Env} {R : Room} {s : State} {m : MethodId} {args : Array Value} {below : List Frame} {meth : Method} {c : Code} {cells slots : Nat} {Q : State → Prop} {A : Nat → Prop} {D : va_G} {cl : List vw_C} {tys : List (ClassId × FieldType)} {cA : Nat → ClassId} {ad : Nat → Nat} {E : List zC} {nL : Nat} {M : zM} {pc : Nat} {L L' : List (Nat × zA)} {st stk : List zA} {Ts : List Cond} {own : String} {cc : ByteArray} {ret : Option FieldType}
  {y : MethodName} {b2 : ByteArray} {nL2 n index : Nat} {ret2 : Option FieldType} {rm : Room}
theorem z_Vi (X : zX p s m args meth c A D cl tys Ts own cc nL ret) (hGG : GoodIn Ts Ts) {C : String} (cf : zV Ts own index C y b2 nL2 ret2 n) (c0 : Nat) (as st : List zA) {post : Int32 → zM → Prop} (hM : zMi l D cl tys cA ad E Ts y b2 nL2 ret2 rm (zR c0 :: as) M post) (hrm : rm.cells = 0 ∧ rm.slots = 0) (hroom : rm.frames + 1 ≤ R.frames ∧ 8 + (nL2 + 11) + rm.locals ≤ R.locals) {ci : Nat} {fs : List zK} (hE : E[c0]? = some (.inl (ci, fs))) {r0 : vw_C} (hcl : cl[ci]? = some r0) (hC : r0.1 = C) (hn : as.length = n) (hs : stk = as.reverse ++ zR c0 :: st) (hW : ((st.map (z_v ad)).map fun v => v.category).sum ≤ 8) (hf : cells ≤ R.cells ∧ slots ≤ R.slots) (hd : decode cc pc = .ok (.invokevirtual index, 3)) (k : ∀ (r : Int32) (M' : zM), post r M' → zW p l e R s m args below meth c cells slots Q A D cl cA ad E nL M' (pc + 3) L (zI r :: st)) : zW p l e R s m args below meth c cells slots Q A D cl cA ad E nL M pc L stk := by
  intro H locs ls hP hD hS hl
  subst hs
  subst hC
  have hFc := z_A cA ad hD hS X.2.2.2.2.2.2.1
  have hw : (z_w cA ad M 0 E)[c0]? = some (ad c0, .inr (ci, z_fs ad M c0 0 fs)) := by
    rw [z_w_get cA ad M hE]
    rfl
  refine va_calli (va_runV (As := as.map (z_v ad)) (rest := st.map (z_v ad)) (b := ad c0) ⟨X.1, X.2.1, X.2.2.1, X.2.2.2.1, X.2.2.2.2.1⟩ (hM H.size) (cwV n X.2.2.2.2.1 (zV_in hGG cf) rfl hrm.1 hrm.2 cf.2 hroom) ⟨fun a U g mk q => by obtain ⟨q0, q1, qP, qK, qD⟩ := q; exact ⟨q0, q1, qP, va_K.moved (u := U) (U := U.calling g mk a) (Vm.Alike.refl U.vm) qK, qD⟩, va_recv X.2.2.2.2.2.1 hP hcl hw, fun U hU hW2 => ⟨rfl, by rw [hU], by rw [hU]; exact hP, va_K.moved hW2.alike X.2.2.2.2.2.1, hD.weaken (fun _ _ _ _ => trivial)⟩⟩ rfl (by rw [List.length_map]; exact hn) hl.1 (by show List.map _ _ = _; rw [List.map_append, List.map_reverse]; rfl) (lv_room hW) hd ⟨hf.1, hf.2⟩) hS (fun q _ h => hFc q h) hFc (fun r M' t H1 locs1 ht hvm hw hB hz1 hk1 hS1 => ?_)
  exact k r M' hw H1 locs1 ls (by rw [← ht]; exact hB) (z_D cA ad M' hD) hS1 hl
theorem z_Si (X : zX p s m args meth c A D cl tys Ts own cc nL ret) (hGG : GoodIn Ts Ts) (cf : zS Ts own index y b2 nL2 ret2 n) (as st : List zA) {post : Int32 → zM → Prop} (hM : zMi l D cl tys cA ad E Ts y b2 nL2 ret2 rm as M post) (hrm : rm.cells = 0 ∧ rm.slots = 0) (hroom : rm.frames + 1 ≤ R.frames ∧ 8 + (nL2 + 11) + rm.locals ≤ R.locals) (hn : as.length = n) (hs : stk = as.reverse ++ st) (hW : ((st.map (z_v ad)).map fun v => v.category).sum ≤ 8) (hf : cells ≤ R.cells ∧ slots ≤ R.slots) (hd : decode cc pc = .ok (.invokestatic index, 3)) (k : ∀ (r : Int32) (M' : zM), post r M' → zW p l e R s m args below meth c cells slots Q A D cl cA ad E nL M' (pc + 3) L (zI r :: st)) : zW p l e R s m args below meth c cells slots Q A D cl cA ad E nL M pc L stk := by
  intro H locs ls hP hD hS hl
  subst hs
  have hFc := z_A cA ad hD hS X.2.2.2.2.2.2.1
  refine va_calli (va_runS (As := as.map (z_v ad)) (rest := st.map (z_v ad)) ⟨X.1, X.2.1, X.2.2.1, X.2.2.2.1, X.2.2.2.2.1⟩ (hM H.size) (va_cwS n X.2.2.2.2.1 (zS_in hGG cf) rfl hrm.1 hrm.2 cf.2 hroom) ⟨fun a U g mk q => by obtain ⟨q0, q1, qP, qK, qD⟩ := q; exact ⟨q0, q1, qP, va_K.moved (u := U) (U := U.calling g mk a) (Vm.Alike.refl U.vm) qK, qD⟩, fun U hU hW2 => ⟨rfl, by rw [hU], by rw [hU]; exact hP, va_K.moved hW2.alike X.2.2.2.2.2.1, hD.weaken (fun _ _ _ _ => trivial)⟩⟩ rfl (by rw [List.length_map]; exact hn) hl.1 (by show List.map _ _ = _; rw [List.map_append, List.map_reverse]) (lv_room hW) hd ⟨hf.1, hf.2⟩) hS (fun q _ h => hFc q h) hFc (fun r M' t H1 locs1 ht hvm hw hB hz1 hk1 hS1 => ?_)
  exact k r M' hw H1 locs1 ls (by rw [← ht]; exact hB) (z_D cA ad M' hD) hS1 hl
theorem z_Vj (X : zX p s m args meth c A D cl tys Ts own cc nL ret) (hGG : GoodIn Ts Ts) {C : String} (cf : zV Ts own index C y b2 nL2 ret2 n) (c0 : Nat) (as st : List zA) {post : Int64 → zM → Prop} (hM : zMj l D cl tys cA ad E Ts y b2 nL2 ret2 rm (zR c0 :: as) M post) (hrm : rm.cells = 0 ∧ rm.slots = 0) (hroom : rm.frames + 1 ≤ R.frames ∧ 8 + (nL2 + 11) + rm.locals ≤ R.locals) {ci : Nat} {fs : List zK} (hE : E[c0]? = some (.inl (ci, fs))) {r0 : vw_C} (hcl : cl[ci]? = some r0) (hC : r0.1 = C) (hn : as.length = n) (hs : stk = as.reverse ++ zR c0 :: st) (hW : ((st.map (z_v ad)).map fun v => v.category).sum ≤ 8) (hf : cells ≤ R.cells ∧ slots ≤ R.slots) (hd : decode cc pc = .ok (.invokevirtual index, 3)) (k : ∀ (r : Int64) (M' : zM), post r M' → zW p l e R s m args below meth c cells slots Q A D cl cA ad E nL M' (pc + 3) L (zJ r :: st)) : zW p l e R s m args below meth c cells slots Q A D cl cA ad E nL M pc L stk := by
  intro H locs ls hP hD hS hl
  subst hs
  subst hC
  have hFc := z_A cA ad hD hS X.2.2.2.2.2.2.1
  have hw : (z_w cA ad M 0 E)[c0]? = some (ad c0, .inr (ci, z_fs ad M c0 0 fs)) := by
    rw [z_w_get cA ad M hE]
    rfl
  refine va_calll (va_runV (As := as.map (z_v ad)) (rest := st.map (z_v ad)) (b := ad c0) ⟨X.1, X.2.1, X.2.2.1, X.2.2.2.1, X.2.2.2.2.1⟩ (hM H.size) (cwV n X.2.2.2.2.1 (zV_in hGG cf) rfl hrm.1 hrm.2 cf.2 hroom) ⟨fun a U g mk q => by obtain ⟨q0, q1, qP, qK, qD⟩ := q; exact ⟨q0, q1, qP, va_K.moved (u := U) (U := U.calling g mk a) (Vm.Alike.refl U.vm) qK, qD⟩, va_recv X.2.2.2.2.2.1 hP hcl hw, fun U hU hW2 => ⟨rfl, by rw [hU], by rw [hU]; exact hP, va_K.moved hW2.alike X.2.2.2.2.2.1, hD.weaken (fun _ _ _ _ => trivial)⟩⟩ rfl (by rw [List.length_map]; exact hn) hl.1 (by show List.map _ _ = _; rw [List.map_append, List.map_reverse]; rfl) (lv_room hW) hd ⟨hf.1, hf.2⟩) hS (fun q _ h => hFc q h) hFc (fun r M' t H1 locs1 ht hvm hw hB hz1 hk1 hS1 => ?_)
  exact k r M' hw H1 locs1 ls (by rw [← ht]; exact hB) (z_D cA ad M' hD) hS1 hl
theorem z_Sj (X : zX p s m args meth c A D cl tys Ts own cc nL ret) (hGG : GoodIn Ts Ts) (cf : zS Ts own index y b2 nL2 ret2 n) (as st : List zA) {post : Int64 → zM → Prop} (hM : zMj l D cl tys cA ad E Ts y b2 nL2 ret2 rm as M post) (hrm : rm.cells = 0 ∧ rm.slots = 0) (hroom : rm.frames + 1 ≤ R.frames ∧ 8 + (nL2 + 11) + rm.locals ≤ R.locals) (hn : as.length = n) (hs : stk = as.reverse ++ st) (hW : ((st.map (z_v ad)).map fun v => v.category).sum ≤ 8) (hf : cells ≤ R.cells ∧ slots ≤ R.slots) (hd : decode cc pc = .ok (.invokestatic index, 3)) (k : ∀ (r : Int64) (M' : zM), post r M' → zW p l e R s m args below meth c cells slots Q A D cl cA ad E nL M' (pc + 3) L (zJ r :: st)) : zW p l e R s m args below meth c cells slots Q A D cl cA ad E nL M pc L stk := by
  intro H locs ls hP hD hS hl
  subst hs
  have hFc := z_A cA ad hD hS X.2.2.2.2.2.2.1
  refine va_calll (va_runS (As := as.map (z_v ad)) (rest := st.map (z_v ad)) ⟨X.1, X.2.1, X.2.2.1, X.2.2.2.1, X.2.2.2.2.1⟩ (hM H.size) (va_cwS n X.2.2.2.2.1 (zS_in hGG cf) rfl hrm.1 hrm.2 cf.2 hroom) ⟨fun a U g mk q => by obtain ⟨q0, q1, qP, qK, qD⟩ := q; exact ⟨q0, q1, qP, va_K.moved (u := U) (U := U.calling g mk a) (Vm.Alike.refl U.vm) qK, qD⟩, fun U hU hW2 => ⟨rfl, by rw [hU], by rw [hU]; exact hP, va_K.moved hW2.alike X.2.2.2.2.2.1, hD.weaken (fun _ _ _ _ => trivial)⟩⟩ rfl (by rw [List.length_map]; exact hn) hl.1 (by show List.map _ _ = _; rw [List.map_append, List.map_reverse]) (lv_room hW) hd ⟨hf.1, hf.2⟩) hS (fun q _ h => hFc q h) hFc (fun r M' t H1 locs1 ht hvm hw hB hz1 hk1 hS1 => ?_)
  exact k r M' hw H1 locs1 ls (by rw [← ht]; exact hB) (z_D cA ad M' hD) hS1 hl
theorem z_Vv (X : zX p s m args meth c A D cl tys Ts own cc nL ret) (hGG : GoodIn Ts Ts) {C : String} (cf : zV Ts own index C y b2 nL2 ret2 n) (c0 : Nat) (as st : List zA) {post : zM → Prop} (hM : zMv l D cl tys cA ad E Ts y b2 nL2 ret2 rm (zR c0 :: as) M post) (hrm : rm.cells = 0 ∧ rm.slots = 0) (hroom : rm.frames + 1 ≤ R.frames ∧ 8 + (nL2 + 11) + rm.locals ≤ R.locals) {ci : Nat} {fs : List zK} (hE : E[c0]? = some (.inl (ci, fs))) {r0 : vw_C} (hcl : cl[ci]? = some r0) (hC : r0.1 = C) (hn : as.length = n) (hs : stk = as.reverse ++ zR c0 :: st) (hW : ((st.map (z_v ad)).map fun v => v.category).sum ≤ 8) (hf : cells ≤ R.cells ∧ slots ≤ R.slots) (hd : decode cc pc = .ok (.invokevirtual index, 3)) (k : ∀ (M' : zM), post M' → zW p l e R s m args below meth c cells slots Q A D cl cA ad E nL M' (pc + 3) L st) : zW p l e R s m args below meth c cells slots Q A D cl cA ad E nL M pc L stk := by
  intro H locs ls hP hD hS hl
  subst hs
  subst hC
  have hFc := z_A cA ad hD hS X.2.2.2.2.2.2.1
  have hw : (z_w cA ad M 0 E)[c0]? = some (ad c0, .inr (ci, z_fs ad M c0 0 fs)) := by
    rw [z_w_get cA ad M hE]
    rfl
  refine va_callv (va_runV (As := as.map (z_v ad)) (rest := st.map (z_v ad)) (b := ad c0) ⟨X.1, X.2.1, X.2.2.1, X.2.2.2.1, X.2.2.2.2.1⟩ (hM H.size) (cwV n X.2.2.2.2.1 (zV_in hGG cf) rfl hrm.1 hrm.2 cf.2 hroom) ⟨fun a U g mk q => by obtain ⟨q0, q1, qP, qK, qD⟩ := q; exact ⟨q0, q1, qP, va_K.moved (u := U) (U := U.calling g mk a) (Vm.Alike.refl U.vm) qK, qD⟩, va_recv X.2.2.2.2.2.1 hP hcl hw, fun U hU hW2 => ⟨rfl, by rw [hU], by rw [hU]; exact hP, va_K.moved hW2.alike X.2.2.2.2.2.1, hD.weaken (fun _ _ _ _ => trivial)⟩⟩ rfl (by rw [List.length_map]; exact hn) hl.1 (by show List.map _ _ = _; rw [List.map_append, List.map_reverse]; rfl) (lv_room hW) hd ⟨hf.1, hf.2⟩) hS (fun q _ h => hFc q h) hFc (fun M' t H1 locs1 ht hvm hw hB hz1 hk1 hS1 => ?_)
  exact k M' hw H1 locs1 ls (by rw [← ht]; exact hB) (z_D cA ad M' hD) hS1 hl
theorem z_Sv (X : zX p s m args meth c A D cl tys Ts own cc nL ret) (hGG : GoodIn Ts Ts) (cf : zS Ts own index y b2 nL2 ret2 n) (as st : List zA) {post : zM → Prop} (hM : zMv l D cl tys cA ad E Ts y b2 nL2 ret2 rm as M post) (hrm : rm.cells = 0 ∧ rm.slots = 0) (hroom : rm.frames + 1 ≤ R.frames ∧ 8 + (nL2 + 11) + rm.locals ≤ R.locals) (hn : as.length = n) (hs : stk = as.reverse ++ st) (hW : ((st.map (z_v ad)).map fun v => v.category).sum ≤ 8) (hf : cells ≤ R.cells ∧ slots ≤ R.slots) (hd : decode cc pc = .ok (.invokestatic index, 3)) (k : ∀ (M' : zM), post M' → zW p l e R s m args below meth c cells slots Q A D cl cA ad E nL M' (pc + 3) L st) : zW p l e R s m args below meth c cells slots Q A D cl cA ad E nL M pc L stk := by
  intro H locs ls hP hD hS hl
  subst hs
  have hFc := z_A cA ad hD hS X.2.2.2.2.2.2.1
  refine va_callv (va_runS (As := as.map (z_v ad)) (rest := st.map (z_v ad)) ⟨X.1, X.2.1, X.2.2.1, X.2.2.2.1, X.2.2.2.2.1⟩ (hM H.size) (va_cwS n X.2.2.2.2.1 (zS_in hGG cf) rfl hrm.1 hrm.2 cf.2 hroom) ⟨fun a U g mk q => by obtain ⟨q0, q1, qP, qK, qD⟩ := q; exact ⟨q0, q1, qP, va_K.moved (u := U) (U := U.calling g mk a) (Vm.Alike.refl U.vm) qK, qD⟩, fun U hU hW2 => ⟨rfl, by rw [hU], by rw [hU]; exact hP, va_K.moved hW2.alike X.2.2.2.2.2.1, hD.weaken (fun _ _ _ _ => trivial)⟩⟩ rfl (by rw [List.length_map]; exact hn) hl.1 (by show List.map _ _ = _; rw [List.map_append, List.map_reverse]) (lv_room hW) hd ⟨hf.1, hf.2⟩) hS (fun q _ h => hFc q h) hFc (fun M' t H1 locs1 ht hvm hw hB hz1 hk1 hS1 => ?_)
  exact k M' hw H1 locs1 ls (by rw [← ht]; exact hB) (z_D cA ad M' hD) hS1 hl
theorem z_Vq (X : zX p s m args meth c A D cl tys Ts own cc nL ret) (hGG : GoodIn Ts Ts) {C : String} (cf : zV Ts own index C y b2 nL2 ret2 n) (c0 : Nat) (as st : List zA) {post : Option Nat → zM → Prop} (hM : zMq l D cl tys cA ad E Ts y b2 nL2 ret2 rm (zR c0 :: as) M post) (hrm : rm.cells = 0 ∧ rm.slots = 0) (hroom : rm.frames + 1 ≤ R.frames ∧ 8 + (nL2 + 11) + rm.locals ≤ R.locals) {ci : Nat} {fs : List zK} (hE : E[c0]? = some (.inl (ci, fs))) {r0 : vw_C} (hcl : cl[ci]? = some r0) (hC : r0.1 = C) (hn : as.length = n) (hs : stk = as.reverse ++ zR c0 :: st) (hW : ((st.map (z_v ad)).map fun v => v.category).sum ≤ 8) (hf : cells ≤ R.cells ∧ slots ≤ R.slots) (hd : decode cc pc = .ok (.invokevirtual index, 3)) (k : ∀ (r : Option Nat) (M' : zM), post r M' → zW p l e R s m args below meth c cells slots Q A D cl cA ad E nL M' (pc + 3) L ((.inr (.inr r) : zA) :: st)) : zW p l e R s m args below meth c cells slots Q A D cl cA ad E nL M pc L stk := by
  intro H locs ls hP hD hS hl
  subst hs
  subst hC
  have hFc := z_A cA ad hD hS X.2.2.2.2.2.2.1
  have hw : (z_w cA ad M 0 E)[c0]? = some (ad c0, .inr (ci, z_fs ad M c0 0 fs)) := by
    rw [z_w_get cA ad M hE]
    rfl
  refine va_callq (va_runV (As := as.map (z_v ad)) (rest := st.map (z_v ad)) (b := ad c0) ⟨X.1, X.2.1, X.2.2.1, X.2.2.2.1, X.2.2.2.2.1⟩ (hM H.size) (cwV n X.2.2.2.2.1 (zV_in hGG cf) rfl hrm.1 hrm.2 cf.2 hroom) ⟨fun a U g mk q => by obtain ⟨q0, q1, qP, qK, qD⟩ := q; exact ⟨q0, q1, qP, va_K.moved (u := U) (U := U.calling g mk a) (Vm.Alike.refl U.vm) qK, qD⟩, va_recv X.2.2.2.2.2.1 hP hcl hw, fun U hU hW2 => ⟨rfl, by rw [hU], by rw [hU]; exact hP, va_K.moved hW2.alike X.2.2.2.2.2.1, hD.weaken (fun _ _ _ _ => trivial)⟩⟩ rfl (by rw [List.length_map]; exact hn) hl.1 (by show List.map _ _ = _; rw [List.map_append, List.map_reverse]; rfl) (lv_room hW) hd ⟨hf.1, hf.2⟩) hS (fun q _ h => hFc q h) hFc (fun r M' t H1 locs1 ht hvm hw hB hz1 hk1 hS1 => ?_)
  obtain ⟨o, rfl, hw⟩ := hw
  have h9 := k o M' hw H1 locs1 ls (by rw [← ht]; exact hB) (z_D cA ad M' hD) hS1 hl
  cases o with
  | none => exact h9
  | some o => exact h9
theorem z_Sq (X : zX p s m args meth c A D cl tys Ts own cc nL ret) (hGG : GoodIn Ts Ts) (cf : zS Ts own index y b2 nL2 ret2 n) (as st : List zA) {post : Option Nat → zM → Prop} (hM : zMq l D cl tys cA ad E Ts y b2 nL2 ret2 rm as M post) (hrm : rm.cells = 0 ∧ rm.slots = 0) (hroom : rm.frames + 1 ≤ R.frames ∧ 8 + (nL2 + 11) + rm.locals ≤ R.locals) (hn : as.length = n) (hs : stk = as.reverse ++ st) (hW : ((st.map (z_v ad)).map fun v => v.category).sum ≤ 8) (hf : cells ≤ R.cells ∧ slots ≤ R.slots) (hd : decode cc pc = .ok (.invokestatic index, 3)) (k : ∀ (r : Option Nat) (M' : zM), post r M' → zW p l e R s m args below meth c cells slots Q A D cl cA ad E nL M' (pc + 3) L ((.inr (.inr r) : zA) :: st)) : zW p l e R s m args below meth c cells slots Q A D cl cA ad E nL M pc L stk := by
  intro H locs ls hP hD hS hl
  subst hs
  have hFc := z_A cA ad hD hS X.2.2.2.2.2.2.1
  refine va_callq (va_runS (As := as.map (z_v ad)) (rest := st.map (z_v ad)) ⟨X.1, X.2.1, X.2.2.1, X.2.2.2.1, X.2.2.2.2.1⟩ (hM H.size) (va_cwS n X.2.2.2.2.1 (zS_in hGG cf) rfl hrm.1 hrm.2 cf.2 hroom) ⟨fun a U g mk q => by obtain ⟨q0, q1, qP, qK, qD⟩ := q; exact ⟨q0, q1, qP, va_K.moved (u := U) (U := U.calling g mk a) (Vm.Alike.refl U.vm) qK, qD⟩, fun U hU hW2 => ⟨rfl, by rw [hU], by rw [hU]; exact hP, va_K.moved hW2.alike X.2.2.2.2.2.1, hD.weaken (fun _ _ _ _ => trivial)⟩⟩ rfl (by rw [List.length_map]; exact hn) hl.1 (by show List.map _ _ = _; rw [List.map_append, List.map_reverse]) (lv_room hW) hd ⟨hf.1, hf.2⟩) hS (fun q _ h => hFc q h) hFc (fun r M' t H1 locs1 ht hvm hw hB hz1 hk1 hS1 => ?_)
  obtain ⟨o, rfl, hw⟩ := hw
  have h9 := k o M' hw H1 locs1 ls (by rw [← ht]; exact hB) (z_D cA ad M' hD) hS1 hl
  cases o with
  | none => exact h9
  | some o => exact h9
theorem z_iret (X : zX p s m args meth c A D cl tys Ts own cc nL (some .int)) {post : Int32 → zM → Prop} {v : Int32} (hp : post v M) (hd : decode cc pc = .ok (.ireturn, 1)) : zW p l e R s m args below meth c cells slots (MQ below (va_Qi post (fun M' t => va_P D cl (z_w cA ad M' 0 E) t.heap) A) args s cells slots A) A D cl cA ad E nL M pc L [zI v] :=
  fun H locs ls hP hD hS hl => W.iret (v := v) X.1 X.2.1 X.2.2.2.2.2.2.2.1 (fun t ht hW => ⟨⟨v, M, rfl, hp, by show va_P D cl _ t.heap; rw [ht]; exact hP⟩, hS.F ht⟩) hS.2.2 hd X.2.2.2.2.2.2.2.2
theorem z_zret (X : zX p s m args meth c A D cl tys Ts own cc nL (some .boolean)) {post : Int32 → zM → Prop} {v : Int32} (hv : narrow .boolean (.int v) = .int v) (hp : post v M) (hd : decode cc pc = .ok (.ireturn, 1)) : zW p l e R s m args below meth c cells slots (MQ below (va_Qi post (fun M' t => va_P D cl (z_w cA ad M' 0 E) t.heap) A) args s cells slots A) A D cl cA ad E nL M pc L [zI v] :=
  fun H locs ls hP hD hS hl => W.zret (v := v) X.1 X.2.1 X.2.2.2.2.2.2.2.1 hv (fun t ht hW => ⟨⟨v, M, rfl, hp, by show va_P D cl _ t.heap; rw [ht]; exact hP⟩, hS.F ht⟩) hS.2.2 hd X.2.2.2.2.2.2.2.2
theorem z_lret (X : zX p s m args meth c A D cl tys Ts own cc nL (some .long)) {post : Int64 → zM → Prop} {v : Int64} (hp : post v M) (hd : decode cc pc = .ok (.lreturn, 1)) : zW p l e R s m args below meth c cells slots (MQ below (va_Ql post (fun M' t => va_P D cl (z_w cA ad M' 0 E) t.heap) A) args s cells slots A) A D cl cA ad E nL M pc L [zJ v] :=
  fun H locs ls hP hD hS hl => W.lret (v := v) X.1 X.2.1 X.2.2.2.2.2.2.2.1 (fun t ht hW => ⟨⟨v, M, rfl, hp, by show va_P D cl _ t.heap; rw [ht]; exact hP⟩, hS.F ht⟩) hS.2.2 hd X.2.2.2.2.2.2.2.2
theorem z_vret (X : zX p s m args meth c A D cl tys Ts own cc nL none) {post : zM → Prop}  (hp : post M) (hd : decode cc pc = .ok (.return_, 1)) : zW p l e R s m args below meth c cells slots (MQ below (va_Qv post (fun M' t => va_P D cl (z_w cA ad M' 0 E) t.heap) A) args s cells slots A) A D cl cA ad E nL M pc L [] :=
  fun H locs ls hP hD hS hl => W.vret X.1 X.2.1 X.2.2.2.2.2.2.2.1 (fun t ht hW => ⟨⟨M, rfl, hp, by show va_P D cl _ t.heap; rw [ht]; exact hP⟩, hS.F ht⟩) hS.2.2 hd X.2.2.2.2.2.2.2.2
theorem z_aret {C : String} (X : zX p s m args meth c A D cl tys Ts own cc nL (some (.object C))) {post : Option Nat → zM → Prop} {o : Option Nat} (hp : post o M) (hd : decode cc pc = .ok (.areturn, 1)) : zW p l e R s m args below meth c cells slots (MQ below (va_Qq (fun (r : Option Nat) (u : zM) => ∃ o : Option Nat, r = o.map ad ∧ post o u) (fun M' t => va_P D cl (z_w cA ad M' 0 E) t.heap) A) args s cells slots A) A D cl cA ad E nL M pc L [(.inr (.inr o) : zA)] :=
  fun H locs ls hP hD hS hl => W.aret (v := z_v ad (.inr (.inr o))) X.1 X.2.1 X.2.2.2.2.2.2.2.1 (Or.inl ⟨C, rfl⟩) (by cases o with | none => exact Or.inl rfl | some o => exact Or.inr ⟨_, rfl⟩) (fun t ht hW => ⟨⟨o.map ad, M, by cases o <;> rfl, ⟨o, rfl, hp⟩, by show va_P D cl _ t.heap; rw [ht]; exact hP⟩, hS.F ht⟩) hS.2.2 hd X.2.2.2.2.2.2.2.2
end ZCalls
end
section
/-! THE LAYER, second part: worlds that grow (constructors) -/
def z_ck (n : Nat) : zK → Bool
  | .inr (.inr (some r)) => decide (r < n)
  | _ => true
def z_co (n : Nat) : Option Nat → Bool
  | none => true
  | some r => decide (r < n)
def z_cx (n : Nat) : zC → Bool
  | .inl q => q.2.all (z_ck n)
  | .inr (.inl _) => true
  | .inr (.inr q) => q.2.all (z_co n)
def z_cv (n : Nat) : zA → Bool
  | .inr (.inr (some r)) => decide (r < n)
  | _ => true
theorem z_v_ad {ad ad' : Nat → Nat} {n : Nat} (h : ∀ c, c < n → ad' c = ad c) (v : zA) (hv : z_cv n v = true) : z_v ad' v = z_v ad v := by
  rcases v with x | x | _ | r
  · rfl
  · rfl
  · rfl
  · show Value.ref _ = Value.ref _
    rw [h r (of_decide_eq_true hv)]
theorem z_fs_ad {ad ad' : Nat → Nat} {n : Nat} (h : ∀ c, c < n → ad' c = ad c) (M : zM) (c : Nat) : ∀ (fs : List zK) (k : Nat), fs.all (z_ck n) = true → z_fs ad' M c k fs = z_fs ad M c k fs
  | [], k, _ => rfl
  | f :: fs, k, hf => by
    rw [List.all_cons, Bool.and_eq_true] at hf
    have e : z_f ad' M c k f = z_f ad M c k f := by
      rcases f with _ | _ | _ | r
      · rfl
      · rfl
      · rfl
      · show Value.ref _ = Value.ref _
        rw [h r (of_decide_eq_true hf.1)]
    show z_f ad' M c k f :: z_fs ad' M c (k + 1) fs = z_f ad M c k f :: z_fs ad M c (k + 1) fs
    rw [e, z_fs_ad h M c fs (k + 1) hf.2]
theorem z_rs_ad {ad ad' : Nat → Nat} {n : Nat} (h : ∀ c, c < n → ad' c = ad c) : ∀ (rs : List (Option Nat)) (j : Nat), rs.all (z_co n) = true → (rs.getD j none).map ad' = (rs.getD j none).map ad
  | [], j, _ => by simp
  | o :: rs, 0, hf => by
    rw [List.all_cons, Bool.and_eq_true] at hf
    cases o with
    | none => rfl
    | some r =>
      show some (ad' r) = some (ad r)
      rw [h r (of_decide_eq_true hf.1)]
  | o :: rs, j + 1, hf => by
    rw [List.all_cons, Bool.and_eq_true] at hf
    simpa using z_rs_ad h rs j hf.2
theorem z_e_ad {ad ad' : Nat → Nat} {n : Nat} (h : ∀ c, c < n → ad' c = ad c) (cA : Nat → ClassId) (M : zM) (c : Nat) (x : zC) (hx : z_cx n x = true) : z_e cA ad' M c x = z_e cA ad M c x := by
  rcases x with ⟨ci, fs⟩ | ⟨t, m⟩ | ⟨t, rs⟩
  · show Sum.inr (ci, _) = Sum.inr (ci, _)
    rw [z_fs_ad h M c fs 0 hx]
  · rfl
  · have e : (fun j => (rs.getD j none).map ad') = (fun j => (rs.getD j none).map ad) := funext fun j => z_rs_ad h rs j hx
    show (Sum.inl (cA t, rs.length, Sum.inr (Sum.inr (Sum.inr (Sum.inr _)))) : va_E) = Sum.inl (cA t, rs.length, Sum.inr (Sum.inr (Sum.inr (Sum.inr _))))
    rw [e]
theorem z_w_ad {ad ad' : Nat → Nat} {n : Nat} (h : ∀ c, c < n → ad' c = ad c) (cA : Nat → ClassId) (M : zM) : ∀ (E : List zC) (k : Nat), k + E.length ≤ n → E.all (z_cx n) = true → z_w cA ad' M k E = z_w cA ad M k E
  | [], k, _, _ => rfl
  | x :: E, k, hk, hE => by
    rw [List.all_cons, Bool.and_eq_true] at hE
    rw [List.length_cons] at hk
    show (ad' k, z_e cA ad' M k x) :: z_w cA ad' M (k + 1) E = (ad k, z_e cA ad M k x) :: z_w cA ad M (k + 1) E
    rw [h k (by omega), z_e_ad h cA M k x hE.1, z_w_ad h cA M E (k + 1) (by omega) hE.2]
theorem z_w_app (cA : Nat → ClassId) (ad : Nat → Nat) (M : zM) (F : List zC) : ∀ (E : List zC) (k : Nat), z_w cA ad M k (E ++ F) = z_w cA ad M k E ++ z_w cA ad M (k + E.length) F
  | [], k => rfl
  | x :: E, k => by
    show (ad k, z_e cA ad M k x) :: z_w cA ad M (k + 1) (E ++ F) = _
    rw [z_w_app cA ad M F E (k + 1), List.length_cons, show k + 1 + E.length = k + (E.length + 1) by omega]
    rfl
theorem z_w_snoc {ad ad' : Nat → Nat} (cA : Nat → ClassId) (M : zM) {E : List zC} (h : ∀ c, c < E.length → ad' c = ad c) (hE : E.all (z_cx E.length) = true) (x : zC) : z_w cA ad' M 0 (E ++ [x]) = z_w cA ad M 0 E ++ [(ad' E.length, z_e cA ad' M E.length x)] := by
  rw [z_w_app, z_w_ad h cA M E 0 (by omega) hE, Nat.zero_add]
  rfl
theorem z_L_ad {ad ad' : Nat → Nat} {n : Nat} (h : ∀ c, c < n → ad' c = ad c) : ∀ L : List (Nat × zA), L.all (fun q => z_cv n q.2) = true → L.map (fun q => (q.1, z_v ad' q.2)) = L.map (fun q => (q.1, z_v ad q.2))
  | [], _ => rfl
  | q :: L, hL => by
    rw [List.all_cons, Bool.and_eq_true] at hL
    rw [List.map_cons, List.map_cons, z_v_ad h q.2 hL.1, z_L_ad h L hL.2]
theorem z_st_ad {ad ad' : Nat → Nat} {n : Nat} (h : ∀ c, c < n → ad' c = ad c) : ∀ st : List zA, st.all (z_cv n) = true → st.map (z_v ad') = st.map (z_v ad)
  | [], _ => rfl
  | v :: st, hL => by
    rw [List.all_cons, Bool.and_eq_true] at hL
    rw [List.map_cons, List.map_cons, z_v_ad h v hL.1, z_st_ad h st hL.2]
/-- the same address function, with a new place -/
theorem z_up_old (ad : Nat → Nat) (n q : Nat) : ∀ c, c < n → va_up ad n q c = ad c := fun c hc => by
  show (if c = n then q else ad c) = ad c
  rw [if_neg (by omega)]
theorem z_up_new (ad : Nat → Nat) (n q : Nat) : va_up ad n q n = q := by
  show (if n = n then q else ad n) = q
  rw [if_pos rfl]
def z_dv : zK → Value
  | .inl _ => .int 0
  | .inr (.inl _) => .long 0
  | .inr (.inr _) => .null
def z_k0 : zK → Bool
  | .inr (.inr (some _)) => false
  | _ => true
theorem z_fs_0 (ad : Nat → Nat) {M : zM} {c : Nat} (h1 : ∀ k, M.1 c k = 0) (h2 : ∀ k, M.2 c k = 0) : ∀ (fs : List zK) (k : Nat), fs.all z_k0 = true → z_fs ad M c k fs = fs.map z_dv
  | [], k, _ => rfl
  | f :: fs, k, hf => by
    rw [List.all_cons, Bool.and_eq_true] at hf
    have e : z_f ad M c k f = z_dv f := by
      rcases f with _ | _ | _ | r
      · show Value.int _ = Value.int _
        rw [h1]
      · show Value.long _ = Value.long _
        rw [h2]
      · rfl
      · cases hf.1
    show z_f ad M c k f :: z_fs ad M c (k + 1) fs = z_dv f :: fs.map z_dv
    rw [e, z_fs_0 ad h1 h2 fs (k + 1) hf.2]
/-- a class that can be made: its number, its fields, all of them at their first values -/
def zN1 (cl : List vw_C) (Ts : List Cond) (own : String) (index ci Nf : Nat) (fs : List zK) : Prop :=
  ∃ (C : String) (T : u_T) (tf : Nat → FieldType), cl[ci]? = some (C, T, Nf) ∧ (∀ w ∈ u_ws C T Nf, w ∈ Ts) ∧ (∀ j, j < Nf → parseFieldDescriptor (T j).2.2.1 = some (tf j)) ∧ Cond.classLink own index C ∈ Ts ∧ Cond.instantiable C Nf ∈ Ts ∧ Cond.initialized C ∈ Ts ∧ fs.all z_k0 = true ∧ (∀ j, j < Nf → defaultValue (tf j) = vp_V (fs.map z_dv) j)
section ZGrow
variable {p : Program} {l : Launch} {e : Env} {R : Room} {s : State} {m : MethodId} {args : Array Value} {below : List Frame} {meth : Method} {c : Code} {cells slots : Nat} {Q : State → Prop} {A : Nat → Prop} {D : va_G} {cl : List vw_C} {tys : List (ClassId × FieldType)} {cA : Nat → ClassId} {ad : Nat → Nat} {E : List zC} {nL : Nat} {M : zM} {pc : Nat} {L L' : List (Nat × zA)} {st stk : List zA} {Ts : List Cond} {own : String} {cc : ByteArray} {ret : Option FieldType}
theorem z_new (X : zX p s m args meth c A D cl tys Ts own cc nL ret) {index ci Nf : Nat} {fs : List zK} (nf : zN1 cl Ts own index ci Nf fs) {n : Nat} (hn : E.length = n) (h1 : ∀ k, M.1 n k = 0) (h2 : ∀ k, M.2 n k = 0) (hE : E.all (z_cx n) = true) (hL : L.all (fun q => z_cv n q.2) = true) (hst : st.all (z_cv n) = true) (hcells : cells + 1 ≤ R.cells) (hslots : slots + Nf ≤ R.slots) (hd : decode cc pc = .ok (.new index, 3))
    (kk : ∀ ad' : Nat → Nat, (∀ c, c < n → ad' c = ad c) → zW p l e R s m args below meth c (cells + 1) (slots + Nf) Q A D cl cA ad' (E ++ [.inl (ci, fs)]) nL M (pc + 3) L (zR n :: st)) : zW p l e R s m args below meth c cells slots Q A D cl cA ad E nL M pc L st := by
  subst hn
  intro H locs ls hP hD hS hl
  obtain ⟨C, T, tf, g1, g2, g3, g4, g5, g6, g7, g8⟩ := nf
  refine va_new (ci := ci) (fs := fs.map z_dv) (C := C) (T := T) (N := Nf) X.1 X.2.1 X.2.2.2.2.1 g2 tf g3 X.2.2.2.1 (X.2.2.2.2.1 _ g4) (X.2.2.2.2.1 _ g5) (X.2.2.2.2.1 _ g6) X.2.2.2.2.2.1 hP hD hS X.2.2.2.2.2.2.1 g1 g8 hcells hslots hd (fun q H1 hP1 hD1 hS1 => ?_)
  have ho := z_up_old ad E.length q
  have hw : z_w cA ad M 0 E ++ [(q, .inr (ci, fs.map z_dv))] = z_w cA (va_up ad E.length q) M 0 (E ++ [.inl (ci, fs)]) := by
    rw [z_w_snoc cA M ho hE, z_up_new]
    show _ = _ ++ [(q, Sum.inr (ci, z_fs (va_up ad E.length q) M E.length 0 fs))]
    rw [z_fs_0 (va_up ad E.length q) h1 h2 fs 0 g7]
  rw [hw] at hP1 hD1
  have hk := kk (va_up ad E.length q) ho H1 locs ls hP1 hD1 hS1 (by rw [z_L_ad ho L hL]; exact hl)
  rw [List.map_cons, z_st_ad ho st hst] at hk
  have e1 : z_v (va_up ad E.length q) (zR E.length) = .ref q := by
    show Value.ref _ = Value.ref _
    rw [z_up_new]
  rw [e1] at hk
  exact hk
theorem z_newa (X : zX p s m args meth c A D cl tys Ts own cc nL ret) (t : Nat) (ht : tys[t]? = some (cA t, .int)) (harr : Cond.arrayClass .int ∈ Ts) {n k : Nat} (hn : E.length = n) (h1 : ∀ k, M.1 n k = 0) (hE : E.all (z_cx n) = true) (hL : L.all (fun q => z_cv n q.2) = true) (hst : st.all (z_cv n) = true) (hk : k * 4 ≤ 536870912) (hcells : cells + 1 ≤ R.cells) (hslots : slots + k ≤ R.slots) {x : Int32} (hx : x = nI k) (hd : decode cc pc = .ok (.newarray .int, 2))
    (kk : ∀ ad' : Nat → Nat, (∀ c, c < n → ad' c = ad c) → zW p l e R s m args below meth c (cells + 1) (slots + k) Q A D cl cA ad' (E ++ [.inr (.inl (t, k))]) nL M (pc + 2) L (zR n :: st)) : zW p l e R s m args below meth c cells slots Q A D cl cA ad E nL M pc L (zI x :: st) := by
  subst hn
  subst hx
  intro H locs ls hP hD hS hl
  have hk31 : k < 2 ^ 31 := by omega
  refine va_newa (atype := .int) (a0 := (k, .inl (fun _ => 0))) (ty := .int) (N' := k) X.1 X.2.1 (X.2.2.2.2.1 _ harr) rfl X.2.2.2.2.2.1 hP hD hS X.2.2.2.2.2.2.1 (fun _ => rfl) (nI_pos hk31) (nI_clamp hk31) hk hcells hslots hd (fun q cA' H1 hK1 hP1 hD1 hS1 => ?_)
  have ho := z_up_old ad E.length q
  have hc : cA' = cA t := by
    have a1 := (hK1.2 tys.length (cA', .int) (by rw [List.getElem?_append_right (Nat.le_refl _), Nat.sub_self]; rfl)).2
    have a2 := (X.2.2.2.2.2.1.2 t _ ht).2
    exact Option.some.inj (a1.symm.trans a2)
  subst hc
  have hw : z_w cA ad M 0 E ++ [(q, .inl (cA t, k, .inl (fun _ => 0)))] = z_w cA (va_up ad E.length q) M 0 (E ++ [.inr (.inl (t, k))]) := by
    rw [z_w_snoc cA M ho hE, z_up_new]
    show _ = _ ++ [(q, Sum.inl (cA t, k, Sum.inl (M.1 E.length)))]
    rw [show M.1 E.length = (fun _ => 0) from funext h1]
  rw [hw] at hP1 hD1
  have hk2 := kk (va_up ad E.length q) ho H1 locs ls hP1 hD1 hS1 (by rw [z_L_ad ho L hL]; exact hl)
  rw [List.map_cons, z_st_ad ho st hst] at hk2
  have e1 : z_v (va_up ad E.length q) (zR E.length) = .ref q := by
    show Value.ref _ = Value.ref _
    rw [z_up_new]
  rw [e1] at hk2
  exact hk2
theorem z_newq (X : zX p s m args meth c A D cl tys Ts own cc nL ret) (t : Nat) {C : String} (ht : tys[t]? = some (cA t, .object C)) {index : Nat} (hcl : Cond.classLink own index C ∈ Ts) (hao : va_AO C s) {n k : Nat} (hn : E.length = n) (hE : E.all (z_cx n) = true) (hL : L.all (fun q => z_cv n q.2) = true) (hst : st.all (z_cv n) = true) (hk : k * 4 ≤ 536870912) (hcells : cells + 1 ≤ R.cells) (hslots : slots + k ≤ R.slots) {x : Int32} (hx : x = nI k) (hd : decode cc pc = .ok (.anewarray index, 3))
    (kk : ∀ ad' : Nat → Nat, (∀ c, c < n → ad' c = ad c) → zW p l e R s m args below meth c (cells + 1) (slots + k) Q A D cl cA ad' (E ++ [.inr (.inr (t, List.replicate k none))]) nL M (pc + 3) L (zR n :: st)) : zW p l e R s m args below meth c cells slots Q A D cl cA ad E nL M pc L (zI x :: st) := by
  subst hn
  subst hx
  intro H locs ls hP hD hS hl
  have hk31 : k < 2 ^ 31 := by omega
  refine va_newq (C := C) (N' := k) X.1 X.2.1 X.2.2.2.1 (X.2.2.2.2.1 _ hcl) hao X.2.2.2.2.2.1 hP hD hS X.2.2.2.2.2.2.1 (nI_pos hk31) (nI_clamp hk31) hk hcells hslots hd (fun q cA' H1 hK1 hP1 hD1 hS1 => ?_)
  have ho := z_up_old ad E.length q
  have hc : cA' = cA t := by
    obtain ⟨_, _, _, _, _, a1⟩ := (hK1.2 tys.length (cA', .object C) (by rw [List.getElem?_append_right (Nat.le_refl _), Nat.sub_self]; rfl)).2
    obtain ⟨_, _, _, _, _, a2⟩ := (X.2.2.2.2.2.1.2 t _ ht).2
    exact Option.some.inj (a1.symm.trans a2)
  subst hc
  have hr : (fun j => ((List.replicate k (none : Option Nat)).getD j none).map (va_up ad E.length q)) = (fun _ => none) := by
    funext j
    have h9 : (List.replicate k (none : Option Nat)).getD j none = none := by
      rw [List.getD_eq_getElem?_getD, List.getElem?_replicate]
      split <;> rfl
    rw [h9]
    rfl
  have hw : z_w cA ad M 0 E ++ [(q, .inl (cA t, k, .inr (.inr (.inr (.inr (fun _ => none))))))] = z_w cA (va_up ad E.length q) M 0 (E ++ [.inr (.inr (t, List.replicate k none))]) := by
    rw [z_w_snoc cA M ho hE, z_up_new]
    show _ = _ ++ [(q, Sum.inl (cA t, (List.replicate k (none : Option Nat)).length, Sum.inr (Sum.inr (Sum.inr (Sum.inr (fun j => ((List.replicate k (none : Option Nat)).getD j none).map (va_up ad E.length q))))))) ]
    rw [hr, List.length_replicate]
  rw [hw] at hP1 hD1
  have hk2 := kk (va_up ad E.length q) ho H1 locs ls hP1 hD1 hS1 (by rw [z_L_ad ho L hL]; exact hl)
  rw [List.map_cons, z_st_ad ho st hst] at hk2
  have e1 : z_v (va_up ad E.length q) (zR E.length) = .ref q := by
    show Value.ref _ = Value.ref _
    rw [z_up_new]
  rw [e1] at hk2
  exact hk2
end ZGrow
end
section
def GG : List Cond := lw_tbl.filter goodWord
theorem gm (i : Nat) {w : Cond} (h : lw_tbl[i]? = some w) (hg : goodWord w = true) : w ∈ GG := List.mem_filter.mpr ⟨List.mem_of_getElem? h, hg⟩
theorem GG_ok : GoodIn GG GG := fun w h => ⟨h, good_of_word (List.mem_filter.mp h).2⟩
def R_P : String := "WindowPlan$Partition"
def T_P : u_T := fun k => match k with
  | 0 => ("WindowPlan$Partition", "mode", "I", false)
  | _ => ("WindowPlan$Partition", "action", "I", false)
def t_P : Nat → FieldType := fun k => match k with
  | 0 => .int
  | _ => .int
theorem n_P : ∀ a, a < 2 → ∀ b, b < 2 → a ≠ b → (T_P a).2.1 ≠ (T_P b).2.1 := by decide +kernel
theorem t_P_ok : ∀ k, k < 2 → parseFieldDescriptor (T_P k).2.2.1 = some (t_P k) := by decide +kernel
theorem i_P : ∀ w ∈ u_ws R_P T_P 2, w ∈ GG := by decide +kernel
def R_O : String := "WindowPlan$Port"
def T_O : u_T := fun k => match k with
  | 0 => ("WindowPlan$Port", "messages", "[I", true)
  | _ => ("WindowPlan$Port", "size", "I", false)
def t_O : Nat → FieldType := fun k => match k with
  | 0 => .array .int
  | _ => .int
theorem n_O : ∀ a, a < 2 → ∀ b, b < 2 → a ≠ b → (T_O a).2.1 ≠ (T_O b).2.1 := by decide +kernel
theorem t_O_ok : ∀ k, k < 2 → parseFieldDescriptor (T_O k).2.2.1 = some (t_O k) := by decide +kernel
theorem i_O : ∀ w ∈ u_ws R_O T_O 2, w ∈ GG := by decide +kernel
def R_G : String := "WindowPlan$Program"
def T_G : u_T := fun k => match k with
  | 0 => ("WindowPlan$Program", "orders", "[I", true)
  | 1 => ("WindowPlan$Program", "numbers", "[I", true)
  | _ => ("WindowPlan$Program", "size", "I", false)
def t_G : Nat → FieldType := fun k => match k with
  | 0 => .array .int
  | 1 => .array .int
  | _ => .int
theorem n_G : ∀ a, a < 3 → ∀ b, b < 3 → a ≠ b → (T_G a).2.1 ≠ (T_G b).2.1 := by decide +kernel
theorem t_G_ok : ∀ k, k < 3 → parseFieldDescriptor (T_G k).2.2.1 = some (t_G k) := by decide +kernel
theorem i_G : ∀ w ∈ u_ws R_G T_G 3, w ∈ GG := by decide +kernel
def R_K : String := "WindowPlan$Task"
def T_K : u_T := fun k => match k with
  | 0 => ("WindowPlan$Task", "number", "I", true)
  | 1 => ("WindowPlan$Task", "program", "LWindowPlan$Program;", true)
  | 2 => ("WindowPlan$Task", "partition", "I", false)
  | 3 => ("WindowPlan$Task", "priority", "I", false)
  | 4 => ("WindowPlan$Task", "period", "I", false)
  | 5 => ("WindowPlan$Task", "limit", "I", false)
  | 6 => ("WindowPlan$Task", "stage", "I", false)
  | 7 => ("WindowPlan$Task", "next", "I", false)
  | 8 => ("WindowPlan$Task", "ticksDone", "I", false)
  | 9 => ("WindowPlan$Task", "since", "J", false)
  | 10 => ("WindowPlan$Task", "rounds", "I", false)
  | 11 => ("WindowPlan$Task", "deadline", "I", false)
  | 12 => ("WindowPlan$Task", "missed", "I", false)
  | 13 => ("WindowPlan$Task", "skipped", "I", false)
  | 14 => ("WindowPlan$Task", "worked", "I", false)
  | 15 => ("WindowPlan$Task", "letter", "I", false)
  | _ => ("WindowPlan$Task", "nextRelease", "I", false)
def t_K : Nat → FieldType := fun k => match k with
  | 0 => .int
  | 1 => .object "WindowPlan$Program"
  | 2 => .int
  | 3 => .int
  | 4 => .int
  | 5 => .int
  | 6 => .int
  | 7 => .int
  | 8 => .int
  | 9 => .long
  | 10 => .int
  | 11 => .int
  | 12 => .int
  | 13 => .int
  | 14 => .int
  | 15 => .int
  | _ => .int
theorem n_K : ∀ a, a < 17 → ∀ b, b < 17 → a ≠ b → (T_K a).2.1 ≠ (T_K b).2.1 := by decide +kernel
theorem t_K_ok : ∀ k, k < 17 → parseFieldDescriptor (T_K k).2.2.1 = some (t_K k) := by decide +kernel
theorem i_K : ∀ w ∈ u_ws R_K T_K 17, w ∈ GG := by decide +kernel
def R_Wr : String := "WindowPlan$WindowRow"
def T_Wr : u_T := fun k => match k with
  | 0 => ("WindowPlan$WindowRow", "partitions", "[I", true)
  | 1 => ("WindowPlan$WindowRow", "ends", "[I", true)
  | _ => ("WindowPlan$WindowRow", "size", "I", false)
def t_Wr : Nat → FieldType := fun k => match k with
  | 0 => .array .int
  | 1 => .array .int
  | _ => .int
theorem n_Wr : ∀ a, a < 3 → ∀ b, b < 3 → a ≠ b → (T_Wr a).2.1 ≠ (T_Wr b).2.1 := by decide +kernel
theorem t_Wr_ok : ∀ k, k < 3 → parseFieldDescriptor (T_Wr k).2.2.1 = some (t_Wr k) := by decide +kernel
theorem i_Wr : ∀ w ∈ u_ws R_Wr T_Wr 3, w ∈ GG := by decide +kernel
def R_A : String := "WindowPlan"
def T_A : u_T := fun k => match k with
  | 0 => ("WindowPlan", "windows", "LWindowPlan$WindowRow;", true)
  | 1 => ("WindowPlan", "partitions", "[LWindowPlan$Partition;", true)
  | 2 => ("WindowPlan", "tasks", "[LWindowPlan$Task;", true)
  | 3 => ("WindowPlan", "ports", "[LWindowPlan$Port;", true)
  | 4 => ("WindowPlan", "semaphores", "[I", true)
  | 5 => ("WindowPlan", "taskCount", "I", false)
  | 6 => ("WindowPlan", "time", "I", false)
  | 7 => ("WindowPlan", "lost", "I", false)
  | 8 => ("WindowPlan", "idle", "I", false)
  | _ => ("WindowPlan", "turns", "J", false)
def t_A : Nat → FieldType := fun k => match k with
  | 0 => .object "WindowPlan$WindowRow"
  | 1 => .array (.object "WindowPlan$Partition")
  | 2 => .array (.object "WindowPlan$Task")
  | 3 => .array (.object "WindowPlan$Port")
  | 4 => .array .int
  | 5 => .int
  | 6 => .int
  | 7 => .int
  | 8 => .int
  | _ => .long
theorem n_A : ∀ a, a < 10 → ∀ b, b < 10 → a ≠ b → (T_A a).2.1 ≠ (T_A b).2.1 := by decide +kernel
theorem t_A_ok : ∀ k, k < 10 → parseFieldDescriptor (T_A k).2.2.1 = some (t_A k) := by decide +kernel
theorem i_A : ∀ w ∈ u_ws R_A T_A 10, w ∈ GG := by decide +kernel
def R_B : String := "WindowPlanModel"
def T_B : u_T := fun k => match k with
  | 0 => ("WindowPlanModel", "owner", "[I", true)
  | 1 => ("WindowPlanModel", "span", "[I", true)
  | 2 => ("WindowPlanModel", "windows", "I", false)
  | 3 => ("WindowPlanModel", "state", "[I", true)
  | 4 => ("WindowPlanModel", "action", "[I", true)
  | 5 => ("WindowPlanModel", "processes", "I", false)
  | 6 => ("WindowPlanModel", "partition", "[I", true)
  | 7 => ("WindowPlanModel", "priority", "[I", true)
  | 8 => ("WindowPlanModel", "period", "[I", true)
  | 9 => ("WindowPlanModel", "limit", "[I", true)
  | 10 => ("WindowPlanModel", "size", "[I", true)
  | 11 => ("WindowPlanModel", "order", "[I", true)
  | 12 => ("WindowPlanModel", "number", "[I", true)
  | 13 => ("WindowPlanModel", "is", "[I", true)
  | 14 => ("WindowPlanModel", "at", "[I", true)
  | 15 => ("WindowPlanModel", "worked", "[I", true)
  | 16 => ("WindowPlanModel", "rounds", "[I", true)
  | 17 => ("WindowPlanModel", "deadline", "[I", true)
  | 18 => ("WindowPlanModel", "missed", "[I", true)
  | 19 => ("WindowPlanModel", "skipped", "[I", true)
  | 20 => ("WindowPlanModel", "work", "[I", true)
  | 21 => ("WindowPlanModel", "letter", "[I", true)
  | 22 => ("WindowPlanModel", "next", "[I", true)
  | 23 => ("WindowPlanModel", "since", "[I", true)
  | 24 => ("WindowPlanModel", "clock", "I", false)
  | 25 => ("WindowPlanModel", "message", "[I", true)
  | 26 => ("WindowPlanModel", "messages", "[I", true)
  | 27 => ("WindowPlanModel", "count", "[I", true)
  | 28 => ("WindowPlanModel", "time", "I", false)
  | 29 => ("WindowPlanModel", "lost", "I", false)
  | _ => ("WindowPlanModel", "idle", "I", false)
def t_B : Nat → FieldType := fun k => match k with
  | 0 => .array .int
  | 1 => .array .int
  | 2 => .int
  | 3 => .array .int
  | 4 => .array .int
  | 5 => .int
  | 6 => .array .int
  | 7 => .array .int
  | 8 => .array .int
  | 9 => .array .int
  | 10 => .array .int
  | 11 => .array .int
  | 12 => .array .int
  | 13 => .array .int
  | 14 => .array .int
  | 15 => .array .int
  | 16 => .array .int
  | 17 => .array .int
  | 18 => .array .int
  | 19 => .array .int
  | 20 => .array .int
  | 21 => .array .int
  | 22 => .array .int
  | 23 => .array .int
  | 24 => .int
  | 25 => .array .int
  | 26 => .array .int
  | 27 => .array .int
  | 28 => .int
  | 29 => .int
  | _ => .int
theorem n_B : ∀ a, a < 31 → ∀ b, b < 31 → a ≠ b → (T_B a).2.1 ≠ (T_B b).2.1 := by decide +kernel
theorem t_B_ok : ∀ k, k < 31 → parseFieldDescriptor (T_B k).2.2.1 = some (t_B k) := by decide +kernel
theorem i_B : ∀ w ∈ u_ws R_B T_B 31, w ∈ GG := by decide +kernel
abbrev cls : List vw_C := [(R_P, T_P, 2), (R_O, T_O, 2), (R_G, T_G, 3), (R_K, T_K, 17), (R_Wr, T_Wr, 3), (R_A, T_A, 10), (R_B, T_B, 31)]
abbrev b_A_init : ByteArray := prog_1_method_1_code
def y_A_init : MethodName := ⟨"WindowPlan", "<init>", "()V"⟩
abbrev b_Wr_init : ByteArray := prog_6_method_1_code
def y_Wr_init : MethodName := ⟨"WindowPlan$WindowRow", "<init>", "()V"⟩
abbrev b_P_init : ByteArray := prog_2_method_1_code
def y_P_init : MethodName := ⟨"WindowPlan$Partition", "<init>", "()V"⟩
abbrev b_K_init : ByteArray := prog_5_method_1_code
def y_K_init : MethodName := ⟨"WindowPlan$Task", "<init>", "(I)V"⟩
abbrev b_G_init : ByteArray := prog_4_method_1_code
def y_G_init : MethodName := ⟨"WindowPlan$Program", "<init>", "()V"⟩
abbrev b_O_init : ByteArray := prog_3_method_1_code
def y_O_init : MethodName := ⟨"WindowPlan$Port", "<init>", "()V"⟩
abbrev b_A_window : ByteArray := prog_1_method_2_code
def y_A_window : MethodName := ⟨"WindowPlan", "window", "(II)I"⟩
abbrev b_A_isPartition : ByteArray := prog_1_method_15_code
def y_A_isPartition : MethodName := ⟨"WindowPlan", "isPartition", "(I)Z"⟩
abbrev b_A_within : ByteArray := prog_1_method_14_code
def y_A_within : MethodName := ⟨"WindowPlan", "within", "(III)Z"⟩
abbrev b_A_allOff : ByteArray := prog_1_method_19_code
def y_A_allOff : MethodName := ⟨"WindowPlan", "allOff", "()Z"⟩
abbrev b_Wr_add : ByteArray := prog_6_method_2_code
def y_Wr_add : MethodName := ⟨"WindowPlan$WindowRow", "add", "(II)V"⟩
abbrev b_A_process : ByteArray := prog_1_method_3_code
def y_A_process : MethodName := ⟨"WindowPlan", "process", "(IIII)I"⟩
abbrev b_K_define : ByteArray := prog_5_method_2_code
def y_K_define : MethodName := ⟨"WindowPlan$Task", "define", "(IIII)V"⟩
abbrev b_A_order : ByteArray := prog_1_method_4_code
def y_A_order : MethodName := ⟨"WindowPlan", "order", "(III)I"⟩
abbrev b_A_isProcess : ByteArray := prog_1_method_16_code
def y_A_isProcess : MethodName := ⟨"WindowPlan", "isProcess", "(I)Z"⟩
abbrev b_A_isOrder : ByteArray := prog_1_method_17_code
def y_A_isOrder : MethodName := ⟨"WindowPlan", "isOrder", "(II)Z"⟩
abbrev b_G_add : ByteArray := prog_4_method_2_code
def y_G_add : MethodName := ⟨"WindowPlan$Program", "add", "(II)V"⟩
abbrev b_A_action : ByteArray := prog_1_method_5_code
def y_A_action : MethodName := ⟨"WindowPlan", "action", "(II)I"⟩
abbrev b_A_on : ByteArray := prog_1_method_6_code
def y_A_on : MethodName := ⟨"WindowPlan", "on", "(I)I"⟩
abbrev b_A_isOn : ByteArray := prog_1_method_18_code
def y_A_isOn : MethodName := ⟨"WindowPlan", "isOn", "(I)Z"⟩
abbrev b_A_restAll : ByteArray := prog_1_method_21_code
def y_A_restAll : MethodName := ⟨"WindowPlan", "restAll", "(I)V"⟩
abbrev b_K_rest : ByteArray := prog_5_method_5_code
def y_K_rest : MethodName := ⟨"WindowPlan$Task", "rest", "()V"⟩
abbrev b_A_start : ByteArray := prog_1_method_7_code
def y_A_start : MethodName := ⟨"WindowPlan", "start", "(I)I"⟩
abbrev b_A_newTurn : ByteArray := prog_1_method_20_code
def y_A_newTurn : MethodName := ⟨"WindowPlan", "newTurn", "()J"⟩
abbrev b_K_release : ByteArray := prog_5_method_3_code
def y_K_release : MethodName := ⟨"WindowPlan$Task", "release", "(IJ)V"⟩
abbrev b_K_beginAnew : ByteArray := prog_5_method_4_code
def y_K_beginAnew : MethodName := ⟨"WindowPlan$Task", "beginAnew", "(J)V"⟩
abbrev b_K_becomeReady : ByteArray := prog_5_method_6_code
def y_K_becomeReady : MethodName := ⟨"WindowPlan$Task", "becomeReady", "(J)V"⟩
abbrev b_A_run : ByteArray := prog_1_method_8_code
def y_A_run : MethodName := ⟨"WindowPlan", "run", "(I)I"⟩
abbrev b_A_tick : ByteArray := prog_1_method_22_code
def y_A_tick : MethodName := ⟨"WindowPlan", "tick", "()V"⟩
abbrev b_A_releaseDue : ByteArray := prog_1_method_23_code
def y_A_releaseDue : MethodName := ⟨"WindowPlan", "releaseDue", "()V"⟩
abbrev b_A_missDue : ByteArray := prog_1_method_24_code
def y_A_missDue : MethodName := ⟨"WindowPlan", "missDue", "()V"⟩
abbrev b_A_miss : ByteArray := prog_1_method_25_code
def y_A_miss : MethodName := ⟨"WindowPlan", "miss", "(LWindowPlan$Task;)V"⟩
abbrev b_A_giveProcessor : ByteArray := prog_1_method_26_code
def y_A_giveProcessor : MethodName := ⟨"WindowPlan", "giveProcessor", "()V"⟩
abbrev b_Wr_partitionAt : ByteArray := prog_6_method_3_code
def y_Wr_partitionAt : MethodName := ⟨"WindowPlan$WindowRow", "partitionAt", "(I)I"⟩
abbrev b_Wr_offsetAt : ByteArray := prog_6_method_5_code
def y_Wr_offsetAt : MethodName := ⟨"WindowPlan$WindowRow", "offsetAt", "(I)I"⟩
abbrev b_J_floorMod : ByteArray := prog_9_method_50_code
def y_J_floorMod : MethodName := ⟨"java/lang/Math", "floorMod", "(II)I"⟩
abbrev b_Wr_indexOf : ByteArray := prog_6_method_6_code
def y_Wr_indexOf : MethodName := ⟨"WindowPlan$WindowRow", "indexOf", "(I)I"⟩
abbrev b_A_firstReady : ByteArray := prog_1_method_32_code
def y_A_firstReady : MethodName := ⟨"WindowPlan", "firstReady", "(I)LWindowPlan$Task;"⟩
abbrev b_K_comesBefore : ByteArray := prog_5_method_11_code
def y_K_comesBefore : MethodName := ⟨"WindowPlan$Task", "comesBefore", "(LWindowPlan$Task;)Z"⟩
abbrev b_A_doOrder : ByteArray := prog_1_method_27_code
def y_A_doOrder : MethodName := ⟨"WindowPlan", "doOrder", "(LWindowPlan$Task;)Z"⟩
abbrev b_K_work : ByteArray := prog_5_method_8_code
def y_K_work : MethodName := ⟨"WindowPlan$Task", "work", "(I)V"⟩
abbrev b_K_advance : ByteArray := prog_5_method_9_code
def y_K_advance : MethodName := ⟨"WindowPlan$Task", "advance", "()V"⟩
abbrev b_A_send : ByteArray := prog_1_method_28_code
def y_A_send : MethodName := ⟨"WindowPlan", "send", "(LWindowPlan$Task;I)V"⟩
abbrev b_A_firstWaiting : ByteArray := prog_1_method_33_code
def y_A_firstWaiting : MethodName := ⟨"WindowPlan", "firstWaiting", "(II)LWindowPlan$Task;"⟩
abbrev b_K_waitsAt : ByteArray := prog_5_method_10_code
def y_K_waitsAt : MethodName := ⟨"WindowPlan$Task", "waitsAt", "(II)Z"⟩
abbrev b_O_put : ByteArray := prog_3_method_2_code
def y_O_put : MethodName := ⟨"WindowPlan$Port", "put", "(I)V"⟩
abbrev b_A_take : ByteArray := prog_1_method_29_code
def y_A_take : MethodName := ⟨"WindowPlan", "take", "(LWindowPlan$Task;I)V"⟩
abbrev b_K_becomeWaiting : ByteArray := prog_5_method_7_code
def y_K_becomeWaiting : MethodName := ⟨"WindowPlan$Task", "becomeWaiting", "(J)V"⟩
abbrev b_O_takeOldest : ByteArray := prog_3_method_3_code
def y_O_takeOldest : MethodName := ⟨"WindowPlan$Port", "takeOldest", "()I"⟩
abbrev b_A_up : ByteArray := prog_1_method_30_code
def y_A_up : MethodName := ⟨"WindowPlan", "up", "(LWindowPlan$Task;I)V"⟩
abbrev b_A_down : ByteArray := prog_1_method_31_code
def y_A_down : MethodName := ⟨"WindowPlan", "down", "(LWindowPlan$Task;I)V"⟩
abbrev b_A_partition : ByteArray := prog_1_method_9_code
def y_A_partition : MethodName := ⟨"WindowPlan", "partition", "(I)I"⟩
abbrev b_A_state : ByteArray := prog_1_method_10_code
def y_A_state : MethodName := ⟨"WindowPlan", "state", "(II)I"⟩
abbrev b_K_tell : ByteArray := prog_5_method_12_code
def y_K_tell : MethodName := ⟨"WindowPlan$Task", "tell", "(I)I"⟩
abbrev b_A_port : ByteArray := prog_1_method_11_code
def y_A_port : MethodName := ⟨"WindowPlan", "port", "(I)I"⟩
abbrev b_A_semaphore : ByteArray := prog_1_method_12_code
def y_A_semaphore : MethodName := ⟨"WindowPlan", "semaphore", "(I)I"⟩
abbrev b_A_count : ByteArray := prog_1_method_13_code
def y_A_count : MethodName := ⟨"WindowPlan", "count", "(I)I"⟩
abbrev b_Wr_leftAt : ByteArray := prog_6_method_4_code
def y_Wr_leftAt : MethodName := ⟨"WindowPlan$WindowRow", "leftAt", "(I)I"⟩
abbrev b_B_init : ByteArray := prog_8_method_1_code
def y_B_init : MethodName := ⟨"WindowPlanModel", "<init>", "()V"⟩
abbrev b_B_window : ByteArray := prog_8_method_4_code
def y_B_window : MethodName := ⟨"WindowPlanModel", "window", "(II)I"⟩
abbrev b_B_in : ByteArray := prog_8_method_2_code
def y_B_in : MethodName := ⟨"WindowPlanModel", "in", "(III)Z"⟩
abbrev b_B_allOff : ByteArray := prog_8_method_3_code
def y_B_allOff : MethodName := ⟨"WindowPlanModel", "allOff", "()Z"⟩
abbrev b_B_process : ByteArray := prog_8_method_5_code
def y_B_process : MethodName := ⟨"WindowPlanModel", "process", "(IIII)I"⟩
abbrev b_B_order : ByteArray := prog_8_method_6_code
def y_B_order : MethodName := ⟨"WindowPlanModel", "order", "(III)I"⟩
abbrev b_B_action : ByteArray := prog_8_method_7_code
def y_B_action : MethodName := ⟨"WindowPlanModel", "action", "(II)I"⟩
abbrev b_B_on : ByteArray := prog_8_method_9_code
def y_B_on : MethodName := ⟨"WindowPlanModel", "on", "(I)I"⟩
abbrev b_B_rest : ByteArray := prog_8_method_8_code
def y_B_rest : MethodName := ⟨"WindowPlanModel", "rest", "(I)V"⟩
abbrev b_B_start : ByteArray := prog_8_method_12_code
def y_B_start : MethodName := ⟨"WindowPlanModel", "start", "(I)I"⟩
abbrev b_B_release : ByteArray := prog_8_method_11_code
def y_B_release : MethodName := ⟨"WindowPlanModel", "release", "(I)V"⟩
abbrev b_B_become : ByteArray := prog_8_method_10_code
def y_B_become : MethodName := ⟨"WindowPlanModel", "become", "(II)V"⟩
abbrev b_B_run : ByteArray := prog_8_method_24_code
def y_B_run : MethodName := ⟨"WindowPlanModel", "run", "(I)I"⟩
abbrev b_B_releases : ByteArray := prog_8_method_22_code
def y_B_releases : MethodName := ⟨"WindowPlanModel", "releases", "()V"⟩
abbrev b_B_monitor : ByteArray := prog_8_method_23_code
def y_B_monitor : MethodName := ⟨"WindowPlanModel", "monitor", "()V"⟩
abbrev b_B_holder : ByteArray := prog_8_method_21_code
def y_B_holder : MethodName := ⟨"WindowPlanModel", "holder", "(Z)I"⟩
abbrev b_B_first : ByteArray := prog_8_method_14_code
def y_B_first : MethodName := ⟨"WindowPlanModel", "first", "(II)I"⟩
abbrev b_B_one : ByteArray := prog_8_method_20_code
def y_B_one : MethodName := ⟨"WindowPlanModel", "one", "(I)Z"⟩
abbrev b_B_advance : ByteArray := prog_8_method_13_code
def y_B_advance : MethodName := ⟨"WindowPlanModel", "advance", "(I)V"⟩
abbrev b_B_send : ByteArray := prog_8_method_16_code
def y_B_send : MethodName := ⟨"WindowPlanModel", "send", "(II)V"⟩
abbrev b_B_wake : ByteArray := prog_8_method_15_code
def y_B_wake : MethodName := ⟨"WindowPlanModel", "wake", "(I)V"⟩
abbrev b_B_take : ByteArray := prog_8_method_17_code
def y_B_take : MethodName := ⟨"WindowPlanModel", "take", "(II)V"⟩
abbrev b_B_up : ByteArray := prog_8_method_18_code
def y_B_up : MethodName := ⟨"WindowPlanModel", "up", "(II)V"⟩
abbrev b_B_down : ByteArray := prog_8_method_19_code
def y_B_down : MethodName := ⟨"WindowPlanModel", "down", "(II)V"⟩
abbrev b_B_partition : ByteArray := prog_8_method_25_code
def y_B_partition : MethodName := ⟨"WindowPlanModel", "partition", "(I)I"⟩
abbrev b_B_state : ByteArray := prog_8_method_26_code
def y_B_state : MethodName := ⟨"WindowPlanModel", "state", "(II)I"⟩
abbrev b_B_port : ByteArray := prog_8_method_27_code
def y_B_port : MethodName := ⟨"WindowPlanModel", "port", "(I)I"⟩
abbrev b_B_semaphore : ByteArray := prog_8_method_28_code
def y_B_semaphore : MethodName := ⟨"WindowPlanModel", "semaphore", "(I)I"⟩
abbrev b_B_count : ByteArray := prog_8_method_29_code
def y_B_count : MethodName := ⟨"WindowPlanModel", "count", "(I)I"⟩
end
section
theorem fl_A_10 : zF cls GG "WindowPlan" 10 5 0 (.object "WindowPlan$WindowRow") true := ⟨R_A, T_A, 10, t_A, rfl, by decide, i_A, (gm 193 (by decide +kernel) (by decide +kernel)), t_A_ok, n_A, by decide +kernel, rfl⟩
theorem fl_A_18 : zF cls GG "WindowPlan" 18 5 1 (.array (.object "WindowPlan$Partition")) true := ⟨R_A, T_A, 10, t_A, rfl, by decide, i_A, (gm 194 (by decide +kernel) (by decide +kernel)), t_A_ok, n_A, by decide +kernel, rfl⟩
theorem fl_A_25 : zF cls GG "WindowPlan" 25 5 2 (.array (.object "WindowPlan$Task")) true := ⟨R_A, T_A, 10, t_A, rfl, by decide, i_A, (gm 195 (by decide +kernel) (by decide +kernel)), t_A_ok, n_A, by decide +kernel, rfl⟩
theorem fl_A_34 : zF cls GG "WindowPlan" 34 5 3 (.array (.object "WindowPlan$Port")) true := ⟨R_A, T_A, 10, t_A, rfl, by decide, i_A, (gm 196 (by decide +kernel) (by decide +kernel)), t_A_ok, n_A, by decide +kernel, rfl⟩
theorem fl_A_39 : zF cls GG "WindowPlan" 39 5 4 (.array .int) true := ⟨R_A, T_A, 10, t_A, rfl, by decide, i_A, (gm 197 (by decide +kernel) (by decide +kernel)), t_A_ok, n_A, by decide +kernel, rfl⟩
theorem fl_A_55 : zF cls GG "WindowPlan" 55 4 2 (.int) false := ⟨R_Wr, T_Wr, 3, t_Wr, rfl, by decide, i_Wr, (gm 60 (by decide +kernel) (by decide +kernel)), t_Wr_ok, n_Wr, by decide +kernel, rfl⟩
theorem fl_A_63 : zF cls GG "WindowPlan" 63 5 5 (.int) false := ⟨R_A, T_A, 10, t_A, rfl, by decide, i_A, (gm 198 (by decide +kernel) (by decide +kernel)), t_A_ok, n_A, by decide +kernel, rfl⟩
theorem fl_A_77 : zF cls GG "WindowPlan" 77 3 1 (.object "WindowPlan$Program") true := ⟨R_K, T_K, 17, t_K, rfl, by decide, i_K, (gm 117 (by decide +kernel) (by decide +kernel)), t_K_ok, n_K, by decide +kernel, rfl⟩
theorem fl_A_81 : zF cls GG "WindowPlan" 81 2 2 (.int) false := ⟨R_G, T_G, 3, t_G, rfl, by decide, i_G, (gm 106 (by decide +kernel) (by decide +kernel)), t_G_ok, n_G, by decide +kernel, rfl⟩
theorem fl_A_85 : zF cls GG "WindowPlan" 85 0 1 (.int) false := ⟨R_P, T_P, 2, t_P, rfl, by decide, i_P, (gm 79 (by decide +kernel) (by decide +kernel)), t_P_ok, n_P, by decide +kernel, rfl⟩
theorem fl_A_91 : zF cls GG "WindowPlan" 91 0 0 (.int) false := ⟨R_P, T_P, 2, t_P, rfl, by decide, i_P, (gm 77 (by decide +kernel) (by decide +kernel)), t_P_ok, n_P, by decide +kernel, rfl⟩
theorem fl_A_97 : zF cls GG "WindowPlan" 97 3 2 (.int) false := ⟨R_K, T_K, 17, t_K, rfl, by decide, i_K, (gm 119 (by decide +kernel) (by decide +kernel)), t_K_ok, n_K, by decide +kernel, rfl⟩
theorem fl_A_100 : zF cls GG "WindowPlan" 100 3 4 (.int) false := ⟨R_K, T_K, 17, t_K, rfl, by decide, i_K, (gm 122 (by decide +kernel) (by decide +kernel)), t_K_ok, n_K, by decide +kernel, rfl⟩
theorem fl_A_103 : zF cls GG "WindowPlan" 103 5 6 (.int) false := ⟨R_A, T_A, 10, t_A, rfl, by decide, i_A, (gm 199 (by decide +kernel) (by decide +kernel)), t_A_ok, n_A, by decide +kernel, rfl⟩
theorem fl_A_106 : zF cls GG "WindowPlan" 106 3 16 (.int) false := ⟨R_K, T_K, 17, t_K, rfl, by decide, i_K, (gm 142 (by decide +kernel) (by decide +kernel)), t_K_ok, n_K, by decide +kernel, rfl⟩
theorem fl_A_109 : zF cls GG "WindowPlan" 109 3 6 (.int) false := ⟨R_K, T_K, 17, t_K, rfl, by decide, i_K, (gm 125 (by decide +kernel) (by decide +kernel)), t_K_ok, n_K, by decide +kernel, rfl⟩
theorem fl_A_127 : zF cls GG "WindowPlan" 127 1 1 (.int) false := ⟨R_O, T_O, 2, t_O, rfl, by decide, i_O, (gm 187 (by decide +kernel) (by decide +kernel)), t_O_ok, n_O, by decide +kernel, rfl⟩
theorem fl_A_134 : zF cls GG "WindowPlan" 134 5 7 (.int) false := ⟨R_A, T_A, 10, t_A, rfl, by decide, i_A, (gm 200 (by decide +kernel) (by decide +kernel)), t_A_ok, n_A, by decide +kernel, rfl⟩
theorem fl_A_137 : zF cls GG "WindowPlan" 137 5 8 (.int) false := ⟨R_A, T_A, 10, t_A, rfl, by decide, i_A, (gm 201 (by decide +kernel) (by decide +kernel)), t_A_ok, n_A, by decide +kernel, rfl⟩
theorem fl_A_140 : zF cls GG "WindowPlan" 140 5 9 (.long) false := ⟨R_A, T_A, 10, t_A, rfl, by decide, i_A, (gm 202 (by decide +kernel) (by decide +kernel)), t_A_ok, n_A, by decide +kernel, rfl⟩
theorem fl_A_156 : zF cls GG "WindowPlan" 156 3 13 (.int) false := ⟨R_K, T_K, 17, t_K, rfl, by decide, i_K, (gm 137 (by decide +kernel) (by decide +kernel)), t_K_ok, n_K, by decide +kernel, rfl⟩
theorem fl_A_159 : zF cls GG "WindowPlan" 159 3 11 (.int) false := ⟨R_K, T_K, 17, t_K, rfl, by decide, i_K, (gm 133 (by decide +kernel) (by decide +kernel)), t_K_ok, n_K, by decide +kernel, rfl⟩
theorem fl_A_166 : zF cls GG "WindowPlan" 166 3 12 (.int) false := ⟨R_K, T_K, 17, t_K, rfl, by decide, i_K, (gm 135 (by decide +kernel) (by decide +kernel)), t_K_ok, n_K, by decide +kernel, rfl⟩
theorem fl_A_181 : zF cls GG "WindowPlan" 181 2 1 (.array .int) true := ⟨R_G, T_G, 3, t_G, rfl, by decide, i_G, (gm 103 (by decide +kernel) (by decide +kernel)), t_G_ok, n_G, by decide +kernel, rfl⟩
theorem fl_A_184 : zF cls GG "WindowPlan" 184 3 7 (.int) false := ⟨R_K, T_K, 17, t_K, rfl, by decide, i_K, (gm 127 (by decide +kernel) (by decide +kernel)), t_K_ok, n_K, by decide +kernel, rfl⟩
theorem fl_A_187 : zF cls GG "WindowPlan" 187 2 0 (.array .int) true := ⟨R_G, T_G, 3, t_G, rfl, by decide, i_G, (gm 100 (by decide +kernel) (by decide +kernel)), t_G_ok, n_G, by decide +kernel, rfl⟩
theorem fl_A_206 : zF cls GG "WindowPlan" 206 3 0 (.int) true := ⟨R_K, T_K, 17, t_K, rfl, by decide, i_K, (gm 115 (by decide +kernel) (by decide +kernel)), t_K_ok, n_K, by decide +kernel, rfl⟩
theorem fl_A_209 : zF cls GG "WindowPlan" 209 3 10 (.int) false := ⟨R_K, T_K, 17, t_K, rfl, by decide, i_K, (gm 131 (by decide +kernel) (by decide +kernel)), t_K_ok, n_K, by decide +kernel, rfl⟩
theorem fl_A_216 : zF cls GG "WindowPlan" 216 3 15 (.int) false := ⟨R_K, T_K, 17, t_K, rfl, by decide, i_K, (gm 140 (by decide +kernel) (by decide +kernel)), t_K_ok, n_K, by decide +kernel, rfl⟩
theorem fl_P_9 : zF cls GG "WindowPlan$Partition" 9 0 0 (.int) false := ⟨R_P, T_P, 2, t_P, rfl, by decide, i_P, (gm 76 (by decide +kernel) (by decide +kernel)), t_P_ok, n_P, by decide +kernel, rfl⟩
theorem fl_P_15 : zF cls GG "WindowPlan$Partition" 15 0 1 (.int) false := ⟨R_P, T_P, 2, t_P, rfl, by decide, i_P, (gm 78 (by decide +kernel) (by decide +kernel)), t_P_ok, n_P, by decide +kernel, rfl⟩
theorem fl_O_9 : zF cls GG "WindowPlan$Port" 9 1 0 (.array .int) true := ⟨R_O, T_O, 2, t_O, rfl, by decide, i_O, (gm 185 (by decide +kernel) (by decide +kernel)), t_O_ok, n_O, by decide +kernel, rfl⟩
theorem fl_O_15 : zF cls GG "WindowPlan$Port" 15 1 1 (.int) false := ⟨R_O, T_O, 2, t_O, rfl, by decide, i_O, (gm 186 (by decide +kernel) (by decide +kernel)), t_O_ok, n_O, by decide +kernel, rfl⟩
theorem fl_G_9 : zF cls GG "WindowPlan$Program" 9 2 0 (.array .int) true := ⟨R_G, T_G, 3, t_G, rfl, by decide, i_G, (gm 98 (by decide +kernel) (by decide +kernel)), t_G_ok, n_G, by decide +kernel, rfl⟩
theorem fl_G_15 : zF cls GG "WindowPlan$Program" 15 2 1 (.array .int) true := ⟨R_G, T_G, 3, t_G, rfl, by decide, i_G, (gm 101 (by decide +kernel) (by decide +kernel)), t_G_ok, n_G, by decide +kernel, rfl⟩
theorem fl_G_18 : zF cls GG "WindowPlan$Program" 18 2 2 (.int) false := ⟨R_G, T_G, 3, t_G, rfl, by decide, i_G, (gm 104 (by decide +kernel) (by decide +kernel)), t_G_ok, n_G, by decide +kernel, rfl⟩
theorem fl_K_12 : zF cls GG "WindowPlan$Task" 12 3 1 (.object "WindowPlan$Program") true := ⟨R_K, T_K, 17, t_K, rfl, by decide, i_K, (gm 116 (by decide +kernel) (by decide +kernel)), t_K_ok, n_K, by decide +kernel, rfl⟩
theorem fl_K_18 : zF cls GG "WindowPlan$Task" 18 3 6 (.int) false := ⟨R_K, T_K, 17, t_K, rfl, by decide, i_K, (gm 124 (by decide +kernel) (by decide +kernel)), t_K_ok, n_K, by decide +kernel, rfl⟩
theorem fl_K_22 : zF cls GG "WindowPlan$Task" 22 3 11 (.int) false := ⟨R_K, T_K, 17, t_K, rfl, by decide, i_K, (gm 132 (by decide +kernel) (by decide +kernel)), t_K_ok, n_K, by decide +kernel, rfl⟩
theorem fl_K_25 : zF cls GG "WindowPlan$Task" 25 3 16 (.int) false := ⟨R_K, T_K, 17, t_K, rfl, by decide, i_K, (gm 141 (by decide +kernel) (by decide +kernel)), t_K_ok, n_K, by decide +kernel, rfl⟩
theorem fl_K_28 : zF cls GG "WindowPlan$Task" 28 3 0 (.int) true := ⟨R_K, T_K, 17, t_K, rfl, by decide, i_K, (gm 114 (by decide +kernel) (by decide +kernel)), t_K_ok, n_K, by decide +kernel, rfl⟩
theorem fl_K_31 : zF cls GG "WindowPlan$Task" 31 3 2 (.int) false := ⟨R_K, T_K, 17, t_K, rfl, by decide, i_K, (gm 118 (by decide +kernel) (by decide +kernel)), t_K_ok, n_K, by decide +kernel, rfl⟩
theorem fl_K_34 : zF cls GG "WindowPlan$Task" 34 3 3 (.int) false := ⟨R_K, T_K, 17, t_K, rfl, by decide, i_K, (gm 120 (by decide +kernel) (by decide +kernel)), t_K_ok, n_K, by decide +kernel, rfl⟩
theorem fl_K_37 : zF cls GG "WindowPlan$Task" 37 3 4 (.int) false := ⟨R_K, T_K, 17, t_K, rfl, by decide, i_K, (gm 121 (by decide +kernel) (by decide +kernel)), t_K_ok, n_K, by decide +kernel, rfl⟩
theorem fl_K_40 : zF cls GG "WindowPlan$Task" 40 3 5 (.int) false := ⟨R_K, T_K, 17, t_K, rfl, by decide, i_K, (gm 123 (by decide +kernel) (by decide +kernel)), t_K_ok, n_K, by decide +kernel, rfl⟩
theorem fl_K_43 : zF cls GG "WindowPlan$Task" 43 3 10 (.int) false := ⟨R_K, T_K, 17, t_K, rfl, by decide, i_K, (gm 130 (by decide +kernel) (by decide +kernel)), t_K_ok, n_K, by decide +kernel, rfl⟩
theorem fl_K_50 : zF cls GG "WindowPlan$Task" 50 2 2 (.int) false := ⟨R_G, T_G, 3, t_G, rfl, by decide, i_G, (gm 105 (by decide +kernel) (by decide +kernel)), t_G_ok, n_G, by decide +kernel, rfl⟩
theorem fl_K_59 : zF cls GG "WindowPlan$Task" 59 3 7 (.int) false := ⟨R_K, T_K, 17, t_K, rfl, by decide, i_K, (gm 126 (by decide +kernel) (by decide +kernel)), t_K_ok, n_K, by decide +kernel, rfl⟩
theorem fl_K_62 : zF cls GG "WindowPlan$Task" 62 3 8 (.int) false := ⟨R_K, T_K, 17, t_K, rfl, by decide, i_K, (gm 128 (by decide +kernel) (by decide +kernel)), t_K_ok, n_K, by decide +kernel, rfl⟩
theorem fl_K_65 : zF cls GG "WindowPlan$Task" 65 3 9 (.long) false := ⟨R_K, T_K, 17, t_K, rfl, by decide, i_K, (gm 129 (by decide +kernel) (by decide +kernel)), t_K_ok, n_K, by decide +kernel, rfl⟩
theorem fl_K_69 : zF cls GG "WindowPlan$Task" 69 3 14 (.int) false := ⟨R_K, T_K, 17, t_K, rfl, by decide, i_K, (gm 138 (by decide +kernel) (by decide +kernel)), t_K_ok, n_K, by decide +kernel, rfl⟩
theorem fl_K_75 : zF cls GG "WindowPlan$Task" 75 2 0 (.array .int) true := ⟨R_G, T_G, 3, t_G, rfl, by decide, i_G, (gm 99 (by decide +kernel) (by decide +kernel)), t_G_ok, n_G, by decide +kernel, rfl⟩
theorem fl_K_79 : zF cls GG "WindowPlan$Task" 79 2 1 (.array .int) true := ⟨R_G, T_G, 3, t_G, rfl, by decide, i_G, (gm 102 (by decide +kernel) (by decide +kernel)), t_G_ok, n_G, by decide +kernel, rfl⟩
theorem fl_K_82 : zF cls GG "WindowPlan$Task" 82 3 12 (.int) false := ⟨R_K, T_K, 17, t_K, rfl, by decide, i_K, (gm 134 (by decide +kernel) (by decide +kernel)), t_K_ok, n_K, by decide +kernel, rfl⟩
theorem fl_K_85 : zF cls GG "WindowPlan$Task" 85 3 13 (.int) false := ⟨R_K, T_K, 17, t_K, rfl, by decide, i_K, (gm 136 (by decide +kernel) (by decide +kernel)), t_K_ok, n_K, by decide +kernel, rfl⟩
theorem fl_K_88 : zF cls GG "WindowPlan$Task" 88 3 15 (.int) false := ⟨R_K, T_K, 17, t_K, rfl, by decide, i_K, (gm 139 (by decide +kernel) (by decide +kernel)), t_K_ok, n_K, by decide +kernel, rfl⟩
theorem fl_Wr_9 : zF cls GG "WindowPlan$WindowRow" 9 4 0 (.array .int) true := ⟨R_Wr, T_Wr, 3, t_Wr, rfl, by decide, i_Wr, (gm 57 (by decide +kernel) (by decide +kernel)), t_Wr_ok, n_Wr, by decide +kernel, rfl⟩
theorem fl_Wr_15 : zF cls GG "WindowPlan$WindowRow" 15 4 1 (.array .int) true := ⟨R_Wr, T_Wr, 3, t_Wr, rfl, by decide, i_Wr, (gm 58 (by decide +kernel) (by decide +kernel)), t_Wr_ok, n_Wr, by decide +kernel, rfl⟩
theorem fl_Wr_18 : zF cls GG "WindowPlan$WindowRow" 18 4 2 (.int) false := ⟨R_Wr, T_Wr, 3, t_Wr, rfl, by decide, i_Wr, (gm 59 (by decide +kernel) (by decide +kernel)), t_Wr_ok, n_Wr, by decide +kernel, rfl⟩
theorem fl_B_7 : zF cls GG "WindowPlanModel" 7 6 0 (.array .int) true := ⟨R_B, T_B, 31, t_B, rfl, by decide, i_B, (gm 438 (by decide +kernel) (by decide +kernel)), t_B_ok, n_B, by decide +kernel, rfl⟩
theorem fl_B_13 : zF cls GG "WindowPlanModel" 13 6 1 (.array .int) true := ⟨R_B, T_B, 31, t_B, rfl, by decide, i_B, (gm 439 (by decide +kernel) (by decide +kernel)), t_B_ok, n_B, by decide +kernel, rfl⟩
theorem fl_B_16 : zF cls GG "WindowPlanModel" 16 6 3 (.array .int) true := ⟨R_B, T_B, 31, t_B, rfl, by decide, i_B, (gm 441 (by decide +kernel) (by decide +kernel)), t_B_ok, n_B, by decide +kernel, rfl⟩
theorem fl_B_19 : zF cls GG "WindowPlanModel" 19 6 4 (.array .int) true := ⟨R_B, T_B, 31, t_B, rfl, by decide, i_B, (gm 442 (by decide +kernel) (by decide +kernel)), t_B_ok, n_B, by decide +kernel, rfl⟩
theorem fl_B_22 : zF cls GG "WindowPlanModel" 22 6 6 (.array .int) true := ⟨R_B, T_B, 31, t_B, rfl, by decide, i_B, (gm 444 (by decide +kernel) (by decide +kernel)), t_B_ok, n_B, by decide +kernel, rfl⟩
theorem fl_B_25 : zF cls GG "WindowPlanModel" 25 6 7 (.array .int) true := ⟨R_B, T_B, 31, t_B, rfl, by decide, i_B, (gm 445 (by decide +kernel) (by decide +kernel)), t_B_ok, n_B, by decide +kernel, rfl⟩
theorem fl_B_28 : zF cls GG "WindowPlanModel" 28 6 8 (.array .int) true := ⟨R_B, T_B, 31, t_B, rfl, by decide, i_B, (gm 446 (by decide +kernel) (by decide +kernel)), t_B_ok, n_B, by decide +kernel, rfl⟩
theorem fl_B_31 : zF cls GG "WindowPlanModel" 31 6 9 (.array .int) true := ⟨R_B, T_B, 31, t_B, rfl, by decide, i_B, (gm 447 (by decide +kernel) (by decide +kernel)), t_B_ok, n_B, by decide +kernel, rfl⟩
theorem fl_B_34 : zF cls GG "WindowPlanModel" 34 6 10 (.array .int) true := ⟨R_B, T_B, 31, t_B, rfl, by decide, i_B, (gm 448 (by decide +kernel) (by decide +kernel)), t_B_ok, n_B, by decide +kernel, rfl⟩
theorem fl_B_37 : zF cls GG "WindowPlanModel" 37 6 11 (.array .int) true := ⟨R_B, T_B, 31, t_B, rfl, by decide, i_B, (gm 449 (by decide +kernel) (by decide +kernel)), t_B_ok, n_B, by decide +kernel, rfl⟩
theorem fl_B_40 : zF cls GG "WindowPlanModel" 40 6 12 (.array .int) true := ⟨R_B, T_B, 31, t_B, rfl, by decide, i_B, (gm 450 (by decide +kernel) (by decide +kernel)), t_B_ok, n_B, by decide +kernel, rfl⟩
theorem fl_B_43 : zF cls GG "WindowPlanModel" 43 6 13 (.array .int) true := ⟨R_B, T_B, 31, t_B, rfl, by decide, i_B, (gm 451 (by decide +kernel) (by decide +kernel)), t_B_ok, n_B, by decide +kernel, rfl⟩
theorem fl_B_46 : zF cls GG "WindowPlanModel" 46 6 14 (.array .int) true := ⟨R_B, T_B, 31, t_B, rfl, by decide, i_B, (gm 452 (by decide +kernel) (by decide +kernel)), t_B_ok, n_B, by decide +kernel, rfl⟩
theorem fl_B_49 : zF cls GG "WindowPlanModel" 49 6 15 (.array .int) true := ⟨R_B, T_B, 31, t_B, rfl, by decide, i_B, (gm 453 (by decide +kernel) (by decide +kernel)), t_B_ok, n_B, by decide +kernel, rfl⟩
theorem fl_B_52 : zF cls GG "WindowPlanModel" 52 6 16 (.array .int) true := ⟨R_B, T_B, 31, t_B, rfl, by decide, i_B, (gm 454 (by decide +kernel) (by decide +kernel)), t_B_ok, n_B, by decide +kernel, rfl⟩
theorem fl_B_55 : zF cls GG "WindowPlanModel" 55 6 17 (.array .int) true := ⟨R_B, T_B, 31, t_B, rfl, by decide, i_B, (gm 455 (by decide +kernel) (by decide +kernel)), t_B_ok, n_B, by decide +kernel, rfl⟩
theorem fl_B_58 : zF cls GG "WindowPlanModel" 58 6 18 (.array .int) true := ⟨R_B, T_B, 31, t_B, rfl, by decide, i_B, (gm 456 (by decide +kernel) (by decide +kernel)), t_B_ok, n_B, by decide +kernel, rfl⟩
theorem fl_B_61 : zF cls GG "WindowPlanModel" 61 6 19 (.array .int) true := ⟨R_B, T_B, 31, t_B, rfl, by decide, i_B, (gm 457 (by decide +kernel) (by decide +kernel)), t_B_ok, n_B, by decide +kernel, rfl⟩
theorem fl_B_64 : zF cls GG "WindowPlanModel" 64 6 20 (.array .int) true := ⟨R_B, T_B, 31, t_B, rfl, by decide, i_B, (gm 458 (by decide +kernel) (by decide +kernel)), t_B_ok, n_B, by decide +kernel, rfl⟩
theorem fl_B_67 : zF cls GG "WindowPlanModel" 67 6 21 (.array .int) true := ⟨R_B, T_B, 31, t_B, rfl, by decide, i_B, (gm 459 (by decide +kernel) (by decide +kernel)), t_B_ok, n_B, by decide +kernel, rfl⟩
theorem fl_B_70 : zF cls GG "WindowPlanModel" 70 6 22 (.array .int) true := ⟨R_B, T_B, 31, t_B, rfl, by decide, i_B, (gm 460 (by decide +kernel) (by decide +kernel)), t_B_ok, n_B, by decide +kernel, rfl⟩
theorem fl_B_73 : zF cls GG "WindowPlanModel" 73 6 23 (.array .int) true := ⟨R_B, T_B, 31, t_B, rfl, by decide, i_B, (gm 461 (by decide +kernel) (by decide +kernel)), t_B_ok, n_B, by decide +kernel, rfl⟩
theorem fl_B_76 : zF cls GG "WindowPlanModel" 76 6 25 (.array .int) true := ⟨R_B, T_B, 31, t_B, rfl, by decide, i_B, (gm 463 (by decide +kernel) (by decide +kernel)), t_B_ok, n_B, by decide +kernel, rfl⟩
theorem fl_B_79 : zF cls GG "WindowPlanModel" 79 6 26 (.array .int) true := ⟨R_B, T_B, 31, t_B, rfl, by decide, i_B, (gm 464 (by decide +kernel) (by decide +kernel)), t_B_ok, n_B, by decide +kernel, rfl⟩
theorem fl_B_82 : zF cls GG "WindowPlanModel" 82 6 27 (.array .int) true := ⟨R_B, T_B, 31, t_B, rfl, by decide, i_B, (gm 465 (by decide +kernel) (by decide +kernel)), t_B_ok, n_B, by decide +kernel, rfl⟩
theorem fl_B_93 : zF cls GG "WindowPlanModel" 93 6 2 (.int) false := ⟨R_B, T_B, 31, t_B, rfl, by decide, i_B, (gm 440 (by decide +kernel) (by decide +kernel)), t_B_ok, n_B, by decide +kernel, rfl⟩
theorem fl_B_97 : zF cls GG "WindowPlanModel" 97 6 5 (.int) false := ⟨R_B, T_B, 31, t_B, rfl, by decide, i_B, (gm 443 (by decide +kernel) (by decide +kernel)), t_B_ok, n_B, by decide +kernel, rfl⟩
theorem fl_B_104 : zF cls GG "WindowPlanModel" 104 6 28 (.int) false := ⟨R_B, T_B, 31, t_B, rfl, by decide, i_B, (gm 466 (by decide +kernel) (by decide +kernel)), t_B_ok, n_B, by decide +kernel, rfl⟩
theorem fl_B_107 : zF cls GG "WindowPlanModel" 107 6 24 (.int) false := ⟨R_B, T_B, 31, t_B, rfl, by decide, i_B, (gm 462 (by decide +kernel) (by decide +kernel)), t_B_ok, n_B, by decide +kernel, rfl⟩
theorem fl_B_127 : zF cls GG "WindowPlanModel" 127 6 29 (.int) false := ⟨R_B, T_B, 31, t_B, rfl, by decide, i_B, (gm 467 (by decide +kernel) (by decide +kernel)), t_B_ok, n_B, by decide +kernel, rfl⟩
theorem fl_B_156 : zF cls GG "WindowPlanModel" 156 6 30 (.int) false := ⟨R_B, T_B, 31, t_B, rfl, by decide, i_B, (gm 468 (by decide +kernel) (by decide +kernel)), t_B_ok, n_B, by decide +kernel, rfl⟩
theorem zV_mk {Ts : List Cond} {own : String} {index : Nat} {C : String} {y : MethodName} {b : ByteArray} {nL : Nat} {ret : Option FieldType} {n : Nat} (hGG : GoodIn Ts Ts) (h1 : Cond.methodLink own index y ∈ Ts) (h2 : Cond.instanceMethod y ∈ Ts) (h3 : Cond.selects C y y ∈ Ts) (h4 : Cond.initialized C ∈ Ts) (h5 : Cond.code y b nL ret ∈ Ts) (hd : y.cls = C ∧ y.cls ≠ "java/lang/invoke/MethodHandle" ∧ y.cls ≠ "java/lang/invoke/VarHandle" ∧ (parseMethodDescriptor y.desc).map (fun d => d.parameters.length) = some n) : zV Ts own index C y b nL ret n := by
  refine ⟨fun w hw => ?_, hd⟩
  unfold wsV at hw
  simp only [List.cons_append, List.nil_append, List.mem_cons, List.not_mem_nil, or_false] at hw
  rcases hw with rfl | rfl | rfl | rfl | rfl
  · exact hGG _ h1
  · exact hGG _ h2
  · exact hGG _ h3
  · exact hGG _ h4
  · exact hGG _ h5
theorem zS_mk {Ts : List Cond} {own : String} {index : Nat} {y : MethodName} {b : ByteArray} {nL : Nat} {ret : Option FieldType} {n : Nat} (hGG : GoodIn Ts Ts) (h1 : Cond.methodLink own index y ∈ Ts) (h2 : Cond.static y ∈ Ts) (h4 : Cond.initialized y.cls ∈ Ts) (h5 : Cond.code y b nL ret ∈ Ts) (hd : y.cls ≠ "java/lang/invoke/MethodHandle" ∧ y.cls ≠ "java/lang/invoke/VarHandle" ∧ (parseMethodDescriptor y.desc).map (fun d => d.parameters.length) = some n) : zS Ts own index y b nL ret n := by
  refine ⟨fun w hw => ?_, hd⟩
  unfold va_wsS at hw
  simp only [List.cons_append, List.nil_append, List.mem_cons, List.not_mem_nil, or_false] at hw
  rcases hw with rfl | rfl | rfl | rfl
  · exact hGG _ h1
  · exact hGG _ h2
  · exact hGG _ h4
  · exact hGG _ h5
theorem cf_A_43 : zS GG "WindowPlan" 43 y_A_isPartition b_A_isPartition 1 (some (.boolean)) 1 := zS_mk GG_ok (gm 228 (by decide +kernel) (by decide +kernel)) (gm 229 (by decide +kernel) (by decide +kernel)) (gm 35 (by decide +kernel) (by decide +kernel)) (gm 230 (by decide +kernel) (by decide +kernel)) (by decide +kernel)
theorem cf_A_47 : zS GG "WindowPlan" 47 y_A_within b_A_within 3 (some (.boolean)) 3 := zS_mk GG_ok (gm 231 (by decide +kernel) (by decide +kernel)) (gm 232 (by decide +kernel) (by decide +kernel)) (gm 35 (by decide +kernel) (by decide +kernel)) (gm 233 (by decide +kernel) (by decide +kernel)) (by decide +kernel)
theorem cf_A_51 : zV GG "WindowPlan" 51 "WindowPlan" y_A_allOff b_A_allOff 2 (some (.boolean)) 0 := zV_mk GG_ok (gm 234 (by decide +kernel) (by decide +kernel)) (gm 236 (by decide +kernel) (by decide +kernel)) (gm 0 (by decide +kernel) (by decide +kernel)) (gm 35 (by decide +kernel) (by decide +kernel)) (gm 237 (by decide +kernel) (by decide +kernel)) (by decide +kernel)
theorem cf_A_59 : zV GG "WindowPlan" 59 "WindowPlan$WindowRow" y_Wr_add b_Wr_add 3 none 2 := zV_mk GG_ok (gm 238 (by decide +kernel) (by decide +kernel)) (gm 239 (by decide +kernel) (by decide +kernel)) (gm 240 (by decide +kernel) (by decide +kernel)) (gm 36 (by decide +kernel) (by decide +kernel)) (gm 241 (by decide +kernel) (by decide +kernel)) (by decide +kernel)
theorem cf_A_66 : zV GG "WindowPlan" 66 "WindowPlan$Task" y_K_define b_K_define 5 none 4 := zV_mk GG_ok (gm 246 (by decide +kernel) (by decide +kernel)) (gm 247 (by decide +kernel) (by decide +kernel)) (gm 248 (by decide +kernel) (by decide +kernel)) (gm 38 (by decide +kernel) (by decide +kernel)) (gm 249 (by decide +kernel) (by decide +kernel)) (by decide +kernel)
theorem cf_A_70 : zV GG "WindowPlan" 70 "WindowPlan" y_A_isProcess b_A_isProcess 2 (some (.boolean)) 1 := zV_mk GG_ok (gm 254 (by decide +kernel) (by decide +kernel)) (gm 256 (by decide +kernel) (by decide +kernel)) (gm 1 (by decide +kernel) (by decide +kernel)) (gm 35 (by decide +kernel) (by decide +kernel)) (gm 257 (by decide +kernel) (by decide +kernel)) (by decide +kernel)
theorem cf_A_73 : zS GG "WindowPlan" 73 y_A_isOrder b_A_isOrder 2 (some (.boolean)) 2 := zS_mk GG_ok (gm 258 (by decide +kernel) (by decide +kernel)) (gm 259 (by decide +kernel) (by decide +kernel)) (gm 35 (by decide +kernel) (by decide +kernel)) (gm 260 (by decide +kernel) (by decide +kernel)) (by decide +kernel)
theorem cf_A_84 : zV GG "WindowPlan" 84 "WindowPlan$Program" y_G_add b_G_add 3 none 2 := zV_mk GG_ok (gm 261 (by decide +kernel) (by decide +kernel)) (gm 262 (by decide +kernel) (by decide +kernel)) (gm 263 (by decide +kernel) (by decide +kernel)) (gm 39 (by decide +kernel) (by decide +kernel)) (gm 264 (by decide +kernel) (by decide +kernel)) (by decide +kernel)
theorem cf_A_88 : zV GG "WindowPlan" 88 "WindowPlan" y_A_isOn b_A_isOn 2 (some (.boolean)) 1 := zV_mk GG_ok (gm 273 (by decide +kernel) (by decide +kernel)) (gm 275 (by decide +kernel) (by decide +kernel)) (gm 2 (by decide +kernel) (by decide +kernel)) (gm 35 (by decide +kernel) (by decide +kernel)) (gm 276 (by decide +kernel) (by decide +kernel)) (by decide +kernel)
theorem cf_A_94 : zV GG "WindowPlan" 94 "WindowPlan" y_A_restAll b_A_restAll 3 none 1 := zV_mk GG_ok (gm 277 (by decide +kernel) (by decide +kernel)) (gm 279 (by decide +kernel) (by decide +kernel)) (gm 3 (by decide +kernel) (by decide +kernel)) (gm 35 (by decide +kernel) (by decide +kernel)) (gm 280 (by decide +kernel) (by decide +kernel)) (by decide +kernel)
theorem cf_A_112 : zV GG "WindowPlan" 112 "WindowPlan" y_A_newTurn b_A_newTurn 1 (some (.long)) 0 := zV_mk GG_ok (gm 289 (by decide +kernel) (by decide +kernel)) (gm 291 (by decide +kernel) (by decide +kernel)) (gm 4 (by decide +kernel) (by decide +kernel)) (gm 35 (by decide +kernel) (by decide +kernel)) (gm 292 (by decide +kernel) (by decide +kernel)) (by decide +kernel)
theorem cf_A_116 : zV GG "WindowPlan" 116 "WindowPlan$Task" y_K_release b_K_release 4 none 2 := zV_mk GG_ok (gm 293 (by decide +kernel) (by decide +kernel)) (gm 294 (by decide +kernel) (by decide +kernel)) (gm 295 (by decide +kernel) (by decide +kernel)) (gm 38 (by decide +kernel) (by decide +kernel)) (gm 296 (by decide +kernel) (by decide +kernel)) (by decide +kernel)
theorem cf_A_120 : zV GG "WindowPlan" 120 "WindowPlan" y_A_tick b_A_tick 1 none 0 := zV_mk GG_ok (gm 310 (by decide +kernel) (by decide +kernel)) (gm 312 (by decide +kernel) (by decide +kernel)) (gm 5 (by decide +kernel) (by decide +kernel)) (gm 35 (by decide +kernel) (by decide +kernel)) (gm 313 (by decide +kernel) (by decide +kernel)) (by decide +kernel)
theorem cf_A_123 : zV GG "WindowPlan" 123 "WindowPlan$Task" y_K_tell b_K_tell 2 (some (.int)) 1 := zV_mk GG_ok (gm 412 (by decide +kernel) (by decide +kernel)) (gm 413 (by decide +kernel) (by decide +kernel)) (gm 414 (by decide +kernel) (by decide +kernel)) (gm 38 (by decide +kernel) (by decide +kernel)) (gm 415 (by decide +kernel) (by decide +kernel)) (by decide +kernel)
theorem cf_A_128 : zV GG "WindowPlan" 128 "WindowPlan$WindowRow" y_Wr_partitionAt b_Wr_partitionAt 2 (some (.int)) 1 := zV_mk GG_ok (gm 331 (by decide +kernel) (by decide +kernel)) (gm 332 (by decide +kernel) (by decide +kernel)) (gm 333 (by decide +kernel) (by decide +kernel)) (gm 36 (by decide +kernel) (by decide +kernel)) (gm 334 (by decide +kernel) (by decide +kernel)) (by decide +kernel)
theorem cf_A_131 : zV GG "WindowPlan" 131 "WindowPlan$WindowRow" y_Wr_leftAt b_Wr_leftAt 2 (some (.int)) 1 := zV_mk GG_ok (gm 428 (by decide +kernel) (by decide +kernel)) (gm 429 (by decide +kernel) (by decide +kernel)) (gm 430 (by decide +kernel) (by decide +kernel)) (gm 36 (by decide +kernel) (by decide +kernel)) (gm 431 (by decide +kernel) (by decide +kernel)) (by decide +kernel)
theorem cf_A_144 : zV GG "WindowPlan" 144 "WindowPlan$Task" y_K_rest b_K_rest 1 none 0 := zV_mk GG_ok (gm 281 (by decide +kernel) (by decide +kernel)) (gm 282 (by decide +kernel) (by decide +kernel)) (gm 283 (by decide +kernel) (by decide +kernel)) (gm 38 (by decide +kernel) (by decide +kernel)) (gm 284 (by decide +kernel) (by decide +kernel)) (by decide +kernel)
theorem cf_A_147 : zV GG "WindowPlan" 147 "WindowPlan" y_A_releaseDue b_A_releaseDue 3 none 0 := zV_mk GG_ok (gm 314 (by decide +kernel) (by decide +kernel)) (gm 316 (by decide +kernel) (by decide +kernel)) (gm 6 (by decide +kernel) (by decide +kernel)) (gm 35 (by decide +kernel) (by decide +kernel)) (gm 317 (by decide +kernel) (by decide +kernel)) (by decide +kernel)
theorem cf_A_150 : zV GG "WindowPlan" 150 "WindowPlan" y_A_missDue b_A_missDue 3 none 0 := zV_mk GG_ok (gm 318 (by decide +kernel) (by decide +kernel)) (gm 320 (by decide +kernel) (by decide +kernel)) (gm 7 (by decide +kernel) (by decide +kernel)) (gm 35 (by decide +kernel) (by decide +kernel)) (gm 321 (by decide +kernel) (by decide +kernel)) (by decide +kernel)
theorem cf_A_153 : zV GG "WindowPlan" 153 "WindowPlan" y_A_giveProcessor b_A_giveProcessor 4 none 0 := zV_mk GG_ok (gm 327 (by decide +kernel) (by decide +kernel)) (gm 329 (by decide +kernel) (by decide +kernel)) (gm 9 (by decide +kernel) (by decide +kernel)) (gm 35 (by decide +kernel) (by decide +kernel)) (gm 330 (by decide +kernel) (by decide +kernel)) (by decide +kernel)
theorem cf_A_162 : zV GG "WindowPlan" 162 "WindowPlan" y_A_miss b_A_miss 3 none 1 := zV_mk GG_ok (gm 322 (by decide +kernel) (by decide +kernel)) (gm 324 (by decide +kernel) (by decide +kernel)) (gm 8 (by decide +kernel) (by decide +kernel)) (gm 35 (by decide +kernel) (by decide +kernel)) (gm 325 (by decide +kernel) (by decide +kernel)) (by decide +kernel)
theorem cf_A_169 : zV GG "WindowPlan" 169 "WindowPlan$Task" y_K_beginAnew b_K_beginAnew 3 none 1 := zV_mk GG_ok (gm 326 (by decide +kernel) (by decide +kernel)) (gm 298 (by decide +kernel) (by decide +kernel)) (gm 299 (by decide +kernel) (by decide +kernel)) (gm 38 (by decide +kernel) (by decide +kernel)) (gm 300 (by decide +kernel) (by decide +kernel)) (by decide +kernel)
theorem cf_A_173 : zV GG "WindowPlan" 173 "WindowPlan" y_A_firstReady b_A_firstReady 5 (some (.object "WindowPlan$Task")) 1 := zV_mk GG_ok (gm 346 (by decide +kernel) (by decide +kernel)) (gm 348 (by decide +kernel) (by decide +kernel)) (gm 12 (by decide +kernel) (by decide +kernel)) (gm 35 (by decide +kernel) (by decide +kernel)) (gm 349 (by decide +kernel) (by decide +kernel)) (by decide +kernel)
theorem cf_A_177 : zV GG "WindowPlan" 177 "WindowPlan" y_A_doOrder b_A_doOrder 3 (some (.boolean)) 1 := zV_mk GG_ok (gm 354 (by decide +kernel) (by decide +kernel)) (gm 356 (by decide +kernel) (by decide +kernel)) (gm 13 (by decide +kernel) (by decide +kernel)) (gm 35 (by decide +kernel) (by decide +kernel)) (gm 357 (by decide +kernel) (by decide +kernel)) (by decide +kernel)
theorem cf_A_190 : zV GG "WindowPlan" 190 "WindowPlan$Task" y_K_work b_K_work 2 none 1 := zV_mk GG_ok (gm 358 (by decide +kernel) (by decide +kernel)) (gm 359 (by decide +kernel) (by decide +kernel)) (gm 360 (by decide +kernel) (by decide +kernel)) (gm 38 (by decide +kernel) (by decide +kernel)) (gm 361 (by decide +kernel) (by decide +kernel)) (by decide +kernel)
theorem cf_A_193 : zV GG "WindowPlan" 193 "WindowPlan" y_A_send b_A_send 5 none 2 := zV_mk GG_ok (gm 366 (by decide +kernel) (by decide +kernel)) (gm 368 (by decide +kernel) (by decide +kernel)) (gm 14 (by decide +kernel) (by decide +kernel)) (gm 35 (by decide +kernel) (by decide +kernel)) (gm 369 (by decide +kernel) (by decide +kernel)) (by decide +kernel)
theorem cf_A_197 : zV GG "WindowPlan" 197 "WindowPlan" y_A_take b_A_take 3 none 2 := zV_mk GG_ok (gm 384 (by decide +kernel) (by decide +kernel)) (gm 386 (by decide +kernel) (by decide +kernel)) (gm 16 (by decide +kernel) (by decide +kernel)) (gm 35 (by decide +kernel) (by decide +kernel)) (gm 387 (by decide +kernel) (by decide +kernel)) (by decide +kernel)
theorem cf_A_200 : zV GG "WindowPlan" 200 "WindowPlan" y_A_up b_A_up 4 none 2 := zV_mk GG_ok (gm 396 (by decide +kernel) (by decide +kernel)) (gm 398 (by decide +kernel) (by decide +kernel)) (gm 17 (by decide +kernel) (by decide +kernel)) (gm 35 (by decide +kernel) (by decide +kernel)) (gm 399 (by decide +kernel) (by decide +kernel)) (by decide +kernel)
theorem cf_A_203 : zV GG "WindowPlan" 203 "WindowPlan" y_A_down b_A_down 3 none 2 := zV_mk GG_ok (gm 400 (by decide +kernel) (by decide +kernel)) (gm 402 (by decide +kernel) (by decide +kernel)) (gm 18 (by decide +kernel) (by decide +kernel)) (gm 35 (by decide +kernel) (by decide +kernel)) (gm 403 (by decide +kernel) (by decide +kernel)) (by decide +kernel)
theorem cf_A_212 : zV GG "WindowPlan" 212 "WindowPlan" y_A_firstWaiting b_A_firstWaiting 6 (some (.object "WindowPlan$Task")) 2 := zV_mk GG_ok (gm 370 (by decide +kernel) (by decide +kernel)) (gm 372 (by decide +kernel) (by decide +kernel)) (gm 15 (by decide +kernel) (by decide +kernel)) (gm 35 (by decide +kernel) (by decide +kernel)) (gm 373 (by decide +kernel) (by decide +kernel)) (by decide +kernel)
theorem cf_A_219 : zV GG "WindowPlan" 219 "WindowPlan$Task" y_K_becomeReady b_K_becomeReady 3 none 1 := zV_mk GG_ok (gm 378 (by decide +kernel) (by decide +kernel)) (gm 302 (by decide +kernel) (by decide +kernel)) (gm 303 (by decide +kernel) (by decide +kernel)) (gm 38 (by decide +kernel) (by decide +kernel)) (gm 304 (by decide +kernel) (by decide +kernel)) (by decide +kernel)
theorem cf_A_222 : zV GG "WindowPlan" 222 "WindowPlan$Task" y_K_advance b_K_advance 1 none 0 := zV_mk GG_ok (gm 379 (by decide +kernel) (by decide +kernel)) (gm 363 (by decide +kernel) (by decide +kernel)) (gm 364 (by decide +kernel) (by decide +kernel)) (gm 38 (by decide +kernel) (by decide +kernel)) (gm 365 (by decide +kernel) (by decide +kernel)) (by decide +kernel)
theorem cf_A_225 : zV GG "WindowPlan" 225 "WindowPlan$Port" y_O_put b_O_put 2 none 1 := zV_mk GG_ok (gm 380 (by decide +kernel) (by decide +kernel)) (gm 381 (by decide +kernel) (by decide +kernel)) (gm 382 (by decide +kernel) (by decide +kernel)) (gm 40 (by decide +kernel) (by decide +kernel)) (gm 383 (by decide +kernel) (by decide +kernel)) (by decide +kernel)
theorem cf_A_228 : zV GG "WindowPlan" 228 "WindowPlan$Task" y_K_becomeWaiting b_K_becomeWaiting 3 none 1 := zV_mk GG_ok (gm 388 (by decide +kernel) (by decide +kernel)) (gm 389 (by decide +kernel) (by decide +kernel)) (gm 390 (by decide +kernel) (by decide +kernel)) (gm 38 (by decide +kernel) (by decide +kernel)) (gm 391 (by decide +kernel) (by decide +kernel)) (by decide +kernel)
theorem cf_A_231 : zV GG "WindowPlan" 231 "WindowPlan$Port" y_O_takeOldest b_O_takeOldest 3 (some (.int)) 0 := zV_mk GG_ok (gm 392 (by decide +kernel) (by decide +kernel)) (gm 393 (by decide +kernel) (by decide +kernel)) (gm 394 (by decide +kernel) (by decide +kernel)) (gm 40 (by decide +kernel) (by decide +kernel)) (gm 395 (by decide +kernel) (by decide +kernel)) (by decide +kernel)
theorem cf_A_235 : zV GG "WindowPlan" 235 "WindowPlan$Task" y_K_comesBefore b_K_comesBefore 2 (some (.boolean)) 1 := zV_mk GG_ok (gm 350 (by decide +kernel) (by decide +kernel)) (gm 351 (by decide +kernel) (by decide +kernel)) (gm 352 (by decide +kernel) (by decide +kernel)) (gm 38 (by decide +kernel) (by decide +kernel)) (gm 353 (by decide +kernel) (by decide +kernel)) (by decide +kernel)
theorem cf_A_238 : zV GG "WindowPlan" 238 "WindowPlan$Task" y_K_waitsAt b_K_waitsAt 3 (some (.boolean)) 2 := zV_mk GG_ok (gm 374 (by decide +kernel) (by decide +kernel)) (gm 375 (by decide +kernel) (by decide +kernel)) (gm 376 (by decide +kernel) (by decide +kernel)) (gm 38 (by decide +kernel) (by decide +kernel)) (gm 377 (by decide +kernel) (by decide +kernel)) (by decide +kernel)
theorem cf_K_46 : zV GG "WindowPlan$Task" 46 "WindowPlan$Task" y_K_beginAnew b_K_beginAnew 3 none 1 := zV_mk GG_ok (gm 297 (by decide +kernel) (by decide +kernel)) (gm 298 (by decide +kernel) (by decide +kernel)) (gm 299 (by decide +kernel) (by decide +kernel)) (gm 38 (by decide +kernel) (by decide +kernel)) (gm 300 (by decide +kernel) (by decide +kernel)) (by decide +kernel)
theorem cf_K_53 : zV GG "WindowPlan$Task" 53 "WindowPlan$Task" y_K_rest b_K_rest 1 none 0 := zV_mk GG_ok (gm 305 (by decide +kernel) (by decide +kernel)) (gm 282 (by decide +kernel) (by decide +kernel)) (gm 283 (by decide +kernel) (by decide +kernel)) (gm 38 (by decide +kernel) (by decide +kernel)) (gm 284 (by decide +kernel) (by decide +kernel)) (by decide +kernel)
theorem cf_K_56 : zV GG "WindowPlan$Task" 56 "WindowPlan$Task" y_K_becomeReady b_K_becomeReady 3 none 1 := zV_mk GG_ok (gm 301 (by decide +kernel) (by decide +kernel)) (gm 302 (by decide +kernel) (by decide +kernel)) (gm 303 (by decide +kernel) (by decide +kernel)) (gm 38 (by decide +kernel) (by decide +kernel)) (gm 304 (by decide +kernel) (by decide +kernel)) (by decide +kernel)
theorem cf_K_72 : zV GG "WindowPlan$Task" 72 "WindowPlan$Task" y_K_advance b_K_advance 1 none 0 := zV_mk GG_ok (gm 362 (by decide +kernel) (by decide +kernel)) (gm 363 (by decide +kernel) (by decide +kernel)) (gm 364 (by decide +kernel) (by decide +kernel)) (gm 38 (by decide +kernel) (by decide +kernel)) (gm 365 (by decide +kernel) (by decide +kernel)) (by decide +kernel)
theorem cf_Wr_22 : zV GG "WindowPlan$WindowRow" 22 "WindowPlan$WindowRow" y_Wr_offsetAt b_Wr_offsetAt 2 (some (.int)) 1 := zV_mk GG_ok (gm 335 (by decide +kernel) (by decide +kernel)) (gm 337 (by decide +kernel) (by decide +kernel)) (gm 10 (by decide +kernel) (by decide +kernel)) (gm 36 (by decide +kernel) (by decide +kernel)) (gm 338 (by decide +kernel) (by decide +kernel)) (by decide +kernel)
theorem cf_Wr_26 : zV GG "WindowPlan$WindowRow" 26 "WindowPlan$WindowRow" y_Wr_indexOf b_Wr_indexOf 3 (some (.int)) 1 := zV_mk GG_ok (gm 342 (by decide +kernel) (by decide +kernel)) (gm 344 (by decide +kernel) (by decide +kernel)) (gm 11 (by decide +kernel) (by decide +kernel)) (gm 36 (by decide +kernel) (by decide +kernel)) (gm 345 (by decide +kernel) (by decide +kernel)) (by decide +kernel)
theorem cf_Wr_29 : zS GG "WindowPlan$WindowRow" 29 y_J_floorMod b_J_floorMod 3 (some (.int)) 2 := zS_mk GG_ok (gm 339 (by decide +kernel) (by decide +kernel)) (gm 340 (by decide +kernel) (by decide +kernel)) (gm 42 (by decide +kernel) (by decide +kernel)) (gm 341 (by decide +kernel) (by decide +kernel)) (by decide +kernel)
theorem cf_Lw_13 : zV GG "WindowPlanLaw" 13 "WindowPlan" y_A_window b_A_window 3 (some (.int)) 2 := zV_mk GG_ok (gm 224 (by decide +kernel) (by decide +kernel)) (gm 225 (by decide +kernel) (by decide +kernel)) (gm 226 (by decide +kernel) (by decide +kernel)) (gm 35 (by decide +kernel) (by decide +kernel)) (gm 227 (by decide +kernel) (by decide +kernel)) (by decide +kernel)
theorem cf_Lw_17 : zV GG "WindowPlanLaw" 17 "WindowPlanModel" y_B_window b_B_window 3 (some (.int)) 2 := zV_mk GG_ok (gm 532 (by decide +kernel) (by decide +kernel)) (gm 533 (by decide +kernel) (by decide +kernel)) (gm 534 (by decide +kernel) (by decide +kernel)) (gm 41 (by decide +kernel) (by decide +kernel)) (gm 535 (by decide +kernel) (by decide +kernel)) (by decide +kernel)
theorem cf_Lw_18 : zV GG "WindowPlanLaw" 18 "WindowPlan" y_A_process b_A_process 5 (some (.int)) 4 := zV_mk GG_ok (gm 242 (by decide +kernel) (by decide +kernel)) (gm 243 (by decide +kernel) (by decide +kernel)) (gm 244 (by decide +kernel) (by decide +kernel)) (gm 35 (by decide +kernel) (by decide +kernel)) (gm 245 (by decide +kernel) (by decide +kernel)) (by decide +kernel)
theorem cf_Lw_22 : zV GG "WindowPlanLaw" 22 "WindowPlanModel" y_B_process b_B_process 6 (some (.int)) 4 := zV_mk GG_ok (gm 543 (by decide +kernel) (by decide +kernel)) (gm 544 (by decide +kernel) (by decide +kernel)) (gm 545 (by decide +kernel) (by decide +kernel)) (gm 41 (by decide +kernel) (by decide +kernel)) (gm 546 (by decide +kernel) (by decide +kernel)) (by decide +kernel)
theorem cf_Lw_23 : zV GG "WindowPlanLaw" 23 "WindowPlan" y_A_order b_A_order 5 (some (.int)) 3 := zV_mk GG_ok (gm 250 (by decide +kernel) (by decide +kernel)) (gm 251 (by decide +kernel) (by decide +kernel)) (gm 252 (by decide +kernel) (by decide +kernel)) (gm 35 (by decide +kernel) (by decide +kernel)) (gm 253 (by decide +kernel) (by decide +kernel)) (by decide +kernel)
theorem cf_Lw_27 : zV GG "WindowPlanLaw" 27 "WindowPlanModel" y_B_order b_B_order 4 (some (.int)) 3 := zV_mk GG_ok (gm 547 (by decide +kernel) (by decide +kernel)) (gm 548 (by decide +kernel) (by decide +kernel)) (gm 549 (by decide +kernel) (by decide +kernel)) (gm 41 (by decide +kernel) (by decide +kernel)) (gm 550 (by decide +kernel) (by decide +kernel)) (by decide +kernel)
theorem cf_Lw_28 : zV GG "WindowPlanLaw" 28 "WindowPlan" y_A_action b_A_action 3 (some (.int)) 2 := zV_mk GG_ok (gm 265 (by decide +kernel) (by decide +kernel)) (gm 266 (by decide +kernel) (by decide +kernel)) (gm 267 (by decide +kernel) (by decide +kernel)) (gm 35 (by decide +kernel) (by decide +kernel)) (gm 268 (by decide +kernel) (by decide +kernel)) (by decide +kernel)
theorem cf_Lw_31 : zV GG "WindowPlanLaw" 31 "WindowPlanModel" y_B_action b_B_action 3 (some (.int)) 2 := zV_mk GG_ok (gm 551 (by decide +kernel) (by decide +kernel)) (gm 552 (by decide +kernel) (by decide +kernel)) (gm 553 (by decide +kernel) (by decide +kernel)) (gm 41 (by decide +kernel) (by decide +kernel)) (gm 554 (by decide +kernel) (by decide +kernel)) (by decide +kernel)
theorem cf_Lw_32 : zV GG "WindowPlanLaw" 32 "WindowPlan" y_A_on b_A_on 3 (some (.int)) 1 := zV_mk GG_ok (gm 269 (by decide +kernel) (by decide +kernel)) (gm 270 (by decide +kernel) (by decide +kernel)) (gm 271 (by decide +kernel) (by decide +kernel)) (gm 35 (by decide +kernel) (by decide +kernel)) (gm 272 (by decide +kernel) (by decide +kernel)) (by decide +kernel)
theorem cf_Lw_36 : zV GG "WindowPlanLaw" 36 "WindowPlanModel" y_B_on b_B_on 3 (some (.int)) 1 := zV_mk GG_ok (gm 555 (by decide +kernel) (by decide +kernel)) (gm 556 (by decide +kernel) (by decide +kernel)) (gm 557 (by decide +kernel) (by decide +kernel)) (gm 41 (by decide +kernel) (by decide +kernel)) (gm 558 (by decide +kernel) (by decide +kernel)) (by decide +kernel)
theorem cf_Lw_37 : zV GG "WindowPlanLaw" 37 "WindowPlan" y_A_start b_A_start 3 (some (.int)) 1 := zV_mk GG_ok (gm 285 (by decide +kernel) (by decide +kernel)) (gm 286 (by decide +kernel) (by decide +kernel)) (gm 287 (by decide +kernel) (by decide +kernel)) (gm 35 (by decide +kernel) (by decide +kernel)) (gm 288 (by decide +kernel) (by decide +kernel)) (by decide +kernel)
theorem cf_Lw_40 : zV GG "WindowPlanLaw" 40 "WindowPlanModel" y_B_start b_B_start 2 (some (.int)) 1 := zV_mk GG_ok (gm 563 (by decide +kernel) (by decide +kernel)) (gm 564 (by decide +kernel) (by decide +kernel)) (gm 565 (by decide +kernel) (by decide +kernel)) (gm 41 (by decide +kernel) (by decide +kernel)) (gm 566 (by decide +kernel) (by decide +kernel)) (by decide +kernel)
theorem cf_Lw_41 : zV GG "WindowPlanLaw" 41 "WindowPlan" y_A_run b_A_run 3 (some (.int)) 1 := zV_mk GG_ok (gm 306 (by decide +kernel) (by decide +kernel)) (gm 307 (by decide +kernel) (by decide +kernel)) (gm 308 (by decide +kernel) (by decide +kernel)) (gm 35 (by decide +kernel) (by decide +kernel)) (gm 309 (by decide +kernel) (by decide +kernel)) (by decide +kernel)
theorem cf_Lw_44 : zV GG "WindowPlanLaw" 44 "WindowPlanModel" y_B_run b_B_run 6 (some (.int)) 1 := zV_mk GG_ok (gm 575 (by decide +kernel) (by decide +kernel)) (gm 576 (by decide +kernel) (by decide +kernel)) (gm 577 (by decide +kernel) (by decide +kernel)) (gm 41 (by decide +kernel) (by decide +kernel)) (gm 578 (by decide +kernel) (by decide +kernel)) (by decide +kernel)
theorem cf_Lw_45 : zV GG "WindowPlanLaw" 45 "WindowPlan" y_A_partition b_A_partition 2 (some (.int)) 1 := zV_mk GG_ok (gm 404 (by decide +kernel) (by decide +kernel)) (gm 405 (by decide +kernel) (by decide +kernel)) (gm 406 (by decide +kernel) (by decide +kernel)) (gm 35 (by decide +kernel) (by decide +kernel)) (gm 407 (by decide +kernel) (by decide +kernel)) (by decide +kernel)
theorem cf_Lw_48 : zV GG "WindowPlanLaw" 48 "WindowPlanModel" y_B_partition b_B_partition 2 (some (.int)) 1 := zV_mk GG_ok (gm 623 (by decide +kernel) (by decide +kernel)) (gm 624 (by decide +kernel) (by decide +kernel)) (gm 625 (by decide +kernel) (by decide +kernel)) (gm 41 (by decide +kernel) (by decide +kernel)) (gm 626 (by decide +kernel) (by decide +kernel)) (by decide +kernel)
theorem cf_Lw_49 : zV GG "WindowPlanLaw" 49 "WindowPlan" y_A_state b_A_state 3 (some (.int)) 2 := zV_mk GG_ok (gm 408 (by decide +kernel) (by decide +kernel)) (gm 409 (by decide +kernel) (by decide +kernel)) (gm 410 (by decide +kernel) (by decide +kernel)) (gm 35 (by decide +kernel) (by decide +kernel)) (gm 411 (by decide +kernel) (by decide +kernel)) (by decide +kernel)
theorem cf_Lw_52 : zV GG "WindowPlanLaw" 52 "WindowPlanModel" y_B_state b_B_state 3 (some (.int)) 2 := zV_mk GG_ok (gm 627 (by decide +kernel) (by decide +kernel)) (gm 628 (by decide +kernel) (by decide +kernel)) (gm 629 (by decide +kernel) (by decide +kernel)) (gm 41 (by decide +kernel) (by decide +kernel)) (gm 630 (by decide +kernel) (by decide +kernel)) (by decide +kernel)
theorem cf_Lw_53 : zV GG "WindowPlanLaw" 53 "WindowPlan" y_A_port b_A_port 2 (some (.int)) 1 := zV_mk GG_ok (gm 416 (by decide +kernel) (by decide +kernel)) (gm 417 (by decide +kernel) (by decide +kernel)) (gm 418 (by decide +kernel) (by decide +kernel)) (gm 35 (by decide +kernel) (by decide +kernel)) (gm 419 (by decide +kernel) (by decide +kernel)) (by decide +kernel)
theorem cf_Lw_56 : zV GG "WindowPlanLaw" 56 "WindowPlanModel" y_B_port b_B_port 2 (some (.int)) 1 := zV_mk GG_ok (gm 631 (by decide +kernel) (by decide +kernel)) (gm 632 (by decide +kernel) (by decide +kernel)) (gm 633 (by decide +kernel) (by decide +kernel)) (gm 41 (by decide +kernel) (by decide +kernel)) (gm 634 (by decide +kernel) (by decide +kernel)) (by decide +kernel)
theorem cf_Lw_57 : zV GG "WindowPlanLaw" 57 "WindowPlan" y_A_semaphore b_A_semaphore 2 (some (.int)) 1 := zV_mk GG_ok (gm 420 (by decide +kernel) (by decide +kernel)) (gm 421 (by decide +kernel) (by decide +kernel)) (gm 422 (by decide +kernel) (by decide +kernel)) (gm 35 (by decide +kernel) (by decide +kernel)) (gm 423 (by decide +kernel) (by decide +kernel)) (by decide +kernel)
theorem cf_Lw_60 : zV GG "WindowPlanLaw" 60 "WindowPlanModel" y_B_semaphore b_B_semaphore 2 (some (.int)) 1 := zV_mk GG_ok (gm 635 (by decide +kernel) (by decide +kernel)) (gm 636 (by decide +kernel) (by decide +kernel)) (gm 637 (by decide +kernel) (by decide +kernel)) (gm 41 (by decide +kernel) (by decide +kernel)) (gm 638 (by decide +kernel) (by decide +kernel)) (by decide +kernel)
theorem cf_Lw_61 : zV GG "WindowPlanLaw" 61 "WindowPlan" y_A_count b_A_count 2 (some (.int)) 1 := zV_mk GG_ok (gm 424 (by decide +kernel) (by decide +kernel)) (gm 425 (by decide +kernel) (by decide +kernel)) (gm 426 (by decide +kernel) (by decide +kernel)) (gm 35 (by decide +kernel) (by decide +kernel)) (gm 427 (by decide +kernel) (by decide +kernel)) (by decide +kernel)
theorem cf_Lw_64 : zV GG "WindowPlanLaw" 64 "WindowPlanModel" y_B_count b_B_count 2 (some (.int)) 1 := zV_mk GG_ok (gm 639 (by decide +kernel) (by decide +kernel)) (gm 640 (by decide +kernel) (by decide +kernel)) (gm 641 (by decide +kernel) (by decide +kernel)) (gm 41 (by decide +kernel) (by decide +kernel)) (gm 642 (by decide +kernel) (by decide +kernel)) (by decide +kernel)
theorem cf_B_85 : zS GG "WindowPlanModel" 85 y_B_in b_B_in 3 (some (.boolean)) 3 := zS_mk GG_ok (gm 536 (by decide +kernel) (by decide +kernel)) (gm 537 (by decide +kernel) (by decide +kernel)) (gm 41 (by decide +kernel) (by decide +kernel)) (gm 538 (by decide +kernel) (by decide +kernel)) (by decide +kernel)
theorem cf_B_89 : zV GG "WindowPlanModel" 89 "WindowPlanModel" y_B_allOff b_B_allOff 1 (some (.boolean)) 0 := zV_mk GG_ok (gm 539 (by decide +kernel) (by decide +kernel)) (gm 541 (by decide +kernel) (by decide +kernel)) (gm 19 (by decide +kernel) (by decide +kernel)) (gm 41 (by decide +kernel) (by decide +kernel)) (gm 542 (by decide +kernel) (by decide +kernel)) (by decide +kernel)
theorem cf_B_100 : zV GG "WindowPlanModel" 100 "WindowPlanModel" y_B_rest b_B_rest 2 none 1 := zV_mk GG_ok (gm 559 (by decide +kernel) (by decide +kernel)) (gm 561 (by decide +kernel) (by decide +kernel)) (gm 20 (by decide +kernel) (by decide +kernel)) (gm 41 (by decide +kernel) (by decide +kernel)) (gm 562 (by decide +kernel) (by decide +kernel)) (by decide +kernel)
theorem cf_B_110 : zV GG "WindowPlanModel" 110 "WindowPlanModel" y_B_become b_B_become 3 none 2 := zV_mk GG_ok (gm 571 (by decide +kernel) (by decide +kernel)) (gm 573 (by decide +kernel) (by decide +kernel)) (gm 22 (by decide +kernel) (by decide +kernel)) (gm 41 (by decide +kernel) (by decide +kernel)) (gm 574 (by decide +kernel) (by decide +kernel)) (by decide +kernel)
theorem cf_B_114 : zV GG "WindowPlanModel" 114 "WindowPlanModel" y_B_release b_B_release 2 none 1 := zV_mk GG_ok (gm 567 (by decide +kernel) (by decide +kernel)) (gm 569 (by decide +kernel) (by decide +kernel)) (gm 21 (by decide +kernel) (by decide +kernel)) (gm 41 (by decide +kernel) (by decide +kernel)) (gm 570 (by decide +kernel) (by decide +kernel)) (by decide +kernel)
theorem cf_B_117 : zV GG "WindowPlanModel" 117 "WindowPlanModel" y_B_advance b_B_advance 2 none 1 := zV_mk GG_ok (gm 599 (by decide +kernel) (by decide +kernel)) (gm 601 (by decide +kernel) (by decide +kernel)) (gm 28 (by decide +kernel) (by decide +kernel)) (gm 41 (by decide +kernel) (by decide +kernel)) (gm 602 (by decide +kernel) (by decide +kernel)) (by decide +kernel)
theorem cf_B_120 : zV GG "WindowPlanModel" 120 "WindowPlanModel" y_B_first b_B_first 6 (some (.int)) 2 := zV_mk GG_ok (gm 591 (by decide +kernel) (by decide +kernel)) (gm 593 (by decide +kernel) (by decide +kernel)) (gm 26 (by decide +kernel) (by decide +kernel)) (gm 41 (by decide +kernel) (by decide +kernel)) (gm 594 (by decide +kernel) (by decide +kernel)) (by decide +kernel)
theorem cf_B_124 : zV GG "WindowPlanModel" 124 "WindowPlanModel" y_B_wake b_B_wake 2 none 1 := zV_mk GG_ok (gm 607 (by decide +kernel) (by decide +kernel)) (gm 609 (by decide +kernel) (by decide +kernel)) (gm 30 (by decide +kernel) (by decide +kernel)) (gm 41 (by decide +kernel) (by decide +kernel)) (gm 610 (by decide +kernel) (by decide +kernel)) (by decide +kernel)
theorem cf_B_130 : zV GG "WindowPlanModel" 130 "WindowPlanModel" y_B_send b_B_send 5 none 2 := zV_mk GG_ok (gm 603 (by decide +kernel) (by decide +kernel)) (gm 605 (by decide +kernel) (by decide +kernel)) (gm 29 (by decide +kernel) (by decide +kernel)) (gm 41 (by decide +kernel) (by decide +kernel)) (gm 606 (by decide +kernel) (by decide +kernel)) (by decide +kernel)
theorem cf_B_133 : zV GG "WindowPlanModel" 133 "WindowPlanModel" y_B_take b_B_take 4 none 2 := zV_mk GG_ok (gm 611 (by decide +kernel) (by decide +kernel)) (gm 613 (by decide +kernel) (by decide +kernel)) (gm 31 (by decide +kernel) (by decide +kernel)) (gm 41 (by decide +kernel) (by decide +kernel)) (gm 614 (by decide +kernel) (by decide +kernel)) (by decide +kernel)
theorem cf_B_136 : zV GG "WindowPlanModel" 136 "WindowPlanModel" y_B_up b_B_up 4 none 2 := zV_mk GG_ok (gm 615 (by decide +kernel) (by decide +kernel)) (gm 617 (by decide +kernel) (by decide +kernel)) (gm 32 (by decide +kernel) (by decide +kernel)) (gm 41 (by decide +kernel) (by decide +kernel)) (gm 618 (by decide +kernel) (by decide +kernel)) (by decide +kernel)
theorem cf_B_139 : zV GG "WindowPlanModel" 139 "WindowPlanModel" y_B_down b_B_down 3 none 2 := zV_mk GG_ok (gm 619 (by decide +kernel) (by decide +kernel)) (gm 621 (by decide +kernel) (by decide +kernel)) (gm 33 (by decide +kernel) (by decide +kernel)) (gm 41 (by decide +kernel) (by decide +kernel)) (gm 622 (by decide +kernel) (by decide +kernel)) (by decide +kernel)
theorem cf_B_142 : zV GG "WindowPlanModel" 142 "WindowPlanModel" y_B_releases b_B_releases 2 none 0 := zV_mk GG_ok (gm 579 (by decide +kernel) (by decide +kernel)) (gm 581 (by decide +kernel) (by decide +kernel)) (gm 23 (by decide +kernel) (by decide +kernel)) (gm 41 (by decide +kernel) (by decide +kernel)) (gm 582 (by decide +kernel) (by decide +kernel)) (by decide +kernel)
theorem cf_B_145 : zV GG "WindowPlanModel" 145 "WindowPlanModel" y_B_monitor b_B_monitor 4 none 0 := zV_mk GG_ok (gm 583 (by decide +kernel) (by decide +kernel)) (gm 585 (by decide +kernel) (by decide +kernel)) (gm 24 (by decide +kernel) (by decide +kernel)) (gm 41 (by decide +kernel) (by decide +kernel)) (gm 586 (by decide +kernel) (by decide +kernel)) (by decide +kernel)
theorem cf_B_148 : zV GG "WindowPlanModel" 148 "WindowPlanModel" y_B_holder b_B_holder 5 (some (.int)) 1 := zV_mk GG_ok (gm 587 (by decide +kernel) (by decide +kernel)) (gm 589 (by decide +kernel) (by decide +kernel)) (gm 25 (by decide +kernel) (by decide +kernel)) (gm 41 (by decide +kernel) (by decide +kernel)) (gm 590 (by decide +kernel) (by decide +kernel)) (by decide +kernel)
theorem cf_B_152 : zV GG "WindowPlanModel" 152 "WindowPlanModel" y_B_one b_B_one 4 (some (.boolean)) 1 := zV_mk GG_ok (gm 595 (by decide +kernel) (by decide +kernel)) (gm 597 (by decide +kernel) (by decide +kernel)) (gm 27 (by decide +kernel) (by decide +kernel)) (gm 41 (by decide +kernel) (by decide +kernel)) (gm 598 (by decide +kernel) (by decide +kernel)) (by decide +kernel)
end
section
theorem d_A_init_0 : decode b_A_init 0 = .ok (.aload_n 0, 1) := by decide +kernel
theorem d_A_init_1 : decode b_A_init 1 = .ok (.invokespecial 1, 3) := by decide +kernel
theorem d_A_init_4 : decode b_A_init 4 = .ok (.aload_n 0, 1) := by decide +kernel
theorem d_A_init_5 : decode b_A_init 5 = .ok (.new 7, 3) := by decide +kernel
theorem d_A_init_8 : decode b_A_init 8 = .ok (.dup, 1) := by decide +kernel
theorem d_A_init_9 : decode b_A_init 9 = .ok (.invokespecial 9, 3) := by decide +kernel
theorem d_A_init_12 : decode b_A_init 12 = .ok (.putfield 10, 3) := by decide +kernel
theorem d_A_init_15 : decode b_A_init 15 = .ok (.aload_n 0, 1) := by decide +kernel
theorem d_A_init_16 : decode b_A_init 16 = .ok (.iconst 3, 1) := by decide +kernel
theorem d_A_init_17 : decode b_A_init 17 = .ok (.anewarray 16, 3) := by decide +kernel
theorem d_A_init_20 : decode b_A_init 20 = .ok (.putfield 18, 3) := by decide +kernel
theorem d_A_init_23 : decode b_A_init 23 = .ok (.iconst 0, 1) := by decide +kernel
theorem d_A_init_24 : decode b_A_init 24 = .ok (.istore_n 1, 1) := by decide +kernel
theorem d_A_init_25 : decode b_A_init 25 = .ok (.iload_n 1, 1) := by decide +kernel
theorem d_A_init_26 : decode b_A_init 26 = .ok (.iconst 3, 1) := by decide +kernel
theorem d_A_init_27 : decode b_A_init 27 = .ok (.if_icmp .ge 22, 3) := by decide +kernel
theorem d_A_init_30 : decode b_A_init 30 = .ok (.aload_n 0, 1) := by decide +kernel
theorem d_A_init_31 : decode b_A_init 31 = .ok (.getfield 18, 3) := by decide +kernel
theorem d_A_init_34 : decode b_A_init 34 = .ok (.iload_n 1, 1) := by decide +kernel
theorem d_A_init_35 : decode b_A_init 35 = .ok (.new 16, 3) := by decide +kernel
theorem d_A_init_38 : decode b_A_init 38 = .ok (.dup, 1) := by decide +kernel
theorem d_A_init_39 : decode b_A_init 39 = .ok (.invokespecial 22, 3) := by decide +kernel
theorem d_A_init_42 : decode b_A_init 42 = .ok (.aastore, 1) := by decide +kernel
theorem d_A_init_43 : decode b_A_init 43 = .ok (.iinc 1 1, 3) := by decide +kernel
theorem d_A_init_46 : decode b_A_init 46 = .ok (.goto (-21), 3) := by decide +kernel
theorem d_A_init_49 : decode b_A_init 49 = .ok (.aload_n 0, 1) := by decide +kernel
theorem d_A_init_50 : decode b_A_init 50 = .ok (.bipush 8, 2) := by decide +kernel
theorem d_A_init_52 : decode b_A_init 52 = .ok (.anewarray 23, 3) := by decide +kernel
theorem d_A_init_55 : decode b_A_init 55 = .ok (.putfield 25, 3) := by decide +kernel
theorem d_A_init_58 : decode b_A_init 58 = .ok (.iconst 0, 1) := by decide +kernel
theorem d_A_init_59 : decode b_A_init 59 = .ok (.istore_n 1, 1) := by decide +kernel
theorem d_A_init_60 : decode b_A_init 60 = .ok (.iload_n 1, 1) := by decide +kernel
theorem d_A_init_61 : decode b_A_init 61 = .ok (.bipush 8, 2) := by decide +kernel
theorem d_A_init_63 : decode b_A_init 63 = .ok (.if_icmp .ge 23, 3) := by decide +kernel
theorem d_A_init_66 : decode b_A_init 66 = .ok (.aload_n 0, 1) := by decide +kernel
theorem d_A_init_67 : decode b_A_init 67 = .ok (.getfield 25, 3) := by decide +kernel
theorem d_A_init_70 : decode b_A_init 70 = .ok (.iload_n 1, 1) := by decide +kernel
theorem d_A_init_71 : decode b_A_init 71 = .ok (.new 23, 3) := by decide +kernel
theorem d_A_init_74 : decode b_A_init 74 = .ok (.dup, 1) := by decide +kernel
theorem d_A_init_75 : decode b_A_init 75 = .ok (.iload_n 1, 1) := by decide +kernel
theorem d_A_init_76 : decode b_A_init 76 = .ok (.invokespecial 29, 3) := by decide +kernel
theorem d_A_init_79 : decode b_A_init 79 = .ok (.aastore, 1) := by decide +kernel
theorem d_A_init_80 : decode b_A_init 80 = .ok (.iinc 1 1, 3) := by decide +kernel
theorem d_A_init_83 : decode b_A_init 83 = .ok (.goto (-23), 3) := by decide +kernel
theorem d_A_init_86 : decode b_A_init 86 = .ok (.aload_n 0, 1) := by decide +kernel
theorem d_A_init_87 : decode b_A_init 87 = .ok (.iconst 4, 1) := by decide +kernel
theorem d_A_init_88 : decode b_A_init 88 = .ok (.anewarray 32, 3) := by decide +kernel
theorem d_A_init_91 : decode b_A_init 91 = .ok (.putfield 34, 3) := by decide +kernel
theorem d_A_init_94 : decode b_A_init 94 = .ok (.iconst 0, 1) := by decide +kernel
theorem d_A_init_95 : decode b_A_init 95 = .ok (.istore_n 1, 1) := by decide +kernel
theorem d_A_init_96 : decode b_A_init 96 = .ok (.iload_n 1, 1) := by decide +kernel
theorem d_A_init_97 : decode b_A_init 97 = .ok (.iconst 4, 1) := by decide +kernel
theorem d_A_init_98 : decode b_A_init 98 = .ok (.if_icmp .ge 22, 3) := by decide +kernel
theorem d_A_init_101 : decode b_A_init 101 = .ok (.aload_n 0, 1) := by decide +kernel
theorem d_A_init_102 : decode b_A_init 102 = .ok (.getfield 34, 3) := by decide +kernel
theorem d_A_init_105 : decode b_A_init 105 = .ok (.iload_n 1, 1) := by decide +kernel
theorem d_A_init_106 : decode b_A_init 106 = .ok (.new 32, 3) := by decide +kernel
theorem d_A_init_109 : decode b_A_init 109 = .ok (.dup, 1) := by decide +kernel
theorem d_A_init_110 : decode b_A_init 110 = .ok (.invokespecial 38, 3) := by decide +kernel
theorem d_A_init_113 : decode b_A_init 113 = .ok (.aastore, 1) := by decide +kernel
theorem d_A_init_114 : decode b_A_init 114 = .ok (.iinc 1 1, 3) := by decide +kernel
theorem d_A_init_117 : decode b_A_init 117 = .ok (.goto (-21), 3) := by decide +kernel
theorem d_A_init_120 : decode b_A_init 120 = .ok (.aload_n 0, 1) := by decide +kernel
theorem d_A_init_121 : decode b_A_init 121 = .ok (.iconst 4, 1) := by decide +kernel
theorem d_A_init_122 : decode b_A_init 122 = .ok (.newarray .int, 2) := by decide +kernel
theorem d_A_init_124 : decode b_A_init 124 = .ok (.putfield 39, 3) := by decide +kernel
theorem d_A_init_127 : decode b_A_init 127 = .ok (.return_, 1) := by decide +kernel
theorem d_Wr_init_0 : decode b_Wr_init 0 = .ok (.aload_n 0, 1) := by decide +kernel
theorem d_Wr_init_1 : decode b_Wr_init 1 = .ok (.invokespecial 3, 3) := by decide +kernel
theorem d_Wr_init_4 : decode b_Wr_init 4 = .ok (.aload_n 0, 1) := by decide +kernel
theorem d_Wr_init_5 : decode b_Wr_init 5 = .ok (.bipush 8, 2) := by decide +kernel
theorem d_Wr_init_7 : decode b_Wr_init 7 = .ok (.newarray .int, 2) := by decide +kernel
theorem d_Wr_init_9 : decode b_Wr_init 9 = .ok (.putfield 9, 3) := by decide +kernel
theorem d_Wr_init_12 : decode b_Wr_init 12 = .ok (.aload_n 0, 1) := by decide +kernel
theorem d_Wr_init_13 : decode b_Wr_init 13 = .ok (.bipush 8, 2) := by decide +kernel
theorem d_Wr_init_15 : decode b_Wr_init 15 = .ok (.newarray .int, 2) := by decide +kernel
theorem d_Wr_init_17 : decode b_Wr_init 17 = .ok (.putfield 15, 3) := by decide +kernel
theorem d_Wr_init_20 : decode b_Wr_init 20 = .ok (.return_, 1) := by decide +kernel
theorem d_P_init_0 : decode b_P_init 0 = .ok (.aload_n 0, 1) := by decide +kernel
theorem d_P_init_1 : decode b_P_init 1 = .ok (.invokespecial 3, 3) := by decide +kernel
theorem d_P_init_4 : decode b_P_init 4 = .ok (.aload_n 0, 1) := by decide +kernel
theorem d_P_init_5 : decode b_P_init 5 = .ok (.iconst 0, 1) := by decide +kernel
theorem d_P_init_6 : decode b_P_init 6 = .ok (.putfield 9, 3) := by decide +kernel
theorem d_P_init_9 : decode b_P_init 9 = .ok (.aload_n 0, 1) := by decide +kernel
theorem d_P_init_10 : decode b_P_init 10 = .ok (.iconst 0, 1) := by decide +kernel
theorem d_P_init_11 : decode b_P_init 11 = .ok (.putfield 15, 3) := by decide +kernel
theorem d_P_init_14 : decode b_P_init 14 = .ok (.return_, 1) := by decide +kernel
theorem d_K_init_0 : decode b_K_init 0 = .ok (.aload_n 0, 1) := by decide +kernel
theorem d_K_init_1 : decode b_K_init 1 = .ok (.invokespecial 3, 3) := by decide +kernel
theorem d_K_init_4 : decode b_K_init 4 = .ok (.aload_n 0, 1) := by decide +kernel
theorem d_K_init_5 : decode b_K_init 5 = .ok (.new 9, 3) := by decide +kernel
theorem d_K_init_8 : decode b_K_init 8 = .ok (.dup, 1) := by decide +kernel
theorem d_K_init_9 : decode b_K_init 9 = .ok (.invokespecial 11, 3) := by decide +kernel
theorem d_K_init_12 : decode b_K_init 12 = .ok (.putfield 12, 3) := by decide +kernel
theorem d_K_init_15 : decode b_K_init 15 = .ok (.aload_n 0, 1) := by decide +kernel
theorem d_K_init_16 : decode b_K_init 16 = .ok (.iconst 0, 1) := by decide +kernel
theorem d_K_init_17 : decode b_K_init 17 = .ok (.putfield 18, 3) := by decide +kernel
theorem d_K_init_20 : decode b_K_init 20 = .ok (.aload_n 0, 1) := by decide +kernel
theorem d_K_init_21 : decode b_K_init 21 = .ok (.iconst (-1), 1) := by decide +kernel
theorem d_K_init_22 : decode b_K_init 22 = .ok (.putfield 22, 3) := by decide +kernel
theorem d_K_init_25 : decode b_K_init 25 = .ok (.aload_n 0, 1) := by decide +kernel
theorem d_K_init_26 : decode b_K_init 26 = .ok (.iconst (-1), 1) := by decide +kernel
theorem d_K_init_27 : decode b_K_init 27 = .ok (.putfield 25, 3) := by decide +kernel
theorem d_K_init_30 : decode b_K_init 30 = .ok (.aload_n 0, 1) := by decide +kernel
theorem d_K_init_31 : decode b_K_init 31 = .ok (.iload_n 1, 1) := by decide +kernel
theorem d_K_init_32 : decode b_K_init 32 = .ok (.putfield 28, 3) := by decide +kernel
theorem d_K_init_35 : decode b_K_init 35 = .ok (.return_, 1) := by decide +kernel
theorem d_G_init_0 : decode b_G_init 0 = .ok (.aload_n 0, 1) := by decide +kernel
theorem d_G_init_1 : decode b_G_init 1 = .ok (.invokespecial 3, 3) := by decide +kernel
theorem d_G_init_4 : decode b_G_init 4 = .ok (.aload_n 0, 1) := by decide +kernel
theorem d_G_init_5 : decode b_G_init 5 = .ok (.bipush 8, 2) := by decide +kernel
theorem d_G_init_7 : decode b_G_init 7 = .ok (.newarray .int, 2) := by decide +kernel
theorem d_G_init_9 : decode b_G_init 9 = .ok (.putfield 9, 3) := by decide +kernel
theorem d_G_init_12 : decode b_G_init 12 = .ok (.aload_n 0, 1) := by decide +kernel
theorem d_G_init_13 : decode b_G_init 13 = .ok (.bipush 8, 2) := by decide +kernel
theorem d_G_init_15 : decode b_G_init 15 = .ok (.newarray .int, 2) := by decide +kernel
theorem d_G_init_17 : decode b_G_init 17 = .ok (.putfield 15, 3) := by decide +kernel
theorem d_G_init_20 : decode b_G_init 20 = .ok (.return_, 1) := by decide +kernel
theorem d_O_init_0 : decode b_O_init 0 = .ok (.aload_n 0, 1) := by decide +kernel
theorem d_O_init_1 : decode b_O_init 1 = .ok (.invokespecial 3, 3) := by decide +kernel
theorem d_O_init_4 : decode b_O_init 4 = .ok (.aload_n 0, 1) := by decide +kernel
theorem d_O_init_5 : decode b_O_init 5 = .ok (.iconst 4, 1) := by decide +kernel
theorem d_O_init_6 : decode b_O_init 6 = .ok (.newarray .int, 2) := by decide +kernel
theorem d_O_init_8 : decode b_O_init 8 = .ok (.putfield 9, 3) := by decide +kernel
theorem d_O_init_11 : decode b_O_init 11 = .ok (.return_, 1) := by decide +kernel
theorem d_A_window_0 : decode b_A_window 0 = .ok (.iload_n 1, 1) := by decide +kernel
theorem d_A_window_1 : decode b_A_window 1 = .ok (.invokestatic 43, 3) := by decide +kernel
theorem d_A_window_4 : decode b_A_window 4 = .ok (.ifCond .eq 20, 3) := by decide +kernel
theorem d_A_window_7 : decode b_A_window 7 = .ok (.iload_n 2, 1) := by decide +kernel
theorem d_A_window_8 : decode b_A_window 8 = .ok (.iconst 1, 1) := by decide +kernel
theorem d_A_window_9 : decode b_A_window 9 = .ok (.bipush 30, 2) := by decide +kernel
theorem d_A_window_11 : decode b_A_window 11 = .ok (.invokestatic 47, 3) := by decide +kernel
theorem d_A_window_14 : decode b_A_window 14 = .ok (.ifCond .eq 10, 3) := by decide +kernel
theorem d_A_window_17 : decode b_A_window 17 = .ok (.aload_n 0, 1) := by decide +kernel
theorem d_A_window_18 : decode b_A_window 18 = .ok (.invokevirtual 51, 3) := by decide +kernel
theorem d_A_window_21 : decode b_A_window 21 = .ok (.ifCond .ne 5, 3) := by decide +kernel
theorem d_A_window_24 : decode b_A_window 24 = .ok (.iconst (-1), 1) := by decide +kernel
theorem d_A_window_25 : decode b_A_window 25 = .ok (.ireturn, 1) := by decide +kernel
theorem d_A_window_26 : decode b_A_window 26 = .ok (.aload_n 0, 1) := by decide +kernel
theorem d_A_window_27 : decode b_A_window 27 = .ok (.getfield 10, 3) := by decide +kernel
theorem d_A_window_30 : decode b_A_window 30 = .ok (.getfield 55, 3) := by decide +kernel
theorem d_A_window_33 : decode b_A_window 33 = .ok (.bipush 8, 2) := by decide +kernel
theorem d_A_window_35 : decode b_A_window 35 = .ok (.if_icmp .ne 6, 3) := by decide +kernel
theorem d_A_window_38 : decode b_A_window 38 = .ok (.bipush (-2), 2) := by decide +kernel
theorem d_A_window_40 : decode b_A_window 40 = .ok (.ireturn, 1) := by decide +kernel
theorem d_A_window_41 : decode b_A_window 41 = .ok (.aload_n 0, 1) := by decide +kernel
theorem d_A_window_42 : decode b_A_window 42 = .ok (.getfield 10, 3) := by decide +kernel
theorem d_A_window_45 : decode b_A_window 45 = .ok (.iload_n 1, 1) := by decide +kernel
theorem d_A_window_46 : decode b_A_window 46 = .ok (.iload_n 2, 1) := by decide +kernel
theorem d_A_window_47 : decode b_A_window 47 = .ok (.invokevirtual 59, 3) := by decide +kernel
theorem d_A_window_50 : decode b_A_window 50 = .ok (.aload_n 0, 1) := by decide +kernel
theorem d_A_window_51 : decode b_A_window 51 = .ok (.getfield 10, 3) := by decide +kernel
theorem d_A_window_54 : decode b_A_window 54 = .ok (.getfield 55, 3) := by decide +kernel
theorem d_A_window_57 : decode b_A_window 57 = .ok (.ireturn, 1) := by decide +kernel
theorem d_A_isPartition_0 : decode b_A_isPartition 0 = .ok (.iload_n 0, 1) := by decide +kernel
theorem d_A_isPartition_1 : decode b_A_isPartition 1 = .ok (.iconst 0, 1) := by decide +kernel
theorem d_A_isPartition_2 : decode b_A_isPartition 2 = .ok (.iconst 2, 1) := by decide +kernel
theorem d_A_isPartition_3 : decode b_A_isPartition 3 = .ok (.invokestatic 47, 3) := by decide +kernel
theorem d_A_isPartition_6 : decode b_A_isPartition 6 = .ok (.ireturn, 1) := by decide +kernel
theorem d_A_within_0 : decode b_A_within 0 = .ok (.iload_n 0, 1) := by decide +kernel
theorem d_A_within_1 : decode b_A_within 1 = .ok (.iload_n 1, 1) := by decide +kernel
theorem d_A_within_2 : decode b_A_within 2 = .ok (.if_icmp .lt 12, 3) := by decide +kernel
theorem d_A_within_5 : decode b_A_within 5 = .ok (.iload_n 0, 1) := by decide +kernel
theorem d_A_within_6 : decode b_A_within 6 = .ok (.iload_n 2, 1) := by decide +kernel
theorem d_A_within_7 : decode b_A_within 7 = .ok (.if_icmp .gt 7, 3) := by decide +kernel
theorem d_A_within_10 : decode b_A_within 10 = .ok (.iconst 1, 1) := by decide +kernel
theorem d_A_within_11 : decode b_A_within 11 = .ok (.goto 4, 3) := by decide +kernel
theorem d_A_within_14 : decode b_A_within 14 = .ok (.iconst 0, 1) := by decide +kernel
theorem d_A_within_15 : decode b_A_within 15 = .ok (.ireturn, 1) := by decide +kernel
theorem d_A_allOff_0 : decode b_A_allOff 0 = .ok (.iconst 0, 1) := by decide +kernel
theorem d_A_allOff_1 : decode b_A_allOff 1 = .ok (.istore_n 1, 1) := by decide +kernel
theorem d_A_allOff_2 : decode b_A_allOff 2 = .ok (.iload_n 1, 1) := by decide +kernel
theorem d_A_allOff_3 : decode b_A_allOff 3 = .ok (.iconst 3, 1) := by decide +kernel
theorem d_A_allOff_4 : decode b_A_allOff 4 = .ok (.if_icmp .ge 23, 3) := by decide +kernel
theorem d_A_allOff_7 : decode b_A_allOff 7 = .ok (.aload_n 0, 1) := by decide +kernel
theorem d_A_allOff_8 : decode b_A_allOff 8 = .ok (.getfield 18, 3) := by decide +kernel
theorem d_A_allOff_11 : decode b_A_allOff 11 = .ok (.iload_n 1, 1) := by decide +kernel
theorem d_A_allOff_12 : decode b_A_allOff 12 = .ok (.aaload, 1) := by decide +kernel
theorem d_A_allOff_13 : decode b_A_allOff 13 = .ok (.getfield 91, 3) := by decide +kernel
theorem d_A_allOff_16 : decode b_A_allOff 16 = .ok (.ifCond .eq 5, 3) := by decide +kernel
theorem d_A_allOff_19 : decode b_A_allOff 19 = .ok (.iconst 0, 1) := by decide +kernel
theorem d_A_allOff_20 : decode b_A_allOff 20 = .ok (.ireturn, 1) := by decide +kernel
theorem d_A_allOff_21 : decode b_A_allOff 21 = .ok (.iinc 1 1, 3) := by decide +kernel
theorem d_A_allOff_24 : decode b_A_allOff 24 = .ok (.goto (-22), 3) := by decide +kernel
theorem d_A_allOff_27 : decode b_A_allOff 27 = .ok (.iconst 1, 1) := by decide +kernel
theorem d_A_allOff_28 : decode b_A_allOff 28 = .ok (.ireturn, 1) := by decide +kernel
theorem d_Wr_add_0 : decode b_Wr_add 0 = .ok (.aload_n 0, 1) := by decide +kernel
theorem d_Wr_add_1 : decode b_Wr_add 1 = .ok (.getfield 15, 3) := by decide +kernel
theorem d_Wr_add_4 : decode b_Wr_add 4 = .ok (.aload_n 0, 1) := by decide +kernel
theorem d_Wr_add_5 : decode b_Wr_add 5 = .ok (.getfield 18, 3) := by decide +kernel
theorem d_Wr_add_8 : decode b_Wr_add 8 = .ok (.aload_n 0, 1) := by decide +kernel
theorem d_Wr_add_9 : decode b_Wr_add 9 = .ok (.getfield 18, 3) := by decide +kernel
theorem d_Wr_add_12 : decode b_Wr_add 12 = .ok (.ifCond .ne 7, 3) := by decide +kernel
theorem d_Wr_add_15 : decode b_Wr_add 15 = .ok (.iload_n 2, 1) := by decide +kernel
theorem d_Wr_add_16 : decode b_Wr_add 16 = .ok (.goto 16, 3) := by decide +kernel
theorem d_Wr_add_19 : decode b_Wr_add 19 = .ok (.aload_n 0, 1) := by decide +kernel
theorem d_Wr_add_20 : decode b_Wr_add 20 = .ok (.getfield 15, 3) := by decide +kernel
theorem d_Wr_add_23 : decode b_Wr_add 23 = .ok (.aload_n 0, 1) := by decide +kernel
theorem d_Wr_add_24 : decode b_Wr_add 24 = .ok (.getfield 18, 3) := by decide +kernel
theorem d_Wr_add_27 : decode b_Wr_add 27 = .ok (.iconst 1, 1) := by decide +kernel
theorem d_Wr_add_28 : decode b_Wr_add 28 = .ok (.isub, 1) := by decide +kernel
theorem d_Wr_add_29 : decode b_Wr_add 29 = .ok (.iaload, 1) := by decide +kernel
theorem d_Wr_add_30 : decode b_Wr_add 30 = .ok (.iload_n 2, 1) := by decide +kernel
theorem d_Wr_add_31 : decode b_Wr_add 31 = .ok (.iadd, 1) := by decide +kernel
theorem d_Wr_add_32 : decode b_Wr_add 32 = .ok (.iastore, 1) := by decide +kernel
theorem d_Wr_add_33 : decode b_Wr_add 33 = .ok (.aload_n 0, 1) := by decide +kernel
theorem d_Wr_add_34 : decode b_Wr_add 34 = .ok (.getfield 9, 3) := by decide +kernel
theorem d_Wr_add_37 : decode b_Wr_add 37 = .ok (.aload_n 0, 1) := by decide +kernel
theorem d_Wr_add_38 : decode b_Wr_add 38 = .ok (.getfield 18, 3) := by decide +kernel
theorem d_Wr_add_41 : decode b_Wr_add 41 = .ok (.iload_n 1, 1) := by decide +kernel
theorem d_Wr_add_42 : decode b_Wr_add 42 = .ok (.iastore, 1) := by decide +kernel
theorem d_Wr_add_43 : decode b_Wr_add 43 = .ok (.aload_n 0, 1) := by decide +kernel
theorem d_Wr_add_44 : decode b_Wr_add 44 = .ok (.dup, 1) := by decide +kernel
theorem d_Wr_add_45 : decode b_Wr_add 45 = .ok (.getfield 18, 3) := by decide +kernel
theorem d_Wr_add_48 : decode b_Wr_add 48 = .ok (.iconst 1, 1) := by decide +kernel
theorem d_Wr_add_49 : decode b_Wr_add 49 = .ok (.iadd, 1) := by decide +kernel
theorem d_Wr_add_50 : decode b_Wr_add 50 = .ok (.putfield 18, 3) := by decide +kernel
theorem d_Wr_add_53 : decode b_Wr_add 53 = .ok (.return_, 1) := by decide +kernel
theorem d_A_process_0 : decode b_A_process 0 = .ok (.iload_n 1, 1) := by decide +kernel
theorem d_A_process_1 : decode b_A_process 1 = .ok (.invokestatic 43, 3) := by decide +kernel
theorem d_A_process_4 : decode b_A_process 4 = .ok (.ifCond .eq 13, 3) := by decide +kernel
theorem d_A_process_7 : decode b_A_process 7 = .ok (.iload_n 2, 1) := by decide +kernel
theorem d_A_process_8 : decode b_A_process 8 = .ok (.iconst 0, 1) := by decide +kernel
theorem d_A_process_9 : decode b_A_process 9 = .ok (.bipush 9, 2) := by decide +kernel
theorem d_A_process_11 : decode b_A_process 11 = .ok (.invokestatic 47, 3) := by decide +kernel
theorem d_A_process_14 : decode b_A_process 14 = .ok (.ifCond .ne 5, 3) := by decide +kernel
theorem d_A_process_17 : decode b_A_process 17 = .ok (.iconst (-1), 1) := by decide +kernel
theorem d_A_process_18 : decode b_A_process 18 = .ok (.ireturn, 1) := by decide +kernel
theorem d_A_process_19 : decode b_A_process 19 = .ok (.iload_n 3, 1) := by decide +kernel
theorem d_A_process_20 : decode b_A_process 20 = .ok (.iconst 0, 1) := by decide +kernel
theorem d_A_process_21 : decode b_A_process 21 = .ok (.bipush 60, 2) := by decide +kernel
theorem d_A_process_23 : decode b_A_process 23 = .ok (.invokestatic 47, 3) := by decide +kernel
theorem d_A_process_26 : decode b_A_process 26 = .ok (.ifCond .eq 21, 3) := by decide +kernel
theorem d_A_process_29 : decode b_A_process 29 = .ok (.iload 4, 2) := by decide +kernel
theorem d_A_process_31 : decode b_A_process 31 = .ok (.iconst 0, 1) := by decide +kernel
theorem d_A_process_32 : decode b_A_process 32 = .ok (.bipush 60, 2) := by decide +kernel
theorem d_A_process_34 : decode b_A_process 34 = .ok (.invokestatic 47, 3) := by decide +kernel
theorem d_A_process_37 : decode b_A_process 37 = .ok (.ifCond .eq 10, 3) := by decide +kernel
theorem d_A_process_40 : decode b_A_process 40 = .ok (.aload_n 0, 1) := by decide +kernel
theorem d_A_process_41 : decode b_A_process 41 = .ok (.invokevirtual 51, 3) := by decide +kernel
theorem d_A_process_44 : decode b_A_process 44 = .ok (.ifCond .ne 5, 3) := by decide +kernel
theorem d_A_process_47 : decode b_A_process 47 = .ok (.iconst (-1), 1) := by decide +kernel
theorem d_A_process_48 : decode b_A_process 48 = .ok (.ireturn, 1) := by decide +kernel
theorem d_A_process_49 : decode b_A_process 49 = .ok (.aload_n 0, 1) := by decide +kernel
theorem d_A_process_50 : decode b_A_process 50 = .ok (.getfield 63, 3) := by decide +kernel
theorem d_A_process_53 : decode b_A_process 53 = .ok (.bipush 8, 2) := by decide +kernel
theorem d_A_process_55 : decode b_A_process 55 = .ok (.if_icmp .ne 6, 3) := by decide +kernel
theorem d_A_process_58 : decode b_A_process 58 = .ok (.bipush (-2), 2) := by decide +kernel
theorem d_A_process_60 : decode b_A_process 60 = .ok (.ireturn, 1) := by decide +kernel
theorem d_A_process_61 : decode b_A_process 61 = .ok (.aload_n 0, 1) := by decide +kernel
theorem d_A_process_62 : decode b_A_process 62 = .ok (.getfield 25, 3) := by decide +kernel
theorem d_A_process_65 : decode b_A_process 65 = .ok (.aload_n 0, 1) := by decide +kernel
theorem d_A_process_66 : decode b_A_process 66 = .ok (.getfield 63, 3) := by decide +kernel
theorem d_A_process_69 : decode b_A_process 69 = .ok (.aaload, 1) := by decide +kernel
theorem d_A_process_70 : decode b_A_process 70 = .ok (.iload_n 1, 1) := by decide +kernel
theorem d_A_process_71 : decode b_A_process 71 = .ok (.iload_n 2, 1) := by decide +kernel
theorem d_A_process_72 : decode b_A_process 72 = .ok (.iload_n 3, 1) := by decide +kernel
theorem d_A_process_73 : decode b_A_process 73 = .ok (.iload 4, 2) := by decide +kernel
theorem d_A_process_75 : decode b_A_process 75 = .ok (.invokevirtual 66, 3) := by decide +kernel
theorem d_A_process_78 : decode b_A_process 78 = .ok (.aload_n 0, 1) := by decide +kernel
theorem d_A_process_79 : decode b_A_process 79 = .ok (.dup, 1) := by decide +kernel
theorem d_A_process_80 : decode b_A_process 80 = .ok (.getfield 63, 3) := by decide +kernel
theorem d_A_process_83 : decode b_A_process 83 = .ok (.iconst 1, 1) := by decide +kernel
theorem d_A_process_84 : decode b_A_process 84 = .ok (.iadd, 1) := by decide +kernel
theorem d_A_process_85 : decode b_A_process 85 = .ok (.putfield 63, 3) := by decide +kernel
theorem d_A_process_88 : decode b_A_process 88 = .ok (.aload_n 0, 1) := by decide +kernel
theorem d_A_process_89 : decode b_A_process 89 = .ok (.getfield 63, 3) := by decide +kernel
theorem d_A_process_92 : decode b_A_process 92 = .ok (.iconst 1, 1) := by decide +kernel
theorem d_A_process_93 : decode b_A_process 93 = .ok (.isub, 1) := by decide +kernel
theorem d_A_process_94 : decode b_A_process 94 = .ok (.ireturn, 1) := by decide +kernel
theorem d_K_define_0 : decode b_K_define 0 = .ok (.aload_n 0, 1) := by decide +kernel
theorem d_K_define_1 : decode b_K_define 1 = .ok (.iload_n 1, 1) := by decide +kernel
theorem d_K_define_2 : decode b_K_define 2 = .ok (.putfield 31, 3) := by decide +kernel
theorem d_K_define_5 : decode b_K_define 5 = .ok (.aload_n 0, 1) := by decide +kernel
theorem d_K_define_6 : decode b_K_define 6 = .ok (.iload_n 2, 1) := by decide +kernel
theorem d_K_define_7 : decode b_K_define 7 = .ok (.putfield 34, 3) := by decide +kernel
theorem d_K_define_10 : decode b_K_define 10 = .ok (.aload_n 0, 1) := by decide +kernel
theorem d_K_define_11 : decode b_K_define 11 = .ok (.iload_n 3, 1) := by decide +kernel
theorem d_K_define_12 : decode b_K_define 12 = .ok (.putfield 37, 3) := by decide +kernel
theorem d_K_define_15 : decode b_K_define 15 = .ok (.aload_n 0, 1) := by decide +kernel
theorem d_K_define_16 : decode b_K_define 16 = .ok (.iload 4, 2) := by decide +kernel
theorem d_K_define_18 : decode b_K_define 18 = .ok (.putfield 40, 3) := by decide +kernel
theorem d_K_define_21 : decode b_K_define 21 = .ok (.return_, 1) := by decide +kernel
theorem d_A_order_0 : decode b_A_order 0 = .ok (.aload_n 0, 1) := by decide +kernel
theorem d_A_order_1 : decode b_A_order 1 = .ok (.iload_n 1, 1) := by decide +kernel
theorem d_A_order_2 : decode b_A_order 2 = .ok (.invokevirtual 70, 3) := by decide +kernel
theorem d_A_order_5 : decode b_A_order 5 = .ok (.ifCond .eq 18, 3) := by decide +kernel
theorem d_A_order_8 : decode b_A_order 8 = .ok (.iload_n 2, 1) := by decide +kernel
theorem d_A_order_9 : decode b_A_order 9 = .ok (.iload_n 3, 1) := by decide +kernel
theorem d_A_order_10 : decode b_A_order 10 = .ok (.invokestatic 73, 3) := by decide +kernel
theorem d_A_order_13 : decode b_A_order 13 = .ok (.ifCond .eq 10, 3) := by decide +kernel
theorem d_A_order_16 : decode b_A_order 16 = .ok (.aload_n 0, 1) := by decide +kernel
theorem d_A_order_17 : decode b_A_order 17 = .ok (.invokevirtual 51, 3) := by decide +kernel
theorem d_A_order_20 : decode b_A_order 20 = .ok (.ifCond .ne 5, 3) := by decide +kernel
theorem d_A_order_23 : decode b_A_order 23 = .ok (.iconst (-1), 1) := by decide +kernel
theorem d_A_order_24 : decode b_A_order 24 = .ok (.ireturn, 1) := by decide +kernel
theorem d_A_order_25 : decode b_A_order 25 = .ok (.aload_n 0, 1) := by decide +kernel
theorem d_A_order_26 : decode b_A_order 26 = .ok (.getfield 25, 3) := by decide +kernel
theorem d_A_order_29 : decode b_A_order 29 = .ok (.iload_n 1, 1) := by decide +kernel
theorem d_A_order_30 : decode b_A_order 30 = .ok (.aaload, 1) := by decide +kernel
theorem d_A_order_31 : decode b_A_order 31 = .ok (.getfield 77, 3) := by decide +kernel
theorem d_A_order_34 : decode b_A_order 34 = .ok (.astore 4, 2) := by decide +kernel
theorem d_A_order_36 : decode b_A_order 36 = .ok (.aload 4, 2) := by decide +kernel
theorem d_A_order_38 : decode b_A_order 38 = .ok (.getfield 81, 3) := by decide +kernel
theorem d_A_order_41 : decode b_A_order 41 = .ok (.bipush 8, 2) := by decide +kernel
theorem d_A_order_43 : decode b_A_order 43 = .ok (.if_icmp .ne 6, 3) := by decide +kernel
theorem d_A_order_46 : decode b_A_order 46 = .ok (.bipush (-2), 2) := by decide +kernel
theorem d_A_order_48 : decode b_A_order 48 = .ok (.ireturn, 1) := by decide +kernel
theorem d_A_order_49 : decode b_A_order 49 = .ok (.aload 4, 2) := by decide +kernel
theorem d_A_order_51 : decode b_A_order 51 = .ok (.iload_n 2, 1) := by decide +kernel
theorem d_A_order_52 : decode b_A_order 52 = .ok (.iload_n 3, 1) := by decide +kernel
theorem d_A_order_53 : decode b_A_order 53 = .ok (.invokevirtual 84, 3) := by decide +kernel
theorem d_A_order_56 : decode b_A_order 56 = .ok (.aload 4, 2) := by decide +kernel
theorem d_A_order_58 : decode b_A_order 58 = .ok (.getfield 81, 3) := by decide +kernel
theorem d_A_order_61 : decode b_A_order 61 = .ok (.ireturn, 1) := by decide +kernel
theorem d_A_isProcess_0 : decode b_A_isProcess 0 = .ok (.iload_n 1, 1) := by decide +kernel
theorem d_A_isProcess_1 : decode b_A_isProcess 1 = .ok (.iconst 0, 1) := by decide +kernel
theorem d_A_isProcess_2 : decode b_A_isProcess 2 = .ok (.aload_n 0, 1) := by decide +kernel
theorem d_A_isProcess_3 : decode b_A_isProcess 3 = .ok (.getfield 63, 3) := by decide +kernel
theorem d_A_isProcess_6 : decode b_A_isProcess 6 = .ok (.iconst 1, 1) := by decide +kernel
theorem d_A_isProcess_7 : decode b_A_isProcess 7 = .ok (.isub, 1) := by decide +kernel
theorem d_A_isProcess_8 : decode b_A_isProcess 8 = .ok (.invokestatic 47, 3) := by decide +kernel
theorem d_A_isProcess_11 : decode b_A_isProcess 11 = .ok (.ireturn, 1) := by decide +kernel
theorem d_A_isOrder_0 : decode b_A_isOrder 0 = .ok (.iload_n 0, 1) := by decide +kernel
theorem d_A_isOrder_1 : decode b_A_isOrder 1 = .ok (.tableswitch 57 0 4 #[35, 43, 43, 50, 50], 35) := by decide +kernel
theorem d_A_isOrder_36 : decode b_A_isOrder 36 = .ok (.iload_n 1, 1) := by decide +kernel
theorem d_A_isOrder_37 : decode b_A_isOrder 37 = .ok (.iconst 1, 1) := by decide +kernel
theorem d_A_isOrder_38 : decode b_A_isOrder 38 = .ok (.bipush 20, 2) := by decide +kernel
theorem d_A_isOrder_40 : decode b_A_isOrder 40 = .ok (.invokestatic 47, 3) := by decide +kernel
theorem d_A_isOrder_43 : decode b_A_isOrder 43 = .ok (.ireturn, 1) := by decide +kernel
theorem d_A_isOrder_44 : decode b_A_isOrder 44 = .ok (.iload_n 1, 1) := by decide +kernel
theorem d_A_isOrder_45 : decode b_A_isOrder 45 = .ok (.iconst 0, 1) := by decide +kernel
theorem d_A_isOrder_46 : decode b_A_isOrder 46 = .ok (.iconst 3, 1) := by decide +kernel
theorem d_A_isOrder_47 : decode b_A_isOrder 47 = .ok (.invokestatic 47, 3) := by decide +kernel
theorem d_A_isOrder_50 : decode b_A_isOrder 50 = .ok (.ireturn, 1) := by decide +kernel
theorem d_A_isOrder_51 : decode b_A_isOrder 51 = .ok (.iload_n 1, 1) := by decide +kernel
theorem d_A_isOrder_52 : decode b_A_isOrder 52 = .ok (.iconst 0, 1) := by decide +kernel
theorem d_A_isOrder_53 : decode b_A_isOrder 53 = .ok (.iconst 3, 1) := by decide +kernel
theorem d_A_isOrder_54 : decode b_A_isOrder 54 = .ok (.invokestatic 47, 3) := by decide +kernel
theorem d_A_isOrder_57 : decode b_A_isOrder 57 = .ok (.ireturn, 1) := by decide +kernel
theorem d_A_isOrder_58 : decode b_A_isOrder 58 = .ok (.iconst 0, 1) := by decide +kernel
theorem d_A_isOrder_59 : decode b_A_isOrder 59 = .ok (.ireturn, 1) := by decide +kernel
theorem d_G_add_0 : decode b_G_add 0 = .ok (.aload_n 0, 1) := by decide +kernel
theorem d_G_add_1 : decode b_G_add 1 = .ok (.getfield 9, 3) := by decide +kernel
theorem d_G_add_4 : decode b_G_add 4 = .ok (.aload_n 0, 1) := by decide +kernel
theorem d_G_add_5 : decode b_G_add 5 = .ok (.getfield 18, 3) := by decide +kernel
theorem d_G_add_8 : decode b_G_add 8 = .ok (.iload_n 1, 1) := by decide +kernel
theorem d_G_add_9 : decode b_G_add 9 = .ok (.iastore, 1) := by decide +kernel
theorem d_G_add_10 : decode b_G_add 10 = .ok (.aload_n 0, 1) := by decide +kernel
theorem d_G_add_11 : decode b_G_add 11 = .ok (.getfield 15, 3) := by decide +kernel
theorem d_G_add_14 : decode b_G_add 14 = .ok (.aload_n 0, 1) := by decide +kernel
theorem d_G_add_15 : decode b_G_add 15 = .ok (.getfield 18, 3) := by decide +kernel
theorem d_G_add_18 : decode b_G_add 18 = .ok (.iload_n 2, 1) := by decide +kernel
theorem d_G_add_19 : decode b_G_add 19 = .ok (.iastore, 1) := by decide +kernel
theorem d_G_add_20 : decode b_G_add 20 = .ok (.aload_n 0, 1) := by decide +kernel
theorem d_G_add_21 : decode b_G_add 21 = .ok (.dup, 1) := by decide +kernel
theorem d_G_add_22 : decode b_G_add 22 = .ok (.getfield 18, 3) := by decide +kernel
theorem d_G_add_25 : decode b_G_add 25 = .ok (.iconst 1, 1) := by decide +kernel
theorem d_G_add_26 : decode b_G_add 26 = .ok (.iadd, 1) := by decide +kernel
theorem d_G_add_27 : decode b_G_add 27 = .ok (.putfield 18, 3) := by decide +kernel
theorem d_G_add_30 : decode b_G_add 30 = .ok (.return_, 1) := by decide +kernel
theorem d_A_action_0 : decode b_A_action 0 = .ok (.iload_n 1, 1) := by decide +kernel
theorem d_A_action_1 : decode b_A_action 1 = .ok (.invokestatic 43, 3) := by decide +kernel
theorem d_A_action_4 : decode b_A_action 4 = .ok (.ifCond .eq 12, 3) := by decide +kernel
theorem d_A_action_7 : decode b_A_action 7 = .ok (.iload_n 2, 1) := by decide +kernel
theorem d_A_action_8 : decode b_A_action 8 = .ok (.iconst 0, 1) := by decide +kernel
theorem d_A_action_9 : decode b_A_action 9 = .ok (.iconst 2, 1) := by decide +kernel
theorem d_A_action_10 : decode b_A_action 10 = .ok (.invokestatic 47, 3) := by decide +kernel
theorem d_A_action_13 : decode b_A_action 13 = .ok (.ifCond .ne 5, 3) := by decide +kernel
theorem d_A_action_16 : decode b_A_action 16 = .ok (.iconst (-1), 1) := by decide +kernel
theorem d_A_action_17 : decode b_A_action 17 = .ok (.ireturn, 1) := by decide +kernel
theorem d_A_action_18 : decode b_A_action 18 = .ok (.aload_n 0, 1) := by decide +kernel
theorem d_A_action_19 : decode b_A_action 19 = .ok (.getfield 18, 3) := by decide +kernel
theorem d_A_action_22 : decode b_A_action 22 = .ok (.iload_n 1, 1) := by decide +kernel
theorem d_A_action_23 : decode b_A_action 23 = .ok (.aaload, 1) := by decide +kernel
theorem d_A_action_24 : decode b_A_action 24 = .ok (.iload_n 2, 1) := by decide +kernel
theorem d_A_action_25 : decode b_A_action 25 = .ok (.putfield 85, 3) := by decide +kernel
theorem d_A_action_28 : decode b_A_action 28 = .ok (.iconst 0, 1) := by decide +kernel
theorem d_A_action_29 : decode b_A_action 29 = .ok (.ireturn, 1) := by decide +kernel
theorem d_A_on_0 : decode b_A_on 0 = .ok (.iload_n 1, 1) := by decide +kernel
theorem d_A_on_1 : decode b_A_on 1 = .ok (.invokestatic 43, 3) := by decide +kernel
theorem d_A_on_4 : decode b_A_on 4 = .ok (.ifCond .eq 11, 3) := by decide +kernel
theorem d_A_on_7 : decode b_A_on 7 = .ok (.aload_n 0, 1) := by decide +kernel
theorem d_A_on_8 : decode b_A_on 8 = .ok (.iload_n 1, 1) := by decide +kernel
theorem d_A_on_9 : decode b_A_on 9 = .ok (.invokevirtual 88, 3) := by decide +kernel
theorem d_A_on_12 : decode b_A_on 12 = .ok (.ifCond .eq 5, 3) := by decide +kernel
theorem d_A_on_15 : decode b_A_on 15 = .ok (.iconst (-1), 1) := by decide +kernel
theorem d_A_on_16 : decode b_A_on 16 = .ok (.ireturn, 1) := by decide +kernel
theorem d_A_on_17 : decode b_A_on 17 = .ok (.aload_n 0, 1) := by decide +kernel
theorem d_A_on_18 : decode b_A_on 18 = .ok (.getfield 18, 3) := by decide +kernel
theorem d_A_on_21 : decode b_A_on 21 = .ok (.iload_n 1, 1) := by decide +kernel
theorem d_A_on_22 : decode b_A_on 22 = .ok (.aaload, 1) := by decide +kernel
theorem d_A_on_23 : decode b_A_on 23 = .ok (.iconst 1, 1) := by decide +kernel
theorem d_A_on_24 : decode b_A_on 24 = .ok (.putfield 91, 3) := by decide +kernel
theorem d_A_on_27 : decode b_A_on 27 = .ok (.aload_n 0, 1) := by decide +kernel
theorem d_A_on_28 : decode b_A_on 28 = .ok (.iload_n 1, 1) := by decide +kernel
theorem d_A_on_29 : decode b_A_on 29 = .ok (.invokevirtual 94, 3) := by decide +kernel
theorem d_A_on_32 : decode b_A_on 32 = .ok (.iconst 0, 1) := by decide +kernel
theorem d_A_on_33 : decode b_A_on 33 = .ok (.istore_n 2, 1) := by decide +kernel
theorem d_A_on_34 : decode b_A_on 34 = .ok (.iload_n 2, 1) := by decide +kernel
theorem d_A_on_35 : decode b_A_on 35 = .ok (.aload_n 0, 1) := by decide +kernel
theorem d_A_on_36 : decode b_A_on 36 = .ok (.getfield 63, 3) := by decide +kernel
theorem d_A_on_39 : decode b_A_on 39 = .ok (.if_icmp .ge 47, 3) := by decide +kernel
theorem d_A_on_42 : decode b_A_on 42 = .ok (.aload_n 0, 1) := by decide +kernel
theorem d_A_on_43 : decode b_A_on 43 = .ok (.getfield 25, 3) := by decide +kernel
theorem d_A_on_46 : decode b_A_on 46 = .ok (.iload_n 2, 1) := by decide +kernel
theorem d_A_on_47 : decode b_A_on 47 = .ok (.aaload, 1) := by decide +kernel
theorem d_A_on_48 : decode b_A_on 48 = .ok (.getfield 97, 3) := by decide +kernel
theorem d_A_on_51 : decode b_A_on 51 = .ok (.iload_n 1, 1) := by decide +kernel
theorem d_A_on_52 : decode b_A_on 52 = .ok (.if_icmp .ne 28, 3) := by decide +kernel
theorem d_A_on_55 : decode b_A_on 55 = .ok (.aload_n 0, 1) := by decide +kernel
theorem d_A_on_56 : decode b_A_on 56 = .ok (.getfield 25, 3) := by decide +kernel
theorem d_A_on_59 : decode b_A_on 59 = .ok (.iload_n 2, 1) := by decide +kernel
theorem d_A_on_60 : decode b_A_on 60 = .ok (.aaload, 1) := by decide +kernel
theorem d_A_on_61 : decode b_A_on 61 = .ok (.getfield 100, 3) := by decide +kernel
theorem d_A_on_64 : decode b_A_on 64 = .ok (.ifCond .le 16, 3) := by decide +kernel
theorem d_A_on_67 : decode b_A_on 67 = .ok (.aload_n 0, 1) := by decide +kernel
theorem d_A_on_68 : decode b_A_on 68 = .ok (.getfield 25, 3) := by decide +kernel
theorem d_A_on_71 : decode b_A_on 71 = .ok (.iload_n 2, 1) := by decide +kernel
theorem d_A_on_72 : decode b_A_on 72 = .ok (.aaload, 1) := by decide +kernel
theorem d_A_on_73 : decode b_A_on 73 = .ok (.aload_n 0, 1) := by decide +kernel
theorem d_A_on_74 : decode b_A_on 74 = .ok (.getfield 103, 3) := by decide +kernel
theorem d_A_on_77 : decode b_A_on 77 = .ok (.putfield 106, 3) := by decide +kernel
theorem d_A_on_80 : decode b_A_on 80 = .ok (.iinc 2 1, 3) := by decide +kernel
theorem d_A_on_83 : decode b_A_on 83 = .ok (.goto (-49), 3) := by decide +kernel
theorem d_A_on_86 : decode b_A_on 86 = .ok (.iconst 0, 1) := by decide +kernel
theorem d_A_on_87 : decode b_A_on 87 = .ok (.ireturn, 1) := by decide +kernel
theorem d_A_isOn_0 : decode b_A_isOn 0 = .ok (.aload_n 0, 1) := by decide +kernel
theorem d_A_isOn_1 : decode b_A_isOn 1 = .ok (.getfield 18, 3) := by decide +kernel
theorem d_A_isOn_4 : decode b_A_isOn 4 = .ok (.iload_n 1, 1) := by decide +kernel
theorem d_A_isOn_5 : decode b_A_isOn 5 = .ok (.aaload, 1) := by decide +kernel
theorem d_A_isOn_6 : decode b_A_isOn 6 = .ok (.getfield 91, 3) := by decide +kernel
theorem d_A_isOn_9 : decode b_A_isOn 9 = .ok (.iconst 1, 1) := by decide +kernel
theorem d_A_isOn_10 : decode b_A_isOn 10 = .ok (.if_icmp .ne 7, 3) := by decide +kernel
theorem d_A_isOn_13 : decode b_A_isOn 13 = .ok (.iconst 1, 1) := by decide +kernel
theorem d_A_isOn_14 : decode b_A_isOn 14 = .ok (.goto 4, 3) := by decide +kernel
theorem d_A_isOn_17 : decode b_A_isOn 17 = .ok (.iconst 0, 1) := by decide +kernel
theorem d_A_isOn_18 : decode b_A_isOn 18 = .ok (.ireturn, 1) := by decide +kernel
theorem d_A_restAll_0 : decode b_A_restAll 0 = .ok (.iconst 0, 1) := by decide +kernel
theorem d_A_restAll_1 : decode b_A_restAll 1 = .ok (.istore_n 2, 1) := by decide +kernel
theorem d_A_restAll_2 : decode b_A_restAll 2 = .ok (.iload_n 2, 1) := by decide +kernel
theorem d_A_restAll_3 : decode b_A_restAll 3 = .ok (.aload_n 0, 1) := by decide +kernel
theorem d_A_restAll_4 : decode b_A_restAll 4 = .ok (.getfield 63, 3) := by decide +kernel
theorem d_A_restAll_7 : decode b_A_restAll 7 = .ok (.if_icmp .ge 31, 3) := by decide +kernel
theorem d_A_restAll_10 : decode b_A_restAll 10 = .ok (.aload_n 0, 1) := by decide +kernel
theorem d_A_restAll_11 : decode b_A_restAll 11 = .ok (.getfield 25, 3) := by decide +kernel
theorem d_A_restAll_14 : decode b_A_restAll 14 = .ok (.iload_n 2, 1) := by decide +kernel
theorem d_A_restAll_15 : decode b_A_restAll 15 = .ok (.aaload, 1) := by decide +kernel
theorem d_A_restAll_16 : decode b_A_restAll 16 = .ok (.getfield 97, 3) := by decide +kernel
theorem d_A_restAll_19 : decode b_A_restAll 19 = .ok (.iload_n 1, 1) := by decide +kernel
theorem d_A_restAll_20 : decode b_A_restAll 20 = .ok (.if_icmp .ne 12, 3) := by decide +kernel
theorem d_A_restAll_23 : decode b_A_restAll 23 = .ok (.aload_n 0, 1) := by decide +kernel
theorem d_A_restAll_24 : decode b_A_restAll 24 = .ok (.getfield 25, 3) := by decide +kernel
theorem d_A_restAll_27 : decode b_A_restAll 27 = .ok (.iload_n 2, 1) := by decide +kernel
theorem d_A_restAll_28 : decode b_A_restAll 28 = .ok (.aaload, 1) := by decide +kernel
theorem d_A_restAll_29 : decode b_A_restAll 29 = .ok (.invokevirtual 144, 3) := by decide +kernel
theorem d_A_restAll_32 : decode b_A_restAll 32 = .ok (.iinc 2 1, 3) := by decide +kernel
theorem d_A_restAll_35 : decode b_A_restAll 35 = .ok (.goto (-33), 3) := by decide +kernel
theorem d_A_restAll_38 : decode b_A_restAll 38 = .ok (.return_, 1) := by decide +kernel
theorem d_K_rest_0 : decode b_K_rest 0 = .ok (.aload_n 0, 1) := by decide +kernel
theorem d_K_rest_1 : decode b_K_rest 1 = .ok (.iconst 0, 1) := by decide +kernel
theorem d_K_rest_2 : decode b_K_rest 2 = .ok (.putfield 18, 3) := by decide +kernel
theorem d_K_rest_5 : decode b_K_rest 5 = .ok (.aload_n 0, 1) := by decide +kernel
theorem d_K_rest_6 : decode b_K_rest 6 = .ok (.iconst 0, 1) := by decide +kernel
theorem d_K_rest_7 : decode b_K_rest 7 = .ok (.putfield 59, 3) := by decide +kernel
theorem d_K_rest_10 : decode b_K_rest 10 = .ok (.aload_n 0, 1) := by decide +kernel
theorem d_K_rest_11 : decode b_K_rest 11 = .ok (.iconst 0, 1) := by decide +kernel
theorem d_K_rest_12 : decode b_K_rest 12 = .ok (.putfield 62, 3) := by decide +kernel
theorem d_K_rest_15 : decode b_K_rest 15 = .ok (.aload_n 0, 1) := by decide +kernel
theorem d_K_rest_16 : decode b_K_rest 16 = .ok (.iconst (-1), 1) := by decide +kernel
theorem d_K_rest_17 : decode b_K_rest 17 = .ok (.putfield 22, 3) := by decide +kernel
theorem d_K_rest_20 : decode b_K_rest 20 = .ok (.return_, 1) := by decide +kernel
theorem d_A_start_0 : decode b_A_start 0 = .ok (.aload_n 0, 1) := by decide +kernel
theorem d_A_start_1 : decode b_A_start 1 = .ok (.iload_n 1, 1) := by decide +kernel
theorem d_A_start_2 : decode b_A_start 2 = .ok (.invokevirtual 70, 3) := by decide +kernel
theorem d_A_start_5 : decode b_A_start 5 = .ok (.ifCond .ne 5, 3) := by decide +kernel
theorem d_A_start_8 : decode b_A_start 8 = .ok (.iconst (-1), 1) := by decide +kernel
theorem d_A_start_9 : decode b_A_start 9 = .ok (.ireturn, 1) := by decide +kernel
theorem d_A_start_10 : decode b_A_start 10 = .ok (.aload_n 0, 1) := by decide +kernel
theorem d_A_start_11 : decode b_A_start 11 = .ok (.getfield 25, 3) := by decide +kernel
theorem d_A_start_14 : decode b_A_start 14 = .ok (.iload_n 1, 1) := by decide +kernel
theorem d_A_start_15 : decode b_A_start 15 = .ok (.aaload, 1) := by decide +kernel
theorem d_A_start_16 : decode b_A_start 16 = .ok (.astore_n 2, 1) := by decide +kernel
theorem d_A_start_17 : decode b_A_start 17 = .ok (.aload_n 2, 1) := by decide +kernel
theorem d_A_start_18 : decode b_A_start 18 = .ok (.getfield 100, 3) := by decide +kernel
theorem d_A_start_21 : decode b_A_start 21 = .ok (.ifCond .gt 21, 3) := by decide +kernel
theorem d_A_start_24 : decode b_A_start 24 = .ok (.aload_n 2, 1) := by decide +kernel
theorem d_A_start_25 : decode b_A_start 25 = .ok (.getfield 109, 3) := by decide +kernel
theorem d_A_start_28 : decode b_A_start 28 = .ok (.ifCond .ne 14, 3) := by decide +kernel
theorem d_A_start_31 : decode b_A_start 31 = .ok (.aload_n 0, 1) := by decide +kernel
theorem d_A_start_32 : decode b_A_start 32 = .ok (.aload_n 2, 1) := by decide +kernel
theorem d_A_start_33 : decode b_A_start 33 = .ok (.getfield 97, 3) := by decide +kernel
theorem d_A_start_36 : decode b_A_start 36 = .ok (.invokevirtual 88, 3) := by decide +kernel
theorem d_A_start_39 : decode b_A_start 39 = .ok (.ifCond .ne 5, 3) := by decide +kernel
theorem d_A_start_42 : decode b_A_start 42 = .ok (.iconst (-1), 1) := by decide +kernel
theorem d_A_start_43 : decode b_A_start 43 = .ok (.ireturn, 1) := by decide +kernel
theorem d_A_start_44 : decode b_A_start 44 = .ok (.aload_n 2, 1) := by decide +kernel
theorem d_A_start_45 : decode b_A_start 45 = .ok (.aload_n 0, 1) := by decide +kernel
theorem d_A_start_46 : decode b_A_start 46 = .ok (.getfield 103, 3) := by decide +kernel
theorem d_A_start_49 : decode b_A_start 49 = .ok (.aload_n 0, 1) := by decide +kernel
end
section
theorem d_A_start_50 : decode b_A_start 50 = .ok (.invokevirtual 112, 3) := by decide +kernel
theorem d_A_start_53 : decode b_A_start 53 = .ok (.invokevirtual 116, 3) := by decide +kernel
theorem d_A_start_56 : decode b_A_start 56 = .ok (.iconst 0, 1) := by decide +kernel
theorem d_A_start_57 : decode b_A_start 57 = .ok (.ireturn, 1) := by decide +kernel
theorem d_A_newTurn_0 : decode b_A_newTurn 0 = .ok (.aload_n 0, 1) := by decide +kernel
theorem d_A_newTurn_1 : decode b_A_newTurn 1 = .ok (.dup, 1) := by decide +kernel
theorem d_A_newTurn_2 : decode b_A_newTurn 2 = .ok (.getfield 140, 3) := by decide +kernel
theorem d_A_newTurn_5 : decode b_A_newTurn 5 = .ok (.lconst 1, 1) := by decide +kernel
theorem d_A_newTurn_6 : decode b_A_newTurn 6 = .ok (.ladd, 1) := by decide +kernel
theorem d_A_newTurn_7 : decode b_A_newTurn 7 = .ok (.putfield 140, 3) := by decide +kernel
theorem d_A_newTurn_10 : decode b_A_newTurn 10 = .ok (.aload_n 0, 1) := by decide +kernel
theorem d_A_newTurn_11 : decode b_A_newTurn 11 = .ok (.getfield 140, 3) := by decide +kernel
theorem d_A_newTurn_14 : decode b_A_newTurn 14 = .ok (.lreturn, 1) := by decide +kernel
theorem d_K_release_0 : decode b_K_release 0 = .ok (.aload_n 0, 1) := by decide +kernel
theorem d_K_release_1 : decode b_K_release 1 = .ok (.dup, 1) := by decide +kernel
theorem d_K_release_2 : decode b_K_release 2 = .ok (.getfield 43, 3) := by decide +kernel
theorem d_K_release_5 : decode b_K_release 5 = .ok (.iconst 1, 1) := by decide +kernel
theorem d_K_release_6 : decode b_K_release 6 = .ok (.iadd, 1) := by decide +kernel
theorem d_K_release_7 : decode b_K_release 7 = .ok (.putfield 43, 3) := by decide +kernel
theorem d_K_release_10 : decode b_K_release 10 = .ok (.aload_n 0, 1) := by decide +kernel
theorem d_K_release_11 : decode b_K_release 11 = .ok (.aload_n 0, 1) := by decide +kernel
theorem d_K_release_12 : decode b_K_release 12 = .ok (.getfield 40, 3) := by decide +kernel
theorem d_K_release_15 : decode b_K_release 15 = .ok (.ifCond .le 12, 3) := by decide +kernel
theorem d_K_release_18 : decode b_K_release 18 = .ok (.iload_n 1, 1) := by decide +kernel
theorem d_K_release_19 : decode b_K_release 19 = .ok (.aload_n 0, 1) := by decide +kernel
theorem d_K_release_20 : decode b_K_release 20 = .ok (.getfield 40, 3) := by decide +kernel
theorem d_K_release_23 : decode b_K_release 23 = .ok (.iadd, 1) := by decide +kernel
theorem d_K_release_24 : decode b_K_release 24 = .ok (.goto 4, 3) := by decide +kernel
theorem d_K_release_27 : decode b_K_release 27 = .ok (.iconst (-1), 1) := by decide +kernel
theorem d_K_release_28 : decode b_K_release 28 = .ok (.putfield 22, 3) := by decide +kernel
theorem d_K_release_31 : decode b_K_release 31 = .ok (.aload_n 0, 1) := by decide +kernel
theorem d_K_release_32 : decode b_K_release 32 = .ok (.lload_n 2, 1) := by decide +kernel
theorem d_K_release_33 : decode b_K_release 33 = .ok (.invokevirtual 46, 3) := by decide +kernel
theorem d_K_release_36 : decode b_K_release 36 = .ok (.aload_n 0, 1) := by decide +kernel
theorem d_K_release_37 : decode b_K_release 37 = .ok (.getfield 12, 3) := by decide +kernel
theorem d_K_release_40 : decode b_K_release 40 = .ok (.getfield 50, 3) := by decide +kernel
theorem d_K_release_43 : decode b_K_release 43 = .ok (.ifCond .ne 7, 3) := by decide +kernel
theorem d_K_release_46 : decode b_K_release 46 = .ok (.aload_n 0, 1) := by decide +kernel
theorem d_K_release_47 : decode b_K_release 47 = .ok (.invokevirtual 53, 3) := by decide +kernel
theorem d_K_release_50 : decode b_K_release 50 = .ok (.return_, 1) := by decide +kernel
theorem d_K_beginAnew_0 : decode b_K_beginAnew 0 = .ok (.aload_n 0, 1) := by decide +kernel
theorem d_K_beginAnew_1 : decode b_K_beginAnew 1 = .ok (.lload_n 1, 1) := by decide +kernel
theorem d_K_beginAnew_2 : decode b_K_beginAnew 2 = .ok (.invokevirtual 56, 3) := by decide +kernel
theorem d_K_beginAnew_5 : decode b_K_beginAnew 5 = .ok (.aload_n 0, 1) := by decide +kernel
theorem d_K_beginAnew_6 : decode b_K_beginAnew 6 = .ok (.iconst 0, 1) := by decide +kernel
theorem d_K_beginAnew_7 : decode b_K_beginAnew 7 = .ok (.putfield 59, 3) := by decide +kernel
theorem d_K_beginAnew_10 : decode b_K_beginAnew 10 = .ok (.aload_n 0, 1) := by decide +kernel
theorem d_K_beginAnew_11 : decode b_K_beginAnew 11 = .ok (.iconst 0, 1) := by decide +kernel
theorem d_K_beginAnew_12 : decode b_K_beginAnew 12 = .ok (.putfield 62, 3) := by decide +kernel
theorem d_K_beginAnew_15 : decode b_K_beginAnew 15 = .ok (.return_, 1) := by decide +kernel
theorem d_K_becomeReady_0 : decode b_K_becomeReady 0 = .ok (.aload_n 0, 1) := by decide +kernel
theorem d_K_becomeReady_1 : decode b_K_becomeReady 1 = .ok (.iconst 1, 1) := by decide +kernel
theorem d_K_becomeReady_2 : decode b_K_becomeReady 2 = .ok (.putfield 18, 3) := by decide +kernel
theorem d_K_becomeReady_5 : decode b_K_becomeReady 5 = .ok (.aload_n 0, 1) := by decide +kernel
theorem d_K_becomeReady_6 : decode b_K_becomeReady 6 = .ok (.lload_n 1, 1) := by decide +kernel
theorem d_K_becomeReady_7 : decode b_K_becomeReady 7 = .ok (.putfield 65, 3) := by decide +kernel
theorem d_K_becomeReady_10 : decode b_K_becomeReady 10 = .ok (.return_, 1) := by decide +kernel
theorem d_A_run_0 : decode b_A_run 0 = .ok (.iload_n 1, 1) := by decide +kernel
theorem d_A_run_1 : decode b_A_run 1 = .ok (.iconst 1, 1) := by decide +kernel
theorem d_A_run_2 : decode b_A_run 2 = .ok (.bipush 60, 2) := by decide +kernel
theorem d_A_run_4 : decode b_A_run 4 = .ok (.invokestatic 47, 3) := by decide +kernel
theorem d_A_run_7 : decode b_A_run 7 = .ok (.ifCond .ne 5, 3) := by decide +kernel
theorem d_A_run_10 : decode b_A_run 10 = .ok (.iconst (-1), 1) := by decide +kernel
theorem d_A_run_11 : decode b_A_run 11 = .ok (.ireturn, 1) := by decide +kernel
theorem d_A_run_12 : decode b_A_run 12 = .ok (.iconst 0, 1) := by decide +kernel
theorem d_A_run_13 : decode b_A_run 13 = .ok (.istore_n 2, 1) := by decide +kernel
theorem d_A_run_14 : decode b_A_run 14 = .ok (.iload_n 2, 1) := by decide +kernel
theorem d_A_run_15 : decode b_A_run 15 = .ok (.iload_n 1, 1) := by decide +kernel
theorem d_A_run_16 : decode b_A_run 16 = .ok (.if_icmp .ge 13, 3) := by decide +kernel
theorem d_A_run_19 : decode b_A_run 19 = .ok (.aload_n 0, 1) := by decide +kernel
theorem d_A_run_20 : decode b_A_run 20 = .ok (.invokevirtual 120, 3) := by decide +kernel
theorem d_A_run_23 : decode b_A_run 23 = .ok (.iinc 2 1, 3) := by decide +kernel
theorem d_A_run_26 : decode b_A_run 26 = .ok (.goto (-12), 3) := by decide +kernel
theorem d_A_run_29 : decode b_A_run 29 = .ok (.aload_n 0, 1) := by decide +kernel
theorem d_A_run_30 : decode b_A_run 30 = .ok (.getfield 103, 3) := by decide +kernel
theorem d_A_run_33 : decode b_A_run 33 = .ok (.ireturn, 1) := by decide +kernel
theorem d_A_tick_0 : decode b_A_tick 0 = .ok (.aload_n 0, 1) := by decide +kernel
theorem d_A_tick_1 : decode b_A_tick 1 = .ok (.invokevirtual 147, 3) := by decide +kernel
theorem d_A_tick_4 : decode b_A_tick 4 = .ok (.aload_n 0, 1) := by decide +kernel
theorem d_A_tick_5 : decode b_A_tick 5 = .ok (.invokevirtual 150, 3) := by decide +kernel
theorem d_A_tick_8 : decode b_A_tick 8 = .ok (.aload_n 0, 1) := by decide +kernel
theorem d_A_tick_9 : decode b_A_tick 9 = .ok (.invokevirtual 153, 3) := by decide +kernel
theorem d_A_tick_12 : decode b_A_tick 12 = .ok (.aload_n 0, 1) := by decide +kernel
theorem d_A_tick_13 : decode b_A_tick 13 = .ok (.dup, 1) := by decide +kernel
theorem d_A_tick_14 : decode b_A_tick 14 = .ok (.getfield 103, 3) := by decide +kernel
theorem d_A_tick_17 : decode b_A_tick 17 = .ok (.iconst 1, 1) := by decide +kernel
theorem d_A_tick_18 : decode b_A_tick 18 = .ok (.iadd, 1) := by decide +kernel
theorem d_A_tick_19 : decode b_A_tick 19 = .ok (.putfield 103, 3) := by decide +kernel
theorem d_A_tick_22 : decode b_A_tick 22 = .ok (.return_, 1) := by decide +kernel
theorem d_A_releaseDue_0 : decode b_A_releaseDue 0 = .ok (.iconst 0, 1) := by decide +kernel
theorem d_A_releaseDue_1 : decode b_A_releaseDue 1 = .ok (.istore_n 1, 1) := by decide +kernel
theorem d_A_releaseDue_2 : decode b_A_releaseDue 2 = .ok (.iload_n 1, 1) := by decide +kernel
theorem d_A_releaseDue_3 : decode b_A_releaseDue 3 = .ok (.aload_n 0, 1) := by decide +kernel
theorem d_A_releaseDue_4 : decode b_A_releaseDue 4 = .ok (.getfield 63, 3) := by decide +kernel
theorem d_A_releaseDue_7 : decode b_A_releaseDue 7 = .ok (.if_icmp .ge 90, 3) := by decide +kernel
theorem d_A_releaseDue_10 : decode b_A_releaseDue 10 = .ok (.aload_n 0, 1) := by decide +kernel
theorem d_A_releaseDue_11 : decode b_A_releaseDue 11 = .ok (.getfield 25, 3) := by decide +kernel
theorem d_A_releaseDue_14 : decode b_A_releaseDue 14 = .ok (.iload_n 1, 1) := by decide +kernel
theorem d_A_releaseDue_15 : decode b_A_releaseDue 15 = .ok (.aaload, 1) := by decide +kernel
theorem d_A_releaseDue_16 : decode b_A_releaseDue 16 = .ok (.astore_n 2, 1) := by decide +kernel
theorem d_A_releaseDue_17 : decode b_A_releaseDue 17 = .ok (.aload_n 2, 1) := by decide +kernel
theorem d_A_releaseDue_18 : decode b_A_releaseDue 18 = .ok (.getfield 100, 3) := by decide +kernel
theorem d_A_releaseDue_21 : decode b_A_releaseDue 21 = .ok (.ifCond .le 70, 3) := by decide +kernel
theorem d_A_releaseDue_24 : decode b_A_releaseDue 24 = .ok (.aload_n 0, 1) := by decide +kernel
theorem d_A_releaseDue_25 : decode b_A_releaseDue 25 = .ok (.aload_n 2, 1) := by decide +kernel
theorem d_A_releaseDue_26 : decode b_A_releaseDue 26 = .ok (.getfield 97, 3) := by decide +kernel
theorem d_A_releaseDue_29 : decode b_A_releaseDue 29 = .ok (.invokevirtual 88, 3) := by decide +kernel
theorem d_A_releaseDue_32 : decode b_A_releaseDue 32 = .ok (.ifCond .eq 59, 3) := by decide +kernel
theorem d_A_releaseDue_35 : decode b_A_releaseDue 35 = .ok (.aload_n 2, 1) := by decide +kernel
theorem d_A_releaseDue_36 : decode b_A_releaseDue 36 = .ok (.getfield 106, 3) := by decide +kernel
theorem d_A_releaseDue_39 : decode b_A_releaseDue 39 = .ok (.aload_n 0, 1) := by decide +kernel
theorem d_A_releaseDue_40 : decode b_A_releaseDue 40 = .ok (.getfield 103, 3) := by decide +kernel
theorem d_A_releaseDue_43 : decode b_A_releaseDue 43 = .ok (.if_icmp .ne 48, 3) := by decide +kernel
theorem d_A_releaseDue_46 : decode b_A_releaseDue 46 = .ok (.aload_n 2, 1) := by decide +kernel
theorem d_A_releaseDue_47 : decode b_A_releaseDue 47 = .ok (.getfield 109, 3) := by decide +kernel
theorem d_A_releaseDue_50 : decode b_A_releaseDue 50 = .ok (.ifCond .ne 18, 3) := by decide +kernel
theorem d_A_releaseDue_53 : decode b_A_releaseDue 53 = .ok (.aload_n 2, 1) := by decide +kernel
theorem d_A_releaseDue_54 : decode b_A_releaseDue 54 = .ok (.aload_n 0, 1) := by decide +kernel
theorem d_A_releaseDue_55 : decode b_A_releaseDue 55 = .ok (.getfield 103, 3) := by decide +kernel
theorem d_A_releaseDue_58 : decode b_A_releaseDue 58 = .ok (.aload_n 0, 1) := by decide +kernel
theorem d_A_releaseDue_59 : decode b_A_releaseDue 59 = .ok (.invokevirtual 112, 3) := by decide +kernel
theorem d_A_releaseDue_62 : decode b_A_releaseDue 62 = .ok (.invokevirtual 116, 3) := by decide +kernel
theorem d_A_releaseDue_65 : decode b_A_releaseDue 65 = .ok (.goto 13, 3) := by decide +kernel
theorem d_A_releaseDue_68 : decode b_A_releaseDue 68 = .ok (.aload_n 2, 1) := by decide +kernel
theorem d_A_releaseDue_69 : decode b_A_releaseDue 69 = .ok (.dup, 1) := by decide +kernel
theorem d_A_releaseDue_70 : decode b_A_releaseDue 70 = .ok (.getfield 156, 3) := by decide +kernel
theorem d_A_releaseDue_73 : decode b_A_releaseDue 73 = .ok (.iconst 1, 1) := by decide +kernel
theorem d_A_releaseDue_74 : decode b_A_releaseDue 74 = .ok (.iadd, 1) := by decide +kernel
theorem d_A_releaseDue_75 : decode b_A_releaseDue 75 = .ok (.putfield 156, 3) := by decide +kernel
theorem d_A_releaseDue_78 : decode b_A_releaseDue 78 = .ok (.aload_n 2, 1) := by decide +kernel
theorem d_A_releaseDue_79 : decode b_A_releaseDue 79 = .ok (.aload_n 0, 1) := by decide +kernel
theorem d_A_releaseDue_80 : decode b_A_releaseDue 80 = .ok (.getfield 103, 3) := by decide +kernel
theorem d_A_releaseDue_83 : decode b_A_releaseDue 83 = .ok (.aload_n 2, 1) := by decide +kernel
theorem d_A_releaseDue_84 : decode b_A_releaseDue 84 = .ok (.getfield 100, 3) := by decide +kernel
theorem d_A_releaseDue_87 : decode b_A_releaseDue 87 = .ok (.iadd, 1) := by decide +kernel
theorem d_A_releaseDue_88 : decode b_A_releaseDue 88 = .ok (.putfield 106, 3) := by decide +kernel
theorem d_A_releaseDue_91 : decode b_A_releaseDue 91 = .ok (.iinc 1 1, 3) := by decide +kernel
theorem d_A_releaseDue_94 : decode b_A_releaseDue 94 = .ok (.goto (-92), 3) := by decide +kernel
theorem d_A_releaseDue_97 : decode b_A_releaseDue 97 = .ok (.return_, 1) := by decide +kernel
theorem d_A_missDue_0 : decode b_A_missDue 0 = .ok (.iconst 0, 1) := by decide +kernel
theorem d_A_missDue_1 : decode b_A_missDue 1 = .ok (.istore_n 1, 1) := by decide +kernel
theorem d_A_missDue_2 : decode b_A_missDue 2 = .ok (.iload_n 1, 1) := by decide +kernel
theorem d_A_missDue_3 : decode b_A_missDue 3 = .ok (.aload_n 0, 1) := by decide +kernel
theorem d_A_missDue_4 : decode b_A_missDue 4 = .ok (.getfield 63, 3) := by decide +kernel
theorem d_A_missDue_7 : decode b_A_missDue 7 = .ok (.if_icmp .ge 50, 3) := by decide +kernel
theorem d_A_missDue_10 : decode b_A_missDue 10 = .ok (.aload_n 0, 1) := by decide +kernel
theorem d_A_missDue_11 : decode b_A_missDue 11 = .ok (.getfield 25, 3) := by decide +kernel
theorem d_A_missDue_14 : decode b_A_missDue 14 = .ok (.iload_n 1, 1) := by decide +kernel
theorem d_A_missDue_15 : decode b_A_missDue 15 = .ok (.aaload, 1) := by decide +kernel
theorem d_A_missDue_16 : decode b_A_missDue 16 = .ok (.astore_n 2, 1) := by decide +kernel
theorem d_A_missDue_17 : decode b_A_missDue 17 = .ok (.aload_n 0, 1) := by decide +kernel
theorem d_A_missDue_18 : decode b_A_missDue 18 = .ok (.aload_n 2, 1) := by decide +kernel
theorem d_A_missDue_19 : decode b_A_missDue 19 = .ok (.getfield 97, 3) := by decide +kernel
theorem d_A_missDue_22 : decode b_A_missDue 22 = .ok (.invokevirtual 88, 3) := by decide +kernel
theorem d_A_missDue_25 : decode b_A_missDue 25 = .ok (.ifCond .eq 26, 3) := by decide +kernel
theorem d_A_missDue_28 : decode b_A_missDue 28 = .ok (.aload_n 2, 1) := by decide +kernel
theorem d_A_missDue_29 : decode b_A_missDue 29 = .ok (.getfield 109, 3) := by decide +kernel
theorem d_A_missDue_32 : decode b_A_missDue 32 = .ok (.ifCond .eq 19, 3) := by decide +kernel
theorem d_A_missDue_35 : decode b_A_missDue 35 = .ok (.aload_n 2, 1) := by decide +kernel
theorem d_A_missDue_36 : decode b_A_missDue 36 = .ok (.getfield 159, 3) := by decide +kernel
theorem d_A_missDue_39 : decode b_A_missDue 39 = .ok (.aload_n 0, 1) := by decide +kernel
theorem d_A_missDue_40 : decode b_A_missDue 40 = .ok (.getfield 103, 3) := by decide +kernel
theorem d_A_missDue_43 : decode b_A_missDue 43 = .ok (.if_icmp .ne 8, 3) := by decide +kernel
theorem d_A_missDue_46 : decode b_A_missDue 46 = .ok (.aload_n 0, 1) := by decide +kernel
theorem d_A_missDue_47 : decode b_A_missDue 47 = .ok (.aload_n 2, 1) := by decide +kernel
theorem d_A_missDue_48 : decode b_A_missDue 48 = .ok (.invokevirtual 162, 3) := by decide +kernel
theorem d_A_missDue_51 : decode b_A_missDue 51 = .ok (.iinc 1 1, 3) := by decide +kernel
theorem d_A_missDue_54 : decode b_A_missDue 54 = .ok (.goto (-52), 3) := by decide +kernel
theorem d_A_missDue_57 : decode b_A_missDue 57 = .ok (.return_, 1) := by decide +kernel
theorem d_A_miss_0 : decode b_A_miss 0 = .ok (.aload_n 0, 1) := by decide +kernel
theorem d_A_miss_1 : decode b_A_miss 1 = .ok (.getfield 18, 3) := by decide +kernel
theorem d_A_miss_4 : decode b_A_miss 4 = .ok (.aload_n 1, 1) := by decide +kernel
theorem d_A_miss_5 : decode b_A_miss 5 = .ok (.getfield 97, 3) := by decide +kernel
theorem d_A_miss_8 : decode b_A_miss 8 = .ok (.aaload, 1) := by decide +kernel
theorem d_A_miss_9 : decode b_A_miss 9 = .ok (.astore_n 2, 1) := by decide +kernel
theorem d_A_miss_10 : decode b_A_miss 10 = .ok (.aload_n 1, 1) := by decide +kernel
theorem d_A_miss_11 : decode b_A_miss 11 = .ok (.dup, 1) := by decide +kernel
theorem d_A_miss_12 : decode b_A_miss 12 = .ok (.getfield 166, 3) := by decide +kernel
theorem d_A_miss_15 : decode b_A_miss 15 = .ok (.iconst 1, 1) := by decide +kernel
theorem d_A_miss_16 : decode b_A_miss 16 = .ok (.iadd, 1) := by decide +kernel
theorem d_A_miss_17 : decode b_A_miss 17 = .ok (.putfield 166, 3) := by decide +kernel
theorem d_A_miss_20 : decode b_A_miss 20 = .ok (.aload_n 1, 1) := by decide +kernel
theorem d_A_miss_21 : decode b_A_miss 21 = .ok (.iconst (-1), 1) := by decide +kernel
theorem d_A_miss_22 : decode b_A_miss 22 = .ok (.putfield 159, 3) := by decide +kernel
theorem d_A_miss_25 : decode b_A_miss 25 = .ok (.aload_n 2, 1) := by decide +kernel
theorem d_A_miss_26 : decode b_A_miss 26 = .ok (.getfield 85, 3) := by decide +kernel
theorem d_A_miss_29 : decode b_A_miss 29 = .ok (.iconst 1, 1) := by decide +kernel
theorem d_A_miss_30 : decode b_A_miss 30 = .ok (.if_icmp .ne 14, 3) := by decide +kernel
theorem d_A_miss_33 : decode b_A_miss 33 = .ok (.aload_n 1, 1) := by decide +kernel
theorem d_A_miss_34 : decode b_A_miss 34 = .ok (.aload_n 0, 1) := by decide +kernel
theorem d_A_miss_35 : decode b_A_miss 35 = .ok (.invokevirtual 112, 3) := by decide +kernel
theorem d_A_miss_38 : decode b_A_miss 38 = .ok (.invokevirtual 169, 3) := by decide +kernel
theorem d_A_miss_41 : decode b_A_miss 41 = .ok (.goto 24, 3) := by decide +kernel
theorem d_A_miss_44 : decode b_A_miss 44 = .ok (.aload_n 2, 1) := by decide +kernel
theorem d_A_miss_45 : decode b_A_miss 45 = .ok (.getfield 85, 3) := by decide +kernel
theorem d_A_miss_48 : decode b_A_miss 48 = .ok (.iconst 2, 1) := by decide +kernel
theorem d_A_miss_49 : decode b_A_miss 49 = .ok (.if_icmp .ne 16, 3) := by decide +kernel
theorem d_A_miss_52 : decode b_A_miss 52 = .ok (.aload_n 2, 1) := by decide +kernel
theorem d_A_miss_53 : decode b_A_miss 53 = .ok (.iconst 2, 1) := by decide +kernel
theorem d_A_miss_54 : decode b_A_miss 54 = .ok (.putfield 91, 3) := by decide +kernel
theorem d_A_miss_57 : decode b_A_miss 57 = .ok (.aload_n 0, 1) := by decide +kernel
theorem d_A_miss_58 : decode b_A_miss 58 = .ok (.aload_n 1, 1) := by decide +kernel
theorem d_A_miss_59 : decode b_A_miss 59 = .ok (.getfield 97, 3) := by decide +kernel
theorem d_A_miss_62 : decode b_A_miss 62 = .ok (.invokevirtual 94, 3) := by decide +kernel
theorem d_A_miss_65 : decode b_A_miss 65 = .ok (.return_, 1) := by decide +kernel
theorem d_A_giveProcessor_0 : decode b_A_giveProcessor 0 = .ok (.aload_n 0, 1) := by decide +kernel
theorem d_A_giveProcessor_1 : decode b_A_giveProcessor 1 = .ok (.getfield 10, 3) := by decide +kernel
theorem d_A_giveProcessor_4 : decode b_A_giveProcessor 4 = .ok (.aload_n 0, 1) := by decide +kernel
theorem d_A_giveProcessor_5 : decode b_A_giveProcessor 5 = .ok (.getfield 103, 3) := by decide +kernel
theorem d_A_giveProcessor_8 : decode b_A_giveProcessor 8 = .ok (.invokevirtual 128, 3) := by decide +kernel
theorem d_A_giveProcessor_11 : decode b_A_giveProcessor 11 = .ok (.istore_n 1, 1) := by decide +kernel
theorem d_A_giveProcessor_12 : decode b_A_giveProcessor 12 = .ok (.iload_n 1, 1) := by decide +kernel
theorem d_A_giveProcessor_13 : decode b_A_giveProcessor 13 = .ok (.iconst (-1), 1) := by decide +kernel
theorem d_A_giveProcessor_14 : decode b_A_giveProcessor 14 = .ok (.if_icmp .eq 11, 3) := by decide +kernel
theorem d_A_giveProcessor_17 : decode b_A_giveProcessor 17 = .ok (.aload_n 0, 1) := by decide +kernel
theorem d_A_giveProcessor_18 : decode b_A_giveProcessor 18 = .ok (.iload_n 1, 1) := by decide +kernel
theorem d_A_giveProcessor_19 : decode b_A_giveProcessor 19 = .ok (.invokevirtual 88, 3) := by decide +kernel
theorem d_A_giveProcessor_22 : decode b_A_giveProcessor 22 = .ok (.ifCond .ne 4, 3) := by decide +kernel
theorem d_A_giveProcessor_25 : decode b_A_giveProcessor 25 = .ok (.return_, 1) := by decide +kernel
theorem d_A_giveProcessor_26 : decode b_A_giveProcessor 26 = .ok (.iconst 0, 1) := by decide +kernel
theorem d_A_giveProcessor_27 : decode b_A_giveProcessor 27 = .ok (.istore_n 2, 1) := by decide +kernel
theorem d_A_giveProcessor_28 : decode b_A_giveProcessor 28 = .ok (.iload_n 2, 1) := by decide +kernel
theorem d_A_giveProcessor_29 : decode b_A_giveProcessor 29 = .ok (.bipush 64, 2) := by decide +kernel
theorem d_A_giveProcessor_31 : decode b_A_giveProcessor 31 = .ok (.if_icmp .gt 31, 3) := by decide +kernel
theorem d_A_giveProcessor_34 : decode b_A_giveProcessor 34 = .ok (.aload_n 0, 1) := by decide +kernel
theorem d_A_giveProcessor_35 : decode b_A_giveProcessor 35 = .ok (.iload_n 1, 1) := by decide +kernel
theorem d_A_giveProcessor_36 : decode b_A_giveProcessor 36 = .ok (.invokevirtual 173, 3) := by decide +kernel
theorem d_A_giveProcessor_39 : decode b_A_giveProcessor 39 = .ok (.astore_n 3, 1) := by decide +kernel
theorem d_A_giveProcessor_40 : decode b_A_giveProcessor 40 = .ok (.aload_n 3, 1) := by decide +kernel
theorem d_A_giveProcessor_41 : decode b_A_giveProcessor 41 = .ok (.ifnonnull 6, 3) := by decide +kernel
theorem d_A_giveProcessor_44 : decode b_A_giveProcessor 44 = .ok (.goto 18, 3) := by decide +kernel
theorem d_A_giveProcessor_47 : decode b_A_giveProcessor 47 = .ok (.aload_n 0, 1) := by decide +kernel
theorem d_A_giveProcessor_48 : decode b_A_giveProcessor 48 = .ok (.aload_n 3, 1) := by decide +kernel
theorem d_A_giveProcessor_49 : decode b_A_giveProcessor 49 = .ok (.invokevirtual 177, 3) := by decide +kernel
theorem d_A_giveProcessor_52 : decode b_A_giveProcessor 52 = .ok (.ifCond .eq 4, 3) := by decide +kernel
theorem d_A_giveProcessor_55 : decode b_A_giveProcessor 55 = .ok (.return_, 1) := by decide +kernel
theorem d_A_giveProcessor_56 : decode b_A_giveProcessor 56 = .ok (.iinc 2 1, 3) := by decide +kernel
theorem d_A_giveProcessor_59 : decode b_A_giveProcessor 59 = .ok (.goto (-31), 3) := by decide +kernel
theorem d_A_giveProcessor_62 : decode b_A_giveProcessor 62 = .ok (.aload_n 0, 1) := by decide +kernel
theorem d_A_giveProcessor_63 : decode b_A_giveProcessor 63 = .ok (.dup, 1) := by decide +kernel
theorem d_A_giveProcessor_64 : decode b_A_giveProcessor 64 = .ok (.getfield 137, 3) := by decide +kernel
theorem d_A_giveProcessor_67 : decode b_A_giveProcessor 67 = .ok (.iconst 1, 1) := by decide +kernel
theorem d_A_giveProcessor_68 : decode b_A_giveProcessor 68 = .ok (.iadd, 1) := by decide +kernel
theorem d_A_giveProcessor_69 : decode b_A_giveProcessor 69 = .ok (.putfield 137, 3) := by decide +kernel
theorem d_A_giveProcessor_72 : decode b_A_giveProcessor 72 = .ok (.return_, 1) := by decide +kernel
theorem d_Wr_partitionAt_0 : decode b_Wr_partitionAt 0 = .ok (.aload_n 0, 1) := by decide +kernel
theorem d_Wr_partitionAt_1 : decode b_Wr_partitionAt 1 = .ok (.getfield 18, 3) := by decide +kernel
theorem d_Wr_partitionAt_4 : decode b_Wr_partitionAt 4 = .ok (.ifCond .ne 7, 3) := by decide +kernel
theorem d_Wr_partitionAt_7 : decode b_Wr_partitionAt 7 = .ok (.iconst (-1), 1) := by decide +kernel
theorem d_Wr_partitionAt_8 : decode b_Wr_partitionAt 8 = .ok (.goto 17, 3) := by decide +kernel
theorem d_Wr_partitionAt_11 : decode b_Wr_partitionAt 11 = .ok (.aload_n 0, 1) := by decide +kernel
theorem d_Wr_partitionAt_12 : decode b_Wr_partitionAt 12 = .ok (.getfield 9, 3) := by decide +kernel
theorem d_Wr_partitionAt_15 : decode b_Wr_partitionAt 15 = .ok (.aload_n 0, 1) := by decide +kernel
theorem d_Wr_partitionAt_16 : decode b_Wr_partitionAt 16 = .ok (.aload_n 0, 1) := by decide +kernel
theorem d_Wr_partitionAt_17 : decode b_Wr_partitionAt 17 = .ok (.iload_n 1, 1) := by decide +kernel
theorem d_Wr_partitionAt_18 : decode b_Wr_partitionAt 18 = .ok (.invokevirtual 22, 3) := by decide +kernel
theorem d_Wr_partitionAt_21 : decode b_Wr_partitionAt 21 = .ok (.invokevirtual 26, 3) := by decide +kernel
theorem d_Wr_partitionAt_24 : decode b_Wr_partitionAt 24 = .ok (.iaload, 1) := by decide +kernel
theorem d_Wr_partitionAt_25 : decode b_Wr_partitionAt 25 = .ok (.ireturn, 1) := by decide +kernel
theorem d_Wr_offsetAt_0 : decode b_Wr_offsetAt 0 = .ok (.iload_n 1, 1) := by decide +kernel
theorem d_Wr_offsetAt_1 : decode b_Wr_offsetAt 1 = .ok (.aload_n 0, 1) := by decide +kernel
theorem d_Wr_offsetAt_2 : decode b_Wr_offsetAt 2 = .ok (.getfield 15, 3) := by decide +kernel
theorem d_Wr_offsetAt_5 : decode b_Wr_offsetAt 5 = .ok (.aload_n 0, 1) := by decide +kernel
theorem d_Wr_offsetAt_6 : decode b_Wr_offsetAt 6 = .ok (.getfield 18, 3) := by decide +kernel
theorem d_Wr_offsetAt_9 : decode b_Wr_offsetAt 9 = .ok (.iconst 1, 1) := by decide +kernel
theorem d_Wr_offsetAt_10 : decode b_Wr_offsetAt 10 = .ok (.isub, 1) := by decide +kernel
theorem d_Wr_offsetAt_11 : decode b_Wr_offsetAt 11 = .ok (.iaload, 1) := by decide +kernel
theorem d_Wr_offsetAt_12 : decode b_Wr_offsetAt 12 = .ok (.invokestatic 29, 3) := by decide +kernel
theorem d_Wr_offsetAt_15 : decode b_Wr_offsetAt 15 = .ok (.ireturn, 1) := by decide +kernel
theorem d_J_floorMod_0 : decode b_J_floorMod 0 = .ok (.iload_n 0, 1) := by decide +kernel
theorem d_J_floorMod_1 : decode b_J_floorMod 1 = .ok (.iload_n 1, 1) := by decide +kernel
theorem d_J_floorMod_2 : decode b_J_floorMod 2 = .ok (.irem, 1) := by decide +kernel
theorem d_J_floorMod_3 : decode b_J_floorMod 3 = .ok (.istore_n 2, 1) := by decide +kernel
theorem d_J_floorMod_4 : decode b_J_floorMod 4 = .ok (.iload_n 0, 1) := by decide +kernel
theorem d_J_floorMod_5 : decode b_J_floorMod 5 = .ok (.iload_n 1, 1) := by decide +kernel
theorem d_J_floorMod_6 : decode b_J_floorMod 6 = .ok (.ixor, 1) := by decide +kernel
theorem d_J_floorMod_7 : decode b_J_floorMod 7 = .ok (.ifCond .ge 11, 3) := by decide +kernel
theorem d_J_floorMod_10 : decode b_J_floorMod 10 = .ok (.iload_n 2, 1) := by decide +kernel
theorem d_J_floorMod_11 : decode b_J_floorMod 11 = .ok (.ifCond .eq 7, 3) := by decide +kernel
theorem d_J_floorMod_14 : decode b_J_floorMod 14 = .ok (.iload_n 2, 1) := by decide +kernel
theorem d_J_floorMod_15 : decode b_J_floorMod 15 = .ok (.iload_n 1, 1) := by decide +kernel
theorem d_J_floorMod_16 : decode b_J_floorMod 16 = .ok (.iadd, 1) := by decide +kernel
theorem d_J_floorMod_17 : decode b_J_floorMod 17 = .ok (.ireturn, 1) := by decide +kernel
theorem d_J_floorMod_18 : decode b_J_floorMod 18 = .ok (.iload_n 2, 1) := by decide +kernel
theorem d_J_floorMod_19 : decode b_J_floorMod 19 = .ok (.ireturn, 1) := by decide +kernel
theorem d_Wr_indexOf_0 : decode b_Wr_indexOf 0 = .ok (.iconst 0, 1) := by decide +kernel
theorem d_Wr_indexOf_1 : decode b_Wr_indexOf 1 = .ok (.istore_n 2, 1) := by decide +kernel
theorem d_Wr_indexOf_2 : decode b_Wr_indexOf 2 = .ok (.iload_n 2, 1) := by decide +kernel
theorem d_Wr_indexOf_3 : decode b_Wr_indexOf 3 = .ok (.aload_n 0, 1) := by decide +kernel
theorem d_Wr_indexOf_4 : decode b_Wr_indexOf 4 = .ok (.getfield 18, 3) := by decide +kernel
theorem d_Wr_indexOf_7 : decode b_Wr_indexOf 7 = .ok (.iconst 1, 1) := by decide +kernel
theorem d_Wr_indexOf_8 : decode b_Wr_indexOf 8 = .ok (.isub, 1) := by decide +kernel
theorem d_Wr_indexOf_9 : decode b_Wr_indexOf 9 = .ok (.if_icmp .ge 19, 3) := by decide +kernel
theorem d_Wr_indexOf_12 : decode b_Wr_indexOf 12 = .ok (.iload_n 1, 1) := by decide +kernel
theorem d_Wr_indexOf_13 : decode b_Wr_indexOf 13 = .ok (.aload_n 0, 1) := by decide +kernel
theorem d_Wr_indexOf_14 : decode b_Wr_indexOf 14 = .ok (.getfield 15, 3) := by decide +kernel
theorem d_Wr_indexOf_17 : decode b_Wr_indexOf 17 = .ok (.iload_n 2, 1) := by decide +kernel
theorem d_Wr_indexOf_18 : decode b_Wr_indexOf 18 = .ok (.iaload, 1) := by decide +kernel
theorem d_Wr_indexOf_19 : decode b_Wr_indexOf 19 = .ok (.if_icmp .lt 9, 3) := by decide +kernel
theorem d_Wr_indexOf_22 : decode b_Wr_indexOf 22 = .ok (.iinc 2 1, 3) := by decide +kernel
theorem d_Wr_indexOf_25 : decode b_Wr_indexOf 25 = .ok (.goto (-23), 3) := by decide +kernel
theorem d_Wr_indexOf_28 : decode b_Wr_indexOf 28 = .ok (.iload_n 2, 1) := by decide +kernel
theorem d_Wr_indexOf_29 : decode b_Wr_indexOf 29 = .ok (.ireturn, 1) := by decide +kernel
theorem d_A_firstReady_0 : decode b_A_firstReady 0 = .ok (.aconst_null, 1) := by decide +kernel
theorem d_A_firstReady_1 : decode b_A_firstReady 1 = .ok (.astore_n 2, 1) := by decide +kernel
theorem d_A_firstReady_2 : decode b_A_firstReady 2 = .ok (.iconst 0, 1) := by decide +kernel
theorem d_A_firstReady_3 : decode b_A_firstReady 3 = .ok (.istore_n 3, 1) := by decide +kernel
theorem d_A_firstReady_4 : decode b_A_firstReady 4 = .ok (.iload_n 3, 1) := by decide +kernel
theorem d_A_firstReady_5 : decode b_A_firstReady 5 = .ok (.aload_n 0, 1) := by decide +kernel
theorem d_A_firstReady_6 : decode b_A_firstReady 6 = .ok (.getfield 63, 3) := by decide +kernel
theorem d_A_firstReady_9 : decode b_A_firstReady 9 = .ok (.if_icmp .ge 47, 3) := by decide +kernel
theorem d_A_firstReady_12 : decode b_A_firstReady 12 = .ok (.aload_n 0, 1) := by decide +kernel
theorem d_A_firstReady_13 : decode b_A_firstReady 13 = .ok (.getfield 25, 3) := by decide +kernel
theorem d_A_firstReady_16 : decode b_A_firstReady 16 = .ok (.iload_n 3, 1) := by decide +kernel
theorem d_A_firstReady_17 : decode b_A_firstReady 17 = .ok (.aaload, 1) := by decide +kernel
theorem d_A_firstReady_18 : decode b_A_firstReady 18 = .ok (.astore 4, 2) := by decide +kernel
theorem d_A_firstReady_20 : decode b_A_firstReady 20 = .ok (.aload 4, 2) := by decide +kernel
theorem d_A_firstReady_22 : decode b_A_firstReady 22 = .ok (.getfield 97, 3) := by decide +kernel
theorem d_A_firstReady_25 : decode b_A_firstReady 25 = .ok (.iload_n 1, 1) := by decide +kernel
theorem d_A_firstReady_26 : decode b_A_firstReady 26 = .ok (.if_icmp .ne 24, 3) := by decide +kernel
theorem d_A_firstReady_29 : decode b_A_firstReady 29 = .ok (.aload 4, 2) := by decide +kernel
theorem d_A_firstReady_31 : decode b_A_firstReady 31 = .ok (.getfield 109, 3) := by decide +kernel
theorem d_A_firstReady_34 : decode b_A_firstReady 34 = .ok (.iconst 1, 1) := by decide +kernel
theorem d_A_firstReady_35 : decode b_A_firstReady 35 = .ok (.if_icmp .ne 15, 3) := by decide +kernel
theorem d_A_firstReady_38 : decode b_A_firstReady 38 = .ok (.aload 4, 2) := by decide +kernel
theorem d_A_firstReady_40 : decode b_A_firstReady 40 = .ok (.aload_n 2, 1) := by decide +kernel
theorem d_A_firstReady_41 : decode b_A_firstReady 41 = .ok (.invokevirtual 235, 3) := by decide +kernel
theorem d_A_firstReady_44 : decode b_A_firstReady 44 = .ok (.ifCond .eq 6, 3) := by decide +kernel
theorem d_A_firstReady_47 : decode b_A_firstReady 47 = .ok (.aload 4, 2) := by decide +kernel
theorem d_A_firstReady_49 : decode b_A_firstReady 49 = .ok (.astore_n 2, 1) := by decide +kernel
theorem d_A_firstReady_50 : decode b_A_firstReady 50 = .ok (.iinc 3 1, 3) := by decide +kernel
theorem d_A_firstReady_53 : decode b_A_firstReady 53 = .ok (.goto (-49), 3) := by decide +kernel
theorem d_A_firstReady_56 : decode b_A_firstReady 56 = .ok (.aload_n 2, 1) := by decide +kernel
theorem d_A_firstReady_57 : decode b_A_firstReady 57 = .ok (.areturn, 1) := by decide +kernel
theorem d_K_comesBefore_0 : decode b_K_comesBefore 0 = .ok (.aload_n 1, 1) := by decide +kernel
theorem d_K_comesBefore_1 : decode b_K_comesBefore 1 = .ok (.ifnonnull 5, 3) := by decide +kernel
theorem d_K_comesBefore_4 : decode b_K_comesBefore 4 = .ok (.iconst 1, 1) := by decide +kernel
theorem d_K_comesBefore_5 : decode b_K_comesBefore 5 = .ok (.ireturn, 1) := by decide +kernel
theorem d_K_comesBefore_6 : decode b_K_comesBefore 6 = .ok (.aload_n 0, 1) := by decide +kernel
theorem d_K_comesBefore_7 : decode b_K_comesBefore 7 = .ok (.getfield 34, 3) := by decide +kernel
theorem d_K_comesBefore_10 : decode b_K_comesBefore 10 = .ok (.aload_n 1, 1) := by decide +kernel
theorem d_K_comesBefore_11 : decode b_K_comesBefore 11 = .ok (.getfield 34, 3) := by decide +kernel
theorem d_K_comesBefore_14 : decode b_K_comesBefore 14 = .ok (.if_icmp .ne 23, 3) := by decide +kernel
theorem d_K_comesBefore_17 : decode b_K_comesBefore 17 = .ok (.aload_n 0, 1) := by decide +kernel
theorem d_K_comesBefore_18 : decode b_K_comesBefore 18 = .ok (.getfield 65, 3) := by decide +kernel
theorem d_K_comesBefore_21 : decode b_K_comesBefore 21 = .ok (.aload_n 1, 1) := by decide +kernel
theorem d_K_comesBefore_22 : decode b_K_comesBefore 22 = .ok (.getfield 65, 3) := by decide +kernel
theorem d_K_comesBefore_25 : decode b_K_comesBefore 25 = .ok (.lcmp, 1) := by decide +kernel
theorem d_K_comesBefore_26 : decode b_K_comesBefore 26 = .ok (.ifCond .ge 7, 3) := by decide +kernel
theorem d_K_comesBefore_29 : decode b_K_comesBefore 29 = .ok (.iconst 1, 1) := by decide +kernel
theorem d_K_comesBefore_30 : decode b_K_comesBefore 30 = .ok (.goto 23, 3) := by decide +kernel
theorem d_K_comesBefore_33 : decode b_K_comesBefore 33 = .ok (.iconst 0, 1) := by decide +kernel
theorem d_K_comesBefore_34 : decode b_K_comesBefore 34 = .ok (.goto 19, 3) := by decide +kernel
theorem d_K_comesBefore_37 : decode b_K_comesBefore 37 = .ok (.aload_n 0, 1) := by decide +kernel
theorem d_K_comesBefore_38 : decode b_K_comesBefore 38 = .ok (.getfield 34, 3) := by decide +kernel
theorem d_K_comesBefore_41 : decode b_K_comesBefore 41 = .ok (.aload_n 1, 1) := by decide +kernel
theorem d_K_comesBefore_42 : decode b_K_comesBefore 42 = .ok (.getfield 34, 3) := by decide +kernel
theorem d_K_comesBefore_45 : decode b_K_comesBefore 45 = .ok (.if_icmp .le 7, 3) := by decide +kernel
theorem d_K_comesBefore_48 : decode b_K_comesBefore 48 = .ok (.iconst 1, 1) := by decide +kernel
theorem d_K_comesBefore_49 : decode b_K_comesBefore 49 = .ok (.goto 4, 3) := by decide +kernel
theorem d_K_comesBefore_52 : decode b_K_comesBefore 52 = .ok (.iconst 0, 1) := by decide +kernel
theorem d_K_comesBefore_53 : decode b_K_comesBefore 53 = .ok (.ireturn, 1) := by decide +kernel
theorem d_A_doOrder_0 : decode b_A_doOrder 0 = .ok (.aload_n 1, 1) := by decide +kernel
theorem d_A_doOrder_1 : decode b_A_doOrder 1 = .ok (.getfield 77, 3) := by decide +kernel
theorem d_A_doOrder_4 : decode b_A_doOrder 4 = .ok (.getfield 181, 3) := by decide +kernel
theorem d_A_doOrder_7 : decode b_A_doOrder 7 = .ok (.aload_n 1, 1) := by decide +kernel
theorem d_A_doOrder_8 : decode b_A_doOrder 8 = .ok (.getfield 184, 3) := by decide +kernel
theorem d_A_doOrder_11 : decode b_A_doOrder 11 = .ok (.iaload, 1) := by decide +kernel
theorem d_A_doOrder_12 : decode b_A_doOrder 12 = .ok (.istore_n 2, 1) := by decide +kernel
theorem d_A_doOrder_13 : decode b_A_doOrder 13 = .ok (.aload_n 1, 1) := by decide +kernel
theorem d_A_doOrder_14 : decode b_A_doOrder 14 = .ok (.getfield 77, 3) := by decide +kernel
theorem d_A_doOrder_17 : decode b_A_doOrder 17 = .ok (.getfield 187, 3) := by decide +kernel
theorem d_A_doOrder_20 : decode b_A_doOrder 20 = .ok (.aload_n 1, 1) := by decide +kernel
theorem d_A_doOrder_21 : decode b_A_doOrder 21 = .ok (.getfield 184, 3) := by decide +kernel
theorem d_A_doOrder_24 : decode b_A_doOrder 24 = .ok (.iaload, 1) := by decide +kernel
theorem d_A_doOrder_25 : decode b_A_doOrder 25 = .ok (.tableswitch 65 0 3 #[31, 38, 47, 56], 31) := by decide +kernel
theorem d_A_doOrder_56 : decode b_A_doOrder 56 = .ok (.aload_n 1, 1) := by decide +kernel
theorem d_A_doOrder_57 : decode b_A_doOrder 57 = .ok (.iload_n 2, 1) := by decide +kernel
theorem d_A_doOrder_58 : decode b_A_doOrder 58 = .ok (.invokevirtual 190, 3) := by decide +kernel
theorem d_A_doOrder_61 : decode b_A_doOrder 61 = .ok (.iconst 1, 1) := by decide +kernel
theorem d_A_doOrder_62 : decode b_A_doOrder 62 = .ok (.ireturn, 1) := by decide +kernel
theorem d_A_doOrder_63 : decode b_A_doOrder 63 = .ok (.aload_n 0, 1) := by decide +kernel
theorem d_A_doOrder_64 : decode b_A_doOrder 64 = .ok (.aload_n 1, 1) := by decide +kernel
theorem d_A_doOrder_65 : decode b_A_doOrder 65 = .ok (.iload_n 2, 1) := by decide +kernel
theorem d_A_doOrder_66 : decode b_A_doOrder 66 = .ok (.invokevirtual 193, 3) := by decide +kernel
theorem d_A_doOrder_69 : decode b_A_doOrder 69 = .ok (.goto 27, 3) := by decide +kernel
theorem d_A_doOrder_72 : decode b_A_doOrder 72 = .ok (.aload_n 0, 1) := by decide +kernel
theorem d_A_doOrder_73 : decode b_A_doOrder 73 = .ok (.aload_n 1, 1) := by decide +kernel
theorem d_A_doOrder_74 : decode b_A_doOrder 74 = .ok (.iload_n 2, 1) := by decide +kernel
theorem d_A_doOrder_75 : decode b_A_doOrder 75 = .ok (.invokevirtual 197, 3) := by decide +kernel
theorem d_A_doOrder_78 : decode b_A_doOrder 78 = .ok (.goto 18, 3) := by decide +kernel
theorem d_A_doOrder_81 : decode b_A_doOrder 81 = .ok (.aload_n 0, 1) := by decide +kernel
theorem d_A_doOrder_82 : decode b_A_doOrder 82 = .ok (.aload_n 1, 1) := by decide +kernel
theorem d_A_doOrder_83 : decode b_A_doOrder 83 = .ok (.iload_n 2, 1) := by decide +kernel
theorem d_A_doOrder_84 : decode b_A_doOrder 84 = .ok (.invokevirtual 200, 3) := by decide +kernel
theorem d_A_doOrder_87 : decode b_A_doOrder 87 = .ok (.goto 9, 3) := by decide +kernel
theorem d_A_doOrder_90 : decode b_A_doOrder 90 = .ok (.aload_n 0, 1) := by decide +kernel
theorem d_A_doOrder_91 : decode b_A_doOrder 91 = .ok (.aload_n 1, 1) := by decide +kernel
theorem d_A_doOrder_92 : decode b_A_doOrder 92 = .ok (.iload_n 2, 1) := by decide +kernel
theorem d_A_doOrder_93 : decode b_A_doOrder 93 = .ok (.invokevirtual 203, 3) := by decide +kernel
theorem d_A_doOrder_96 : decode b_A_doOrder 96 = .ok (.iconst 0, 1) := by decide +kernel
theorem d_A_doOrder_97 : decode b_A_doOrder 97 = .ok (.ireturn, 1) := by decide +kernel
theorem d_K_work_0 : decode b_K_work 0 = .ok (.aload_n 0, 1) := by decide +kernel
theorem d_K_work_1 : decode b_K_work 1 = .ok (.dup, 1) := by decide +kernel
theorem d_K_work_2 : decode b_K_work 2 = .ok (.getfield 69, 3) := by decide +kernel
theorem d_K_work_5 : decode b_K_work 5 = .ok (.iconst 1, 1) := by decide +kernel
theorem d_K_work_6 : decode b_K_work 6 = .ok (.iadd, 1) := by decide +kernel
theorem d_K_work_7 : decode b_K_work 7 = .ok (.putfield 69, 3) := by decide +kernel
theorem d_K_work_10 : decode b_K_work 10 = .ok (.aload_n 0, 1) := by decide +kernel
theorem d_K_work_11 : decode b_K_work 11 = .ok (.dup, 1) := by decide +kernel
theorem d_K_work_12 : decode b_K_work 12 = .ok (.getfield 62, 3) := by decide +kernel
theorem d_K_work_15 : decode b_K_work 15 = .ok (.iconst 1, 1) := by decide +kernel
theorem d_K_work_16 : decode b_K_work 16 = .ok (.iadd, 1) := by decide +kernel
theorem d_K_work_17 : decode b_K_work 17 = .ok (.putfield 62, 3) := by decide +kernel
theorem d_K_work_20 : decode b_K_work 20 = .ok (.aload_n 0, 1) := by decide +kernel
theorem d_K_work_21 : decode b_K_work 21 = .ok (.getfield 62, 3) := by decide +kernel
theorem d_K_work_24 : decode b_K_work 24 = .ok (.iload_n 1, 1) := by decide +kernel
theorem d_K_work_25 : decode b_K_work 25 = .ok (.if_icmp .lt 7, 3) := by decide +kernel
theorem d_K_work_28 : decode b_K_work 28 = .ok (.aload_n 0, 1) := by decide +kernel
theorem d_K_work_29 : decode b_K_work 29 = .ok (.invokevirtual 72, 3) := by decide +kernel
theorem d_K_work_32 : decode b_K_work 32 = .ok (.return_, 1) := by decide +kernel
theorem d_K_advance_0 : decode b_K_advance 0 = .ok (.aload_n 0, 1) := by decide +kernel
theorem d_K_advance_1 : decode b_K_advance 1 = .ok (.dup, 1) := by decide +kernel
theorem d_K_advance_2 : decode b_K_advance 2 = .ok (.getfield 59, 3) := by decide +kernel
theorem d_K_advance_5 : decode b_K_advance 5 = .ok (.iconst 1, 1) := by decide +kernel
theorem d_K_advance_6 : decode b_K_advance 6 = .ok (.iadd, 1) := by decide +kernel
theorem d_K_advance_7 : decode b_K_advance 7 = .ok (.putfield 59, 3) := by decide +kernel
theorem d_K_advance_10 : decode b_K_advance 10 = .ok (.aload_n 0, 1) := by decide +kernel
theorem d_K_advance_11 : decode b_K_advance 11 = .ok (.iconst 0, 1) := by decide +kernel
theorem d_K_advance_12 : decode b_K_advance 12 = .ok (.putfield 62, 3) := by decide +kernel
theorem d_K_advance_15 : decode b_K_advance 15 = .ok (.aload_n 0, 1) := by decide +kernel
theorem d_K_advance_16 : decode b_K_advance 16 = .ok (.getfield 59, 3) := by decide +kernel
theorem d_K_advance_19 : decode b_K_advance 19 = .ok (.aload_n 0, 1) := by decide +kernel
theorem d_K_advance_20 : decode b_K_advance 20 = .ok (.getfield 12, 3) := by decide +kernel
theorem d_K_advance_23 : decode b_K_advance 23 = .ok (.getfield 50, 3) := by decide +kernel
theorem d_K_advance_26 : decode b_K_advance 26 = .ok (.if_icmp .lt 7, 3) := by decide +kernel
theorem d_K_advance_29 : decode b_K_advance 29 = .ok (.aload_n 0, 1) := by decide +kernel
theorem d_K_advance_30 : decode b_K_advance 30 = .ok (.invokevirtual 53, 3) := by decide +kernel
theorem d_K_advance_33 : decode b_K_advance 33 = .ok (.return_, 1) := by decide +kernel
theorem d_A_send_0 : decode b_A_send 0 = .ok (.aload_n 1, 1) := by decide +kernel
theorem d_A_send_1 : decode b_A_send 1 = .ok (.getfield 206, 3) := by decide +kernel
theorem d_A_send_4 : decode b_A_send 4 = .ok (.bipush 8, 2) := by decide +kernel
theorem d_A_send_6 : decode b_A_send 6 = .ok (.aload_n 1, 1) := by decide +kernel
theorem d_A_send_7 : decode b_A_send 7 = .ok (.getfield 209, 3) := by decide +kernel
theorem d_A_send_10 : decode b_A_send 10 = .ok (.imul, 1) := by decide +kernel
theorem d_A_send_11 : decode b_A_send 11 = .ok (.iadd, 1) := by decide +kernel
theorem d_A_send_12 : decode b_A_send 12 = .ok (.istore_n 3, 1) := by decide +kernel
theorem d_A_send_13 : decode b_A_send 13 = .ok (.aload_n 0, 1) := by decide +kernel
theorem d_A_send_14 : decode b_A_send 14 = .ok (.iconst 2, 1) := by decide +kernel
theorem d_A_send_15 : decode b_A_send 15 = .ok (.iload_n 2, 1) := by decide +kernel
theorem d_A_send_16 : decode b_A_send 16 = .ok (.invokevirtual 212, 3) := by decide +kernel
theorem d_A_send_19 : decode b_A_send 19 = .ok (.astore 4, 2) := by decide +kernel
theorem d_A_send_21 : decode b_A_send 21 = .ok (.aload 4, 2) := by decide +kernel
theorem d_A_send_23 : decode b_A_send 23 = .ok (.ifnull 26, 3) := by decide +kernel
theorem d_A_send_26 : decode b_A_send 26 = .ok (.aload 4, 2) := by decide +kernel
theorem d_A_send_28 : decode b_A_send 28 = .ok (.iload_n 3, 1) := by decide +kernel
theorem d_A_send_29 : decode b_A_send 29 = .ok (.putfield 216, 3) := by decide +kernel
theorem d_A_send_32 : decode b_A_send 32 = .ok (.aload 4, 2) := by decide +kernel
theorem d_A_send_34 : decode b_A_send 34 = .ok (.aload_n 0, 1) := by decide +kernel
theorem d_A_send_35 : decode b_A_send 35 = .ok (.invokevirtual 112, 3) := by decide +kernel
theorem d_A_send_38 : decode b_A_send 38 = .ok (.invokevirtual 219, 3) := by decide +kernel
theorem d_A_send_41 : decode b_A_send 41 = .ok (.aload 4, 2) := by decide +kernel
theorem d_A_send_43 : decode b_A_send 43 = .ok (.invokevirtual 222, 3) := by decide +kernel
theorem d_A_send_46 : decode b_A_send 46 = .ok (.goto 39, 3) := by decide +kernel
theorem d_A_send_49 : decode b_A_send 49 = .ok (.aload_n 0, 1) := by decide +kernel
theorem d_A_send_50 : decode b_A_send 50 = .ok (.getfield 34, 3) := by decide +kernel
theorem d_A_send_53 : decode b_A_send 53 = .ok (.iload_n 2, 1) := by decide +kernel
theorem d_A_send_54 : decode b_A_send 54 = .ok (.aaload, 1) := by decide +kernel
theorem d_A_send_55 : decode b_A_send 55 = .ok (.getfield 127, 3) := by decide +kernel
theorem d_A_send_58 : decode b_A_send 58 = .ok (.iconst 4, 1) := by decide +kernel
theorem d_A_send_59 : decode b_A_send 59 = .ok (.if_icmp .ne 16, 3) := by decide +kernel
theorem d_A_send_62 : decode b_A_send 62 = .ok (.aload_n 0, 1) := by decide +kernel
theorem d_A_send_63 : decode b_A_send 63 = .ok (.dup, 1) := by decide +kernel
theorem d_A_send_64 : decode b_A_send 64 = .ok (.getfield 134, 3) := by decide +kernel
theorem d_A_send_67 : decode b_A_send 67 = .ok (.iconst 1, 1) := by decide +kernel
theorem d_A_send_68 : decode b_A_send 68 = .ok (.iadd, 1) := by decide +kernel
theorem d_A_send_69 : decode b_A_send 69 = .ok (.putfield 134, 3) := by decide +kernel
theorem d_A_send_72 : decode b_A_send 72 = .ok (.goto 13, 3) := by decide +kernel
theorem d_A_send_75 : decode b_A_send 75 = .ok (.aload_n 0, 1) := by decide +kernel
theorem d_A_send_76 : decode b_A_send 76 = .ok (.getfield 34, 3) := by decide +kernel
theorem d_A_send_79 : decode b_A_send 79 = .ok (.iload_n 2, 1) := by decide +kernel
theorem d_A_send_80 : decode b_A_send 80 = .ok (.aaload, 1) := by decide +kernel
theorem d_A_send_81 : decode b_A_send 81 = .ok (.iload_n 3, 1) := by decide +kernel
theorem d_A_send_82 : decode b_A_send 82 = .ok (.invokevirtual 225, 3) := by decide +kernel
theorem d_A_send_85 : decode b_A_send 85 = .ok (.aload_n 1, 1) := by decide +kernel
theorem d_A_send_86 : decode b_A_send 86 = .ok (.invokevirtual 222, 3) := by decide +kernel
theorem d_A_send_89 : decode b_A_send 89 = .ok (.return_, 1) := by decide +kernel
theorem d_A_firstWaiting_0 : decode b_A_firstWaiting 0 = .ok (.aconst_null, 1) := by decide +kernel
theorem d_A_firstWaiting_1 : decode b_A_firstWaiting 1 = .ok (.astore_n 3, 1) := by decide +kernel
theorem d_A_firstWaiting_2 : decode b_A_firstWaiting 2 = .ok (.iconst 0, 1) := by decide +kernel
theorem d_A_firstWaiting_3 : decode b_A_firstWaiting 3 = .ok (.istore 4, 2) := by decide +kernel
theorem d_A_firstWaiting_5 : decode b_A_firstWaiting 5 = .ok (.iload 4, 2) := by decide +kernel
theorem d_A_firstWaiting_7 : decode b_A_firstWaiting 7 = .ok (.aload_n 0, 1) := by decide +kernel
theorem d_A_firstWaiting_8 : decode b_A_firstWaiting 8 = .ok (.getfield 63, 3) := by decide +kernel
theorem d_A_firstWaiting_11 : decode b_A_firstWaiting 11 = .ok (.if_icmp .ge 40, 3) := by decide +kernel
theorem d_A_firstWaiting_14 : decode b_A_firstWaiting 14 = .ok (.aload_n 0, 1) := by decide +kernel
theorem d_A_firstWaiting_15 : decode b_A_firstWaiting 15 = .ok (.getfield 25, 3) := by decide +kernel
theorem d_A_firstWaiting_18 : decode b_A_firstWaiting 18 = .ok (.iload 4, 2) := by decide +kernel
theorem d_A_firstWaiting_20 : decode b_A_firstWaiting 20 = .ok (.aaload, 1) := by decide +kernel
theorem d_A_firstWaiting_21 : decode b_A_firstWaiting 21 = .ok (.astore 5, 2) := by decide +kernel
end
section
theorem d_A_firstWaiting_23 : decode b_A_firstWaiting 23 = .ok (.aload 5, 2) := by decide +kernel
theorem d_A_firstWaiting_25 : decode b_A_firstWaiting 25 = .ok (.iload_n 1, 1) := by decide +kernel
theorem d_A_firstWaiting_26 : decode b_A_firstWaiting 26 = .ok (.iload_n 2, 1) := by decide +kernel
theorem d_A_firstWaiting_27 : decode b_A_firstWaiting 27 = .ok (.invokevirtual 238, 3) := by decide +kernel
theorem d_A_firstWaiting_30 : decode b_A_firstWaiting 30 = .ok (.ifCond .eq 15, 3) := by decide +kernel
theorem d_A_firstWaiting_33 : decode b_A_firstWaiting 33 = .ok (.aload 5, 2) := by decide +kernel
theorem d_A_firstWaiting_35 : decode b_A_firstWaiting 35 = .ok (.aload_n 3, 1) := by decide +kernel
theorem d_A_firstWaiting_36 : decode b_A_firstWaiting 36 = .ok (.invokevirtual 235, 3) := by decide +kernel
theorem d_A_firstWaiting_39 : decode b_A_firstWaiting 39 = .ok (.ifCond .eq 6, 3) := by decide +kernel
theorem d_A_firstWaiting_42 : decode b_A_firstWaiting 42 = .ok (.aload 5, 2) := by decide +kernel
theorem d_A_firstWaiting_44 : decode b_A_firstWaiting 44 = .ok (.astore_n 3, 1) := by decide +kernel
theorem d_A_firstWaiting_45 : decode b_A_firstWaiting 45 = .ok (.iinc 4 1, 3) := by decide +kernel
theorem d_A_firstWaiting_48 : decode b_A_firstWaiting 48 = .ok (.goto (-43), 3) := by decide +kernel
theorem d_A_firstWaiting_51 : decode b_A_firstWaiting 51 = .ok (.aload_n 3, 1) := by decide +kernel
theorem d_A_firstWaiting_52 : decode b_A_firstWaiting 52 = .ok (.areturn, 1) := by decide +kernel
theorem d_K_waitsAt_0 : decode b_K_waitsAt 0 = .ok (.aload_n 0, 1) := by decide +kernel
theorem d_K_waitsAt_1 : decode b_K_waitsAt 1 = .ok (.getfield 18, 3) := by decide +kernel
theorem d_K_waitsAt_4 : decode b_K_waitsAt 4 = .ok (.iconst 2, 1) := by decide +kernel
theorem d_K_waitsAt_5 : decode b_K_waitsAt 5 = .ok (.if_icmp .ne 39, 3) := by decide +kernel
theorem d_K_waitsAt_8 : decode b_K_waitsAt 8 = .ok (.aload_n 0, 1) := by decide +kernel
theorem d_K_waitsAt_9 : decode b_K_waitsAt 9 = .ok (.getfield 12, 3) := by decide +kernel
theorem d_K_waitsAt_12 : decode b_K_waitsAt 12 = .ok (.getfield 75, 3) := by decide +kernel
theorem d_K_waitsAt_15 : decode b_K_waitsAt 15 = .ok (.aload_n 0, 1) := by decide +kernel
theorem d_K_waitsAt_16 : decode b_K_waitsAt 16 = .ok (.getfield 59, 3) := by decide +kernel
theorem d_K_waitsAt_19 : decode b_K_waitsAt 19 = .ok (.iaload, 1) := by decide +kernel
theorem d_K_waitsAt_20 : decode b_K_waitsAt 20 = .ok (.iload_n 1, 1) := by decide +kernel
theorem d_K_waitsAt_21 : decode b_K_waitsAt 21 = .ok (.if_icmp .ne 23, 3) := by decide +kernel
theorem d_K_waitsAt_24 : decode b_K_waitsAt 24 = .ok (.aload_n 0, 1) := by decide +kernel
theorem d_K_waitsAt_25 : decode b_K_waitsAt 25 = .ok (.getfield 12, 3) := by decide +kernel
theorem d_K_waitsAt_28 : decode b_K_waitsAt 28 = .ok (.getfield 79, 3) := by decide +kernel
theorem d_K_waitsAt_31 : decode b_K_waitsAt 31 = .ok (.aload_n 0, 1) := by decide +kernel
theorem d_K_waitsAt_32 : decode b_K_waitsAt 32 = .ok (.getfield 59, 3) := by decide +kernel
theorem d_K_waitsAt_35 : decode b_K_waitsAt 35 = .ok (.iaload, 1) := by decide +kernel
theorem d_K_waitsAt_36 : decode b_K_waitsAt 36 = .ok (.iload_n 2, 1) := by decide +kernel
theorem d_K_waitsAt_37 : decode b_K_waitsAt 37 = .ok (.if_icmp .ne 7, 3) := by decide +kernel
theorem d_K_waitsAt_40 : decode b_K_waitsAt 40 = .ok (.iconst 1, 1) := by decide +kernel
theorem d_K_waitsAt_41 : decode b_K_waitsAt 41 = .ok (.goto 4, 3) := by decide +kernel
theorem d_K_waitsAt_44 : decode b_K_waitsAt 44 = .ok (.iconst 0, 1) := by decide +kernel
theorem d_K_waitsAt_45 : decode b_K_waitsAt 45 = .ok (.ireturn, 1) := by decide +kernel
theorem d_O_put_0 : decode b_O_put 0 = .ok (.aload_n 0, 1) := by decide +kernel
theorem d_O_put_1 : decode b_O_put 1 = .ok (.getfield 9, 3) := by decide +kernel
theorem d_O_put_4 : decode b_O_put 4 = .ok (.aload_n 0, 1) := by decide +kernel
theorem d_O_put_5 : decode b_O_put 5 = .ok (.getfield 15, 3) := by decide +kernel
theorem d_O_put_8 : decode b_O_put 8 = .ok (.iload_n 1, 1) := by decide +kernel
theorem d_O_put_9 : decode b_O_put 9 = .ok (.iastore, 1) := by decide +kernel
theorem d_O_put_10 : decode b_O_put 10 = .ok (.aload_n 0, 1) := by decide +kernel
theorem d_O_put_11 : decode b_O_put 11 = .ok (.dup, 1) := by decide +kernel
theorem d_O_put_12 : decode b_O_put 12 = .ok (.getfield 15, 3) := by decide +kernel
theorem d_O_put_15 : decode b_O_put 15 = .ok (.iconst 1, 1) := by decide +kernel
theorem d_O_put_16 : decode b_O_put 16 = .ok (.iadd, 1) := by decide +kernel
theorem d_O_put_17 : decode b_O_put 17 = .ok (.putfield 15, 3) := by decide +kernel
theorem d_O_put_20 : decode b_O_put 20 = .ok (.return_, 1) := by decide +kernel
theorem d_A_take_0 : decode b_A_take 0 = .ok (.aload_n 0, 1) := by decide +kernel
theorem d_A_take_1 : decode b_A_take 1 = .ok (.getfield 34, 3) := by decide +kernel
theorem d_A_take_4 : decode b_A_take 4 = .ok (.iload_n 2, 1) := by decide +kernel
theorem d_A_take_5 : decode b_A_take 5 = .ok (.aaload, 1) := by decide +kernel
theorem d_A_take_6 : decode b_A_take 6 = .ok (.getfield 127, 3) := by decide +kernel
theorem d_A_take_9 : decode b_A_take 9 = .ok (.ifCond .ne 14, 3) := by decide +kernel
theorem d_A_take_12 : decode b_A_take 12 = .ok (.aload_n 1, 1) := by decide +kernel
theorem d_A_take_13 : decode b_A_take 13 = .ok (.aload_n 0, 1) := by decide +kernel
theorem d_A_take_14 : decode b_A_take 14 = .ok (.invokevirtual 112, 3) := by decide +kernel
theorem d_A_take_17 : decode b_A_take 17 = .ok (.invokevirtual 228, 3) := by decide +kernel
theorem d_A_take_20 : decode b_A_take 20 = .ok (.goto 20, 3) := by decide +kernel
theorem d_A_take_23 : decode b_A_take 23 = .ok (.aload_n 1, 1) := by decide +kernel
theorem d_A_take_24 : decode b_A_take 24 = .ok (.aload_n 0, 1) := by decide +kernel
theorem d_A_take_25 : decode b_A_take 25 = .ok (.getfield 34, 3) := by decide +kernel
theorem d_A_take_28 : decode b_A_take 28 = .ok (.iload_n 2, 1) := by decide +kernel
theorem d_A_take_29 : decode b_A_take 29 = .ok (.aaload, 1) := by decide +kernel
theorem d_A_take_30 : decode b_A_take 30 = .ok (.invokevirtual 231, 3) := by decide +kernel
theorem d_A_take_33 : decode b_A_take 33 = .ok (.putfield 216, 3) := by decide +kernel
theorem d_A_take_36 : decode b_A_take 36 = .ok (.aload_n 1, 1) := by decide +kernel
theorem d_A_take_37 : decode b_A_take 37 = .ok (.invokevirtual 222, 3) := by decide +kernel
theorem d_A_take_40 : decode b_A_take 40 = .ok (.return_, 1) := by decide +kernel
theorem d_K_becomeWaiting_0 : decode b_K_becomeWaiting 0 = .ok (.aload_n 0, 1) := by decide +kernel
theorem d_K_becomeWaiting_1 : decode b_K_becomeWaiting 1 = .ok (.iconst 2, 1) := by decide +kernel
theorem d_K_becomeWaiting_2 : decode b_K_becomeWaiting 2 = .ok (.putfield 18, 3) := by decide +kernel
theorem d_K_becomeWaiting_5 : decode b_K_becomeWaiting 5 = .ok (.aload_n 0, 1) := by decide +kernel
theorem d_K_becomeWaiting_6 : decode b_K_becomeWaiting 6 = .ok (.lload_n 1, 1) := by decide +kernel
theorem d_K_becomeWaiting_7 : decode b_K_becomeWaiting 7 = .ok (.putfield 65, 3) := by decide +kernel
theorem d_K_becomeWaiting_10 : decode b_K_becomeWaiting 10 = .ok (.return_, 1) := by decide +kernel
theorem d_O_takeOldest_0 : decode b_O_takeOldest 0 = .ok (.aload_n 0, 1) := by decide +kernel
theorem d_O_takeOldest_1 : decode b_O_takeOldest 1 = .ok (.getfield 9, 3) := by decide +kernel
theorem d_O_takeOldest_4 : decode b_O_takeOldest 4 = .ok (.iconst 0, 1) := by decide +kernel
theorem d_O_takeOldest_5 : decode b_O_takeOldest 5 = .ok (.iaload, 1) := by decide +kernel
theorem d_O_takeOldest_6 : decode b_O_takeOldest 6 = .ok (.istore_n 1, 1) := by decide +kernel
theorem d_O_takeOldest_7 : decode b_O_takeOldest 7 = .ok (.aload_n 0, 1) := by decide +kernel
theorem d_O_takeOldest_8 : decode b_O_takeOldest 8 = .ok (.dup, 1) := by decide +kernel
theorem d_O_takeOldest_9 : decode b_O_takeOldest 9 = .ok (.getfield 15, 3) := by decide +kernel
theorem d_O_takeOldest_12 : decode b_O_takeOldest 12 = .ok (.iconst 1, 1) := by decide +kernel
theorem d_O_takeOldest_13 : decode b_O_takeOldest 13 = .ok (.isub, 1) := by decide +kernel
theorem d_O_takeOldest_14 : decode b_O_takeOldest 14 = .ok (.putfield 15, 3) := by decide +kernel
theorem d_O_takeOldest_17 : decode b_O_takeOldest 17 = .ok (.iconst 0, 1) := by decide +kernel
theorem d_O_takeOldest_18 : decode b_O_takeOldest 18 = .ok (.istore_n 2, 1) := by decide +kernel
theorem d_O_takeOldest_19 : decode b_O_takeOldest 19 = .ok (.iload_n 2, 1) := by decide +kernel
theorem d_O_takeOldest_20 : decode b_O_takeOldest 20 = .ok (.aload_n 0, 1) := by decide +kernel
theorem d_O_takeOldest_21 : decode b_O_takeOldest 21 = .ok (.getfield 15, 3) := by decide +kernel
theorem d_O_takeOldest_24 : decode b_O_takeOldest 24 = .ok (.if_icmp .ge 23, 3) := by decide +kernel
theorem d_O_takeOldest_27 : decode b_O_takeOldest 27 = .ok (.aload_n 0, 1) := by decide +kernel
theorem d_O_takeOldest_28 : decode b_O_takeOldest 28 = .ok (.getfield 9, 3) := by decide +kernel
theorem d_O_takeOldest_31 : decode b_O_takeOldest 31 = .ok (.iload_n 2, 1) := by decide +kernel
theorem d_O_takeOldest_32 : decode b_O_takeOldest 32 = .ok (.aload_n 0, 1) := by decide +kernel
theorem d_O_takeOldest_33 : decode b_O_takeOldest 33 = .ok (.getfield 9, 3) := by decide +kernel
theorem d_O_takeOldest_36 : decode b_O_takeOldest 36 = .ok (.iload_n 2, 1) := by decide +kernel
theorem d_O_takeOldest_37 : decode b_O_takeOldest 37 = .ok (.iconst 1, 1) := by decide +kernel
theorem d_O_takeOldest_38 : decode b_O_takeOldest 38 = .ok (.iadd, 1) := by decide +kernel
theorem d_O_takeOldest_39 : decode b_O_takeOldest 39 = .ok (.iaload, 1) := by decide +kernel
theorem d_O_takeOldest_40 : decode b_O_takeOldest 40 = .ok (.iastore, 1) := by decide +kernel
theorem d_O_takeOldest_41 : decode b_O_takeOldest 41 = .ok (.iinc 2 1, 3) := by decide +kernel
theorem d_O_takeOldest_44 : decode b_O_takeOldest 44 = .ok (.goto (-25), 3) := by decide +kernel
theorem d_O_takeOldest_47 : decode b_O_takeOldest 47 = .ok (.iload_n 1, 1) := by decide +kernel
theorem d_O_takeOldest_48 : decode b_O_takeOldest 48 = .ok (.ireturn, 1) := by decide +kernel
theorem d_A_up_0 : decode b_A_up 0 = .ok (.aload_n 0, 1) := by decide +kernel
theorem d_A_up_1 : decode b_A_up 1 = .ok (.iconst 4, 1) := by decide +kernel
theorem d_A_up_2 : decode b_A_up 2 = .ok (.iload_n 2, 1) := by decide +kernel
theorem d_A_up_3 : decode b_A_up 3 = .ok (.invokevirtual 212, 3) := by decide +kernel
theorem d_A_up_6 : decode b_A_up 6 = .ok (.astore_n 3, 1) := by decide +kernel
theorem d_A_up_7 : decode b_A_up 7 = .ok (.aload_n 3, 1) := by decide +kernel
theorem d_A_up_8 : decode b_A_up 8 = .ok (.ifnull 18, 3) := by decide +kernel
theorem d_A_up_11 : decode b_A_up 11 = .ok (.aload_n 3, 1) := by decide +kernel
theorem d_A_up_12 : decode b_A_up 12 = .ok (.aload_n 0, 1) := by decide +kernel
theorem d_A_up_13 : decode b_A_up 13 = .ok (.invokevirtual 112, 3) := by decide +kernel
theorem d_A_up_16 : decode b_A_up 16 = .ok (.invokevirtual 219, 3) := by decide +kernel
theorem d_A_up_19 : decode b_A_up 19 = .ok (.aload_n 3, 1) := by decide +kernel
theorem d_A_up_20 : decode b_A_up 20 = .ok (.invokevirtual 222, 3) := by decide +kernel
theorem d_A_up_23 : decode b_A_up 23 = .ok (.goto 24, 3) := by decide +kernel
theorem d_A_up_26 : decode b_A_up 26 = .ok (.aload_n 0, 1) := by decide +kernel
theorem d_A_up_27 : decode b_A_up 27 = .ok (.getfield 39, 3) := by decide +kernel
theorem d_A_up_30 : decode b_A_up 30 = .ok (.iload_n 2, 1) := by decide +kernel
theorem d_A_up_31 : decode b_A_up 31 = .ok (.iaload, 1) := by decide +kernel
theorem d_A_up_32 : decode b_A_up 32 = .ok (.bipush 9, 2) := by decide +kernel
theorem d_A_up_34 : decode b_A_up 34 = .ok (.if_icmp .ge 13, 3) := by decide +kernel
theorem d_A_up_37 : decode b_A_up 37 = .ok (.aload_n 0, 1) := by decide +kernel
theorem d_A_up_38 : decode b_A_up 38 = .ok (.getfield 39, 3) := by decide +kernel
theorem d_A_up_41 : decode b_A_up 41 = .ok (.iload_n 2, 1) := by decide +kernel
theorem d_A_up_42 : decode b_A_up 42 = .ok (.dup2, 1) := by decide +kernel
theorem d_A_up_43 : decode b_A_up 43 = .ok (.iaload, 1) := by decide +kernel
theorem d_A_up_44 : decode b_A_up 44 = .ok (.iconst 1, 1) := by decide +kernel
theorem d_A_up_45 : decode b_A_up 45 = .ok (.iadd, 1) := by decide +kernel
theorem d_A_up_46 : decode b_A_up 46 = .ok (.iastore, 1) := by decide +kernel
theorem d_A_up_47 : decode b_A_up 47 = .ok (.aload_n 1, 1) := by decide +kernel
theorem d_A_up_48 : decode b_A_up 48 = .ok (.invokevirtual 222, 3) := by decide +kernel
theorem d_A_up_51 : decode b_A_up 51 = .ok (.return_, 1) := by decide +kernel
theorem d_A_down_0 : decode b_A_down 0 = .ok (.aload_n 0, 1) := by decide +kernel
theorem d_A_down_1 : decode b_A_down 1 = .ok (.getfield 39, 3) := by decide +kernel
theorem d_A_down_4 : decode b_A_down 4 = .ok (.iload_n 2, 1) := by decide +kernel
theorem d_A_down_5 : decode b_A_down 5 = .ok (.iaload, 1) := by decide +kernel
theorem d_A_down_6 : decode b_A_down 6 = .ok (.ifCond .ne 14, 3) := by decide +kernel
theorem d_A_down_9 : decode b_A_down 9 = .ok (.aload_n 1, 1) := by decide +kernel
theorem d_A_down_10 : decode b_A_down 10 = .ok (.aload_n 0, 1) := by decide +kernel
theorem d_A_down_11 : decode b_A_down 11 = .ok (.invokevirtual 112, 3) := by decide +kernel
theorem d_A_down_14 : decode b_A_down 14 = .ok (.invokevirtual 228, 3) := by decide +kernel
theorem d_A_down_17 : decode b_A_down 17 = .ok (.goto 17, 3) := by decide +kernel
theorem d_A_down_20 : decode b_A_down 20 = .ok (.aload_n 0, 1) := by decide +kernel
theorem d_A_down_21 : decode b_A_down 21 = .ok (.getfield 39, 3) := by decide +kernel
theorem d_A_down_24 : decode b_A_down 24 = .ok (.iload_n 2, 1) := by decide +kernel
theorem d_A_down_25 : decode b_A_down 25 = .ok (.dup2, 1) := by decide +kernel
theorem d_A_down_26 : decode b_A_down 26 = .ok (.iaload, 1) := by decide +kernel
theorem d_A_down_27 : decode b_A_down 27 = .ok (.iconst 1, 1) := by decide +kernel
theorem d_A_down_28 : decode b_A_down 28 = .ok (.isub, 1) := by decide +kernel
theorem d_A_down_29 : decode b_A_down 29 = .ok (.iastore, 1) := by decide +kernel
theorem d_A_down_30 : decode b_A_down 30 = .ok (.aload_n 1, 1) := by decide +kernel
theorem d_A_down_31 : decode b_A_down 31 = .ok (.invokevirtual 222, 3) := by decide +kernel
theorem d_A_down_34 : decode b_A_down 34 = .ok (.return_, 1) := by decide +kernel
theorem d_A_partition_0 : decode b_A_partition 0 = .ok (.iload_n 1, 1) := by decide +kernel
theorem d_A_partition_1 : decode b_A_partition 1 = .ok (.invokestatic 43, 3) := by decide +kernel
theorem d_A_partition_4 : decode b_A_partition 4 = .ok (.ifCond .eq 15, 3) := by decide +kernel
theorem d_A_partition_7 : decode b_A_partition 7 = .ok (.aload_n 0, 1) := by decide +kernel
theorem d_A_partition_8 : decode b_A_partition 8 = .ok (.getfield 18, 3) := by decide +kernel
theorem d_A_partition_11 : decode b_A_partition 11 = .ok (.iload_n 1, 1) := by decide +kernel
theorem d_A_partition_12 : decode b_A_partition 12 = .ok (.aaload, 1) := by decide +kernel
theorem d_A_partition_13 : decode b_A_partition 13 = .ok (.getfield 91, 3) := by decide +kernel
theorem d_A_partition_16 : decode b_A_partition 16 = .ok (.goto 4, 3) := by decide +kernel
theorem d_A_partition_19 : decode b_A_partition 19 = .ok (.iconst (-1), 1) := by decide +kernel
theorem d_A_partition_20 : decode b_A_partition 20 = .ok (.ireturn, 1) := by decide +kernel
theorem d_A_state_0 : decode b_A_state 0 = .ok (.aload_n 0, 1) := by decide +kernel
theorem d_A_state_1 : decode b_A_state 1 = .ok (.iload_n 1, 1) := by decide +kernel
theorem d_A_state_2 : decode b_A_state 2 = .ok (.invokevirtual 70, 3) := by decide +kernel
theorem d_A_state_5 : decode b_A_state 5 = .ok (.ifCond .eq 16, 3) := by decide +kernel
theorem d_A_state_8 : decode b_A_state 8 = .ok (.aload_n 0, 1) := by decide +kernel
theorem d_A_state_9 : decode b_A_state 9 = .ok (.getfield 25, 3) := by decide +kernel
theorem d_A_state_12 : decode b_A_state 12 = .ok (.iload_n 1, 1) := by decide +kernel
theorem d_A_state_13 : decode b_A_state 13 = .ok (.aaload, 1) := by decide +kernel
theorem d_A_state_14 : decode b_A_state 14 = .ok (.iload_n 2, 1) := by decide +kernel
theorem d_A_state_15 : decode b_A_state 15 = .ok (.invokevirtual 123, 3) := by decide +kernel
theorem d_A_state_18 : decode b_A_state 18 = .ok (.goto 4, 3) := by decide +kernel
theorem d_A_state_21 : decode b_A_state 21 = .ok (.iconst (-1), 1) := by decide +kernel
theorem d_A_state_22 : decode b_A_state 22 = .ok (.ireturn, 1) := by decide +kernel
theorem d_K_tell_0 : decode b_K_tell 0 = .ok (.iload_n 1, 1) := by decide +kernel
theorem d_K_tell_1 : decode b_K_tell 1 = .ok (.tableswitch 105 0 9 #[55, 60, 65, 70, 75, 80, 85, 90, 95, 100], 55) := by decide +kernel
theorem d_K_tell_56 : decode b_K_tell 56 = .ok (.aload_n 0, 1) := by decide +kernel
theorem d_K_tell_57 : decode b_K_tell 57 = .ok (.getfield 18, 3) := by decide +kernel
theorem d_K_tell_60 : decode b_K_tell 60 = .ok (.ireturn, 1) := by decide +kernel
theorem d_K_tell_61 : decode b_K_tell 61 = .ok (.aload_n 0, 1) := by decide +kernel
theorem d_K_tell_62 : decode b_K_tell 62 = .ok (.getfield 59, 3) := by decide +kernel
theorem d_K_tell_65 : decode b_K_tell 65 = .ok (.ireturn, 1) := by decide +kernel
theorem d_K_tell_66 : decode b_K_tell 66 = .ok (.aload_n 0, 1) := by decide +kernel
theorem d_K_tell_67 : decode b_K_tell 67 = .ok (.getfield 62, 3) := by decide +kernel
theorem d_K_tell_70 : decode b_K_tell 70 = .ok (.ireturn, 1) := by decide +kernel
theorem d_K_tell_71 : decode b_K_tell 71 = .ok (.aload_n 0, 1) := by decide +kernel
theorem d_K_tell_72 : decode b_K_tell 72 = .ok (.getfield 43, 3) := by decide +kernel
theorem d_K_tell_75 : decode b_K_tell 75 = .ok (.ireturn, 1) := by decide +kernel
theorem d_K_tell_76 : decode b_K_tell 76 = .ok (.aload_n 0, 1) := by decide +kernel
theorem d_K_tell_77 : decode b_K_tell 77 = .ok (.getfield 22, 3) := by decide +kernel
theorem d_K_tell_80 : decode b_K_tell 80 = .ok (.ireturn, 1) := by decide +kernel
theorem d_K_tell_81 : decode b_K_tell 81 = .ok (.aload_n 0, 1) := by decide +kernel
theorem d_K_tell_82 : decode b_K_tell 82 = .ok (.getfield 82, 3) := by decide +kernel
theorem d_K_tell_85 : decode b_K_tell 85 = .ok (.ireturn, 1) := by decide +kernel
theorem d_K_tell_86 : decode b_K_tell 86 = .ok (.aload_n 0, 1) := by decide +kernel
theorem d_K_tell_87 : decode b_K_tell 87 = .ok (.getfield 85, 3) := by decide +kernel
theorem d_K_tell_90 : decode b_K_tell 90 = .ok (.ireturn, 1) := by decide +kernel
theorem d_K_tell_91 : decode b_K_tell 91 = .ok (.aload_n 0, 1) := by decide +kernel
theorem d_K_tell_92 : decode b_K_tell 92 = .ok (.getfield 69, 3) := by decide +kernel
theorem d_K_tell_95 : decode b_K_tell 95 = .ok (.ireturn, 1) := by decide +kernel
theorem d_K_tell_96 : decode b_K_tell 96 = .ok (.aload_n 0, 1) := by decide +kernel
theorem d_K_tell_97 : decode b_K_tell 97 = .ok (.getfield 88, 3) := by decide +kernel
theorem d_K_tell_100 : decode b_K_tell 100 = .ok (.ireturn, 1) := by decide +kernel
theorem d_K_tell_101 : decode b_K_tell 101 = .ok (.aload_n 0, 1) := by decide +kernel
theorem d_K_tell_102 : decode b_K_tell 102 = .ok (.getfield 25, 3) := by decide +kernel
theorem d_K_tell_105 : decode b_K_tell 105 = .ok (.ireturn, 1) := by decide +kernel
theorem d_K_tell_106 : decode b_K_tell 106 = .ok (.iconst (-1), 1) := by decide +kernel
theorem d_K_tell_107 : decode b_K_tell 107 = .ok (.ireturn, 1) := by decide +kernel
theorem d_A_port_0 : decode b_A_port 0 = .ok (.iload_n 1, 1) := by decide +kernel
theorem d_A_port_1 : decode b_A_port 1 = .ok (.iconst 0, 1) := by decide +kernel
theorem d_A_port_2 : decode b_A_port 2 = .ok (.iconst 3, 1) := by decide +kernel
theorem d_A_port_3 : decode b_A_port 3 = .ok (.invokestatic 47, 3) := by decide +kernel
theorem d_A_port_6 : decode b_A_port 6 = .ok (.ifCond .eq 15, 3) := by decide +kernel
theorem d_A_port_9 : decode b_A_port 9 = .ok (.aload_n 0, 1) := by decide +kernel
theorem d_A_port_10 : decode b_A_port 10 = .ok (.getfield 34, 3) := by decide +kernel
theorem d_A_port_13 : decode b_A_port 13 = .ok (.iload_n 1, 1) := by decide +kernel
theorem d_A_port_14 : decode b_A_port 14 = .ok (.aaload, 1) := by decide +kernel
theorem d_A_port_15 : decode b_A_port 15 = .ok (.getfield 127, 3) := by decide +kernel
theorem d_A_port_18 : decode b_A_port 18 = .ok (.goto 4, 3) := by decide +kernel
theorem d_A_port_21 : decode b_A_port 21 = .ok (.iconst (-1), 1) := by decide +kernel
theorem d_A_port_22 : decode b_A_port 22 = .ok (.ireturn, 1) := by decide +kernel
theorem d_A_semaphore_0 : decode b_A_semaphore 0 = .ok (.iload_n 1, 1) := by decide +kernel
theorem d_A_semaphore_1 : decode b_A_semaphore 1 = .ok (.iconst 0, 1) := by decide +kernel
theorem d_A_semaphore_2 : decode b_A_semaphore 2 = .ok (.iconst 3, 1) := by decide +kernel
theorem d_A_semaphore_3 : decode b_A_semaphore 3 = .ok (.invokestatic 47, 3) := by decide +kernel
theorem d_A_semaphore_6 : decode b_A_semaphore 6 = .ok (.ifCond .eq 12, 3) := by decide +kernel
theorem d_A_semaphore_9 : decode b_A_semaphore 9 = .ok (.aload_n 0, 1) := by decide +kernel
theorem d_A_semaphore_10 : decode b_A_semaphore 10 = .ok (.getfield 39, 3) := by decide +kernel
theorem d_A_semaphore_13 : decode b_A_semaphore 13 = .ok (.iload_n 1, 1) := by decide +kernel
theorem d_A_semaphore_14 : decode b_A_semaphore 14 = .ok (.iaload, 1) := by decide +kernel
theorem d_A_semaphore_15 : decode b_A_semaphore 15 = .ok (.goto 4, 3) := by decide +kernel
theorem d_A_semaphore_18 : decode b_A_semaphore 18 = .ok (.iconst (-1), 1) := by decide +kernel
theorem d_A_semaphore_19 : decode b_A_semaphore 19 = .ok (.ireturn, 1) := by decide +kernel
theorem d_A_count_0 : decode b_A_count 0 = .ok (.iload_n 1, 1) := by decide +kernel
theorem d_A_count_1 : decode b_A_count 1 = .ok (.tableswitch 123 0 6 #[43, 48, 74, 100, 105, 110, 115], 43) := by decide +kernel
theorem d_A_count_44 : decode b_A_count 44 = .ok (.aload_n 0, 1) := by decide +kernel
theorem d_A_count_45 : decode b_A_count 45 = .ok (.getfield 103, 3) := by decide +kernel
theorem d_A_count_48 : decode b_A_count 48 = .ok (.ireturn, 1) := by decide +kernel
theorem d_A_count_49 : decode b_A_count 49 = .ok (.aload_n 0, 1) := by decide +kernel
theorem d_A_count_50 : decode b_A_count 50 = .ok (.getfield 10, 3) := by decide +kernel
theorem d_A_count_53 : decode b_A_count 53 = .ok (.getfield 55, 3) := by decide +kernel
theorem d_A_count_56 : decode b_A_count 56 = .ok (.ifCond .ne 7, 3) := by decide +kernel
theorem d_A_count_59 : decode b_A_count 59 = .ok (.iconst (-1), 1) := by decide +kernel
theorem d_A_count_60 : decode b_A_count 60 = .ok (.goto 14, 3) := by decide +kernel
theorem d_A_count_63 : decode b_A_count 63 = .ok (.aload_n 0, 1) := by decide +kernel
theorem d_A_count_64 : decode b_A_count 64 = .ok (.getfield 10, 3) := by decide +kernel
theorem d_A_count_67 : decode b_A_count 67 = .ok (.aload_n 0, 1) := by decide +kernel
theorem d_A_count_68 : decode b_A_count 68 = .ok (.getfield 103, 3) := by decide +kernel
theorem d_A_count_71 : decode b_A_count 71 = .ok (.invokevirtual 128, 3) := by decide +kernel
theorem d_A_count_74 : decode b_A_count 74 = .ok (.ireturn, 1) := by decide +kernel
theorem d_A_count_75 : decode b_A_count 75 = .ok (.aload_n 0, 1) := by decide +kernel
theorem d_A_count_76 : decode b_A_count 76 = .ok (.getfield 10, 3) := by decide +kernel
theorem d_A_count_79 : decode b_A_count 79 = .ok (.getfield 55, 3) := by decide +kernel
theorem d_A_count_82 : decode b_A_count 82 = .ok (.ifCond .ne 7, 3) := by decide +kernel
theorem d_A_count_85 : decode b_A_count 85 = .ok (.iconst (-1), 1) := by decide +kernel
theorem d_A_count_86 : decode b_A_count 86 = .ok (.goto 14, 3) := by decide +kernel
theorem d_A_count_89 : decode b_A_count 89 = .ok (.aload_n 0, 1) := by decide +kernel
theorem d_A_count_90 : decode b_A_count 90 = .ok (.getfield 10, 3) := by decide +kernel
theorem d_A_count_93 : decode b_A_count 93 = .ok (.aload_n 0, 1) := by decide +kernel
theorem d_A_count_94 : decode b_A_count 94 = .ok (.getfield 103, 3) := by decide +kernel
theorem d_A_count_97 : decode b_A_count 97 = .ok (.invokevirtual 131, 3) := by decide +kernel
theorem d_A_count_100 : decode b_A_count 100 = .ok (.ireturn, 1) := by decide +kernel
theorem d_A_count_101 : decode b_A_count 101 = .ok (.aload_n 0, 1) := by decide +kernel
theorem d_A_count_102 : decode b_A_count 102 = .ok (.getfield 134, 3) := by decide +kernel
theorem d_A_count_105 : decode b_A_count 105 = .ok (.ireturn, 1) := by decide +kernel
theorem d_A_count_106 : decode b_A_count 106 = .ok (.aload_n 0, 1) := by decide +kernel
theorem d_A_count_107 : decode b_A_count 107 = .ok (.getfield 137, 3) := by decide +kernel
theorem d_A_count_110 : decode b_A_count 110 = .ok (.ireturn, 1) := by decide +kernel
theorem d_A_count_111 : decode b_A_count 111 = .ok (.aload_n 0, 1) := by decide +kernel
theorem d_A_count_112 : decode b_A_count 112 = .ok (.getfield 63, 3) := by decide +kernel
theorem d_A_count_115 : decode b_A_count 115 = .ok (.ireturn, 1) := by decide +kernel
theorem d_A_count_116 : decode b_A_count 116 = .ok (.aload_n 0, 1) := by decide +kernel
theorem d_A_count_117 : decode b_A_count 117 = .ok (.getfield 10, 3) := by decide +kernel
theorem d_A_count_120 : decode b_A_count 120 = .ok (.getfield 55, 3) := by decide +kernel
theorem d_A_count_123 : decode b_A_count 123 = .ok (.ireturn, 1) := by decide +kernel
theorem d_A_count_124 : decode b_A_count 124 = .ok (.iconst (-1), 1) := by decide +kernel
theorem d_A_count_125 : decode b_A_count 125 = .ok (.ireturn, 1) := by decide +kernel
theorem d_Wr_leftAt_0 : decode b_Wr_leftAt 0 = .ok (.aload_n 0, 1) := by decide +kernel
theorem d_Wr_leftAt_1 : decode b_Wr_leftAt 1 = .ok (.getfield 18, 3) := by decide +kernel
theorem d_Wr_leftAt_4 : decode b_Wr_leftAt 4 = .ok (.ifCond .ne 7, 3) := by decide +kernel
theorem d_Wr_leftAt_7 : decode b_Wr_leftAt 7 = .ok (.iconst 0, 1) := by decide +kernel
theorem d_Wr_leftAt_8 : decode b_Wr_leftAt 8 = .ok (.goto 23, 3) := by decide +kernel
theorem d_Wr_leftAt_11 : decode b_Wr_leftAt 11 = .ok (.aload_n 0, 1) := by decide +kernel
theorem d_Wr_leftAt_12 : decode b_Wr_leftAt 12 = .ok (.getfield 15, 3) := by decide +kernel
theorem d_Wr_leftAt_15 : decode b_Wr_leftAt 15 = .ok (.aload_n 0, 1) := by decide +kernel
theorem d_Wr_leftAt_16 : decode b_Wr_leftAt 16 = .ok (.aload_n 0, 1) := by decide +kernel
theorem d_Wr_leftAt_17 : decode b_Wr_leftAt 17 = .ok (.iload_n 1, 1) := by decide +kernel
theorem d_Wr_leftAt_18 : decode b_Wr_leftAt 18 = .ok (.invokevirtual 22, 3) := by decide +kernel
theorem d_Wr_leftAt_21 : decode b_Wr_leftAt 21 = .ok (.invokevirtual 26, 3) := by decide +kernel
theorem d_Wr_leftAt_24 : decode b_Wr_leftAt 24 = .ok (.iaload, 1) := by decide +kernel
theorem d_Wr_leftAt_25 : decode b_Wr_leftAt 25 = .ok (.aload_n 0, 1) := by decide +kernel
theorem d_Wr_leftAt_26 : decode b_Wr_leftAt 26 = .ok (.iload_n 1, 1) := by decide +kernel
theorem d_Wr_leftAt_27 : decode b_Wr_leftAt 27 = .ok (.invokevirtual 22, 3) := by decide +kernel
theorem d_Wr_leftAt_30 : decode b_Wr_leftAt 30 = .ok (.isub, 1) := by decide +kernel
theorem d_Wr_leftAt_31 : decode b_Wr_leftAt 31 = .ok (.ireturn, 1) := by decide +kernel
theorem d_B_init_0 : decode b_B_init 0 = .ok (.aload_n 0, 1) := by decide +kernel
theorem d_B_init_1 : decode b_B_init 1 = .ok (.invokespecial 1, 3) := by decide +kernel
theorem d_B_init_4 : decode b_B_init 4 = .ok (.aload_n 0, 1) := by decide +kernel
theorem d_B_init_5 : decode b_B_init 5 = .ok (.bipush 8, 2) := by decide +kernel
theorem d_B_init_7 : decode b_B_init 7 = .ok (.newarray .int, 2) := by decide +kernel
theorem d_B_init_9 : decode b_B_init 9 = .ok (.putfield 7, 3) := by decide +kernel
theorem d_B_init_12 : decode b_B_init 12 = .ok (.aload_n 0, 1) := by decide +kernel
theorem d_B_init_13 : decode b_B_init 13 = .ok (.bipush 8, 2) := by decide +kernel
theorem d_B_init_15 : decode b_B_init 15 = .ok (.newarray .int, 2) := by decide +kernel
theorem d_B_init_17 : decode b_B_init 17 = .ok (.putfield 13, 3) := by decide +kernel
theorem d_B_init_20 : decode b_B_init 20 = .ok (.aload_n 0, 1) := by decide +kernel
theorem d_B_init_21 : decode b_B_init 21 = .ok (.iconst 3, 1) := by decide +kernel
theorem d_B_init_22 : decode b_B_init 22 = .ok (.newarray .int, 2) := by decide +kernel
theorem d_B_init_24 : decode b_B_init 24 = .ok (.putfield 16, 3) := by decide +kernel
theorem d_B_init_27 : decode b_B_init 27 = .ok (.aload_n 0, 1) := by decide +kernel
theorem d_B_init_28 : decode b_B_init 28 = .ok (.iconst 3, 1) := by decide +kernel
theorem d_B_init_29 : decode b_B_init 29 = .ok (.newarray .int, 2) := by decide +kernel
theorem d_B_init_31 : decode b_B_init 31 = .ok (.putfield 19, 3) := by decide +kernel
theorem d_B_init_34 : decode b_B_init 34 = .ok (.aload_n 0, 1) := by decide +kernel
theorem d_B_init_35 : decode b_B_init 35 = .ok (.bipush 8, 2) := by decide +kernel
theorem d_B_init_37 : decode b_B_init 37 = .ok (.newarray .int, 2) := by decide +kernel
theorem d_B_init_39 : decode b_B_init 39 = .ok (.putfield 22, 3) := by decide +kernel
theorem d_B_init_42 : decode b_B_init 42 = .ok (.aload_n 0, 1) := by decide +kernel
theorem d_B_init_43 : decode b_B_init 43 = .ok (.bipush 8, 2) := by decide +kernel
theorem d_B_init_45 : decode b_B_init 45 = .ok (.newarray .int, 2) := by decide +kernel
theorem d_B_init_47 : decode b_B_init 47 = .ok (.putfield 25, 3) := by decide +kernel
theorem d_B_init_50 : decode b_B_init 50 = .ok (.aload_n 0, 1) := by decide +kernel
theorem d_B_init_51 : decode b_B_init 51 = .ok (.bipush 8, 2) := by decide +kernel
theorem d_B_init_53 : decode b_B_init 53 = .ok (.newarray .int, 2) := by decide +kernel
theorem d_B_init_55 : decode b_B_init 55 = .ok (.putfield 28, 3) := by decide +kernel
theorem d_B_init_58 : decode b_B_init 58 = .ok (.aload_n 0, 1) := by decide +kernel
theorem d_B_init_59 : decode b_B_init 59 = .ok (.bipush 8, 2) := by decide +kernel
theorem d_B_init_61 : decode b_B_init 61 = .ok (.newarray .int, 2) := by decide +kernel
theorem d_B_init_63 : decode b_B_init 63 = .ok (.putfield 31, 3) := by decide +kernel
theorem d_B_init_66 : decode b_B_init 66 = .ok (.aload_n 0, 1) := by decide +kernel
theorem d_B_init_67 : decode b_B_init 67 = .ok (.bipush 8, 2) := by decide +kernel
theorem d_B_init_69 : decode b_B_init 69 = .ok (.newarray .int, 2) := by decide +kernel
theorem d_B_init_71 : decode b_B_init 71 = .ok (.putfield 34, 3) := by decide +kernel
theorem d_B_init_74 : decode b_B_init 74 = .ok (.aload_n 0, 1) := by decide +kernel
theorem d_B_init_75 : decode b_B_init 75 = .ok (.bipush 64, 2) := by decide +kernel
theorem d_B_init_77 : decode b_B_init 77 = .ok (.newarray .int, 2) := by decide +kernel
theorem d_B_init_79 : decode b_B_init 79 = .ok (.putfield 37, 3) := by decide +kernel
theorem d_B_init_82 : decode b_B_init 82 = .ok (.aload_n 0, 1) := by decide +kernel
theorem d_B_init_83 : decode b_B_init 83 = .ok (.bipush 64, 2) := by decide +kernel
theorem d_B_init_85 : decode b_B_init 85 = .ok (.newarray .int, 2) := by decide +kernel
theorem d_B_init_87 : decode b_B_init 87 = .ok (.putfield 40, 3) := by decide +kernel
theorem d_B_init_90 : decode b_B_init 90 = .ok (.aload_n 0, 1) := by decide +kernel
theorem d_B_init_91 : decode b_B_init 91 = .ok (.bipush 8, 2) := by decide +kernel
theorem d_B_init_93 : decode b_B_init 93 = .ok (.newarray .int, 2) := by decide +kernel
theorem d_B_init_95 : decode b_B_init 95 = .ok (.putfield 43, 3) := by decide +kernel
theorem d_B_init_98 : decode b_B_init 98 = .ok (.aload_n 0, 1) := by decide +kernel
theorem d_B_init_99 : decode b_B_init 99 = .ok (.bipush 8, 2) := by decide +kernel
theorem d_B_init_101 : decode b_B_init 101 = .ok (.newarray .int, 2) := by decide +kernel
theorem d_B_init_103 : decode b_B_init 103 = .ok (.putfield 46, 3) := by decide +kernel
theorem d_B_init_106 : decode b_B_init 106 = .ok (.aload_n 0, 1) := by decide +kernel
theorem d_B_init_107 : decode b_B_init 107 = .ok (.bipush 8, 2) := by decide +kernel
theorem d_B_init_109 : decode b_B_init 109 = .ok (.newarray .int, 2) := by decide +kernel
theorem d_B_init_111 : decode b_B_init 111 = .ok (.putfield 49, 3) := by decide +kernel
theorem d_B_init_114 : decode b_B_init 114 = .ok (.aload_n 0, 1) := by decide +kernel
theorem d_B_init_115 : decode b_B_init 115 = .ok (.bipush 8, 2) := by decide +kernel
theorem d_B_init_117 : decode b_B_init 117 = .ok (.newarray .int, 2) := by decide +kernel
theorem d_B_init_119 : decode b_B_init 119 = .ok (.putfield 52, 3) := by decide +kernel
theorem d_B_init_122 : decode b_B_init 122 = .ok (.aload_n 0, 1) := by decide +kernel
theorem d_B_init_123 : decode b_B_init 123 = .ok (.bipush 8, 2) := by decide +kernel
theorem d_B_init_125 : decode b_B_init 125 = .ok (.newarray .int, 2) := by decide +kernel
theorem d_B_init_127 : decode b_B_init 127 = .ok (.putfield 55, 3) := by decide +kernel
theorem d_B_init_130 : decode b_B_init 130 = .ok (.aload_n 0, 1) := by decide +kernel
theorem d_B_init_131 : decode b_B_init 131 = .ok (.bipush 8, 2) := by decide +kernel
theorem d_B_init_133 : decode b_B_init 133 = .ok (.newarray .int, 2) := by decide +kernel
theorem d_B_init_135 : decode b_B_init 135 = .ok (.putfield 58, 3) := by decide +kernel
theorem d_B_init_138 : decode b_B_init 138 = .ok (.aload_n 0, 1) := by decide +kernel
theorem d_B_init_139 : decode b_B_init 139 = .ok (.bipush 8, 2) := by decide +kernel
theorem d_B_init_141 : decode b_B_init 141 = .ok (.newarray .int, 2) := by decide +kernel
theorem d_B_init_143 : decode b_B_init 143 = .ok (.putfield 61, 3) := by decide +kernel
theorem d_B_init_146 : decode b_B_init 146 = .ok (.aload_n 0, 1) := by decide +kernel
theorem d_B_init_147 : decode b_B_init 147 = .ok (.bipush 8, 2) := by decide +kernel
theorem d_B_init_149 : decode b_B_init 149 = .ok (.newarray .int, 2) := by decide +kernel
theorem d_B_init_151 : decode b_B_init 151 = .ok (.putfield 64, 3) := by decide +kernel
theorem d_B_init_154 : decode b_B_init 154 = .ok (.aload_n 0, 1) := by decide +kernel
theorem d_B_init_155 : decode b_B_init 155 = .ok (.bipush 8, 2) := by decide +kernel
theorem d_B_init_157 : decode b_B_init 157 = .ok (.newarray .int, 2) := by decide +kernel
theorem d_B_init_159 : decode b_B_init 159 = .ok (.putfield 67, 3) := by decide +kernel
theorem d_B_init_162 : decode b_B_init 162 = .ok (.aload_n 0, 1) := by decide +kernel
theorem d_B_init_163 : decode b_B_init 163 = .ok (.bipush 8, 2) := by decide +kernel
theorem d_B_init_165 : decode b_B_init 165 = .ok (.newarray .int, 2) := by decide +kernel
theorem d_B_init_167 : decode b_B_init 167 = .ok (.putfield 70, 3) := by decide +kernel
theorem d_B_init_170 : decode b_B_init 170 = .ok (.aload_n 0, 1) := by decide +kernel
theorem d_B_init_171 : decode b_B_init 171 = .ok (.bipush 8, 2) := by decide +kernel
theorem d_B_init_173 : decode b_B_init 173 = .ok (.newarray .int, 2) := by decide +kernel
theorem d_B_init_175 : decode b_B_init 175 = .ok (.putfield 73, 3) := by decide +kernel
theorem d_B_init_178 : decode b_B_init 178 = .ok (.aload_n 0, 1) := by decide +kernel
theorem d_B_init_179 : decode b_B_init 179 = .ok (.bipush 16, 2) := by decide +kernel
theorem d_B_init_181 : decode b_B_init 181 = .ok (.newarray .int, 2) := by decide +kernel
theorem d_B_init_183 : decode b_B_init 183 = .ok (.putfield 76, 3) := by decide +kernel
theorem d_B_init_186 : decode b_B_init 186 = .ok (.aload_n 0, 1) := by decide +kernel
theorem d_B_init_187 : decode b_B_init 187 = .ok (.iconst 4, 1) := by decide +kernel
theorem d_B_init_188 : decode b_B_init 188 = .ok (.newarray .int, 2) := by decide +kernel
theorem d_B_init_190 : decode b_B_init 190 = .ok (.putfield 79, 3) := by decide +kernel
theorem d_B_init_193 : decode b_B_init 193 = .ok (.aload_n 0, 1) := by decide +kernel
theorem d_B_init_194 : decode b_B_init 194 = .ok (.iconst 4, 1) := by decide +kernel
theorem d_B_init_195 : decode b_B_init 195 = .ok (.newarray .int, 2) := by decide +kernel
theorem d_B_init_197 : decode b_B_init 197 = .ok (.putfield 82, 3) := by decide +kernel
theorem d_B_init_200 : decode b_B_init 200 = .ok (.return_, 1) := by decide +kernel
theorem d_B_window_0 : decode b_B_window 0 = .ok (.iload_n 1, 1) := by decide +kernel
theorem d_B_window_1 : decode b_B_window 1 = .ok (.iconst 0, 1) := by decide +kernel
theorem d_B_window_2 : decode b_B_window 2 = .ok (.iconst 2, 1) := by decide +kernel
theorem d_B_window_3 : decode b_B_window 3 = .ok (.invokestatic 85, 3) := by decide +kernel
theorem d_B_window_6 : decode b_B_window 6 = .ok (.ifCond .eq 20, 3) := by decide +kernel
theorem d_B_window_9 : decode b_B_window 9 = .ok (.iload_n 2, 1) := by decide +kernel
theorem d_B_window_10 : decode b_B_window 10 = .ok (.iconst 1, 1) := by decide +kernel
theorem d_B_window_11 : decode b_B_window 11 = .ok (.bipush 30, 2) := by decide +kernel
theorem d_B_window_13 : decode b_B_window 13 = .ok (.invokestatic 85, 3) := by decide +kernel
theorem d_B_window_16 : decode b_B_window 16 = .ok (.ifCond .eq 10, 3) := by decide +kernel
theorem d_B_window_19 : decode b_B_window 19 = .ok (.aload_n 0, 1) := by decide +kernel
theorem d_B_window_20 : decode b_B_window 20 = .ok (.invokevirtual 89, 3) := by decide +kernel
theorem d_B_window_23 : decode b_B_window 23 = .ok (.ifCond .ne 5, 3) := by decide +kernel
theorem d_B_window_26 : decode b_B_window 26 = .ok (.iconst (-1), 1) := by decide +kernel
theorem d_B_window_27 : decode b_B_window 27 = .ok (.ireturn, 1) := by decide +kernel
theorem d_B_window_28 : decode b_B_window 28 = .ok (.aload_n 0, 1) := by decide +kernel
theorem d_B_window_29 : decode b_B_window 29 = .ok (.getfield 93, 3) := by decide +kernel
theorem d_B_window_32 : decode b_B_window 32 = .ok (.bipush 8, 2) := by decide +kernel
theorem d_B_window_34 : decode b_B_window 34 = .ok (.if_icmp .ne 6, 3) := by decide +kernel
theorem d_B_window_37 : decode b_B_window 37 = .ok (.bipush (-2), 2) := by decide +kernel
theorem d_B_window_39 : decode b_B_window 39 = .ok (.ireturn, 1) := by decide +kernel
theorem d_B_window_40 : decode b_B_window 40 = .ok (.aload_n 0, 1) := by decide +kernel
theorem d_B_window_41 : decode b_B_window 41 = .ok (.getfield 7, 3) := by decide +kernel
theorem d_B_window_44 : decode b_B_window 44 = .ok (.aload_n 0, 1) := by decide +kernel
theorem d_B_window_45 : decode b_B_window 45 = .ok (.getfield 93, 3) := by decide +kernel
theorem d_B_window_48 : decode b_B_window 48 = .ok (.iload_n 1, 1) := by decide +kernel
theorem d_B_window_49 : decode b_B_window 49 = .ok (.iastore, 1) := by decide +kernel
theorem d_B_window_50 : decode b_B_window 50 = .ok (.aload_n 0, 1) := by decide +kernel
theorem d_B_window_51 : decode b_B_window 51 = .ok (.getfield 13, 3) := by decide +kernel
theorem d_B_window_54 : decode b_B_window 54 = .ok (.aload_n 0, 1) := by decide +kernel
theorem d_B_window_55 : decode b_B_window 55 = .ok (.getfield 93, 3) := by decide +kernel
theorem d_B_window_58 : decode b_B_window 58 = .ok (.iload_n 2, 1) := by decide +kernel
theorem d_B_window_59 : decode b_B_window 59 = .ok (.iastore, 1) := by decide +kernel
theorem d_B_window_60 : decode b_B_window 60 = .ok (.aload_n 0, 1) := by decide +kernel
theorem d_B_window_61 : decode b_B_window 61 = .ok (.dup, 1) := by decide +kernel
theorem d_B_window_62 : decode b_B_window 62 = .ok (.getfield 93, 3) := by decide +kernel
theorem d_B_window_65 : decode b_B_window 65 = .ok (.iconst 1, 1) := by decide +kernel
theorem d_B_window_66 : decode b_B_window 66 = .ok (.iadd, 1) := by decide +kernel
theorem d_B_window_67 : decode b_B_window 67 = .ok (.putfield 93, 3) := by decide +kernel
theorem d_B_window_70 : decode b_B_window 70 = .ok (.aload_n 0, 1) := by decide +kernel
theorem d_B_window_71 : decode b_B_window 71 = .ok (.getfield 93, 3) := by decide +kernel
theorem d_B_window_74 : decode b_B_window 74 = .ok (.ireturn, 1) := by decide +kernel
theorem d_B_in_0 : decode b_B_in 0 = .ok (.iload_n 0, 1) := by decide +kernel
theorem d_B_in_1 : decode b_B_in 1 = .ok (.iload_n 1, 1) := by decide +kernel
theorem d_B_in_2 : decode b_B_in 2 = .ok (.if_icmp .lt 12, 3) := by decide +kernel
theorem d_B_in_5 : decode b_B_in 5 = .ok (.iload_n 0, 1) := by decide +kernel
theorem d_B_in_6 : decode b_B_in 6 = .ok (.iload_n 2, 1) := by decide +kernel
theorem d_B_in_7 : decode b_B_in 7 = .ok (.if_icmp .gt 7, 3) := by decide +kernel
theorem d_B_in_10 : decode b_B_in 10 = .ok (.iconst 1, 1) := by decide +kernel
theorem d_B_in_11 : decode b_B_in 11 = .ok (.goto 4, 3) := by decide +kernel
theorem d_B_in_14 : decode b_B_in 14 = .ok (.iconst 0, 1) := by decide +kernel
theorem d_B_in_15 : decode b_B_in 15 = .ok (.ireturn, 1) := by decide +kernel
theorem d_B_allOff_0 : decode b_B_allOff 0 = .ok (.aload_n 0, 1) := by decide +kernel
theorem d_B_allOff_1 : decode b_B_allOff 1 = .ok (.getfield 16, 3) := by decide +kernel
theorem d_B_allOff_4 : decode b_B_allOff 4 = .ok (.iconst 0, 1) := by decide +kernel
theorem d_B_allOff_5 : decode b_B_allOff 5 = .ok (.iaload, 1) := by decide +kernel
theorem d_B_allOff_6 : decode b_B_allOff 6 = .ok (.ifCond .ne 25, 3) := by decide +kernel
theorem d_B_allOff_9 : decode b_B_allOff 9 = .ok (.aload_n 0, 1) := by decide +kernel
theorem d_B_allOff_10 : decode b_B_allOff 10 = .ok (.getfield 16, 3) := by decide +kernel
theorem d_B_allOff_13 : decode b_B_allOff 13 = .ok (.iconst 1, 1) := by decide +kernel
theorem d_B_allOff_14 : decode b_B_allOff 14 = .ok (.iaload, 1) := by decide +kernel
theorem d_B_allOff_15 : decode b_B_allOff 15 = .ok (.ifCond .ne 16, 3) := by decide +kernel
theorem d_B_allOff_18 : decode b_B_allOff 18 = .ok (.aload_n 0, 1) := by decide +kernel
theorem d_B_allOff_19 : decode b_B_allOff 19 = .ok (.getfield 16, 3) := by decide +kernel
theorem d_B_allOff_22 : decode b_B_allOff 22 = .ok (.iconst 2, 1) := by decide +kernel
theorem d_B_allOff_23 : decode b_B_allOff 23 = .ok (.iaload, 1) := by decide +kernel
theorem d_B_allOff_24 : decode b_B_allOff 24 = .ok (.ifCond .ne 7, 3) := by decide +kernel
theorem d_B_allOff_27 : decode b_B_allOff 27 = .ok (.iconst 1, 1) := by decide +kernel
theorem d_B_allOff_28 : decode b_B_allOff 28 = .ok (.goto 4, 3) := by decide +kernel
theorem d_B_allOff_31 : decode b_B_allOff 31 = .ok (.iconst 0, 1) := by decide +kernel
theorem d_B_allOff_32 : decode b_B_allOff 32 = .ok (.ireturn, 1) := by decide +kernel
theorem d_B_process_0 : decode b_B_process 0 = .ok (.iload_n 1, 1) := by decide +kernel
theorem d_B_process_1 : decode b_B_process 1 = .ok (.iconst 0, 1) := by decide +kernel
theorem d_B_process_2 : decode b_B_process 2 = .ok (.iconst 2, 1) := by decide +kernel
theorem d_B_process_3 : decode b_B_process 3 = .ok (.invokestatic 85, 3) := by decide +kernel
theorem d_B_process_6 : decode b_B_process 6 = .ok (.ifCond .eq 41, 3) := by decide +kernel
theorem d_B_process_9 : decode b_B_process 9 = .ok (.iload_n 2, 1) := by decide +kernel
theorem d_B_process_10 : decode b_B_process 10 = .ok (.iconst 0, 1) := by decide +kernel
theorem d_B_process_11 : decode b_B_process 11 = .ok (.bipush 9, 2) := by decide +kernel
theorem d_B_process_13 : decode b_B_process 13 = .ok (.invokestatic 85, 3) := by decide +kernel
theorem d_B_process_16 : decode b_B_process 16 = .ok (.ifCond .eq 31, 3) := by decide +kernel
theorem d_B_process_19 : decode b_B_process 19 = .ok (.iload_n 3, 1) := by decide +kernel
theorem d_B_process_20 : decode b_B_process 20 = .ok (.iconst 0, 1) := by decide +kernel
theorem d_B_process_21 : decode b_B_process 21 = .ok (.bipush 60, 2) := by decide +kernel
theorem d_B_process_23 : decode b_B_process 23 = .ok (.invokestatic 85, 3) := by decide +kernel
theorem d_B_process_26 : decode b_B_process 26 = .ok (.ifCond .eq 21, 3) := by decide +kernel
theorem d_B_process_29 : decode b_B_process 29 = .ok (.iload 4, 2) := by decide +kernel
theorem d_B_process_31 : decode b_B_process 31 = .ok (.iconst 0, 1) := by decide +kernel
theorem d_B_process_32 : decode b_B_process 32 = .ok (.bipush 60, 2) := by decide +kernel
end
section
theorem d_B_process_34 : decode b_B_process 34 = .ok (.invokestatic 85, 3) := by decide +kernel
theorem d_B_process_37 : decode b_B_process 37 = .ok (.ifCond .eq 10, 3) := by decide +kernel
theorem d_B_process_40 : decode b_B_process 40 = .ok (.aload_n 0, 1) := by decide +kernel
theorem d_B_process_41 : decode b_B_process 41 = .ok (.invokevirtual 89, 3) := by decide +kernel
theorem d_B_process_44 : decode b_B_process 44 = .ok (.ifCond .ne 5, 3) := by decide +kernel
theorem d_B_process_47 : decode b_B_process 47 = .ok (.iconst (-1), 1) := by decide +kernel
theorem d_B_process_48 : decode b_B_process 48 = .ok (.ireturn, 1) := by decide +kernel
theorem d_B_process_49 : decode b_B_process 49 = .ok (.aload_n 0, 1) := by decide +kernel
theorem d_B_process_50 : decode b_B_process 50 = .ok (.getfield 97, 3) := by decide +kernel
theorem d_B_process_53 : decode b_B_process 53 = .ok (.bipush 8, 2) := by decide +kernel
theorem d_B_process_55 : decode b_B_process 55 = .ok (.if_icmp .ne 6, 3) := by decide +kernel
theorem d_B_process_58 : decode b_B_process 58 = .ok (.bipush (-2), 2) := by decide +kernel
theorem d_B_process_60 : decode b_B_process 60 = .ok (.ireturn, 1) := by decide +kernel
theorem d_B_process_61 : decode b_B_process 61 = .ok (.aload_n 0, 1) := by decide +kernel
theorem d_B_process_62 : decode b_B_process 62 = .ok (.getfield 97, 3) := by decide +kernel
theorem d_B_process_65 : decode b_B_process 65 = .ok (.istore 5, 2) := by decide +kernel
theorem d_B_process_67 : decode b_B_process 67 = .ok (.aload_n 0, 1) := by decide +kernel
theorem d_B_process_68 : decode b_B_process 68 = .ok (.getfield 22, 3) := by decide +kernel
theorem d_B_process_71 : decode b_B_process 71 = .ok (.iload 5, 2) := by decide +kernel
theorem d_B_process_73 : decode b_B_process 73 = .ok (.iload_n 1, 1) := by decide +kernel
theorem d_B_process_74 : decode b_B_process 74 = .ok (.iastore, 1) := by decide +kernel
theorem d_B_process_75 : decode b_B_process 75 = .ok (.aload_n 0, 1) := by decide +kernel
theorem d_B_process_76 : decode b_B_process 76 = .ok (.getfield 25, 3) := by decide +kernel
theorem d_B_process_79 : decode b_B_process 79 = .ok (.iload 5, 2) := by decide +kernel
theorem d_B_process_81 : decode b_B_process 81 = .ok (.iload_n 2, 1) := by decide +kernel
theorem d_B_process_82 : decode b_B_process 82 = .ok (.iastore, 1) := by decide +kernel
theorem d_B_process_83 : decode b_B_process 83 = .ok (.aload_n 0, 1) := by decide +kernel
theorem d_B_process_84 : decode b_B_process 84 = .ok (.getfield 28, 3) := by decide +kernel
theorem d_B_process_87 : decode b_B_process 87 = .ok (.iload 5, 2) := by decide +kernel
theorem d_B_process_89 : decode b_B_process 89 = .ok (.iload_n 3, 1) := by decide +kernel
theorem d_B_process_90 : decode b_B_process 90 = .ok (.iastore, 1) := by decide +kernel
theorem d_B_process_91 : decode b_B_process 91 = .ok (.aload_n 0, 1) := by decide +kernel
theorem d_B_process_92 : decode b_B_process 92 = .ok (.getfield 31, 3) := by decide +kernel
theorem d_B_process_95 : decode b_B_process 95 = .ok (.iload 5, 2) := by decide +kernel
theorem d_B_process_97 : decode b_B_process 97 = .ok (.iload 4, 2) := by decide +kernel
theorem d_B_process_99 : decode b_B_process 99 = .ok (.iastore, 1) := by decide +kernel
theorem d_B_process_100 : decode b_B_process 100 = .ok (.aload_n 0, 1) := by decide +kernel
theorem d_B_process_101 : decode b_B_process 101 = .ok (.getfield 55, 3) := by decide +kernel
theorem d_B_process_104 : decode b_B_process 104 = .ok (.iload 5, 2) := by decide +kernel
theorem d_B_process_106 : decode b_B_process 106 = .ok (.iconst (-1), 1) := by decide +kernel
theorem d_B_process_107 : decode b_B_process 107 = .ok (.iastore, 1) := by decide +kernel
theorem d_B_process_108 : decode b_B_process 108 = .ok (.aload_n 0, 1) := by decide +kernel
theorem d_B_process_109 : decode b_B_process 109 = .ok (.getfield 70, 3) := by decide +kernel
theorem d_B_process_112 : decode b_B_process 112 = .ok (.iload 5, 2) := by decide +kernel
theorem d_B_process_114 : decode b_B_process 114 = .ok (.iconst (-1), 1) := by decide +kernel
theorem d_B_process_115 : decode b_B_process 115 = .ok (.iastore, 1) := by decide +kernel
theorem d_B_process_116 : decode b_B_process 116 = .ok (.aload_n 0, 1) := by decide +kernel
theorem d_B_process_117 : decode b_B_process 117 = .ok (.dup, 1) := by decide +kernel
theorem d_B_process_118 : decode b_B_process 118 = .ok (.getfield 97, 3) := by decide +kernel
theorem d_B_process_121 : decode b_B_process 121 = .ok (.iconst 1, 1) := by decide +kernel
theorem d_B_process_122 : decode b_B_process 122 = .ok (.iadd, 1) := by decide +kernel
theorem d_B_process_123 : decode b_B_process 123 = .ok (.putfield 97, 3) := by decide +kernel
theorem d_B_process_126 : decode b_B_process 126 = .ok (.iload 5, 2) := by decide +kernel
theorem d_B_process_128 : decode b_B_process 128 = .ok (.ireturn, 1) := by decide +kernel
theorem d_B_order_0 : decode b_B_order 0 = .ok (.iload_n 1, 1) := by decide +kernel
theorem d_B_order_1 : decode b_B_order 1 = .ok (.iconst 0, 1) := by decide +kernel
theorem d_B_order_2 : decode b_B_order 2 = .ok (.aload_n 0, 1) := by decide +kernel
theorem d_B_order_3 : decode b_B_order 3 = .ok (.getfield 97, 3) := by decide +kernel
theorem d_B_order_6 : decode b_B_order 6 = .ok (.iconst 1, 1) := by decide +kernel
theorem d_B_order_7 : decode b_B_order 7 = .ok (.isub, 1) := by decide +kernel
theorem d_B_order_8 : decode b_B_order 8 = .ok (.invokestatic 85, 3) := by decide +kernel
theorem d_B_order_11 : decode b_B_order 11 = .ok (.ifCond .eq 19, 3) := by decide +kernel
theorem d_B_order_14 : decode b_B_order 14 = .ok (.iload_n 2, 1) := by decide +kernel
theorem d_B_order_15 : decode b_B_order 15 = .ok (.iconst 0, 1) := by decide +kernel
theorem d_B_order_16 : decode b_B_order 16 = .ok (.iconst 4, 1) := by decide +kernel
theorem d_B_order_17 : decode b_B_order 17 = .ok (.invokestatic 85, 3) := by decide +kernel
theorem d_B_order_20 : decode b_B_order 20 = .ok (.ifCond .eq 10, 3) := by decide +kernel
theorem d_B_order_23 : decode b_B_order 23 = .ok (.aload_n 0, 1) := by decide +kernel
theorem d_B_order_24 : decode b_B_order 24 = .ok (.invokevirtual 89, 3) := by decide +kernel
theorem d_B_order_27 : decode b_B_order 27 = .ok (.ifCond .ne 5, 3) := by decide +kernel
theorem d_B_order_30 : decode b_B_order 30 = .ok (.iconst (-1), 1) := by decide +kernel
theorem d_B_order_31 : decode b_B_order 31 = .ok (.ireturn, 1) := by decide +kernel
theorem d_B_order_32 : decode b_B_order 32 = .ok (.iload_n 2, 1) := by decide +kernel
theorem d_B_order_33 : decode b_B_order 33 = .ok (.ifCond .ne 16, 3) := by decide +kernel
theorem d_B_order_36 : decode b_B_order 36 = .ok (.iload_n 3, 1) := by decide +kernel
theorem d_B_order_37 : decode b_B_order 37 = .ok (.iconst 1, 1) := by decide +kernel
theorem d_B_order_38 : decode b_B_order 38 = .ok (.bipush 20, 2) := by decide +kernel
theorem d_B_order_40 : decode b_B_order 40 = .ok (.invokestatic 85, 3) := by decide +kernel
theorem d_B_order_43 : decode b_B_order 43 = .ok (.ifCond .ne 17, 3) := by decide +kernel
theorem d_B_order_46 : decode b_B_order 46 = .ok (.goto 12, 3) := by decide +kernel
theorem d_B_order_49 : decode b_B_order 49 = .ok (.iload_n 3, 1) := by decide +kernel
theorem d_B_order_50 : decode b_B_order 50 = .ok (.iconst 0, 1) := by decide +kernel
theorem d_B_order_51 : decode b_B_order 51 = .ok (.iconst 3, 1) := by decide +kernel
theorem d_B_order_52 : decode b_B_order 52 = .ok (.invokestatic 85, 3) := by decide +kernel
theorem d_B_order_55 : decode b_B_order 55 = .ok (.ifCond .ne 5, 3) := by decide +kernel
theorem d_B_order_58 : decode b_B_order 58 = .ok (.iconst (-1), 1) := by decide +kernel
theorem d_B_order_59 : decode b_B_order 59 = .ok (.ireturn, 1) := by decide +kernel
theorem d_B_order_60 : decode b_B_order 60 = .ok (.aload_n 0, 1) := by decide +kernel
theorem d_B_order_61 : decode b_B_order 61 = .ok (.getfield 34, 3) := by decide +kernel
theorem d_B_order_64 : decode b_B_order 64 = .ok (.iload_n 1, 1) := by decide +kernel
theorem d_B_order_65 : decode b_B_order 65 = .ok (.iaload, 1) := by decide +kernel
theorem d_B_order_66 : decode b_B_order 66 = .ok (.bipush 8, 2) := by decide +kernel
theorem d_B_order_68 : decode b_B_order 68 = .ok (.if_icmp .ne 6, 3) := by decide +kernel
theorem d_B_order_71 : decode b_B_order 71 = .ok (.bipush (-2), 2) := by decide +kernel
theorem d_B_order_73 : decode b_B_order 73 = .ok (.ireturn, 1) := by decide +kernel
theorem d_B_order_74 : decode b_B_order 74 = .ok (.aload_n 0, 1) := by decide +kernel
theorem d_B_order_75 : decode b_B_order 75 = .ok (.getfield 37, 3) := by decide +kernel
theorem d_B_order_78 : decode b_B_order 78 = .ok (.bipush 8, 2) := by decide +kernel
theorem d_B_order_80 : decode b_B_order 80 = .ok (.iload_n 1, 1) := by decide +kernel
theorem d_B_order_81 : decode b_B_order 81 = .ok (.imul, 1) := by decide +kernel
theorem d_B_order_82 : decode b_B_order 82 = .ok (.aload_n 0, 1) := by decide +kernel
theorem d_B_order_83 : decode b_B_order 83 = .ok (.getfield 34, 3) := by decide +kernel
theorem d_B_order_86 : decode b_B_order 86 = .ok (.iload_n 1, 1) := by decide +kernel
theorem d_B_order_87 : decode b_B_order 87 = .ok (.iaload, 1) := by decide +kernel
theorem d_B_order_88 : decode b_B_order 88 = .ok (.iadd, 1) := by decide +kernel
theorem d_B_order_89 : decode b_B_order 89 = .ok (.iload_n 2, 1) := by decide +kernel
theorem d_B_order_90 : decode b_B_order 90 = .ok (.iastore, 1) := by decide +kernel
theorem d_B_order_91 : decode b_B_order 91 = .ok (.aload_n 0, 1) := by decide +kernel
theorem d_B_order_92 : decode b_B_order 92 = .ok (.getfield 40, 3) := by decide +kernel
theorem d_B_order_95 : decode b_B_order 95 = .ok (.bipush 8, 2) := by decide +kernel
theorem d_B_order_97 : decode b_B_order 97 = .ok (.iload_n 1, 1) := by decide +kernel
theorem d_B_order_98 : decode b_B_order 98 = .ok (.imul, 1) := by decide +kernel
theorem d_B_order_99 : decode b_B_order 99 = .ok (.aload_n 0, 1) := by decide +kernel
theorem d_B_order_100 : decode b_B_order 100 = .ok (.getfield 34, 3) := by decide +kernel
theorem d_B_order_103 : decode b_B_order 103 = .ok (.iload_n 1, 1) := by decide +kernel
theorem d_B_order_104 : decode b_B_order 104 = .ok (.iaload, 1) := by decide +kernel
theorem d_B_order_105 : decode b_B_order 105 = .ok (.iadd, 1) := by decide +kernel
theorem d_B_order_106 : decode b_B_order 106 = .ok (.iload_n 3, 1) := by decide +kernel
theorem d_B_order_107 : decode b_B_order 107 = .ok (.iastore, 1) := by decide +kernel
theorem d_B_order_108 : decode b_B_order 108 = .ok (.aload_n 0, 1) := by decide +kernel
theorem d_B_order_109 : decode b_B_order 109 = .ok (.getfield 34, 3) := by decide +kernel
theorem d_B_order_112 : decode b_B_order 112 = .ok (.iload_n 1, 1) := by decide +kernel
theorem d_B_order_113 : decode b_B_order 113 = .ok (.dup2, 1) := by decide +kernel
theorem d_B_order_114 : decode b_B_order 114 = .ok (.iaload, 1) := by decide +kernel
theorem d_B_order_115 : decode b_B_order 115 = .ok (.iconst 1, 1) := by decide +kernel
theorem d_B_order_116 : decode b_B_order 116 = .ok (.iadd, 1) := by decide +kernel
theorem d_B_order_117 : decode b_B_order 117 = .ok (.iastore, 1) := by decide +kernel
theorem d_B_order_118 : decode b_B_order 118 = .ok (.aload_n 0, 1) := by decide +kernel
theorem d_B_order_119 : decode b_B_order 119 = .ok (.getfield 34, 3) := by decide +kernel
theorem d_B_order_122 : decode b_B_order 122 = .ok (.iload_n 1, 1) := by decide +kernel
theorem d_B_order_123 : decode b_B_order 123 = .ok (.iaload, 1) := by decide +kernel
theorem d_B_order_124 : decode b_B_order 124 = .ok (.ireturn, 1) := by decide +kernel
theorem d_B_action_0 : decode b_B_action 0 = .ok (.iload_n 1, 1) := by decide +kernel
theorem d_B_action_1 : decode b_B_action 1 = .ok (.iconst 0, 1) := by decide +kernel
theorem d_B_action_2 : decode b_B_action 2 = .ok (.iconst 2, 1) := by decide +kernel
theorem d_B_action_3 : decode b_B_action 3 = .ok (.invokestatic 85, 3) := by decide +kernel
theorem d_B_action_6 : decode b_B_action 6 = .ok (.ifCond .eq 12, 3) := by decide +kernel
theorem d_B_action_9 : decode b_B_action 9 = .ok (.iload_n 2, 1) := by decide +kernel
theorem d_B_action_10 : decode b_B_action 10 = .ok (.iconst 0, 1) := by decide +kernel
theorem d_B_action_11 : decode b_B_action 11 = .ok (.iconst 2, 1) := by decide +kernel
theorem d_B_action_12 : decode b_B_action 12 = .ok (.invokestatic 85, 3) := by decide +kernel
theorem d_B_action_15 : decode b_B_action 15 = .ok (.ifCond .ne 5, 3) := by decide +kernel
theorem d_B_action_18 : decode b_B_action 18 = .ok (.iconst (-1), 1) := by decide +kernel
theorem d_B_action_19 : decode b_B_action 19 = .ok (.ireturn, 1) := by decide +kernel
theorem d_B_action_20 : decode b_B_action 20 = .ok (.aload_n 0, 1) := by decide +kernel
theorem d_B_action_21 : decode b_B_action 21 = .ok (.getfield 19, 3) := by decide +kernel
theorem d_B_action_24 : decode b_B_action 24 = .ok (.iload_n 1, 1) := by decide +kernel
theorem d_B_action_25 : decode b_B_action 25 = .ok (.iload_n 2, 1) := by decide +kernel
theorem d_B_action_26 : decode b_B_action 26 = .ok (.iastore, 1) := by decide +kernel
theorem d_B_action_27 : decode b_B_action 27 = .ok (.iconst 0, 1) := by decide +kernel
theorem d_B_action_28 : decode b_B_action 28 = .ok (.ireturn, 1) := by decide +kernel
theorem d_B_on_0 : decode b_B_on 0 = .ok (.iload_n 1, 1) := by decide +kernel
theorem d_B_on_1 : decode b_B_on 1 = .ok (.iconst 0, 1) := by decide +kernel
theorem d_B_on_2 : decode b_B_on 2 = .ok (.iconst 2, 1) := by decide +kernel
theorem d_B_on_3 : decode b_B_on 3 = .ok (.invokestatic 85, 3) := by decide +kernel
theorem d_B_on_6 : decode b_B_on 6 = .ok (.ifCond .eq 13, 3) := by decide +kernel
theorem d_B_on_9 : decode b_B_on 9 = .ok (.aload_n 0, 1) := by decide +kernel
theorem d_B_on_10 : decode b_B_on 10 = .ok (.getfield 16, 3) := by decide +kernel
theorem d_B_on_13 : decode b_B_on 13 = .ok (.iload_n 1, 1) := by decide +kernel
theorem d_B_on_14 : decode b_B_on 14 = .ok (.iaload, 1) := by decide +kernel
theorem d_B_on_15 : decode b_B_on 15 = .ok (.iconst 1, 1) := by decide +kernel
theorem d_B_on_16 : decode b_B_on 16 = .ok (.if_icmp .ne 5, 3) := by decide +kernel
theorem d_B_on_19 : decode b_B_on 19 = .ok (.iconst (-1), 1) := by decide +kernel
theorem d_B_on_20 : decode b_B_on 20 = .ok (.ireturn, 1) := by decide +kernel
theorem d_B_on_21 : decode b_B_on 21 = .ok (.aload_n 0, 1) := by decide +kernel
theorem d_B_on_22 : decode b_B_on 22 = .ok (.getfield 16, 3) := by decide +kernel
theorem d_B_on_25 : decode b_B_on 25 = .ok (.iload_n 1, 1) := by decide +kernel
theorem d_B_on_26 : decode b_B_on 26 = .ok (.iconst 1, 1) := by decide +kernel
theorem d_B_on_27 : decode b_B_on 27 = .ok (.iastore, 1) := by decide +kernel
theorem d_B_on_28 : decode b_B_on 28 = .ok (.iconst 0, 1) := by decide +kernel
theorem d_B_on_29 : decode b_B_on 29 = .ok (.istore_n 2, 1) := by decide +kernel
theorem d_B_on_30 : decode b_B_on 30 = .ok (.iload_n 2, 1) := by decide +kernel
theorem d_B_on_31 : decode b_B_on 31 = .ok (.aload_n 0, 1) := by decide +kernel
theorem d_B_on_32 : decode b_B_on 32 = .ok (.getfield 97, 3) := by decide +kernel
theorem d_B_on_35 : decode b_B_on 35 = .ok (.if_icmp .ge 46, 3) := by decide +kernel
theorem d_B_on_38 : decode b_B_on 38 = .ok (.aload_n 0, 1) := by decide +kernel
theorem d_B_on_39 : decode b_B_on 39 = .ok (.getfield 22, 3) := by decide +kernel
theorem d_B_on_42 : decode b_B_on 42 = .ok (.iload_n 2, 1) := by decide +kernel
theorem d_B_on_43 : decode b_B_on 43 = .ok (.iaload, 1) := by decide +kernel
theorem d_B_on_44 : decode b_B_on 44 = .ok (.iload_n 1, 1) := by decide +kernel
theorem d_B_on_45 : decode b_B_on 45 = .ok (.if_icmp .eq 6, 3) := by decide +kernel
theorem d_B_on_48 : decode b_B_on 48 = .ok (.goto 27, 3) := by decide +kernel
theorem d_B_on_51 : decode b_B_on 51 = .ok (.aload_n 0, 1) := by decide +kernel
theorem d_B_on_52 : decode b_B_on 52 = .ok (.iload_n 2, 1) := by decide +kernel
theorem d_B_on_53 : decode b_B_on 53 = .ok (.invokevirtual 100, 3) := by decide +kernel
theorem d_B_on_56 : decode b_B_on 56 = .ok (.aload_n 0, 1) := by decide +kernel
theorem d_B_on_57 : decode b_B_on 57 = .ok (.getfield 28, 3) := by decide +kernel
theorem d_B_on_60 : decode b_B_on 60 = .ok (.iload_n 2, 1) := by decide +kernel
theorem d_B_on_61 : decode b_B_on 61 = .ok (.iaload, 1) := by decide +kernel
theorem d_B_on_62 : decode b_B_on 62 = .ok (.ifCond .le 13, 3) := by decide +kernel
theorem d_B_on_65 : decode b_B_on 65 = .ok (.aload_n 0, 1) := by decide +kernel
theorem d_B_on_66 : decode b_B_on 66 = .ok (.getfield 70, 3) := by decide +kernel
theorem d_B_on_69 : decode b_B_on 69 = .ok (.iload_n 2, 1) := by decide +kernel
theorem d_B_on_70 : decode b_B_on 70 = .ok (.aload_n 0, 1) := by decide +kernel
theorem d_B_on_71 : decode b_B_on 71 = .ok (.getfield 104, 3) := by decide +kernel
theorem d_B_on_74 : decode b_B_on 74 = .ok (.iastore, 1) := by decide +kernel
theorem d_B_on_75 : decode b_B_on 75 = .ok (.iinc 2 1, 3) := by decide +kernel
theorem d_B_on_78 : decode b_B_on 78 = .ok (.goto (-48), 3) := by decide +kernel
theorem d_B_on_81 : decode b_B_on 81 = .ok (.iconst 0, 1) := by decide +kernel
theorem d_B_on_82 : decode b_B_on 82 = .ok (.ireturn, 1) := by decide +kernel
theorem d_B_rest_0 : decode b_B_rest 0 = .ok (.aload_n 0, 1) := by decide +kernel
theorem d_B_rest_1 : decode b_B_rest 1 = .ok (.getfield 43, 3) := by decide +kernel
theorem d_B_rest_4 : decode b_B_rest 4 = .ok (.iload_n 1, 1) := by decide +kernel
theorem d_B_rest_5 : decode b_B_rest 5 = .ok (.iconst 0, 1) := by decide +kernel
theorem d_B_rest_6 : decode b_B_rest 6 = .ok (.iastore, 1) := by decide +kernel
theorem d_B_rest_7 : decode b_B_rest 7 = .ok (.aload_n 0, 1) := by decide +kernel
theorem d_B_rest_8 : decode b_B_rest 8 = .ok (.getfield 46, 3) := by decide +kernel
theorem d_B_rest_11 : decode b_B_rest 11 = .ok (.iload_n 1, 1) := by decide +kernel
theorem d_B_rest_12 : decode b_B_rest 12 = .ok (.iconst 0, 1) := by decide +kernel
theorem d_B_rest_13 : decode b_B_rest 13 = .ok (.iastore, 1) := by decide +kernel
theorem d_B_rest_14 : decode b_B_rest 14 = .ok (.aload_n 0, 1) := by decide +kernel
theorem d_B_rest_15 : decode b_B_rest 15 = .ok (.getfield 49, 3) := by decide +kernel
theorem d_B_rest_18 : decode b_B_rest 18 = .ok (.iload_n 1, 1) := by decide +kernel
theorem d_B_rest_19 : decode b_B_rest 19 = .ok (.iconst 0, 1) := by decide +kernel
theorem d_B_rest_20 : decode b_B_rest 20 = .ok (.iastore, 1) := by decide +kernel
theorem d_B_rest_21 : decode b_B_rest 21 = .ok (.aload_n 0, 1) := by decide +kernel
theorem d_B_rest_22 : decode b_B_rest 22 = .ok (.getfield 55, 3) := by decide +kernel
theorem d_B_rest_25 : decode b_B_rest 25 = .ok (.iload_n 1, 1) := by decide +kernel
theorem d_B_rest_26 : decode b_B_rest 26 = .ok (.iconst (-1), 1) := by decide +kernel
theorem d_B_rest_27 : decode b_B_rest 27 = .ok (.iastore, 1) := by decide +kernel
theorem d_B_rest_28 : decode b_B_rest 28 = .ok (.return_, 1) := by decide +kernel
theorem d_B_start_0 : decode b_B_start 0 = .ok (.iload_n 1, 1) := by decide +kernel
theorem d_B_start_1 : decode b_B_start 1 = .ok (.iconst 0, 1) := by decide +kernel
theorem d_B_start_2 : decode b_B_start 2 = .ok (.aload_n 0, 1) := by decide +kernel
theorem d_B_start_3 : decode b_B_start 3 = .ok (.getfield 97, 3) := by decide +kernel
theorem d_B_start_6 : decode b_B_start 6 = .ok (.iconst 1, 1) := by decide +kernel
theorem d_B_start_7 : decode b_B_start 7 = .ok (.isub, 1) := by decide +kernel
theorem d_B_start_8 : decode b_B_start 8 = .ok (.invokestatic 85, 3) := by decide +kernel
theorem d_B_start_11 : decode b_B_start 11 = .ok (.ifCond .eq 36, 3) := by decide +kernel
theorem d_B_start_14 : decode b_B_start 14 = .ok (.aload_n 0, 1) := by decide +kernel
theorem d_B_start_15 : decode b_B_start 15 = .ok (.getfield 28, 3) := by decide +kernel
theorem d_B_start_18 : decode b_B_start 18 = .ok (.iload_n 1, 1) := by decide +kernel
theorem d_B_start_19 : decode b_B_start 19 = .ok (.iaload, 1) := by decide +kernel
theorem d_B_start_20 : decode b_B_start 20 = .ok (.ifCond .gt 27, 3) := by decide +kernel
theorem d_B_start_23 : decode b_B_start 23 = .ok (.aload_n 0, 1) := by decide +kernel
theorem d_B_start_24 : decode b_B_start 24 = .ok (.getfield 43, 3) := by decide +kernel
theorem d_B_start_27 : decode b_B_start 27 = .ok (.iload_n 1, 1) := by decide +kernel
theorem d_B_start_28 : decode b_B_start 28 = .ok (.iaload, 1) := by decide +kernel
theorem d_B_start_29 : decode b_B_start 29 = .ok (.ifCond .ne 18, 3) := by decide +kernel
theorem d_B_start_32 : decode b_B_start 32 = .ok (.aload_n 0, 1) := by decide +kernel
theorem d_B_start_33 : decode b_B_start 33 = .ok (.getfield 16, 3) := by decide +kernel
theorem d_B_start_36 : decode b_B_start 36 = .ok (.aload_n 0, 1) := by decide +kernel
theorem d_B_start_37 : decode b_B_start 37 = .ok (.getfield 22, 3) := by decide +kernel
theorem d_B_start_40 : decode b_B_start 40 = .ok (.iload_n 1, 1) := by decide +kernel
theorem d_B_start_41 : decode b_B_start 41 = .ok (.iaload, 1) := by decide +kernel
theorem d_B_start_42 : decode b_B_start 42 = .ok (.iaload, 1) := by decide +kernel
theorem d_B_start_43 : decode b_B_start 43 = .ok (.iconst 1, 1) := by decide +kernel
theorem d_B_start_44 : decode b_B_start 44 = .ok (.if_icmp .eq 5, 3) := by decide +kernel
theorem d_B_start_47 : decode b_B_start 47 = .ok (.iconst (-1), 1) := by decide +kernel
theorem d_B_start_48 : decode b_B_start 48 = .ok (.ireturn, 1) := by decide +kernel
theorem d_B_start_49 : decode b_B_start 49 = .ok (.aload_n 0, 1) := by decide +kernel
theorem d_B_start_50 : decode b_B_start 50 = .ok (.iload_n 1, 1) := by decide +kernel
theorem d_B_start_51 : decode b_B_start 51 = .ok (.invokevirtual 114, 3) := by decide +kernel
theorem d_B_start_54 : decode b_B_start 54 = .ok (.iconst 0, 1) := by decide +kernel
theorem d_B_start_55 : decode b_B_start 55 = .ok (.ireturn, 1) := by decide +kernel
theorem d_B_release_0 : decode b_B_release 0 = .ok (.aload_n 0, 1) := by decide +kernel
theorem d_B_release_1 : decode b_B_release 1 = .ok (.getfield 52, 3) := by decide +kernel
theorem d_B_release_4 : decode b_B_release 4 = .ok (.iload_n 1, 1) := by decide +kernel
theorem d_B_release_5 : decode b_B_release 5 = .ok (.dup2, 1) := by decide +kernel
theorem d_B_release_6 : decode b_B_release 6 = .ok (.iaload, 1) := by decide +kernel
theorem d_B_release_7 : decode b_B_release 7 = .ok (.iconst 1, 1) := by decide +kernel
theorem d_B_release_8 : decode b_B_release 8 = .ok (.iadd, 1) := by decide +kernel
theorem d_B_release_9 : decode b_B_release 9 = .ok (.iastore, 1) := by decide +kernel
theorem d_B_release_10 : decode b_B_release 10 = .ok (.aload_n 0, 1) := by decide +kernel
theorem d_B_release_11 : decode b_B_release 11 = .ok (.getfield 34, 3) := by decide +kernel
theorem d_B_release_14 : decode b_B_release 14 = .ok (.iload_n 1, 1) := by decide +kernel
theorem d_B_release_15 : decode b_B_release 15 = .ok (.iaload, 1) := by decide +kernel
theorem d_B_release_16 : decode b_B_release 16 = .ok (.ifCond .ne 4, 3) := by decide +kernel
theorem d_B_release_19 : decode b_B_release 19 = .ok (.return_, 1) := by decide +kernel
theorem d_B_release_20 : decode b_B_release 20 = .ok (.aload_n 0, 1) := by decide +kernel
theorem d_B_release_21 : decode b_B_release 21 = .ok (.getfield 46, 3) := by decide +kernel
theorem d_B_release_24 : decode b_B_release 24 = .ok (.iload_n 1, 1) := by decide +kernel
theorem d_B_release_25 : decode b_B_release 25 = .ok (.iconst 0, 1) := by decide +kernel
theorem d_B_release_26 : decode b_B_release 26 = .ok (.iastore, 1) := by decide +kernel
theorem d_B_release_27 : decode b_B_release 27 = .ok (.aload_n 0, 1) := by decide +kernel
theorem d_B_release_28 : decode b_B_release 28 = .ok (.getfield 49, 3) := by decide +kernel
theorem d_B_release_31 : decode b_B_release 31 = .ok (.iload_n 1, 1) := by decide +kernel
theorem d_B_release_32 : decode b_B_release 32 = .ok (.iconst 0, 1) := by decide +kernel
theorem d_B_release_33 : decode b_B_release 33 = .ok (.iastore, 1) := by decide +kernel
theorem d_B_release_34 : decode b_B_release 34 = .ok (.aload_n 0, 1) := by decide +kernel
theorem d_B_release_35 : decode b_B_release 35 = .ok (.getfield 55, 3) := by decide +kernel
theorem d_B_release_38 : decode b_B_release 38 = .ok (.iload_n 1, 1) := by decide +kernel
theorem d_B_release_39 : decode b_B_release 39 = .ok (.aload_n 0, 1) := by decide +kernel
theorem d_B_release_40 : decode b_B_release 40 = .ok (.getfield 31, 3) := by decide +kernel
theorem d_B_release_43 : decode b_B_release 43 = .ok (.iload_n 1, 1) := by decide +kernel
theorem d_B_release_44 : decode b_B_release 44 = .ok (.iaload, 1) := by decide +kernel
theorem d_B_release_45 : decode b_B_release 45 = .ok (.ifCond .le 17, 3) := by decide +kernel
theorem d_B_release_48 : decode b_B_release 48 = .ok (.aload_n 0, 1) := by decide +kernel
theorem d_B_release_49 : decode b_B_release 49 = .ok (.getfield 104, 3) := by decide +kernel
theorem d_B_release_52 : decode b_B_release 52 = .ok (.aload_n 0, 1) := by decide +kernel
theorem d_B_release_53 : decode b_B_release 53 = .ok (.getfield 31, 3) := by decide +kernel
theorem d_B_release_56 : decode b_B_release 56 = .ok (.iload_n 1, 1) := by decide +kernel
theorem d_B_release_57 : decode b_B_release 57 = .ok (.iaload, 1) := by decide +kernel
theorem d_B_release_58 : decode b_B_release 58 = .ok (.iadd, 1) := by decide +kernel
theorem d_B_release_59 : decode b_B_release 59 = .ok (.goto 4, 3) := by decide +kernel
theorem d_B_release_62 : decode b_B_release 62 = .ok (.iconst (-1), 1) := by decide +kernel
theorem d_B_release_63 : decode b_B_release 63 = .ok (.iastore, 1) := by decide +kernel
theorem d_B_release_64 : decode b_B_release 64 = .ok (.aload_n 0, 1) := by decide +kernel
theorem d_B_release_65 : decode b_B_release 65 = .ok (.iload_n 1, 1) := by decide +kernel
theorem d_B_release_66 : decode b_B_release 66 = .ok (.iconst 1, 1) := by decide +kernel
theorem d_B_release_67 : decode b_B_release 67 = .ok (.invokevirtual 110, 3) := by decide +kernel
theorem d_B_release_70 : decode b_B_release 70 = .ok (.return_, 1) := by decide +kernel
theorem d_B_become_0 : decode b_B_become 0 = .ok (.aload_n 0, 1) := by decide +kernel
theorem d_B_become_1 : decode b_B_become 1 = .ok (.getfield 43, 3) := by decide +kernel
theorem d_B_become_4 : decode b_B_become 4 = .ok (.iload_n 1, 1) := by decide +kernel
theorem d_B_become_5 : decode b_B_become 5 = .ok (.iload_n 2, 1) := by decide +kernel
theorem d_B_become_6 : decode b_B_become 6 = .ok (.iastore, 1) := by decide +kernel
theorem d_B_become_7 : decode b_B_become 7 = .ok (.aload_n 0, 1) := by decide +kernel
theorem d_B_become_8 : decode b_B_become 8 = .ok (.dup, 1) := by decide +kernel
theorem d_B_become_9 : decode b_B_become 9 = .ok (.getfield 107, 3) := by decide +kernel
theorem d_B_become_12 : decode b_B_become 12 = .ok (.iconst 1, 1) := by decide +kernel
theorem d_B_become_13 : decode b_B_become 13 = .ok (.iadd, 1) := by decide +kernel
theorem d_B_become_14 : decode b_B_become 14 = .ok (.putfield 107, 3) := by decide +kernel
theorem d_B_become_17 : decode b_B_become 17 = .ok (.aload_n 0, 1) := by decide +kernel
theorem d_B_become_18 : decode b_B_become 18 = .ok (.getfield 73, 3) := by decide +kernel
theorem d_B_become_21 : decode b_B_become 21 = .ok (.iload_n 1, 1) := by decide +kernel
theorem d_B_become_22 : decode b_B_become 22 = .ok (.aload_n 0, 1) := by decide +kernel
theorem d_B_become_23 : decode b_B_become 23 = .ok (.getfield 107, 3) := by decide +kernel
theorem d_B_become_26 : decode b_B_become 26 = .ok (.iastore, 1) := by decide +kernel
theorem d_B_become_27 : decode b_B_become 27 = .ok (.return_, 1) := by decide +kernel
theorem d_B_run_0 : decode b_B_run 0 = .ok (.iload_n 1, 1) := by decide +kernel
theorem d_B_run_1 : decode b_B_run 1 = .ok (.iconst 1, 1) := by decide +kernel
theorem d_B_run_2 : decode b_B_run 2 = .ok (.bipush 60, 2) := by decide +kernel
theorem d_B_run_4 : decode b_B_run 4 = .ok (.invokestatic 85, 3) := by decide +kernel
theorem d_B_run_7 : decode b_B_run 7 = .ok (.ifCond .ne 5, 3) := by decide +kernel
theorem d_B_run_10 : decode b_B_run 10 = .ok (.iconst (-1), 1) := by decide +kernel
theorem d_B_run_11 : decode b_B_run 11 = .ok (.ireturn, 1) := by decide +kernel
theorem d_B_run_12 : decode b_B_run 12 = .ok (.iconst 0, 1) := by decide +kernel
theorem d_B_run_13 : decode b_B_run 13 = .ok (.istore_n 2, 1) := by decide +kernel
theorem d_B_run_14 : decode b_B_run 14 = .ok (.iload_n 2, 1) := by decide +kernel
theorem d_B_run_15 : decode b_B_run 15 = .ok (.iload_n 1, 1) := by decide +kernel
theorem d_B_run_16 : decode b_B_run 16 = .ok (.if_icmp .ge 107, 3) := by decide +kernel
theorem d_B_run_19 : decode b_B_run 19 = .ok (.aload_n 0, 1) := by decide +kernel
theorem d_B_run_20 : decode b_B_run 20 = .ok (.invokevirtual 142, 3) := by decide +kernel
theorem d_B_run_23 : decode b_B_run 23 = .ok (.aload_n 0, 1) := by decide +kernel
theorem d_B_run_24 : decode b_B_run 24 = .ok (.invokevirtual 145, 3) := by decide +kernel
theorem d_B_run_27 : decode b_B_run 27 = .ok (.aload_n 0, 1) := by decide +kernel
theorem d_B_run_28 : decode b_B_run 28 = .ok (.iconst 0, 1) := by decide +kernel
theorem d_B_run_29 : decode b_B_run 29 = .ok (.invokevirtual 148, 3) := by decide +kernel
theorem d_B_run_32 : decode b_B_run 32 = .ok (.istore_n 3, 1) := by decide +kernel
theorem d_B_run_33 : decode b_B_run 33 = .ok (.iload_n 3, 1) := by decide +kernel
theorem d_B_run_34 : decode b_B_run 34 = .ok (.ifCond .lt 73, 3) := by decide +kernel
theorem d_B_run_37 : decode b_B_run 37 = .ok (.aload_n 0, 1) := by decide +kernel
theorem d_B_run_38 : decode b_B_run 38 = .ok (.getfield 16, 3) := by decide +kernel
theorem d_B_run_41 : decode b_B_run 41 = .ok (.iload_n 3, 1) := by decide +kernel
theorem d_B_run_42 : decode b_B_run 42 = .ok (.iaload, 1) := by decide +kernel
theorem d_B_run_43 : decode b_B_run 43 = .ok (.iconst 1, 1) := by decide +kernel
theorem d_B_run_44 : decode b_B_run 44 = .ok (.if_icmp .ne 63, 3) := by decide +kernel
theorem d_B_run_47 : decode b_B_run 47 = .ok (.iconst 0, 1) := by decide +kernel
theorem d_B_run_48 : decode b_B_run 48 = .ok (.istore 4, 2) := by decide +kernel
theorem d_B_run_50 : decode b_B_run 50 = .ok (.aload_n 0, 1) := by decide +kernel
theorem d_B_run_51 : decode b_B_run 51 = .ok (.iconst 0, 1) := by decide +kernel
theorem d_B_run_52 : decode b_B_run 52 = .ok (.iload_n 3, 1) := by decide +kernel
theorem d_B_run_53 : decode b_B_run 53 = .ok (.invokevirtual 120, 3) := by decide +kernel
theorem d_B_run_56 : decode b_B_run 56 = .ok (.istore 5, 2) := by decide +kernel
theorem d_B_run_58 : decode b_B_run 58 = .ok (.iload 4, 2) := by decide +kernel
theorem d_B_run_60 : decode b_B_run 60 = .ok (.ifCond .ne 32, 3) := by decide +kernel
theorem d_B_run_63 : decode b_B_run 63 = .ok (.iload 5, 2) := by decide +kernel
theorem d_B_run_65 : decode b_B_run 65 = .ok (.ifCond .lt 27, 3) := by decide +kernel
theorem d_B_run_68 : decode b_B_run 68 = .ok (.aload_n 0, 1) := by decide +kernel
theorem d_B_run_69 : decode b_B_run 69 = .ok (.iload 5, 2) := by decide +kernel
theorem d_B_run_71 : decode b_B_run 71 = .ok (.invokevirtual 152, 3) := by decide +kernel
theorem d_B_run_74 : decode b_B_run 74 = .ok (.istore 4, 2) := by decide +kernel
theorem d_B_run_76 : decode b_B_run 76 = .ok (.iload 4, 2) := by decide +kernel
theorem d_B_run_78 : decode b_B_run 78 = .ok (.ifCond .ne (-20), 3) := by decide +kernel
theorem d_B_run_81 : decode b_B_run 81 = .ok (.aload_n 0, 1) := by decide +kernel
theorem d_B_run_82 : decode b_B_run 82 = .ok (.iconst 0, 1) := by decide +kernel
theorem d_B_run_83 : decode b_B_run 83 = .ok (.iload_n 3, 1) := by decide +kernel
theorem d_B_run_84 : decode b_B_run 84 = .ok (.invokevirtual 120, 3) := by decide +kernel
theorem d_B_run_87 : decode b_B_run 87 = .ok (.istore 5, 2) := by decide +kernel
theorem d_B_run_89 : decode b_B_run 89 = .ok (.goto (-31), 3) := by decide +kernel
theorem d_B_run_92 : decode b_B_run 92 = .ok (.iload 4, 2) := by decide +kernel
theorem d_B_run_94 : decode b_B_run 94 = .ok (.ifCond .ne 13, 3) := by decide +kernel
theorem d_B_run_97 : decode b_B_run 97 = .ok (.aload_n 0, 1) := by decide +kernel
theorem d_B_run_98 : decode b_B_run 98 = .ok (.dup, 1) := by decide +kernel
theorem d_B_run_99 : decode b_B_run 99 = .ok (.getfield 156, 3) := by decide +kernel
theorem d_B_run_102 : decode b_B_run 102 = .ok (.iconst 1, 1) := by decide +kernel
theorem d_B_run_103 : decode b_B_run 103 = .ok (.iadd, 1) := by decide +kernel
theorem d_B_run_104 : decode b_B_run 104 = .ok (.putfield 156, 3) := by decide +kernel
theorem d_B_run_107 : decode b_B_run 107 = .ok (.aload_n 0, 1) := by decide +kernel
theorem d_B_run_108 : decode b_B_run 108 = .ok (.dup, 1) := by decide +kernel
theorem d_B_run_109 : decode b_B_run 109 = .ok (.getfield 104, 3) := by decide +kernel
theorem d_B_run_112 : decode b_B_run 112 = .ok (.iconst 1, 1) := by decide +kernel
theorem d_B_run_113 : decode b_B_run 113 = .ok (.iadd, 1) := by decide +kernel
theorem d_B_run_114 : decode b_B_run 114 = .ok (.putfield 104, 3) := by decide +kernel
theorem d_B_run_117 : decode b_B_run 117 = .ok (.iinc 2 1, 3) := by decide +kernel
theorem d_B_run_120 : decode b_B_run 120 = .ok (.goto (-106), 3) := by decide +kernel
theorem d_B_run_123 : decode b_B_run 123 = .ok (.aload_n 0, 1) := by decide +kernel
theorem d_B_run_124 : decode b_B_run 124 = .ok (.getfield 104, 3) := by decide +kernel
theorem d_B_run_127 : decode b_B_run 127 = .ok (.ireturn, 1) := by decide +kernel
theorem d_B_releases_0 : decode b_B_releases 0 = .ok (.iconst 0, 1) := by decide +kernel
theorem d_B_releases_1 : decode b_B_releases 1 = .ok (.istore_n 1, 1) := by decide +kernel
theorem d_B_releases_2 : decode b_B_releases 2 = .ok (.iload_n 1, 1) := by decide +kernel
theorem d_B_releases_3 : decode b_B_releases 3 = .ok (.aload_n 0, 1) := by decide +kernel
theorem d_B_releases_4 : decode b_B_releases 4 = .ok (.getfield 97, 3) := by decide +kernel
theorem d_B_releases_7 : decode b_B_releases 7 = .ok (.if_icmp .ge 91, 3) := by decide +kernel
theorem d_B_releases_10 : decode b_B_releases 10 = .ok (.aload_n 0, 1) := by decide +kernel
theorem d_B_releases_11 : decode b_B_releases 11 = .ok (.getfield 16, 3) := by decide +kernel
theorem d_B_releases_14 : decode b_B_releases 14 = .ok (.aload_n 0, 1) := by decide +kernel
theorem d_B_releases_15 : decode b_B_releases 15 = .ok (.getfield 22, 3) := by decide +kernel
theorem d_B_releases_18 : decode b_B_releases 18 = .ok (.iload_n 1, 1) := by decide +kernel
theorem d_B_releases_19 : decode b_B_releases 19 = .ok (.iaload, 1) := by decide +kernel
theorem d_B_releases_20 : decode b_B_releases 20 = .ok (.iaload, 1) := by decide +kernel
theorem d_B_releases_21 : decode b_B_releases 21 = .ok (.iconst 1, 1) := by decide +kernel
theorem d_B_releases_22 : decode b_B_releases 22 = .ok (.if_icmp .ne 70, 3) := by decide +kernel
theorem d_B_releases_25 : decode b_B_releases 25 = .ok (.aload_n 0, 1) := by decide +kernel
theorem d_B_releases_26 : decode b_B_releases 26 = .ok (.getfield 28, 3) := by decide +kernel
theorem d_B_releases_29 : decode b_B_releases 29 = .ok (.iload_n 1, 1) := by decide +kernel
theorem d_B_releases_30 : decode b_B_releases 30 = .ok (.iaload, 1) := by decide +kernel
theorem d_B_releases_31 : decode b_B_releases 31 = .ok (.ifCond .eq 61, 3) := by decide +kernel
theorem d_B_releases_34 : decode b_B_releases 34 = .ok (.aload_n 0, 1) := by decide +kernel
theorem d_B_releases_35 : decode b_B_releases 35 = .ok (.getfield 70, 3) := by decide +kernel
theorem d_B_releases_38 : decode b_B_releases 38 = .ok (.iload_n 1, 1) := by decide +kernel
theorem d_B_releases_39 : decode b_B_releases 39 = .ok (.iaload, 1) := by decide +kernel
theorem d_B_releases_40 : decode b_B_releases 40 = .ok (.aload_n 0, 1) := by decide +kernel
theorem d_B_releases_41 : decode b_B_releases 41 = .ok (.getfield 104, 3) := by decide +kernel
theorem d_B_releases_44 : decode b_B_releases 44 = .ok (.if_icmp .eq 6, 3) := by decide +kernel
theorem d_B_releases_47 : decode b_B_releases 47 = .ok (.goto 45, 3) := by decide +kernel
theorem d_B_releases_50 : decode b_B_releases 50 = .ok (.aload_n 0, 1) := by decide +kernel
theorem d_B_releases_51 : decode b_B_releases 51 = .ok (.getfield 43, 3) := by decide +kernel
theorem d_B_releases_54 : decode b_B_releases 54 = .ok (.iload_n 1, 1) := by decide +kernel
theorem d_B_releases_55 : decode b_B_releases 55 = .ok (.iaload, 1) := by decide +kernel
theorem d_B_releases_56 : decode b_B_releases 56 = .ok (.ifCond .ne 11, 3) := by decide +kernel
theorem d_B_releases_59 : decode b_B_releases 59 = .ok (.aload_n 0, 1) := by decide +kernel
theorem d_B_releases_60 : decode b_B_releases 60 = .ok (.iload_n 1, 1) := by decide +kernel
theorem d_B_releases_61 : decode b_B_releases 61 = .ok (.invokevirtual 114, 3) := by decide +kernel
theorem d_B_releases_64 : decode b_B_releases 64 = .ok (.goto 13, 3) := by decide +kernel
theorem d_B_releases_67 : decode b_B_releases 67 = .ok (.aload_n 0, 1) := by decide +kernel
theorem d_B_releases_68 : decode b_B_releases 68 = .ok (.getfield 61, 3) := by decide +kernel
theorem d_B_releases_71 : decode b_B_releases 71 = .ok (.iload_n 1, 1) := by decide +kernel
theorem d_B_releases_72 : decode b_B_releases 72 = .ok (.dup2, 1) := by decide +kernel
theorem d_B_releases_73 : decode b_B_releases 73 = .ok (.iaload, 1) := by decide +kernel
theorem d_B_releases_74 : decode b_B_releases 74 = .ok (.iconst 1, 1) := by decide +kernel
theorem d_B_releases_75 : decode b_B_releases 75 = .ok (.iadd, 1) := by decide +kernel
theorem d_B_releases_76 : decode b_B_releases 76 = .ok (.iastore, 1) := by decide +kernel
theorem d_B_releases_77 : decode b_B_releases 77 = .ok (.aload_n 0, 1) := by decide +kernel
theorem d_B_releases_78 : decode b_B_releases 78 = .ok (.getfield 70, 3) := by decide +kernel
theorem d_B_releases_81 : decode b_B_releases 81 = .ok (.iload_n 1, 1) := by decide +kernel
theorem d_B_releases_82 : decode b_B_releases 82 = .ok (.dup2, 1) := by decide +kernel
theorem d_B_releases_83 : decode b_B_releases 83 = .ok (.iaload, 1) := by decide +kernel
theorem d_B_releases_84 : decode b_B_releases 84 = .ok (.aload_n 0, 1) := by decide +kernel
theorem d_B_releases_85 : decode b_B_releases 85 = .ok (.getfield 28, 3) := by decide +kernel
theorem d_B_releases_88 : decode b_B_releases 88 = .ok (.iload_n 1, 1) := by decide +kernel
theorem d_B_releases_89 : decode b_B_releases 89 = .ok (.iaload, 1) := by decide +kernel
theorem d_B_releases_90 : decode b_B_releases 90 = .ok (.iadd, 1) := by decide +kernel
theorem d_B_releases_91 : decode b_B_releases 91 = .ok (.iastore, 1) := by decide +kernel
theorem d_B_releases_92 : decode b_B_releases 92 = .ok (.iinc 1 1, 3) := by decide +kernel
theorem d_B_releases_95 : decode b_B_releases 95 = .ok (.goto (-93), 3) := by decide +kernel
theorem d_B_releases_98 : decode b_B_releases 98 = .ok (.return_, 1) := by decide +kernel
theorem d_B_monitor_0 : decode b_B_monitor 0 = .ok (.iconst 0, 1) := by decide +kernel
theorem d_B_monitor_1 : decode b_B_monitor 1 = .ok (.istore_n 1, 1) := by decide +kernel
theorem d_B_monitor_2 : decode b_B_monitor 2 = .ok (.iload_n 1, 1) := by decide +kernel
theorem d_B_monitor_3 : decode b_B_monitor 3 = .ok (.aload_n 0, 1) := by decide +kernel
theorem d_B_monitor_4 : decode b_B_monitor 4 = .ok (.getfield 97, 3) := by decide +kernel
theorem d_B_monitor_7 : decode b_B_monitor 7 = .ok (.if_icmp .ge 146, 3) := by decide +kernel
theorem d_B_monitor_10 : decode b_B_monitor 10 = .ok (.aload_n 0, 1) := by decide +kernel
theorem d_B_monitor_11 : decode b_B_monitor 11 = .ok (.getfield 22, 3) := by decide +kernel
theorem d_B_monitor_14 : decode b_B_monitor 14 = .ok (.iload_n 1, 1) := by decide +kernel
theorem d_B_monitor_15 : decode b_B_monitor 15 = .ok (.iaload, 1) := by decide +kernel
theorem d_B_monitor_16 : decode b_B_monitor 16 = .ok (.istore_n 2, 1) := by decide +kernel
theorem d_B_monitor_17 : decode b_B_monitor 17 = .ok (.aload_n 0, 1) := by decide +kernel
theorem d_B_monitor_18 : decode b_B_monitor 18 = .ok (.getfield 16, 3) := by decide +kernel
theorem d_B_monitor_21 : decode b_B_monitor 21 = .ok (.iload_n 2, 1) := by decide +kernel
theorem d_B_monitor_22 : decode b_B_monitor 22 = .ok (.iaload, 1) := by decide +kernel
theorem d_B_monitor_23 : decode b_B_monitor 23 = .ok (.iconst 1, 1) := by decide +kernel
theorem d_B_monitor_24 : decode b_B_monitor 24 = .ok (.if_icmp .ne 123, 3) := by decide +kernel
theorem d_B_monitor_27 : decode b_B_monitor 27 = .ok (.aload_n 0, 1) := by decide +kernel
theorem d_B_monitor_28 : decode b_B_monitor 28 = .ok (.getfield 43, 3) := by decide +kernel
theorem d_B_monitor_31 : decode b_B_monitor 31 = .ok (.iload_n 1, 1) := by decide +kernel
theorem d_B_monitor_32 : decode b_B_monitor 32 = .ok (.iaload, 1) := by decide +kernel
theorem d_B_monitor_33 : decode b_B_monitor 33 = .ok (.ifCond .eq 114, 3) := by decide +kernel
theorem d_B_monitor_36 : decode b_B_monitor 36 = .ok (.aload_n 0, 1) := by decide +kernel
theorem d_B_monitor_37 : decode b_B_monitor 37 = .ok (.getfield 55, 3) := by decide +kernel
theorem d_B_monitor_40 : decode b_B_monitor 40 = .ok (.iload_n 1, 1) := by decide +kernel
theorem d_B_monitor_41 : decode b_B_monitor 41 = .ok (.iaload, 1) := by decide +kernel
theorem d_B_monitor_42 : decode b_B_monitor 42 = .ok (.aload_n 0, 1) := by decide +kernel
theorem d_B_monitor_43 : decode b_B_monitor 43 = .ok (.getfield 104, 3) := by decide +kernel
theorem d_B_monitor_46 : decode b_B_monitor 46 = .ok (.if_icmp .eq 6, 3) := by decide +kernel
theorem d_B_monitor_49 : decode b_B_monitor 49 = .ok (.goto 98, 3) := by decide +kernel
theorem d_B_monitor_52 : decode b_B_monitor 52 = .ok (.aload_n 0, 1) := by decide +kernel
theorem d_B_monitor_53 : decode b_B_monitor 53 = .ok (.getfield 58, 3) := by decide +kernel
theorem d_B_monitor_56 : decode b_B_monitor 56 = .ok (.iload_n 1, 1) := by decide +kernel
theorem d_B_monitor_57 : decode b_B_monitor 57 = .ok (.dup2, 1) := by decide +kernel
theorem d_B_monitor_58 : decode b_B_monitor 58 = .ok (.iaload, 1) := by decide +kernel
theorem d_B_monitor_59 : decode b_B_monitor 59 = .ok (.iconst 1, 1) := by decide +kernel
theorem d_B_monitor_60 : decode b_B_monitor 60 = .ok (.iadd, 1) := by decide +kernel
theorem d_B_monitor_61 : decode b_B_monitor 61 = .ok (.iastore, 1) := by decide +kernel
theorem d_B_monitor_62 : decode b_B_monitor 62 = .ok (.aload_n 0, 1) := by decide +kernel
theorem d_B_monitor_63 : decode b_B_monitor 63 = .ok (.getfield 55, 3) := by decide +kernel
theorem d_B_monitor_66 : decode b_B_monitor 66 = .ok (.iload_n 1, 1) := by decide +kernel
theorem d_B_monitor_67 : decode b_B_monitor 67 = .ok (.iconst (-1), 1) := by decide +kernel
theorem d_B_monitor_68 : decode b_B_monitor 68 = .ok (.iastore, 1) := by decide +kernel
theorem d_B_monitor_69 : decode b_B_monitor 69 = .ok (.aload_n 0, 1) := by decide +kernel
theorem d_B_monitor_70 : decode b_B_monitor 70 = .ok (.getfield 19, 3) := by decide +kernel
theorem d_B_monitor_73 : decode b_B_monitor 73 = .ok (.iload_n 2, 1) := by decide +kernel
theorem d_B_monitor_74 : decode b_B_monitor 74 = .ok (.iaload, 1) := by decide +kernel
theorem d_B_monitor_75 : decode b_B_monitor 75 = .ok (.iconst 1, 1) := by decide +kernel
theorem d_B_monitor_76 : decode b_B_monitor 76 = .ok (.if_icmp .ne 23, 3) := by decide +kernel
theorem d_B_monitor_79 : decode b_B_monitor 79 = .ok (.aload_n 0, 1) := by decide +kernel
theorem d_B_monitor_80 : decode b_B_monitor 80 = .ok (.getfield 46, 3) := by decide +kernel
end
section
theorem d_B_monitor_83 : decode b_B_monitor 83 = .ok (.iload_n 1, 1) := by decide +kernel
theorem d_B_monitor_84 : decode b_B_monitor 84 = .ok (.iconst 0, 1) := by decide +kernel
theorem d_B_monitor_85 : decode b_B_monitor 85 = .ok (.iastore, 1) := by decide +kernel
theorem d_B_monitor_86 : decode b_B_monitor 86 = .ok (.aload_n 0, 1) := by decide +kernel
theorem d_B_monitor_87 : decode b_B_monitor 87 = .ok (.getfield 49, 3) := by decide +kernel
theorem d_B_monitor_90 : decode b_B_monitor 90 = .ok (.iload_n 1, 1) := by decide +kernel
theorem d_B_monitor_91 : decode b_B_monitor 91 = .ok (.iconst 0, 1) := by decide +kernel
theorem d_B_monitor_92 : decode b_B_monitor 92 = .ok (.iastore, 1) := by decide +kernel
theorem d_B_monitor_93 : decode b_B_monitor 93 = .ok (.aload_n 0, 1) := by decide +kernel
theorem d_B_monitor_94 : decode b_B_monitor 94 = .ok (.iload_n 1, 1) := by decide +kernel
theorem d_B_monitor_95 : decode b_B_monitor 95 = .ok (.iconst 1, 1) := by decide +kernel
theorem d_B_monitor_96 : decode b_B_monitor 96 = .ok (.invokevirtual 110, 3) := by decide +kernel
theorem d_B_monitor_99 : decode b_B_monitor 99 = .ok (.aload_n 0, 1) := by decide +kernel
theorem d_B_monitor_100 : decode b_B_monitor 100 = .ok (.getfield 19, 3) := by decide +kernel
theorem d_B_monitor_103 : decode b_B_monitor 103 = .ok (.iload_n 2, 1) := by decide +kernel
theorem d_B_monitor_104 : decode b_B_monitor 104 = .ok (.iaload, 1) := by decide +kernel
theorem d_B_monitor_105 : decode b_B_monitor 105 = .ok (.iconst 2, 1) := by decide +kernel
theorem d_B_monitor_106 : decode b_B_monitor 106 = .ok (.if_icmp .ne 41, 3) := by decide +kernel
theorem d_B_monitor_109 : decode b_B_monitor 109 = .ok (.aload_n 0, 1) := by decide +kernel
theorem d_B_monitor_110 : decode b_B_monitor 110 = .ok (.getfield 16, 3) := by decide +kernel
theorem d_B_monitor_113 : decode b_B_monitor 113 = .ok (.iload_n 2, 1) := by decide +kernel
theorem d_B_monitor_114 : decode b_B_monitor 114 = .ok (.iconst 2, 1) := by decide +kernel
theorem d_B_monitor_115 : decode b_B_monitor 115 = .ok (.iastore, 1) := by decide +kernel
theorem d_B_monitor_116 : decode b_B_monitor 116 = .ok (.iconst 0, 1) := by decide +kernel
theorem d_B_monitor_117 : decode b_B_monitor 117 = .ok (.istore_n 3, 1) := by decide +kernel
theorem d_B_monitor_118 : decode b_B_monitor 118 = .ok (.iload_n 3, 1) := by decide +kernel
theorem d_B_monitor_119 : decode b_B_monitor 119 = .ok (.aload_n 0, 1) := by decide +kernel
theorem d_B_monitor_120 : decode b_B_monitor 120 = .ok (.getfield 97, 3) := by decide +kernel
theorem d_B_monitor_123 : decode b_B_monitor 123 = .ok (.if_icmp .ge 24, 3) := by decide +kernel
theorem d_B_monitor_126 : decode b_B_monitor 126 = .ok (.aload_n 0, 1) := by decide +kernel
theorem d_B_monitor_127 : decode b_B_monitor 127 = .ok (.getfield 22, 3) := by decide +kernel
theorem d_B_monitor_130 : decode b_B_monitor 130 = .ok (.iload_n 3, 1) := by decide +kernel
theorem d_B_monitor_131 : decode b_B_monitor 131 = .ok (.iaload, 1) := by decide +kernel
theorem d_B_monitor_132 : decode b_B_monitor 132 = .ok (.iload_n 2, 1) := by decide +kernel
theorem d_B_monitor_133 : decode b_B_monitor 133 = .ok (.if_icmp .ne 8, 3) := by decide +kernel
theorem d_B_monitor_136 : decode b_B_monitor 136 = .ok (.aload_n 0, 1) := by decide +kernel
theorem d_B_monitor_137 : decode b_B_monitor 137 = .ok (.iload_n 3, 1) := by decide +kernel
theorem d_B_monitor_138 : decode b_B_monitor 138 = .ok (.invokevirtual 100, 3) := by decide +kernel
theorem d_B_monitor_141 : decode b_B_monitor 141 = .ok (.iinc 3 1, 3) := by decide +kernel
theorem d_B_monitor_144 : decode b_B_monitor 144 = .ok (.goto (-26), 3) := by decide +kernel
theorem d_B_monitor_147 : decode b_B_monitor 147 = .ok (.iinc 1 1, 3) := by decide +kernel
theorem d_B_monitor_150 : decode b_B_monitor 150 = .ok (.goto (-148), 3) := by decide +kernel
theorem d_B_monitor_153 : decode b_B_monitor 153 = .ok (.return_, 1) := by decide +kernel
theorem d_B_holder_0 : decode b_B_holder 0 = .ok (.iconst 0, 1) := by decide +kernel
theorem d_B_holder_1 : decode b_B_holder 1 = .ok (.istore_n 2, 1) := by decide +kernel
theorem d_B_holder_2 : decode b_B_holder 2 = .ok (.iconst 0, 1) := by decide +kernel
theorem d_B_holder_3 : decode b_B_holder 3 = .ok (.istore_n 3, 1) := by decide +kernel
theorem d_B_holder_4 : decode b_B_holder 4 = .ok (.iload_n 3, 1) := by decide +kernel
theorem d_B_holder_5 : decode b_B_holder 5 = .ok (.aload_n 0, 1) := by decide +kernel
theorem d_B_holder_6 : decode b_B_holder 6 = .ok (.getfield 93, 3) := by decide +kernel
theorem d_B_holder_9 : decode b_B_holder 9 = .ok (.if_icmp .ge 18, 3) := by decide +kernel
theorem d_B_holder_12 : decode b_B_holder 12 = .ok (.iload_n 2, 1) := by decide +kernel
theorem d_B_holder_13 : decode b_B_holder 13 = .ok (.aload_n 0, 1) := by decide +kernel
theorem d_B_holder_14 : decode b_B_holder 14 = .ok (.getfield 13, 3) := by decide +kernel
theorem d_B_holder_17 : decode b_B_holder 17 = .ok (.iload_n 3, 1) := by decide +kernel
theorem d_B_holder_18 : decode b_B_holder 18 = .ok (.iaload, 1) := by decide +kernel
theorem d_B_holder_19 : decode b_B_holder 19 = .ok (.iadd, 1) := by decide +kernel
theorem d_B_holder_20 : decode b_B_holder 20 = .ok (.istore_n 2, 1) := by decide +kernel
theorem d_B_holder_21 : decode b_B_holder 21 = .ok (.iinc 3 1, 3) := by decide +kernel
theorem d_B_holder_24 : decode b_B_holder 24 = .ok (.goto (-20), 3) := by decide +kernel
theorem d_B_holder_27 : decode b_B_holder 27 = .ok (.iload_n 2, 1) := by decide +kernel
theorem d_B_holder_28 : decode b_B_holder 28 = .ok (.ifCond .ne 5, 3) := by decide +kernel
theorem d_B_holder_31 : decode b_B_holder 31 = .ok (.iconst (-1), 1) := by decide +kernel
theorem d_B_holder_32 : decode b_B_holder 32 = .ok (.ireturn, 1) := by decide +kernel
theorem d_B_holder_33 : decode b_B_holder 33 = .ok (.aload_n 0, 1) := by decide +kernel
theorem d_B_holder_34 : decode b_B_holder 34 = .ok (.getfield 104, 3) := by decide +kernel
theorem d_B_holder_37 : decode b_B_holder 37 = .ok (.iload_n 2, 1) := by decide +kernel
theorem d_B_holder_38 : decode b_B_holder 38 = .ok (.irem, 1) := by decide +kernel
theorem d_B_holder_39 : decode b_B_holder 39 = .ok (.istore_n 3, 1) := by decide +kernel
theorem d_B_holder_40 : decode b_B_holder 40 = .ok (.iconst 0, 1) := by decide +kernel
theorem d_B_holder_41 : decode b_B_holder 41 = .ok (.istore 4, 2) := by decide +kernel
theorem d_B_holder_43 : decode b_B_holder 43 = .ok (.iload_n 3, 1) := by decide +kernel
theorem d_B_holder_44 : decode b_B_holder 44 = .ok (.aload_n 0, 1) := by decide +kernel
theorem d_B_holder_45 : decode b_B_holder 45 = .ok (.getfield 13, 3) := by decide +kernel
theorem d_B_holder_48 : decode b_B_holder 48 = .ok (.iload 4, 2) := by decide +kernel
theorem d_B_holder_50 : decode b_B_holder 50 = .ok (.iaload, 1) := by decide +kernel
theorem d_B_holder_51 : decode b_B_holder 51 = .ok (.if_icmp .lt 19, 3) := by decide +kernel
theorem d_B_holder_54 : decode b_B_holder 54 = .ok (.iload_n 3, 1) := by decide +kernel
theorem d_B_holder_55 : decode b_B_holder 55 = .ok (.aload_n 0, 1) := by decide +kernel
theorem d_B_holder_56 : decode b_B_holder 56 = .ok (.getfield 13, 3) := by decide +kernel
theorem d_B_holder_59 : decode b_B_holder 59 = .ok (.iload 4, 2) := by decide +kernel
theorem d_B_holder_61 : decode b_B_holder 61 = .ok (.iaload, 1) := by decide +kernel
theorem d_B_holder_62 : decode b_B_holder 62 = .ok (.isub, 1) := by decide +kernel
theorem d_B_holder_63 : decode b_B_holder 63 = .ok (.istore_n 3, 1) := by decide +kernel
theorem d_B_holder_64 : decode b_B_holder 64 = .ok (.iinc 4 1, 3) := by decide +kernel
theorem d_B_holder_67 : decode b_B_holder 67 = .ok (.goto (-24), 3) := by decide +kernel
theorem d_B_holder_70 : decode b_B_holder 70 = .ok (.iload_n 1, 1) := by decide +kernel
theorem d_B_holder_71 : decode b_B_holder 71 = .ok (.ifCond .eq 15, 3) := by decide +kernel
theorem d_B_holder_74 : decode b_B_holder 74 = .ok (.aload_n 0, 1) := by decide +kernel
theorem d_B_holder_75 : decode b_B_holder 75 = .ok (.getfield 13, 3) := by decide +kernel
theorem d_B_holder_78 : decode b_B_holder 78 = .ok (.iload 4, 2) := by decide +kernel
theorem d_B_holder_80 : decode b_B_holder 80 = .ok (.iaload, 1) := by decide +kernel
theorem d_B_holder_81 : decode b_B_holder 81 = .ok (.iload_n 3, 1) := by decide +kernel
theorem d_B_holder_82 : decode b_B_holder 82 = .ok (.isub, 1) := by decide +kernel
theorem d_B_holder_83 : decode b_B_holder 83 = .ok (.goto 10, 3) := by decide +kernel
theorem d_B_holder_86 : decode b_B_holder 86 = .ok (.aload_n 0, 1) := by decide +kernel
theorem d_B_holder_87 : decode b_B_holder 87 = .ok (.getfield 7, 3) := by decide +kernel
theorem d_B_holder_90 : decode b_B_holder 90 = .ok (.iload 4, 2) := by decide +kernel
theorem d_B_holder_92 : decode b_B_holder 92 = .ok (.iaload, 1) := by decide +kernel
theorem d_B_holder_93 : decode b_B_holder 93 = .ok (.ireturn, 1) := by decide +kernel
theorem d_B_first_0 : decode b_B_first 0 = .ok (.iconst (-1), 1) := by decide +kernel
theorem d_B_first_1 : decode b_B_first 1 = .ok (.istore_n 3, 1) := by decide +kernel
theorem d_B_first_2 : decode b_B_first 2 = .ok (.iconst 0, 1) := by decide +kernel
theorem d_B_first_3 : decode b_B_first 3 = .ok (.istore 4, 2) := by decide +kernel
theorem d_B_first_5 : decode b_B_first 5 = .ok (.iload 4, 2) := by decide +kernel
theorem d_B_first_7 : decode b_B_first 7 = .ok (.aload_n 0, 1) := by decide +kernel
theorem d_B_first_8 : decode b_B_first 8 = .ok (.getfield 97, 3) := by decide +kernel
theorem d_B_first_11 : decode b_B_first 11 = .ok (.if_icmp .ge 168, 3) := by decide +kernel
theorem d_B_first_14 : decode b_B_first 14 = .ok (.iload_n 1, 1) := by decide +kernel
theorem d_B_first_15 : decode b_B_first 15 = .ok (.ifCond .ne 33, 3) := by decide +kernel
theorem d_B_first_18 : decode b_B_first 18 = .ok (.aload_n 0, 1) := by decide +kernel
theorem d_B_first_19 : decode b_B_first 19 = .ok (.getfield 43, 3) := by decide +kernel
theorem d_B_first_22 : decode b_B_first 22 = .ok (.iload 4, 2) := by decide +kernel
theorem d_B_first_24 : decode b_B_first 24 = .ok (.iaload, 1) := by decide +kernel
theorem d_B_first_25 : decode b_B_first 25 = .ok (.iconst 1, 1) := by decide +kernel
theorem d_B_first_26 : decode b_B_first 26 = .ok (.if_icmp .ne 18, 3) := by decide +kernel
theorem d_B_first_29 : decode b_B_first 29 = .ok (.aload_n 0, 1) := by decide +kernel
theorem d_B_first_30 : decode b_B_first 30 = .ok (.getfield 22, 3) := by decide +kernel
theorem d_B_first_33 : decode b_B_first 33 = .ok (.iload 4, 2) := by decide +kernel
theorem d_B_first_35 : decode b_B_first 35 = .ok (.iaload, 1) := by decide +kernel
theorem d_B_first_36 : decode b_B_first 36 = .ok (.iload_n 2, 1) := by decide +kernel
theorem d_B_first_37 : decode b_B_first 37 = .ok (.if_icmp .ne 7, 3) := by decide +kernel
theorem d_B_first_40 : decode b_B_first 40 = .ok (.iconst 1, 1) := by decide +kernel
theorem d_B_first_41 : decode b_B_first 41 = .ok (.goto 67, 3) := by decide +kernel
theorem d_B_first_44 : decode b_B_first 44 = .ok (.iconst 0, 1) := by decide +kernel
theorem d_B_first_45 : decode b_B_first 45 = .ok (.goto 63, 3) := by decide +kernel
theorem d_B_first_48 : decode b_B_first 48 = .ok (.aload_n 0, 1) := by decide +kernel
theorem d_B_first_49 : decode b_B_first 49 = .ok (.getfield 43, 3) := by decide +kernel
theorem d_B_first_52 : decode b_B_first 52 = .ok (.iload 4, 2) := by decide +kernel
theorem d_B_first_54 : decode b_B_first 54 = .ok (.iaload, 1) := by decide +kernel
theorem d_B_first_55 : decode b_B_first 55 = .ok (.iconst 2, 1) := by decide +kernel
theorem d_B_first_56 : decode b_B_first 56 = .ok (.if_icmp .ne 51, 3) := by decide +kernel
theorem d_B_first_59 : decode b_B_first 59 = .ok (.aload_n 0, 1) := by decide +kernel
theorem d_B_first_60 : decode b_B_first 60 = .ok (.getfield 37, 3) := by decide +kernel
theorem d_B_first_63 : decode b_B_first 63 = .ok (.bipush 8, 2) := by decide +kernel
theorem d_B_first_65 : decode b_B_first 65 = .ok (.iload 4, 2) := by decide +kernel
theorem d_B_first_67 : decode b_B_first 67 = .ok (.imul, 1) := by decide +kernel
theorem d_B_first_68 : decode b_B_first 68 = .ok (.aload_n 0, 1) := by decide +kernel
theorem d_B_first_69 : decode b_B_first 69 = .ok (.getfield 46, 3) := by decide +kernel
theorem d_B_first_72 : decode b_B_first 72 = .ok (.iload 4, 2) := by decide +kernel
theorem d_B_first_74 : decode b_B_first 74 = .ok (.iaload, 1) := by decide +kernel
theorem d_B_first_75 : decode b_B_first 75 = .ok (.iadd, 1) := by decide +kernel
theorem d_B_first_76 : decode b_B_first 76 = .ok (.iaload, 1) := by decide +kernel
theorem d_B_first_77 : decode b_B_first 77 = .ok (.iload_n 1, 1) := by decide +kernel
theorem d_B_first_78 : decode b_B_first 78 = .ok (.if_icmp .ne 29, 3) := by decide +kernel
theorem d_B_first_81 : decode b_B_first 81 = .ok (.aload_n 0, 1) := by decide +kernel
theorem d_B_first_82 : decode b_B_first 82 = .ok (.getfield 40, 3) := by decide +kernel
theorem d_B_first_85 : decode b_B_first 85 = .ok (.bipush 8, 2) := by decide +kernel
theorem d_B_first_87 : decode b_B_first 87 = .ok (.iload 4, 2) := by decide +kernel
theorem d_B_first_89 : decode b_B_first 89 = .ok (.imul, 1) := by decide +kernel
theorem d_B_first_90 : decode b_B_first 90 = .ok (.aload_n 0, 1) := by decide +kernel
theorem d_B_first_91 : decode b_B_first 91 = .ok (.getfield 46, 3) := by decide +kernel
theorem d_B_first_94 : decode b_B_first 94 = .ok (.iload 4, 2) := by decide +kernel
theorem d_B_first_96 : decode b_B_first 96 = .ok (.iaload, 1) := by decide +kernel
theorem d_B_first_97 : decode b_B_first 97 = .ok (.iadd, 1) := by decide +kernel
theorem d_B_first_98 : decode b_B_first 98 = .ok (.iaload, 1) := by decide +kernel
theorem d_B_first_99 : decode b_B_first 99 = .ok (.iload_n 2, 1) := by decide +kernel
theorem d_B_first_100 : decode b_B_first 100 = .ok (.if_icmp .ne 7, 3) := by decide +kernel
theorem d_B_first_103 : decode b_B_first 103 = .ok (.iconst 1, 1) := by decide +kernel
theorem d_B_first_104 : decode b_B_first 104 = .ok (.goto 4, 3) := by decide +kernel
theorem d_B_first_107 : decode b_B_first 107 = .ok (.iconst 0, 1) := by decide +kernel
theorem d_B_first_108 : decode b_B_first 108 = .ok (.istore 5, 2) := by decide +kernel
theorem d_B_first_110 : decode b_B_first 110 = .ok (.iload 5, 2) := by decide +kernel
theorem d_B_first_112 : decode b_B_first 112 = .ok (.ifCond .ne 6, 3) := by decide +kernel
theorem d_B_first_115 : decode b_B_first 115 = .ok (.goto 58, 3) := by decide +kernel
theorem d_B_first_118 : decode b_B_first 118 = .ok (.iload_n 3, 1) := by decide +kernel
theorem d_B_first_119 : decode b_B_first 119 = .ok (.ifCond .lt 51, 3) := by decide +kernel
theorem d_B_first_122 : decode b_B_first 122 = .ok (.aload_n 0, 1) := by decide +kernel
theorem d_B_first_123 : decode b_B_first 123 = .ok (.getfield 25, 3) := by decide +kernel
theorem d_B_first_126 : decode b_B_first 126 = .ok (.iload 4, 2) := by decide +kernel
theorem d_B_first_128 : decode b_B_first 128 = .ok (.iaload, 1) := by decide +kernel
theorem d_B_first_129 : decode b_B_first 129 = .ok (.aload_n 0, 1) := by decide +kernel
theorem d_B_first_130 : decode b_B_first 130 = .ok (.getfield 25, 3) := by decide +kernel
theorem d_B_first_133 : decode b_B_first 133 = .ok (.iload_n 3, 1) := by decide +kernel
theorem d_B_first_134 : decode b_B_first 134 = .ok (.iaload, 1) := by decide +kernel
theorem d_B_first_135 : decode b_B_first 135 = .ok (.if_icmp .gt 35, 3) := by decide +kernel
theorem d_B_first_138 : decode b_B_first 138 = .ok (.aload_n 0, 1) := by decide +kernel
theorem d_B_first_139 : decode b_B_first 139 = .ok (.getfield 25, 3) := by decide +kernel
theorem d_B_first_142 : decode b_B_first 142 = .ok (.iload 4, 2) := by decide +kernel
theorem d_B_first_144 : decode b_B_first 144 = .ok (.iaload, 1) := by decide +kernel
theorem d_B_first_145 : decode b_B_first 145 = .ok (.aload_n 0, 1) := by decide +kernel
theorem d_B_first_146 : decode b_B_first 146 = .ok (.getfield 25, 3) := by decide +kernel
theorem d_B_first_149 : decode b_B_first 149 = .ok (.iload_n 3, 1) := by decide +kernel
theorem d_B_first_150 : decode b_B_first 150 = .ok (.iaload, 1) := by decide +kernel
theorem d_B_first_151 : decode b_B_first 151 = .ok (.if_icmp .ne 22, 3) := by decide +kernel
theorem d_B_first_154 : decode b_B_first 154 = .ok (.aload_n 0, 1) := by decide +kernel
theorem d_B_first_155 : decode b_B_first 155 = .ok (.getfield 73, 3) := by decide +kernel
theorem d_B_first_158 : decode b_B_first 158 = .ok (.iload 4, 2) := by decide +kernel
theorem d_B_first_160 : decode b_B_first 160 = .ok (.iaload, 1) := by decide +kernel
theorem d_B_first_161 : decode b_B_first 161 = .ok (.aload_n 0, 1) := by decide +kernel
theorem d_B_first_162 : decode b_B_first 162 = .ok (.getfield 73, 3) := by decide +kernel
theorem d_B_first_165 : decode b_B_first 165 = .ok (.iload_n 3, 1) := by decide +kernel
theorem d_B_first_166 : decode b_B_first 166 = .ok (.iaload, 1) := by decide +kernel
theorem d_B_first_167 : decode b_B_first 167 = .ok (.if_icmp .ge 6, 3) := by decide +kernel
theorem d_B_first_170 : decode b_B_first 170 = .ok (.iload 4, 2) := by decide +kernel
theorem d_B_first_172 : decode b_B_first 172 = .ok (.istore_n 3, 1) := by decide +kernel
theorem d_B_first_173 : decode b_B_first 173 = .ok (.iinc 4 1, 3) := by decide +kernel
theorem d_B_first_176 : decode b_B_first 176 = .ok (.goto (-171), 3) := by decide +kernel
theorem d_B_first_179 : decode b_B_first 179 = .ok (.iload_n 3, 1) := by decide +kernel
theorem d_B_first_180 : decode b_B_first 180 = .ok (.ireturn, 1) := by decide +kernel
theorem d_B_one_0 : decode b_B_one 0 = .ok (.bipush 8, 2) := by decide +kernel
theorem d_B_one_2 : decode b_B_one 2 = .ok (.iload_n 1, 1) := by decide +kernel
theorem d_B_one_3 : decode b_B_one 3 = .ok (.imul, 1) := by decide +kernel
theorem d_B_one_4 : decode b_B_one 4 = .ok (.aload_n 0, 1) := by decide +kernel
theorem d_B_one_5 : decode b_B_one 5 = .ok (.getfield 46, 3) := by decide +kernel
theorem d_B_one_8 : decode b_B_one 8 = .ok (.iload_n 1, 1) := by decide +kernel
theorem d_B_one_9 : decode b_B_one 9 = .ok (.iaload, 1) := by decide +kernel
theorem d_B_one_10 : decode b_B_one 10 = .ok (.iadd, 1) := by decide +kernel
theorem d_B_one_11 : decode b_B_one 11 = .ok (.istore_n 2, 1) := by decide +kernel
theorem d_B_one_12 : decode b_B_one 12 = .ok (.aload_n 0, 1) := by decide +kernel
theorem d_B_one_13 : decode b_B_one 13 = .ok (.getfield 40, 3) := by decide +kernel
theorem d_B_one_16 : decode b_B_one 16 = .ok (.iload_n 2, 1) := by decide +kernel
theorem d_B_one_17 : decode b_B_one 17 = .ok (.iaload, 1) := by decide +kernel
theorem d_B_one_18 : decode b_B_one 18 = .ok (.istore_n 3, 1) := by decide +kernel
theorem d_B_one_19 : decode b_B_one 19 = .ok (.aload_n 0, 1) := by decide +kernel
theorem d_B_one_20 : decode b_B_one 20 = .ok (.getfield 37, 3) := by decide +kernel
theorem d_B_one_23 : decode b_B_one 23 = .ok (.iload_n 2, 1) := by decide +kernel
theorem d_B_one_24 : decode b_B_one 24 = .ok (.iaload, 1) := by decide +kernel
theorem d_B_one_25 : decode b_B_one 25 = .ok (.ifCond .ne 40, 3) := by decide +kernel
theorem d_B_one_28 : decode b_B_one 28 = .ok (.aload_n 0, 1) := by decide +kernel
theorem d_B_one_29 : decode b_B_one 29 = .ok (.getfield 64, 3) := by decide +kernel
theorem d_B_one_32 : decode b_B_one 32 = .ok (.iload_n 1, 1) := by decide +kernel
theorem d_B_one_33 : decode b_B_one 33 = .ok (.dup2, 1) := by decide +kernel
theorem d_B_one_34 : decode b_B_one 34 = .ok (.iaload, 1) := by decide +kernel
theorem d_B_one_35 : decode b_B_one 35 = .ok (.iconst 1, 1) := by decide +kernel
theorem d_B_one_36 : decode b_B_one 36 = .ok (.iadd, 1) := by decide +kernel
theorem d_B_one_37 : decode b_B_one 37 = .ok (.iastore, 1) := by decide +kernel
theorem d_B_one_38 : decode b_B_one 38 = .ok (.aload_n 0, 1) := by decide +kernel
theorem d_B_one_39 : decode b_B_one 39 = .ok (.getfield 49, 3) := by decide +kernel
theorem d_B_one_42 : decode b_B_one 42 = .ok (.iload_n 1, 1) := by decide +kernel
theorem d_B_one_43 : decode b_B_one 43 = .ok (.dup2, 1) := by decide +kernel
theorem d_B_one_44 : decode b_B_one 44 = .ok (.iaload, 1) := by decide +kernel
theorem d_B_one_45 : decode b_B_one 45 = .ok (.iconst 1, 1) := by decide +kernel
theorem d_B_one_46 : decode b_B_one 46 = .ok (.iadd, 1) := by decide +kernel
theorem d_B_one_47 : decode b_B_one 47 = .ok (.iastore, 1) := by decide +kernel
theorem d_B_one_48 : decode b_B_one 48 = .ok (.aload_n 0, 1) := by decide +kernel
theorem d_B_one_49 : decode b_B_one 49 = .ok (.getfield 49, 3) := by decide +kernel
theorem d_B_one_52 : decode b_B_one 52 = .ok (.iload_n 1, 1) := by decide +kernel
theorem d_B_one_53 : decode b_B_one 53 = .ok (.iaload, 1) := by decide +kernel
theorem d_B_one_54 : decode b_B_one 54 = .ok (.iload_n 3, 1) := by decide +kernel
theorem d_B_one_55 : decode b_B_one 55 = .ok (.if_icmp .ne 8, 3) := by decide +kernel
theorem d_B_one_58 : decode b_B_one 58 = .ok (.aload_n 0, 1) := by decide +kernel
theorem d_B_one_59 : decode b_B_one 59 = .ok (.iload_n 1, 1) := by decide +kernel
theorem d_B_one_60 : decode b_B_one 60 = .ok (.invokevirtual 117, 3) := by decide +kernel
theorem d_B_one_63 : decode b_B_one 63 = .ok (.iconst 1, 1) := by decide +kernel
theorem d_B_one_64 : decode b_B_one 64 = .ok (.ireturn, 1) := by decide +kernel
theorem d_B_one_65 : decode b_B_one 65 = .ok (.aload_n 0, 1) := by decide +kernel
theorem d_B_one_66 : decode b_B_one 66 = .ok (.getfield 37, 3) := by decide +kernel
theorem d_B_one_69 : decode b_B_one 69 = .ok (.iload_n 2, 1) := by decide +kernel
theorem d_B_one_70 : decode b_B_one 70 = .ok (.iaload, 1) := by decide +kernel
theorem d_B_one_71 : decode b_B_one 71 = .ok (.iconst 1, 1) := by decide +kernel
theorem d_B_one_72 : decode b_B_one 72 = .ok (.if_icmp .ne 12, 3) := by decide +kernel
theorem d_B_one_75 : decode b_B_one 75 = .ok (.aload_n 0, 1) := by decide +kernel
theorem d_B_one_76 : decode b_B_one 76 = .ok (.iload_n 1, 1) := by decide +kernel
theorem d_B_one_77 : decode b_B_one 77 = .ok (.iload_n 3, 1) := by decide +kernel
theorem d_B_one_78 : decode b_B_one 78 = .ok (.invokevirtual 130, 3) := by decide +kernel
theorem d_B_one_81 : decode b_B_one 81 = .ok (.goto 47, 3) := by decide +kernel
theorem d_B_one_84 : decode b_B_one 84 = .ok (.aload_n 0, 1) := by decide +kernel
theorem d_B_one_85 : decode b_B_one 85 = .ok (.getfield 37, 3) := by decide +kernel
theorem d_B_one_88 : decode b_B_one 88 = .ok (.iload_n 2, 1) := by decide +kernel
theorem d_B_one_89 : decode b_B_one 89 = .ok (.iaload, 1) := by decide +kernel
theorem d_B_one_90 : decode b_B_one 90 = .ok (.iconst 2, 1) := by decide +kernel
theorem d_B_one_91 : decode b_B_one 91 = .ok (.if_icmp .ne 12, 3) := by decide +kernel
theorem d_B_one_94 : decode b_B_one 94 = .ok (.aload_n 0, 1) := by decide +kernel
theorem d_B_one_95 : decode b_B_one 95 = .ok (.iload_n 1, 1) := by decide +kernel
theorem d_B_one_96 : decode b_B_one 96 = .ok (.iload_n 3, 1) := by decide +kernel
theorem d_B_one_97 : decode b_B_one 97 = .ok (.invokevirtual 133, 3) := by decide +kernel
theorem d_B_one_100 : decode b_B_one 100 = .ok (.goto 28, 3) := by decide +kernel
theorem d_B_one_103 : decode b_B_one 103 = .ok (.aload_n 0, 1) := by decide +kernel
theorem d_B_one_104 : decode b_B_one 104 = .ok (.getfield 37, 3) := by decide +kernel
theorem d_B_one_107 : decode b_B_one 107 = .ok (.iload_n 2, 1) := by decide +kernel
theorem d_B_one_108 : decode b_B_one 108 = .ok (.iaload, 1) := by decide +kernel
theorem d_B_one_109 : decode b_B_one 109 = .ok (.iconst 3, 1) := by decide +kernel
theorem d_B_one_110 : decode b_B_one 110 = .ok (.if_icmp .ne 12, 3) := by decide +kernel
theorem d_B_one_113 : decode b_B_one 113 = .ok (.aload_n 0, 1) := by decide +kernel
theorem d_B_one_114 : decode b_B_one 114 = .ok (.iload_n 1, 1) := by decide +kernel
theorem d_B_one_115 : decode b_B_one 115 = .ok (.iload_n 3, 1) := by decide +kernel
theorem d_B_one_116 : decode b_B_one 116 = .ok (.invokevirtual 136, 3) := by decide +kernel
theorem d_B_one_119 : decode b_B_one 119 = .ok (.goto 9, 3) := by decide +kernel
theorem d_B_one_122 : decode b_B_one 122 = .ok (.aload_n 0, 1) := by decide +kernel
theorem d_B_one_123 : decode b_B_one 123 = .ok (.iload_n 1, 1) := by decide +kernel
theorem d_B_one_124 : decode b_B_one 124 = .ok (.iload_n 3, 1) := by decide +kernel
theorem d_B_one_125 : decode b_B_one 125 = .ok (.invokevirtual 139, 3) := by decide +kernel
theorem d_B_one_128 : decode b_B_one 128 = .ok (.iconst 0, 1) := by decide +kernel
theorem d_B_one_129 : decode b_B_one 129 = .ok (.ireturn, 1) := by decide +kernel
theorem d_B_advance_0 : decode b_B_advance 0 = .ok (.aload_n 0, 1) := by decide +kernel
theorem d_B_advance_1 : decode b_B_advance 1 = .ok (.getfield 46, 3) := by decide +kernel
theorem d_B_advance_4 : decode b_B_advance 4 = .ok (.iload_n 1, 1) := by decide +kernel
theorem d_B_advance_5 : decode b_B_advance 5 = .ok (.dup2, 1) := by decide +kernel
theorem d_B_advance_6 : decode b_B_advance 6 = .ok (.iaload, 1) := by decide +kernel
theorem d_B_advance_7 : decode b_B_advance 7 = .ok (.iconst 1, 1) := by decide +kernel
theorem d_B_advance_8 : decode b_B_advance 8 = .ok (.iadd, 1) := by decide +kernel
theorem d_B_advance_9 : decode b_B_advance 9 = .ok (.iastore, 1) := by decide +kernel
theorem d_B_advance_10 : decode b_B_advance 10 = .ok (.aload_n 0, 1) := by decide +kernel
theorem d_B_advance_11 : decode b_B_advance 11 = .ok (.getfield 49, 3) := by decide +kernel
theorem d_B_advance_14 : decode b_B_advance 14 = .ok (.iload_n 1, 1) := by decide +kernel
theorem d_B_advance_15 : decode b_B_advance 15 = .ok (.iconst 0, 1) := by decide +kernel
theorem d_B_advance_16 : decode b_B_advance 16 = .ok (.iastore, 1) := by decide +kernel
theorem d_B_advance_17 : decode b_B_advance 17 = .ok (.aload_n 0, 1) := by decide +kernel
theorem d_B_advance_18 : decode b_B_advance 18 = .ok (.getfield 46, 3) := by decide +kernel
theorem d_B_advance_21 : decode b_B_advance 21 = .ok (.iload_n 1, 1) := by decide +kernel
theorem d_B_advance_22 : decode b_B_advance 22 = .ok (.iaload, 1) := by decide +kernel
theorem d_B_advance_23 : decode b_B_advance 23 = .ok (.aload_n 0, 1) := by decide +kernel
theorem d_B_advance_24 : decode b_B_advance 24 = .ok (.getfield 34, 3) := by decide +kernel
theorem d_B_advance_27 : decode b_B_advance 27 = .ok (.iload_n 1, 1) := by decide +kernel
theorem d_B_advance_28 : decode b_B_advance 28 = .ok (.iaload, 1) := by decide +kernel
theorem d_B_advance_29 : decode b_B_advance 29 = .ok (.if_icmp .ne 8, 3) := by decide +kernel
theorem d_B_advance_32 : decode b_B_advance 32 = .ok (.aload_n 0, 1) := by decide +kernel
theorem d_B_advance_33 : decode b_B_advance 33 = .ok (.iload_n 1, 1) := by decide +kernel
theorem d_B_advance_34 : decode b_B_advance 34 = .ok (.invokevirtual 100, 3) := by decide +kernel
theorem d_B_advance_37 : decode b_B_advance 37 = .ok (.return_, 1) := by decide +kernel
theorem d_B_send_0 : decode b_B_send 0 = .ok (.iload_n 1, 1) := by decide +kernel
theorem d_B_send_1 : decode b_B_send 1 = .ok (.bipush 8, 2) := by decide +kernel
theorem d_B_send_3 : decode b_B_send 3 = .ok (.aload_n 0, 1) := by decide +kernel
theorem d_B_send_4 : decode b_B_send 4 = .ok (.getfield 52, 3) := by decide +kernel
theorem d_B_send_7 : decode b_B_send 7 = .ok (.iload_n 1, 1) := by decide +kernel
theorem d_B_send_8 : decode b_B_send 8 = .ok (.iaload, 1) := by decide +kernel
theorem d_B_send_9 : decode b_B_send 9 = .ok (.imul, 1) := by decide +kernel
theorem d_B_send_10 : decode b_B_send 10 = .ok (.iadd, 1) := by decide +kernel
theorem d_B_send_11 : decode b_B_send 11 = .ok (.istore_n 3, 1) := by decide +kernel
theorem d_B_send_12 : decode b_B_send 12 = .ok (.aload_n 0, 1) := by decide +kernel
theorem d_B_send_13 : decode b_B_send 13 = .ok (.iconst 2, 1) := by decide +kernel
theorem d_B_send_14 : decode b_B_send 14 = .ok (.iload_n 2, 1) := by decide +kernel
theorem d_B_send_15 : decode b_B_send 15 = .ok (.invokevirtual 120, 3) := by decide +kernel
theorem d_B_send_18 : decode b_B_send 18 = .ok (.istore 4, 2) := by decide +kernel
theorem d_B_send_20 : decode b_B_send 20 = .ok (.iload 4, 2) := by decide +kernel
theorem d_B_send_22 : decode b_B_send 22 = .ok (.ifCond .lt 20, 3) := by decide +kernel
theorem d_B_send_25 : decode b_B_send 25 = .ok (.aload_n 0, 1) := by decide +kernel
theorem d_B_send_26 : decode b_B_send 26 = .ok (.getfield 67, 3) := by decide +kernel
theorem d_B_send_29 : decode b_B_send 29 = .ok (.iload 4, 2) := by decide +kernel
theorem d_B_send_31 : decode b_B_send 31 = .ok (.iload_n 3, 1) := by decide +kernel
theorem d_B_send_32 : decode b_B_send 32 = .ok (.iastore, 1) := by decide +kernel
theorem d_B_send_33 : decode b_B_send 33 = .ok (.aload_n 0, 1) := by decide +kernel
theorem d_B_send_34 : decode b_B_send 34 = .ok (.iload 4, 2) := by decide +kernel
theorem d_B_send_36 : decode b_B_send 36 = .ok (.invokevirtual 124, 3) := by decide +kernel
theorem d_B_send_39 : decode b_B_send 39 = .ok (.goto 52, 3) := by decide +kernel
theorem d_B_send_42 : decode b_B_send 42 = .ok (.aload_n 0, 1) := by decide +kernel
theorem d_B_send_43 : decode b_B_send 43 = .ok (.getfield 79, 3) := by decide +kernel
theorem d_B_send_46 : decode b_B_send 46 = .ok (.iload_n 2, 1) := by decide +kernel
theorem d_B_send_47 : decode b_B_send 47 = .ok (.iaload, 1) := by decide +kernel
theorem d_B_send_48 : decode b_B_send 48 = .ok (.iconst 4, 1) := by decide +kernel
theorem d_B_send_49 : decode b_B_send 49 = .ok (.if_icmp .ne 16, 3) := by decide +kernel
theorem d_B_send_52 : decode b_B_send 52 = .ok (.aload_n 0, 1) := by decide +kernel
theorem d_B_send_53 : decode b_B_send 53 = .ok (.dup, 1) := by decide +kernel
theorem d_B_send_54 : decode b_B_send 54 = .ok (.getfield 127, 3) := by decide +kernel
theorem d_B_send_57 : decode b_B_send 57 = .ok (.iconst 1, 1) := by decide +kernel
theorem d_B_send_58 : decode b_B_send 58 = .ok (.iadd, 1) := by decide +kernel
theorem d_B_send_59 : decode b_B_send 59 = .ok (.putfield 127, 3) := by decide +kernel
theorem d_B_send_62 : decode b_B_send 62 = .ok (.goto 29, 3) := by decide +kernel
theorem d_B_send_65 : decode b_B_send 65 = .ok (.aload_n 0, 1) := by decide +kernel
theorem d_B_send_66 : decode b_B_send 66 = .ok (.getfield 76, 3) := by decide +kernel
theorem d_B_send_69 : decode b_B_send 69 = .ok (.iconst 4, 1) := by decide +kernel
theorem d_B_send_70 : decode b_B_send 70 = .ok (.iload_n 2, 1) := by decide +kernel
theorem d_B_send_71 : decode b_B_send 71 = .ok (.imul, 1) := by decide +kernel
theorem d_B_send_72 : decode b_B_send 72 = .ok (.aload_n 0, 1) := by decide +kernel
theorem d_B_send_73 : decode b_B_send 73 = .ok (.getfield 79, 3) := by decide +kernel
theorem d_B_send_76 : decode b_B_send 76 = .ok (.iload_n 2, 1) := by decide +kernel
theorem d_B_send_77 : decode b_B_send 77 = .ok (.iaload, 1) := by decide +kernel
theorem d_B_send_78 : decode b_B_send 78 = .ok (.iadd, 1) := by decide +kernel
theorem d_B_send_79 : decode b_B_send 79 = .ok (.iload_n 3, 1) := by decide +kernel
theorem d_B_send_80 : decode b_B_send 80 = .ok (.iastore, 1) := by decide +kernel
theorem d_B_send_81 : decode b_B_send 81 = .ok (.aload_n 0, 1) := by decide +kernel
theorem d_B_send_82 : decode b_B_send 82 = .ok (.getfield 79, 3) := by decide +kernel
theorem d_B_send_85 : decode b_B_send 85 = .ok (.iload_n 2, 1) := by decide +kernel
theorem d_B_send_86 : decode b_B_send 86 = .ok (.dup2, 1) := by decide +kernel
theorem d_B_send_87 : decode b_B_send 87 = .ok (.iaload, 1) := by decide +kernel
theorem d_B_send_88 : decode b_B_send 88 = .ok (.iconst 1, 1) := by decide +kernel
theorem d_B_send_89 : decode b_B_send 89 = .ok (.iadd, 1) := by decide +kernel
theorem d_B_send_90 : decode b_B_send 90 = .ok (.iastore, 1) := by decide +kernel
theorem d_B_send_91 : decode b_B_send 91 = .ok (.aload_n 0, 1) := by decide +kernel
theorem d_B_send_92 : decode b_B_send 92 = .ok (.iload_n 1, 1) := by decide +kernel
theorem d_B_send_93 : decode b_B_send 93 = .ok (.invokevirtual 117, 3) := by decide +kernel
theorem d_B_send_96 : decode b_B_send 96 = .ok (.return_, 1) := by decide +kernel
theorem d_B_wake_0 : decode b_B_wake 0 = .ok (.aload_n 0, 1) := by decide +kernel
theorem d_B_wake_1 : decode b_B_wake 1 = .ok (.iload_n 1, 1) := by decide +kernel
theorem d_B_wake_2 : decode b_B_wake 2 = .ok (.iconst 1, 1) := by decide +kernel
theorem d_B_wake_3 : decode b_B_wake 3 = .ok (.invokevirtual 110, 3) := by decide +kernel
theorem d_B_wake_6 : decode b_B_wake 6 = .ok (.aload_n 0, 1) := by decide +kernel
theorem d_B_wake_7 : decode b_B_wake 7 = .ok (.iload_n 1, 1) := by decide +kernel
theorem d_B_wake_8 : decode b_B_wake 8 = .ok (.invokevirtual 117, 3) := by decide +kernel
theorem d_B_wake_11 : decode b_B_wake 11 = .ok (.return_, 1) := by decide +kernel
theorem d_B_take_0 : decode b_B_take 0 = .ok (.aload_n 0, 1) := by decide +kernel
theorem d_B_take_1 : decode b_B_take 1 = .ok (.getfield 79, 3) := by decide +kernel
theorem d_B_take_4 : decode b_B_take 4 = .ok (.iload_n 2, 1) := by decide +kernel
theorem d_B_take_5 : decode b_B_take 5 = .ok (.iaload, 1) := by decide +kernel
theorem d_B_take_6 : decode b_B_take 6 = .ok (.ifCond .ne 10, 3) := by decide +kernel
theorem d_B_take_9 : decode b_B_take 9 = .ok (.aload_n 0, 1) := by decide +kernel
theorem d_B_take_10 : decode b_B_take 10 = .ok (.iload_n 1, 1) := by decide +kernel
theorem d_B_take_11 : decode b_B_take 11 = .ok (.iconst 2, 1) := by decide +kernel
theorem d_B_take_12 : decode b_B_take 12 = .ok (.invokevirtual 110, 3) := by decide +kernel
theorem d_B_take_15 : decode b_B_take 15 = .ok (.return_, 1) := by decide +kernel
theorem d_B_take_16 : decode b_B_take 16 = .ok (.aload_n 0, 1) := by decide +kernel
theorem d_B_take_17 : decode b_B_take 17 = .ok (.getfield 67, 3) := by decide +kernel
theorem d_B_take_20 : decode b_B_take 20 = .ok (.iload_n 1, 1) := by decide +kernel
theorem d_B_take_21 : decode b_B_take 21 = .ok (.aload_n 0, 1) := by decide +kernel
theorem d_B_take_22 : decode b_B_take 22 = .ok (.getfield 76, 3) := by decide +kernel
theorem d_B_take_25 : decode b_B_take 25 = .ok (.iconst 4, 1) := by decide +kernel
theorem d_B_take_26 : decode b_B_take 26 = .ok (.iload_n 2, 1) := by decide +kernel
theorem d_B_take_27 : decode b_B_take 27 = .ok (.imul, 1) := by decide +kernel
theorem d_B_take_28 : decode b_B_take 28 = .ok (.iaload, 1) := by decide +kernel
theorem d_B_take_29 : decode b_B_take 29 = .ok (.iastore, 1) := by decide +kernel
theorem d_B_take_30 : decode b_B_take 30 = .ok (.iconst 1, 1) := by decide +kernel
theorem d_B_take_31 : decode b_B_take 31 = .ok (.istore_n 3, 1) := by decide +kernel
theorem d_B_take_32 : decode b_B_take 32 = .ok (.iload_n 3, 1) := by decide +kernel
theorem d_B_take_33 : decode b_B_take 33 = .ok (.iconst 4, 1) := by decide +kernel
theorem d_B_take_34 : decode b_B_take 34 = .ok (.if_icmp .ge 31, 3) := by decide +kernel
theorem d_B_take_37 : decode b_B_take 37 = .ok (.aload_n 0, 1) := by decide +kernel
theorem d_B_take_38 : decode b_B_take 38 = .ok (.getfield 76, 3) := by decide +kernel
theorem d_B_take_41 : decode b_B_take 41 = .ok (.iconst 4, 1) := by decide +kernel
theorem d_B_take_42 : decode b_B_take 42 = .ok (.iload_n 2, 1) := by decide +kernel
theorem d_B_take_43 : decode b_B_take 43 = .ok (.imul, 1) := by decide +kernel
theorem d_B_take_44 : decode b_B_take 44 = .ok (.iload_n 3, 1) := by decide +kernel
theorem d_B_take_45 : decode b_B_take 45 = .ok (.iadd, 1) := by decide +kernel
theorem d_B_take_46 : decode b_B_take 46 = .ok (.iconst 1, 1) := by decide +kernel
theorem d_B_take_47 : decode b_B_take 47 = .ok (.isub, 1) := by decide +kernel
theorem d_B_take_48 : decode b_B_take 48 = .ok (.aload_n 0, 1) := by decide +kernel
theorem d_B_take_49 : decode b_B_take 49 = .ok (.getfield 76, 3) := by decide +kernel
theorem d_B_take_52 : decode b_B_take 52 = .ok (.iconst 4, 1) := by decide +kernel
theorem d_B_take_53 : decode b_B_take 53 = .ok (.iload_n 2, 1) := by decide +kernel
theorem d_B_take_54 : decode b_B_take 54 = .ok (.imul, 1) := by decide +kernel
theorem d_B_take_55 : decode b_B_take 55 = .ok (.iload_n 3, 1) := by decide +kernel
theorem d_B_take_56 : decode b_B_take 56 = .ok (.iadd, 1) := by decide +kernel
theorem d_B_take_57 : decode b_B_take 57 = .ok (.iaload, 1) := by decide +kernel
theorem d_B_take_58 : decode b_B_take 58 = .ok (.iastore, 1) := by decide +kernel
theorem d_B_take_59 : decode b_B_take 59 = .ok (.iinc 3 1, 3) := by decide +kernel
theorem d_B_take_62 : decode b_B_take 62 = .ok (.goto (-30), 3) := by decide +kernel
theorem d_B_take_65 : decode b_B_take 65 = .ok (.aload_n 0, 1) := by decide +kernel
theorem d_B_take_66 : decode b_B_take 66 = .ok (.getfield 79, 3) := by decide +kernel
theorem d_B_take_69 : decode b_B_take 69 = .ok (.iload_n 2, 1) := by decide +kernel
theorem d_B_take_70 : decode b_B_take 70 = .ok (.dup2, 1) := by decide +kernel
theorem d_B_take_71 : decode b_B_take 71 = .ok (.iaload, 1) := by decide +kernel
theorem d_B_take_72 : decode b_B_take 72 = .ok (.iconst 1, 1) := by decide +kernel
theorem d_B_take_73 : decode b_B_take 73 = .ok (.isub, 1) := by decide +kernel
theorem d_B_take_74 : decode b_B_take 74 = .ok (.iastore, 1) := by decide +kernel
theorem d_B_take_75 : decode b_B_take 75 = .ok (.aload_n 0, 1) := by decide +kernel
theorem d_B_take_76 : decode b_B_take 76 = .ok (.iload_n 1, 1) := by decide +kernel
theorem d_B_take_77 : decode b_B_take 77 = .ok (.invokevirtual 117, 3) := by decide +kernel
theorem d_B_take_80 : decode b_B_take 80 = .ok (.return_, 1) := by decide +kernel
theorem d_B_up_0 : decode b_B_up 0 = .ok (.aload_n 0, 1) := by decide +kernel
theorem d_B_up_1 : decode b_B_up 1 = .ok (.iconst 4, 1) := by decide +kernel
theorem d_B_up_2 : decode b_B_up 2 = .ok (.iload_n 2, 1) := by decide +kernel
theorem d_B_up_3 : decode b_B_up 3 = .ok (.invokevirtual 120, 3) := by decide +kernel
theorem d_B_up_6 : decode b_B_up 6 = .ok (.istore_n 3, 1) := by decide +kernel
theorem d_B_up_7 : decode b_B_up 7 = .ok (.iload_n 3, 1) := by decide +kernel
theorem d_B_up_8 : decode b_B_up 8 = .ok (.ifCond .lt 11, 3) := by decide +kernel
theorem d_B_up_11 : decode b_B_up 11 = .ok (.aload_n 0, 1) := by decide +kernel
theorem d_B_up_12 : decode b_B_up 12 = .ok (.iload_n 3, 1) := by decide +kernel
theorem d_B_up_13 : decode b_B_up 13 = .ok (.invokevirtual 124, 3) := by decide +kernel
theorem d_B_up_16 : decode b_B_up 16 = .ok (.goto 24, 3) := by decide +kernel
theorem d_B_up_19 : decode b_B_up 19 = .ok (.aload_n 0, 1) := by decide +kernel
theorem d_B_up_20 : decode b_B_up 20 = .ok (.getfield 82, 3) := by decide +kernel
theorem d_B_up_23 : decode b_B_up 23 = .ok (.iload_n 2, 1) := by decide +kernel
theorem d_B_up_24 : decode b_B_up 24 = .ok (.iaload, 1) := by decide +kernel
theorem d_B_up_25 : decode b_B_up 25 = .ok (.bipush 9, 2) := by decide +kernel
theorem d_B_up_27 : decode b_B_up 27 = .ok (.if_icmp .ge 13, 3) := by decide +kernel
theorem d_B_up_30 : decode b_B_up 30 = .ok (.aload_n 0, 1) := by decide +kernel
theorem d_B_up_31 : decode b_B_up 31 = .ok (.getfield 82, 3) := by decide +kernel
theorem d_B_up_34 : decode b_B_up 34 = .ok (.iload_n 2, 1) := by decide +kernel
theorem d_B_up_35 : decode b_B_up 35 = .ok (.dup2, 1) := by decide +kernel
theorem d_B_up_36 : decode b_B_up 36 = .ok (.iaload, 1) := by decide +kernel
theorem d_B_up_37 : decode b_B_up 37 = .ok (.iconst 1, 1) := by decide +kernel
theorem d_B_up_38 : decode b_B_up 38 = .ok (.iadd, 1) := by decide +kernel
theorem d_B_up_39 : decode b_B_up 39 = .ok (.iastore, 1) := by decide +kernel
theorem d_B_up_40 : decode b_B_up 40 = .ok (.aload_n 0, 1) := by decide +kernel
theorem d_B_up_41 : decode b_B_up 41 = .ok (.iload_n 1, 1) := by decide +kernel
theorem d_B_up_42 : decode b_B_up 42 = .ok (.invokevirtual 117, 3) := by decide +kernel
theorem d_B_up_45 : decode b_B_up 45 = .ok (.return_, 1) := by decide +kernel
theorem d_B_down_0 : decode b_B_down 0 = .ok (.aload_n 0, 1) := by decide +kernel
theorem d_B_down_1 : decode b_B_down 1 = .ok (.getfield 82, 3) := by decide +kernel
theorem d_B_down_4 : decode b_B_down 4 = .ok (.iload_n 2, 1) := by decide +kernel
theorem d_B_down_5 : decode b_B_down 5 = .ok (.iaload, 1) := by decide +kernel
theorem d_B_down_6 : decode b_B_down 6 = .ok (.ifCond .ne 10, 3) := by decide +kernel
theorem d_B_down_9 : decode b_B_down 9 = .ok (.aload_n 0, 1) := by decide +kernel
theorem d_B_down_10 : decode b_B_down 10 = .ok (.iload_n 1, 1) := by decide +kernel
theorem d_B_down_11 : decode b_B_down 11 = .ok (.iconst 2, 1) := by decide +kernel
theorem d_B_down_12 : decode b_B_down 12 = .ok (.invokevirtual 110, 3) := by decide +kernel
theorem d_B_down_15 : decode b_B_down 15 = .ok (.return_, 1) := by decide +kernel
theorem d_B_down_16 : decode b_B_down 16 = .ok (.aload_n 0, 1) := by decide +kernel
theorem d_B_down_17 : decode b_B_down 17 = .ok (.getfield 82, 3) := by decide +kernel
theorem d_B_down_20 : decode b_B_down 20 = .ok (.iload_n 2, 1) := by decide +kernel
theorem d_B_down_21 : decode b_B_down 21 = .ok (.dup2, 1) := by decide +kernel
theorem d_B_down_22 : decode b_B_down 22 = .ok (.iaload, 1) := by decide +kernel
theorem d_B_down_23 : decode b_B_down 23 = .ok (.iconst 1, 1) := by decide +kernel
theorem d_B_down_24 : decode b_B_down 24 = .ok (.isub, 1) := by decide +kernel
theorem d_B_down_25 : decode b_B_down 25 = .ok (.iastore, 1) := by decide +kernel
theorem d_B_down_26 : decode b_B_down 26 = .ok (.aload_n 0, 1) := by decide +kernel
theorem d_B_down_27 : decode b_B_down 27 = .ok (.iload_n 1, 1) := by decide +kernel
theorem d_B_down_28 : decode b_B_down 28 = .ok (.invokevirtual 117, 3) := by decide +kernel
theorem d_B_down_31 : decode b_B_down 31 = .ok (.return_, 1) := by decide +kernel
theorem d_B_partition_0 : decode b_B_partition 0 = .ok (.iload_n 1, 1) := by decide +kernel
theorem d_B_partition_1 : decode b_B_partition 1 = .ok (.iconst 0, 1) := by decide +kernel
theorem d_B_partition_2 : decode b_B_partition 2 = .ok (.iconst 2, 1) := by decide +kernel
theorem d_B_partition_3 : decode b_B_partition 3 = .ok (.invokestatic 85, 3) := by decide +kernel
theorem d_B_partition_6 : decode b_B_partition 6 = .ok (.ifCond .eq 12, 3) := by decide +kernel
theorem d_B_partition_9 : decode b_B_partition 9 = .ok (.aload_n 0, 1) := by decide +kernel
theorem d_B_partition_10 : decode b_B_partition 10 = .ok (.getfield 16, 3) := by decide +kernel
theorem d_B_partition_13 : decode b_B_partition 13 = .ok (.iload_n 1, 1) := by decide +kernel
theorem d_B_partition_14 : decode b_B_partition 14 = .ok (.iaload, 1) := by decide +kernel
theorem d_B_partition_15 : decode b_B_partition 15 = .ok (.goto 4, 3) := by decide +kernel
theorem d_B_partition_18 : decode b_B_partition 18 = .ok (.iconst (-1), 1) := by decide +kernel
end
section
theorem d_B_partition_19 : decode b_B_partition 19 = .ok (.ireturn, 1) := by decide +kernel
theorem d_B_state_0 : decode b_B_state 0 = .ok (.iload_n 1, 1) := by decide +kernel
theorem d_B_state_1 : decode b_B_state 1 = .ok (.iconst 0, 1) := by decide +kernel
theorem d_B_state_2 : decode b_B_state 2 = .ok (.aload_n 0, 1) := by decide +kernel
theorem d_B_state_3 : decode b_B_state 3 = .ok (.getfield 97, 3) := by decide +kernel
theorem d_B_state_6 : decode b_B_state 6 = .ok (.iconst 1, 1) := by decide +kernel
theorem d_B_state_7 : decode b_B_state 7 = .ok (.isub, 1) := by decide +kernel
theorem d_B_state_8 : decode b_B_state 8 = .ok (.invokestatic 85, 3) := by decide +kernel
theorem d_B_state_11 : decode b_B_state 11 = .ok (.ifCond .ne 5, 3) := by decide +kernel
theorem d_B_state_14 : decode b_B_state 14 = .ok (.iconst (-1), 1) := by decide +kernel
theorem d_B_state_15 : decode b_B_state 15 = .ok (.ireturn, 1) := by decide +kernel
theorem d_B_state_16 : decode b_B_state 16 = .ok (.iload_n 2, 1) := by decide +kernel
theorem d_B_state_17 : decode b_B_state 17 = .ok (.tableswitch 125 0 9 #[55, 62, 69, 76, 83, 90, 97, 104, 111, 118], 55) := by decide +kernel
theorem d_B_state_72 : decode b_B_state 72 = .ok (.aload_n 0, 1) := by decide +kernel
theorem d_B_state_73 : decode b_B_state 73 = .ok (.getfield 43, 3) := by decide +kernel
theorem d_B_state_76 : decode b_B_state 76 = .ok (.iload_n 1, 1) := by decide +kernel
theorem d_B_state_77 : decode b_B_state 77 = .ok (.iaload, 1) := by decide +kernel
theorem d_B_state_78 : decode b_B_state 78 = .ok (.ireturn, 1) := by decide +kernel
theorem d_B_state_79 : decode b_B_state 79 = .ok (.aload_n 0, 1) := by decide +kernel
theorem d_B_state_80 : decode b_B_state 80 = .ok (.getfield 46, 3) := by decide +kernel
theorem d_B_state_83 : decode b_B_state 83 = .ok (.iload_n 1, 1) := by decide +kernel
theorem d_B_state_84 : decode b_B_state 84 = .ok (.iaload, 1) := by decide +kernel
theorem d_B_state_85 : decode b_B_state 85 = .ok (.ireturn, 1) := by decide +kernel
theorem d_B_state_86 : decode b_B_state 86 = .ok (.aload_n 0, 1) := by decide +kernel
theorem d_B_state_87 : decode b_B_state 87 = .ok (.getfield 49, 3) := by decide +kernel
theorem d_B_state_90 : decode b_B_state 90 = .ok (.iload_n 1, 1) := by decide +kernel
theorem d_B_state_91 : decode b_B_state 91 = .ok (.iaload, 1) := by decide +kernel
theorem d_B_state_92 : decode b_B_state 92 = .ok (.ireturn, 1) := by decide +kernel
theorem d_B_state_93 : decode b_B_state 93 = .ok (.aload_n 0, 1) := by decide +kernel
theorem d_B_state_94 : decode b_B_state 94 = .ok (.getfield 52, 3) := by decide +kernel
theorem d_B_state_97 : decode b_B_state 97 = .ok (.iload_n 1, 1) := by decide +kernel
theorem d_B_state_98 : decode b_B_state 98 = .ok (.iaload, 1) := by decide +kernel
theorem d_B_state_99 : decode b_B_state 99 = .ok (.ireturn, 1) := by decide +kernel
theorem d_B_state_100 : decode b_B_state 100 = .ok (.aload_n 0, 1) := by decide +kernel
theorem d_B_state_101 : decode b_B_state 101 = .ok (.getfield 55, 3) := by decide +kernel
theorem d_B_state_104 : decode b_B_state 104 = .ok (.iload_n 1, 1) := by decide +kernel
theorem d_B_state_105 : decode b_B_state 105 = .ok (.iaload, 1) := by decide +kernel
theorem d_B_state_106 : decode b_B_state 106 = .ok (.ireturn, 1) := by decide +kernel
theorem d_B_state_107 : decode b_B_state 107 = .ok (.aload_n 0, 1) := by decide +kernel
theorem d_B_state_108 : decode b_B_state 108 = .ok (.getfield 58, 3) := by decide +kernel
theorem d_B_state_111 : decode b_B_state 111 = .ok (.iload_n 1, 1) := by decide +kernel
theorem d_B_state_112 : decode b_B_state 112 = .ok (.iaload, 1) := by decide +kernel
theorem d_B_state_113 : decode b_B_state 113 = .ok (.ireturn, 1) := by decide +kernel
theorem d_B_state_114 : decode b_B_state 114 = .ok (.aload_n 0, 1) := by decide +kernel
theorem d_B_state_115 : decode b_B_state 115 = .ok (.getfield 61, 3) := by decide +kernel
theorem d_B_state_118 : decode b_B_state 118 = .ok (.iload_n 1, 1) := by decide +kernel
theorem d_B_state_119 : decode b_B_state 119 = .ok (.iaload, 1) := by decide +kernel
theorem d_B_state_120 : decode b_B_state 120 = .ok (.ireturn, 1) := by decide +kernel
theorem d_B_state_121 : decode b_B_state 121 = .ok (.aload_n 0, 1) := by decide +kernel
theorem d_B_state_122 : decode b_B_state 122 = .ok (.getfield 64, 3) := by decide +kernel
theorem d_B_state_125 : decode b_B_state 125 = .ok (.iload_n 1, 1) := by decide +kernel
theorem d_B_state_126 : decode b_B_state 126 = .ok (.iaload, 1) := by decide +kernel
theorem d_B_state_127 : decode b_B_state 127 = .ok (.ireturn, 1) := by decide +kernel
theorem d_B_state_128 : decode b_B_state 128 = .ok (.aload_n 0, 1) := by decide +kernel
theorem d_B_state_129 : decode b_B_state 129 = .ok (.getfield 67, 3) := by decide +kernel
theorem d_B_state_132 : decode b_B_state 132 = .ok (.iload_n 1, 1) := by decide +kernel
theorem d_B_state_133 : decode b_B_state 133 = .ok (.iaload, 1) := by decide +kernel
theorem d_B_state_134 : decode b_B_state 134 = .ok (.ireturn, 1) := by decide +kernel
theorem d_B_state_135 : decode b_B_state 135 = .ok (.aload_n 0, 1) := by decide +kernel
theorem d_B_state_136 : decode b_B_state 136 = .ok (.getfield 70, 3) := by decide +kernel
theorem d_B_state_139 : decode b_B_state 139 = .ok (.iload_n 1, 1) := by decide +kernel
theorem d_B_state_140 : decode b_B_state 140 = .ok (.iaload, 1) := by decide +kernel
theorem d_B_state_141 : decode b_B_state 141 = .ok (.ireturn, 1) := by decide +kernel
theorem d_B_state_142 : decode b_B_state 142 = .ok (.iconst (-1), 1) := by decide +kernel
theorem d_B_state_143 : decode b_B_state 143 = .ok (.ireturn, 1) := by decide +kernel
theorem d_B_port_0 : decode b_B_port 0 = .ok (.iload_n 1, 1) := by decide +kernel
theorem d_B_port_1 : decode b_B_port 1 = .ok (.iconst 0, 1) := by decide +kernel
theorem d_B_port_2 : decode b_B_port 2 = .ok (.iconst 3, 1) := by decide +kernel
theorem d_B_port_3 : decode b_B_port 3 = .ok (.invokestatic 85, 3) := by decide +kernel
theorem d_B_port_6 : decode b_B_port 6 = .ok (.ifCond .eq 12, 3) := by decide +kernel
theorem d_B_port_9 : decode b_B_port 9 = .ok (.aload_n 0, 1) := by decide +kernel
theorem d_B_port_10 : decode b_B_port 10 = .ok (.getfield 79, 3) := by decide +kernel
theorem d_B_port_13 : decode b_B_port 13 = .ok (.iload_n 1, 1) := by decide +kernel
theorem d_B_port_14 : decode b_B_port 14 = .ok (.iaload, 1) := by decide +kernel
theorem d_B_port_15 : decode b_B_port 15 = .ok (.goto 4, 3) := by decide +kernel
theorem d_B_port_18 : decode b_B_port 18 = .ok (.iconst (-1), 1) := by decide +kernel
theorem d_B_port_19 : decode b_B_port 19 = .ok (.ireturn, 1) := by decide +kernel
theorem d_B_semaphore_0 : decode b_B_semaphore 0 = .ok (.iload_n 1, 1) := by decide +kernel
theorem d_B_semaphore_1 : decode b_B_semaphore 1 = .ok (.iconst 0, 1) := by decide +kernel
theorem d_B_semaphore_2 : decode b_B_semaphore 2 = .ok (.iconst 3, 1) := by decide +kernel
theorem d_B_semaphore_3 : decode b_B_semaphore 3 = .ok (.invokestatic 85, 3) := by decide +kernel
theorem d_B_semaphore_6 : decode b_B_semaphore 6 = .ok (.ifCond .eq 12, 3) := by decide +kernel
theorem d_B_semaphore_9 : decode b_B_semaphore 9 = .ok (.aload_n 0, 1) := by decide +kernel
theorem d_B_semaphore_10 : decode b_B_semaphore 10 = .ok (.getfield 82, 3) := by decide +kernel
theorem d_B_semaphore_13 : decode b_B_semaphore 13 = .ok (.iload_n 1, 1) := by decide +kernel
theorem d_B_semaphore_14 : decode b_B_semaphore 14 = .ok (.iaload, 1) := by decide +kernel
theorem d_B_semaphore_15 : decode b_B_semaphore 15 = .ok (.goto 4, 3) := by decide +kernel
theorem d_B_semaphore_18 : decode b_B_semaphore 18 = .ok (.iconst (-1), 1) := by decide +kernel
theorem d_B_semaphore_19 : decode b_B_semaphore 19 = .ok (.ireturn, 1) := by decide +kernel
theorem d_B_count_0 : decode b_B_count 0 = .ok (.iload_n 1, 1) := by decide +kernel
theorem d_B_count_1 : decode b_B_count 1 = .ok (.tableswitch 80 0 6 #[43, 48, 54, 60, 65, 70, 75], 43) := by decide +kernel
theorem d_B_count_44 : decode b_B_count 44 = .ok (.aload_n 0, 1) := by decide +kernel
theorem d_B_count_45 : decode b_B_count 45 = .ok (.getfield 104, 3) := by decide +kernel
theorem d_B_count_48 : decode b_B_count 48 = .ok (.ireturn, 1) := by decide +kernel
theorem d_B_count_49 : decode b_B_count 49 = .ok (.aload_n 0, 1) := by decide +kernel
theorem d_B_count_50 : decode b_B_count 50 = .ok (.iconst 0, 1) := by decide +kernel
theorem d_B_count_51 : decode b_B_count 51 = .ok (.invokevirtual 148, 3) := by decide +kernel
theorem d_B_count_54 : decode b_B_count 54 = .ok (.ireturn, 1) := by decide +kernel
theorem d_B_count_55 : decode b_B_count 55 = .ok (.aload_n 0, 1) := by decide +kernel
theorem d_B_count_56 : decode b_B_count 56 = .ok (.iconst 1, 1) := by decide +kernel
theorem d_B_count_57 : decode b_B_count 57 = .ok (.invokevirtual 148, 3) := by decide +kernel
theorem d_B_count_60 : decode b_B_count 60 = .ok (.ireturn, 1) := by decide +kernel
theorem d_B_count_61 : decode b_B_count 61 = .ok (.aload_n 0, 1) := by decide +kernel
theorem d_B_count_62 : decode b_B_count 62 = .ok (.getfield 127, 3) := by decide +kernel
theorem d_B_count_65 : decode b_B_count 65 = .ok (.ireturn, 1) := by decide +kernel
theorem d_B_count_66 : decode b_B_count 66 = .ok (.aload_n 0, 1) := by decide +kernel
theorem d_B_count_67 : decode b_B_count 67 = .ok (.getfield 156, 3) := by decide +kernel
theorem d_B_count_70 : decode b_B_count 70 = .ok (.ireturn, 1) := by decide +kernel
theorem d_B_count_71 : decode b_B_count 71 = .ok (.aload_n 0, 1) := by decide +kernel
theorem d_B_count_72 : decode b_B_count 72 = .ok (.getfield 97, 3) := by decide +kernel
theorem d_B_count_75 : decode b_B_count 75 = .ok (.ireturn, 1) := by decide +kernel
theorem d_B_count_76 : decode b_B_count 76 = .ok (.aload_n 0, 1) := by decide +kernel
theorem d_B_count_77 : decode b_B_count 77 = .ok (.getfield 93, 3) := by decide +kernel
theorem d_B_count_80 : decode b_B_count 80 = .ok (.ireturn, 1) := by decide +kernel
theorem d_B_count_81 : decode b_B_count 81 = .ok (.iconst (-1), 1) := by decide +kernel
theorem d_B_count_82 : decode b_B_count 82 = .ok (.ireturn, 1) := by decide +kernel
theorem d_Lw_law_0 : decode code 0 = .ok (.new 7, 3) := by decide +kernel
theorem d_Lw_law_3 : decode code 3 = .ok (.dup, 1) := by decide +kernel
theorem d_Lw_law_4 : decode code 4 = .ok (.invokespecial 9, 3) := by decide +kernel
theorem d_Lw_law_7 : decode code 7 = .ok (.astore_n 1, 1) := by decide +kernel
theorem d_Lw_law_8 : decode code 8 = .ok (.new 10, 3) := by decide +kernel
theorem d_Lw_law_11 : decode code 11 = .ok (.dup, 1) := by decide +kernel
theorem d_Lw_law_12 : decode code 12 = .ok (.invokespecial 12, 3) := by decide +kernel
theorem d_Lw_law_15 : decode code 15 = .ok (.astore_n 2, 1) := by decide +kernel
theorem d_Lw_law_16 : decode code 16 = .ok (.iconst 0, 1) := by decide +kernel
theorem d_Lw_law_17 : decode code 17 = .ok (.istore_n 3, 1) := by decide +kernel
theorem d_Lw_law_18 : decode code 18 = .ok (.iload_n 3, 1) := by decide +kernel
theorem d_Lw_law_19 : decode code 19 = .ok (.aload_n 0, 1) := by decide +kernel
theorem d_Lw_law_20 : decode code 20 = .ok (.arraylength, 1) := by decide +kernel
theorem d_Lw_law_21 : decode code 21 = .ok (.iconst 5, 1) := by decide +kernel
theorem d_Lw_law_22 : decode code 22 = .ok (.isub, 1) := by decide +kernel
theorem d_Lw_law_23 : decode code 23 = .ok (.if_icmp .gt 435, 3) := by decide +kernel
theorem d_Lw_law_26 : decode code 26 = .ok (.aload_n 0, 1) := by decide +kernel
theorem d_Lw_law_27 : decode code 27 = .ok (.iload_n 3, 1) := by decide +kernel
theorem d_Lw_law_28 : decode code 28 = .ok (.iaload, 1) := by decide +kernel
theorem d_Lw_law_29 : decode code 29 = .ok (.bipush 15, 2) := by decide +kernel
theorem d_Lw_law_31 : decode code 31 = .ok (.iand, 1) := by decide +kernel
theorem d_Lw_law_32 : decode code 32 = .ok (.tableswitch 420 0 11 #[64, 97, 150, 193, 226, 249, 272, 295, 318, 351, 374, 397], 64) := by decide +kernel
theorem d_Lw_law_96 : decode code 96 = .ok (.aload_n 1, 1) := by decide +kernel
theorem d_Lw_law_97 : decode code 97 = .ok (.aload_n 0, 1) := by decide +kernel
theorem d_Lw_law_98 : decode code 98 = .ok (.iload_n 3, 1) := by decide +kernel
theorem d_Lw_law_99 : decode code 99 = .ok (.iconst 1, 1) := by decide +kernel
theorem d_Lw_law_100 : decode code 100 = .ok (.iadd, 1) := by decide +kernel
theorem d_Lw_law_101 : decode code 101 = .ok (.iaload, 1) := by decide +kernel
theorem d_Lw_law_102 : decode code 102 = .ok (.aload_n 0, 1) := by decide +kernel
theorem d_Lw_law_103 : decode code 103 = .ok (.iload_n 3, 1) := by decide +kernel
theorem d_Lw_law_104 : decode code 104 = .ok (.iconst 2, 1) := by decide +kernel
theorem d_Lw_law_105 : decode code 105 = .ok (.iadd, 1) := by decide +kernel
theorem d_Lw_law_106 : decode code 106 = .ok (.iaload, 1) := by decide +kernel
theorem d_Lw_law_107 : decode code 107 = .ok (.invokevirtual 13, 3) := by decide +kernel
theorem d_Lw_law_110 : decode code 110 = .ok (.aload_n 2, 1) := by decide +kernel
theorem d_Lw_law_111 : decode code 111 = .ok (.aload_n 0, 1) := by decide +kernel
theorem d_Lw_law_112 : decode code 112 = .ok (.iload_n 3, 1) := by decide +kernel
theorem d_Lw_law_113 : decode code 113 = .ok (.iconst 1, 1) := by decide +kernel
theorem d_Lw_law_114 : decode code 114 = .ok (.iadd, 1) := by decide +kernel
theorem d_Lw_law_115 : decode code 115 = .ok (.iaload, 1) := by decide +kernel
theorem d_Lw_law_116 : decode code 116 = .ok (.aload_n 0, 1) := by decide +kernel
theorem d_Lw_law_117 : decode code 117 = .ok (.iload_n 3, 1) := by decide +kernel
theorem d_Lw_law_118 : decode code 118 = .ok (.iconst 2, 1) := by decide +kernel
theorem d_Lw_law_119 : decode code 119 = .ok (.iadd, 1) := by decide +kernel
theorem d_Lw_law_120 : decode code 120 = .ok (.iaload, 1) := by decide +kernel
theorem d_Lw_law_121 : decode code 121 = .ok (.invokevirtual 17, 3) := by decide +kernel
theorem d_Lw_law_124 : decode code 124 = .ok (.if_icmp .eq 328, 3) := by decide +kernel
theorem d_Lw_law_127 : decode code 127 = .ok (.iconst 0, 1) := by decide +kernel
theorem d_Lw_law_128 : decode code 128 = .ok (.ireturn, 1) := by decide +kernel
theorem d_Lw_law_129 : decode code 129 = .ok (.aload_n 1, 1) := by decide +kernel
theorem d_Lw_law_130 : decode code 130 = .ok (.aload_n 0, 1) := by decide +kernel
theorem d_Lw_law_131 : decode code 131 = .ok (.iload_n 3, 1) := by decide +kernel
theorem d_Lw_law_132 : decode code 132 = .ok (.iconst 1, 1) := by decide +kernel
theorem d_Lw_law_133 : decode code 133 = .ok (.iadd, 1) := by decide +kernel
theorem d_Lw_law_134 : decode code 134 = .ok (.iaload, 1) := by decide +kernel
theorem d_Lw_law_135 : decode code 135 = .ok (.aload_n 0, 1) := by decide +kernel
theorem d_Lw_law_136 : decode code 136 = .ok (.iload_n 3, 1) := by decide +kernel
theorem d_Lw_law_137 : decode code 137 = .ok (.iconst 2, 1) := by decide +kernel
theorem d_Lw_law_138 : decode code 138 = .ok (.iadd, 1) := by decide +kernel
theorem d_Lw_law_139 : decode code 139 = .ok (.iaload, 1) := by decide +kernel
theorem d_Lw_law_140 : decode code 140 = .ok (.aload_n 0, 1) := by decide +kernel
theorem d_Lw_law_141 : decode code 141 = .ok (.iload_n 3, 1) := by decide +kernel
theorem d_Lw_law_142 : decode code 142 = .ok (.iconst 3, 1) := by decide +kernel
theorem d_Lw_law_143 : decode code 143 = .ok (.iadd, 1) := by decide +kernel
theorem d_Lw_law_144 : decode code 144 = .ok (.iaload, 1) := by decide +kernel
theorem d_Lw_law_145 : decode code 145 = .ok (.aload_n 0, 1) := by decide +kernel
theorem d_Lw_law_146 : decode code 146 = .ok (.iload_n 3, 1) := by decide +kernel
theorem d_Lw_law_147 : decode code 147 = .ok (.iconst 4, 1) := by decide +kernel
theorem d_Lw_law_148 : decode code 148 = .ok (.iadd, 1) := by decide +kernel
theorem d_Lw_law_149 : decode code 149 = .ok (.iaload, 1) := by decide +kernel
theorem d_Lw_law_150 : decode code 150 = .ok (.invokevirtual 18, 3) := by decide +kernel
theorem d_Lw_law_153 : decode code 153 = .ok (.aload_n 2, 1) := by decide +kernel
theorem d_Lw_law_154 : decode code 154 = .ok (.aload_n 0, 1) := by decide +kernel
theorem d_Lw_law_155 : decode code 155 = .ok (.iload_n 3, 1) := by decide +kernel
theorem d_Lw_law_156 : decode code 156 = .ok (.iconst 1, 1) := by decide +kernel
theorem d_Lw_law_157 : decode code 157 = .ok (.iadd, 1) := by decide +kernel
theorem d_Lw_law_158 : decode code 158 = .ok (.iaload, 1) := by decide +kernel
theorem d_Lw_law_159 : decode code 159 = .ok (.aload_n 0, 1) := by decide +kernel
theorem d_Lw_law_160 : decode code 160 = .ok (.iload_n 3, 1) := by decide +kernel
theorem d_Lw_law_161 : decode code 161 = .ok (.iconst 2, 1) := by decide +kernel
theorem d_Lw_law_162 : decode code 162 = .ok (.iadd, 1) := by decide +kernel
theorem d_Lw_law_163 : decode code 163 = .ok (.iaload, 1) := by decide +kernel
theorem d_Lw_law_164 : decode code 164 = .ok (.aload_n 0, 1) := by decide +kernel
theorem d_Lw_law_165 : decode code 165 = .ok (.iload_n 3, 1) := by decide +kernel
theorem d_Lw_law_166 : decode code 166 = .ok (.iconst 3, 1) := by decide +kernel
theorem d_Lw_law_167 : decode code 167 = .ok (.iadd, 1) := by decide +kernel
theorem d_Lw_law_168 : decode code 168 = .ok (.iaload, 1) := by decide +kernel
theorem d_Lw_law_169 : decode code 169 = .ok (.aload_n 0, 1) := by decide +kernel
theorem d_Lw_law_170 : decode code 170 = .ok (.iload_n 3, 1) := by decide +kernel
theorem d_Lw_law_171 : decode code 171 = .ok (.iconst 4, 1) := by decide +kernel
theorem d_Lw_law_172 : decode code 172 = .ok (.iadd, 1) := by decide +kernel
theorem d_Lw_law_173 : decode code 173 = .ok (.iaload, 1) := by decide +kernel
theorem d_Lw_law_174 : decode code 174 = .ok (.invokevirtual 22, 3) := by decide +kernel
theorem d_Lw_law_177 : decode code 177 = .ok (.if_icmp .eq 275, 3) := by decide +kernel
theorem d_Lw_law_180 : decode code 180 = .ok (.iconst 0, 1) := by decide +kernel
theorem d_Lw_law_181 : decode code 181 = .ok (.ireturn, 1) := by decide +kernel
theorem d_Lw_law_182 : decode code 182 = .ok (.aload_n 1, 1) := by decide +kernel
theorem d_Lw_law_183 : decode code 183 = .ok (.aload_n 0, 1) := by decide +kernel
theorem d_Lw_law_184 : decode code 184 = .ok (.iload_n 3, 1) := by decide +kernel
theorem d_Lw_law_185 : decode code 185 = .ok (.iconst 1, 1) := by decide +kernel
theorem d_Lw_law_186 : decode code 186 = .ok (.iadd, 1) := by decide +kernel
theorem d_Lw_law_187 : decode code 187 = .ok (.iaload, 1) := by decide +kernel
theorem d_Lw_law_188 : decode code 188 = .ok (.aload_n 0, 1) := by decide +kernel
theorem d_Lw_law_189 : decode code 189 = .ok (.iload_n 3, 1) := by decide +kernel
theorem d_Lw_law_190 : decode code 190 = .ok (.iconst 2, 1) := by decide +kernel
theorem d_Lw_law_191 : decode code 191 = .ok (.iadd, 1) := by decide +kernel
theorem d_Lw_law_192 : decode code 192 = .ok (.iaload, 1) := by decide +kernel
theorem d_Lw_law_193 : decode code 193 = .ok (.aload_n 0, 1) := by decide +kernel
theorem d_Lw_law_194 : decode code 194 = .ok (.iload_n 3, 1) := by decide +kernel
theorem d_Lw_law_195 : decode code 195 = .ok (.iconst 3, 1) := by decide +kernel
theorem d_Lw_law_196 : decode code 196 = .ok (.iadd, 1) := by decide +kernel
theorem d_Lw_law_197 : decode code 197 = .ok (.iaload, 1) := by decide +kernel
theorem d_Lw_law_198 : decode code 198 = .ok (.invokevirtual 23, 3) := by decide +kernel
theorem d_Lw_law_201 : decode code 201 = .ok (.aload_n 2, 1) := by decide +kernel
theorem d_Lw_law_202 : decode code 202 = .ok (.aload_n 0, 1) := by decide +kernel
theorem d_Lw_law_203 : decode code 203 = .ok (.iload_n 3, 1) := by decide +kernel
theorem d_Lw_law_204 : decode code 204 = .ok (.iconst 1, 1) := by decide +kernel
theorem d_Lw_law_205 : decode code 205 = .ok (.iadd, 1) := by decide +kernel
theorem d_Lw_law_206 : decode code 206 = .ok (.iaload, 1) := by decide +kernel
theorem d_Lw_law_207 : decode code 207 = .ok (.aload_n 0, 1) := by decide +kernel
theorem d_Lw_law_208 : decode code 208 = .ok (.iload_n 3, 1) := by decide +kernel
theorem d_Lw_law_209 : decode code 209 = .ok (.iconst 2, 1) := by decide +kernel
theorem d_Lw_law_210 : decode code 210 = .ok (.iadd, 1) := by decide +kernel
theorem d_Lw_law_211 : decode code 211 = .ok (.iaload, 1) := by decide +kernel
theorem d_Lw_law_212 : decode code 212 = .ok (.aload_n 0, 1) := by decide +kernel
theorem d_Lw_law_213 : decode code 213 = .ok (.iload_n 3, 1) := by decide +kernel
theorem d_Lw_law_214 : decode code 214 = .ok (.iconst 3, 1) := by decide +kernel
theorem d_Lw_law_215 : decode code 215 = .ok (.iadd, 1) := by decide +kernel
theorem d_Lw_law_216 : decode code 216 = .ok (.iaload, 1) := by decide +kernel
theorem d_Lw_law_217 : decode code 217 = .ok (.invokevirtual 27, 3) := by decide +kernel
theorem d_Lw_law_220 : decode code 220 = .ok (.if_icmp .eq 232, 3) := by decide +kernel
theorem d_Lw_law_223 : decode code 223 = .ok (.iconst 0, 1) := by decide +kernel
theorem d_Lw_law_224 : decode code 224 = .ok (.ireturn, 1) := by decide +kernel
theorem d_Lw_law_225 : decode code 225 = .ok (.aload_n 1, 1) := by decide +kernel
theorem d_Lw_law_226 : decode code 226 = .ok (.aload_n 0, 1) := by decide +kernel
theorem d_Lw_law_227 : decode code 227 = .ok (.iload_n 3, 1) := by decide +kernel
theorem d_Lw_law_228 : decode code 228 = .ok (.iconst 1, 1) := by decide +kernel
theorem d_Lw_law_229 : decode code 229 = .ok (.iadd, 1) := by decide +kernel
theorem d_Lw_law_230 : decode code 230 = .ok (.iaload, 1) := by decide +kernel
theorem d_Lw_law_231 : decode code 231 = .ok (.aload_n 0, 1) := by decide +kernel
theorem d_Lw_law_232 : decode code 232 = .ok (.iload_n 3, 1) := by decide +kernel
theorem d_Lw_law_233 : decode code 233 = .ok (.iconst 2, 1) := by decide +kernel
theorem d_Lw_law_234 : decode code 234 = .ok (.iadd, 1) := by decide +kernel
theorem d_Lw_law_235 : decode code 235 = .ok (.iaload, 1) := by decide +kernel
theorem d_Lw_law_236 : decode code 236 = .ok (.invokevirtual 28, 3) := by decide +kernel
theorem d_Lw_law_239 : decode code 239 = .ok (.aload_n 2, 1) := by decide +kernel
theorem d_Lw_law_240 : decode code 240 = .ok (.aload_n 0, 1) := by decide +kernel
theorem d_Lw_law_241 : decode code 241 = .ok (.iload_n 3, 1) := by decide +kernel
theorem d_Lw_law_242 : decode code 242 = .ok (.iconst 1, 1) := by decide +kernel
theorem d_Lw_law_243 : decode code 243 = .ok (.iadd, 1) := by decide +kernel
theorem d_Lw_law_244 : decode code 244 = .ok (.iaload, 1) := by decide +kernel
theorem d_Lw_law_245 : decode code 245 = .ok (.aload_n 0, 1) := by decide +kernel
theorem d_Lw_law_246 : decode code 246 = .ok (.iload_n 3, 1) := by decide +kernel
theorem d_Lw_law_247 : decode code 247 = .ok (.iconst 2, 1) := by decide +kernel
theorem d_Lw_law_248 : decode code 248 = .ok (.iadd, 1) := by decide +kernel
theorem d_Lw_law_249 : decode code 249 = .ok (.iaload, 1) := by decide +kernel
theorem d_Lw_law_250 : decode code 250 = .ok (.invokevirtual 31, 3) := by decide +kernel
theorem d_Lw_law_253 : decode code 253 = .ok (.if_icmp .eq 199, 3) := by decide +kernel
theorem d_Lw_law_256 : decode code 256 = .ok (.iconst 0, 1) := by decide +kernel
theorem d_Lw_law_257 : decode code 257 = .ok (.ireturn, 1) := by decide +kernel
theorem d_Lw_law_258 : decode code 258 = .ok (.aload_n 1, 1) := by decide +kernel
theorem d_Lw_law_259 : decode code 259 = .ok (.aload_n 0, 1) := by decide +kernel
theorem d_Lw_law_260 : decode code 260 = .ok (.iload_n 3, 1) := by decide +kernel
theorem d_Lw_law_261 : decode code 261 = .ok (.iconst 1, 1) := by decide +kernel
theorem d_Lw_law_262 : decode code 262 = .ok (.iadd, 1) := by decide +kernel
theorem d_Lw_law_263 : decode code 263 = .ok (.iaload, 1) := by decide +kernel
theorem d_Lw_law_264 : decode code 264 = .ok (.invokevirtual 32, 3) := by decide +kernel
theorem d_Lw_law_267 : decode code 267 = .ok (.aload_n 2, 1) := by decide +kernel
theorem d_Lw_law_268 : decode code 268 = .ok (.aload_n 0, 1) := by decide +kernel
theorem d_Lw_law_269 : decode code 269 = .ok (.iload_n 3, 1) := by decide +kernel
theorem d_Lw_law_270 : decode code 270 = .ok (.iconst 1, 1) := by decide +kernel
theorem d_Lw_law_271 : decode code 271 = .ok (.iadd, 1) := by decide +kernel
theorem d_Lw_law_272 : decode code 272 = .ok (.iaload, 1) := by decide +kernel
theorem d_Lw_law_273 : decode code 273 = .ok (.invokevirtual 36, 3) := by decide +kernel
theorem d_Lw_law_276 : decode code 276 = .ok (.if_icmp .eq 176, 3) := by decide +kernel
theorem d_Lw_law_279 : decode code 279 = .ok (.iconst 0, 1) := by decide +kernel
theorem d_Lw_law_280 : decode code 280 = .ok (.ireturn, 1) := by decide +kernel
theorem d_Lw_law_281 : decode code 281 = .ok (.aload_n 1, 1) := by decide +kernel
theorem d_Lw_law_282 : decode code 282 = .ok (.aload_n 0, 1) := by decide +kernel
theorem d_Lw_law_283 : decode code 283 = .ok (.iload_n 3, 1) := by decide +kernel
theorem d_Lw_law_284 : decode code 284 = .ok (.iconst 1, 1) := by decide +kernel
theorem d_Lw_law_285 : decode code 285 = .ok (.iadd, 1) := by decide +kernel
theorem d_Lw_law_286 : decode code 286 = .ok (.iaload, 1) := by decide +kernel
theorem d_Lw_law_287 : decode code 287 = .ok (.invokevirtual 37, 3) := by decide +kernel
theorem d_Lw_law_290 : decode code 290 = .ok (.aload_n 2, 1) := by decide +kernel
theorem d_Lw_law_291 : decode code 291 = .ok (.aload_n 0, 1) := by decide +kernel
theorem d_Lw_law_292 : decode code 292 = .ok (.iload_n 3, 1) := by decide +kernel
theorem d_Lw_law_293 : decode code 293 = .ok (.iconst 1, 1) := by decide +kernel
theorem d_Lw_law_294 : decode code 294 = .ok (.iadd, 1) := by decide +kernel
theorem d_Lw_law_295 : decode code 295 = .ok (.iaload, 1) := by decide +kernel
theorem d_Lw_law_296 : decode code 296 = .ok (.invokevirtual 40, 3) := by decide +kernel
theorem d_Lw_law_299 : decode code 299 = .ok (.if_icmp .eq 153, 3) := by decide +kernel
theorem d_Lw_law_302 : decode code 302 = .ok (.iconst 0, 1) := by decide +kernel
theorem d_Lw_law_303 : decode code 303 = .ok (.ireturn, 1) := by decide +kernel
theorem d_Lw_law_304 : decode code 304 = .ok (.aload_n 1, 1) := by decide +kernel
theorem d_Lw_law_305 : decode code 305 = .ok (.aload_n 0, 1) := by decide +kernel
theorem d_Lw_law_306 : decode code 306 = .ok (.iload_n 3, 1) := by decide +kernel
theorem d_Lw_law_307 : decode code 307 = .ok (.iconst 1, 1) := by decide +kernel
theorem d_Lw_law_308 : decode code 308 = .ok (.iadd, 1) := by decide +kernel
theorem d_Lw_law_309 : decode code 309 = .ok (.iaload, 1) := by decide +kernel
theorem d_Lw_law_310 : decode code 310 = .ok (.invokevirtual 41, 3) := by decide +kernel
theorem d_Lw_law_313 : decode code 313 = .ok (.aload_n 2, 1) := by decide +kernel
theorem d_Lw_law_314 : decode code 314 = .ok (.aload_n 0, 1) := by decide +kernel
theorem d_Lw_law_315 : decode code 315 = .ok (.iload_n 3, 1) := by decide +kernel
theorem d_Lw_law_316 : decode code 316 = .ok (.iconst 1, 1) := by decide +kernel
theorem d_Lw_law_317 : decode code 317 = .ok (.iadd, 1) := by decide +kernel
theorem d_Lw_law_318 : decode code 318 = .ok (.iaload, 1) := by decide +kernel
theorem d_Lw_law_319 : decode code 319 = .ok (.invokevirtual 44, 3) := by decide +kernel
theorem d_Lw_law_322 : decode code 322 = .ok (.if_icmp .eq 130, 3) := by decide +kernel
theorem d_Lw_law_325 : decode code 325 = .ok (.iconst 0, 1) := by decide +kernel
theorem d_Lw_law_326 : decode code 326 = .ok (.ireturn, 1) := by decide +kernel
theorem d_Lw_law_327 : decode code 327 = .ok (.aload_n 1, 1) := by decide +kernel
theorem d_Lw_law_328 : decode code 328 = .ok (.aload_n 0, 1) := by decide +kernel
theorem d_Lw_law_329 : decode code 329 = .ok (.iload_n 3, 1) := by decide +kernel
theorem d_Lw_law_330 : decode code 330 = .ok (.iconst 1, 1) := by decide +kernel
theorem d_Lw_law_331 : decode code 331 = .ok (.iadd, 1) := by decide +kernel
theorem d_Lw_law_332 : decode code 332 = .ok (.iaload, 1) := by decide +kernel
theorem d_Lw_law_333 : decode code 333 = .ok (.invokevirtual 45, 3) := by decide +kernel
theorem d_Lw_law_336 : decode code 336 = .ok (.aload_n 2, 1) := by decide +kernel
theorem d_Lw_law_337 : decode code 337 = .ok (.aload_n 0, 1) := by decide +kernel
theorem d_Lw_law_338 : decode code 338 = .ok (.iload_n 3, 1) := by decide +kernel
theorem d_Lw_law_339 : decode code 339 = .ok (.iconst 1, 1) := by decide +kernel
theorem d_Lw_law_340 : decode code 340 = .ok (.iadd, 1) := by decide +kernel
theorem d_Lw_law_341 : decode code 341 = .ok (.iaload, 1) := by decide +kernel
theorem d_Lw_law_342 : decode code 342 = .ok (.invokevirtual 48, 3) := by decide +kernel
theorem d_Lw_law_345 : decode code 345 = .ok (.if_icmp .eq 107, 3) := by decide +kernel
theorem d_Lw_law_348 : decode code 348 = .ok (.iconst 0, 1) := by decide +kernel
theorem d_Lw_law_349 : decode code 349 = .ok (.ireturn, 1) := by decide +kernel
theorem d_Lw_law_350 : decode code 350 = .ok (.aload_n 1, 1) := by decide +kernel
theorem d_Lw_law_351 : decode code 351 = .ok (.aload_n 0, 1) := by decide +kernel
theorem d_Lw_law_352 : decode code 352 = .ok (.iload_n 3, 1) := by decide +kernel
theorem d_Lw_law_353 : decode code 353 = .ok (.iconst 1, 1) := by decide +kernel
theorem d_Lw_law_354 : decode code 354 = .ok (.iadd, 1) := by decide +kernel
theorem d_Lw_law_355 : decode code 355 = .ok (.iaload, 1) := by decide +kernel
theorem d_Lw_law_356 : decode code 356 = .ok (.aload_n 0, 1) := by decide +kernel
theorem d_Lw_law_357 : decode code 357 = .ok (.iload_n 3, 1) := by decide +kernel
theorem d_Lw_law_358 : decode code 358 = .ok (.iconst 2, 1) := by decide +kernel
theorem d_Lw_law_359 : decode code 359 = .ok (.iadd, 1) := by decide +kernel
theorem d_Lw_law_360 : decode code 360 = .ok (.iaload, 1) := by decide +kernel
theorem d_Lw_law_361 : decode code 361 = .ok (.invokevirtual 49, 3) := by decide +kernel
theorem d_Lw_law_364 : decode code 364 = .ok (.aload_n 2, 1) := by decide +kernel
theorem d_Lw_law_365 : decode code 365 = .ok (.aload_n 0, 1) := by decide +kernel
theorem d_Lw_law_366 : decode code 366 = .ok (.iload_n 3, 1) := by decide +kernel
theorem d_Lw_law_367 : decode code 367 = .ok (.iconst 1, 1) := by decide +kernel
theorem d_Lw_law_368 : decode code 368 = .ok (.iadd, 1) := by decide +kernel
theorem d_Lw_law_369 : decode code 369 = .ok (.iaload, 1) := by decide +kernel
theorem d_Lw_law_370 : decode code 370 = .ok (.aload_n 0, 1) := by decide +kernel
theorem d_Lw_law_371 : decode code 371 = .ok (.iload_n 3, 1) := by decide +kernel
theorem d_Lw_law_372 : decode code 372 = .ok (.iconst 2, 1) := by decide +kernel
theorem d_Lw_law_373 : decode code 373 = .ok (.iadd, 1) := by decide +kernel
theorem d_Lw_law_374 : decode code 374 = .ok (.iaload, 1) := by decide +kernel
theorem d_Lw_law_375 : decode code 375 = .ok (.invokevirtual 52, 3) := by decide +kernel
theorem d_Lw_law_378 : decode code 378 = .ok (.if_icmp .eq 74, 3) := by decide +kernel
theorem d_Lw_law_381 : decode code 381 = .ok (.iconst 0, 1) := by decide +kernel
theorem d_Lw_law_382 : decode code 382 = .ok (.ireturn, 1) := by decide +kernel
theorem d_Lw_law_383 : decode code 383 = .ok (.aload_n 1, 1) := by decide +kernel
theorem d_Lw_law_384 : decode code 384 = .ok (.aload_n 0, 1) := by decide +kernel
theorem d_Lw_law_385 : decode code 385 = .ok (.iload_n 3, 1) := by decide +kernel
theorem d_Lw_law_386 : decode code 386 = .ok (.iconst 1, 1) := by decide +kernel
theorem d_Lw_law_387 : decode code 387 = .ok (.iadd, 1) := by decide +kernel
theorem d_Lw_law_388 : decode code 388 = .ok (.iaload, 1) := by decide +kernel
theorem d_Lw_law_389 : decode code 389 = .ok (.invokevirtual 53, 3) := by decide +kernel
theorem d_Lw_law_392 : decode code 392 = .ok (.aload_n 2, 1) := by decide +kernel
theorem d_Lw_law_393 : decode code 393 = .ok (.aload_n 0, 1) := by decide +kernel
theorem d_Lw_law_394 : decode code 394 = .ok (.iload_n 3, 1) := by decide +kernel
theorem d_Lw_law_395 : decode code 395 = .ok (.iconst 1, 1) := by decide +kernel
theorem d_Lw_law_396 : decode code 396 = .ok (.iadd, 1) := by decide +kernel
theorem d_Lw_law_397 : decode code 397 = .ok (.iaload, 1) := by decide +kernel
theorem d_Lw_law_398 : decode code 398 = .ok (.invokevirtual 56, 3) := by decide +kernel
theorem d_Lw_law_401 : decode code 401 = .ok (.if_icmp .eq 51, 3) := by decide +kernel
theorem d_Lw_law_404 : decode code 404 = .ok (.iconst 0, 1) := by decide +kernel
theorem d_Lw_law_405 : decode code 405 = .ok (.ireturn, 1) := by decide +kernel
theorem d_Lw_law_406 : decode code 406 = .ok (.aload_n 1, 1) := by decide +kernel
theorem d_Lw_law_407 : decode code 407 = .ok (.aload_n 0, 1) := by decide +kernel
theorem d_Lw_law_408 : decode code 408 = .ok (.iload_n 3, 1) := by decide +kernel
theorem d_Lw_law_409 : decode code 409 = .ok (.iconst 1, 1) := by decide +kernel
theorem d_Lw_law_410 : decode code 410 = .ok (.iadd, 1) := by decide +kernel
theorem d_Lw_law_411 : decode code 411 = .ok (.iaload, 1) := by decide +kernel
theorem d_Lw_law_412 : decode code 412 = .ok (.invokevirtual 57, 3) := by decide +kernel
theorem d_Lw_law_415 : decode code 415 = .ok (.aload_n 2, 1) := by decide +kernel
theorem d_Lw_law_416 : decode code 416 = .ok (.aload_n 0, 1) := by decide +kernel
theorem d_Lw_law_417 : decode code 417 = .ok (.iload_n 3, 1) := by decide +kernel
theorem d_Lw_law_418 : decode code 418 = .ok (.iconst 1, 1) := by decide +kernel
theorem d_Lw_law_419 : decode code 419 = .ok (.iadd, 1) := by decide +kernel
theorem d_Lw_law_420 : decode code 420 = .ok (.iaload, 1) := by decide +kernel
theorem d_Lw_law_421 : decode code 421 = .ok (.invokevirtual 60, 3) := by decide +kernel
theorem d_Lw_law_424 : decode code 424 = .ok (.if_icmp .eq 28, 3) := by decide +kernel
theorem d_Lw_law_427 : decode code 427 = .ok (.iconst 0, 1) := by decide +kernel
theorem d_Lw_law_428 : decode code 428 = .ok (.ireturn, 1) := by decide +kernel
theorem d_Lw_law_429 : decode code 429 = .ok (.aload_n 1, 1) := by decide +kernel
theorem d_Lw_law_430 : decode code 430 = .ok (.aload_n 0, 1) := by decide +kernel
theorem d_Lw_law_431 : decode code 431 = .ok (.iload_n 3, 1) := by decide +kernel
theorem d_Lw_law_432 : decode code 432 = .ok (.iconst 1, 1) := by decide +kernel
theorem d_Lw_law_433 : decode code 433 = .ok (.iadd, 1) := by decide +kernel
theorem d_Lw_law_434 : decode code 434 = .ok (.iaload, 1) := by decide +kernel
theorem d_Lw_law_435 : decode code 435 = .ok (.invokevirtual 61, 3) := by decide +kernel
theorem d_Lw_law_438 : decode code 438 = .ok (.aload_n 2, 1) := by decide +kernel
theorem d_Lw_law_439 : decode code 439 = .ok (.aload_n 0, 1) := by decide +kernel
theorem d_Lw_law_440 : decode code 440 = .ok (.iload_n 3, 1) := by decide +kernel
theorem d_Lw_law_441 : decode code 441 = .ok (.iconst 1, 1) := by decide +kernel
theorem d_Lw_law_442 : decode code 442 = .ok (.iadd, 1) := by decide +kernel
theorem d_Lw_law_443 : decode code 443 = .ok (.iaload, 1) := by decide +kernel
theorem d_Lw_law_444 : decode code 444 = .ok (.invokevirtual 64, 3) := by decide +kernel
theorem d_Lw_law_447 : decode code 447 = .ok (.if_icmp .eq 5, 3) := by decide +kernel
theorem d_Lw_law_450 : decode code 450 = .ok (.iconst 0, 1) := by decide +kernel
theorem d_Lw_law_451 : decode code 451 = .ok (.ireturn, 1) := by decide +kernel
theorem d_Lw_law_452 : decode code 452 = .ok (.iinc 3 5, 3) := by decide +kernel
theorem d_Lw_law_455 : decode code 455 = .ok (.goto (-437), 3) := by decide +kernel
theorem d_Lw_law_458 : decode code 458 = .ok (.iconst 1, 1) := by decide +kernel
theorem d_Lw_law_459 : decode code 459 = .ok (.ireturn, 1) := by decide +kernel
end
section
def EE : List zC := [.inl (5, [kr 1, kr 4, kr 8, kr 41, kr 50, ki, ki, ki, ki, kj]),
  .inl (4, [kr 2, kr 3, ki]),
  .inr (.inl (0, 8)),
  .inr (.inl (0, 8)),
  .inr (.inr (1, [some 5, some 6, some 7])),
  .inl (0, [ki, ki]),
  .inl (0, [ki, ki]),
  .inl (0, [ki, ki]),
  .inr (.inr (2, [some 9, some 13, some 17, some 21, some 25, some 29, some 33, some 37])),
  .inl (3, [ki, kr 10, ki, ki, ki, ki, ki, ki, ki, kj, ki, ki, ki, ki, ki, ki, ki]),
  .inl (2, [kr 11, kr 12, ki]),
  .inr (.inl (0, 8)),
  .inr (.inl (0, 8)),
  .inl (3, [ki, kr 14, ki, ki, ki, ki, ki, ki, ki, kj, ki, ki, ki, ki, ki, ki, ki]),
  .inl (2, [kr 15, kr 16, ki]),
  .inr (.inl (0, 8)),
  .inr (.inl (0, 8)),
  .inl (3, [ki, kr 18, ki, ki, ki, ki, ki, ki, ki, kj, ki, ki, ki, ki, ki, ki, ki]),
  .inl (2, [kr 19, kr 20, ki]),
  .inr (.inl (0, 8)),
  .inr (.inl (0, 8)),
  .inl (3, [ki, kr 22, ki, ki, ki, ki, ki, ki, ki, kj, ki, ki, ki, ki, ki, ki, ki]),
  .inl (2, [kr 23, kr 24, ki]),
  .inr (.inl (0, 8)),
  .inr (.inl (0, 8)),
  .inl (3, [ki, kr 26, ki, ki, ki, ki, ki, ki, ki, kj, ki, ki, ki, ki, ki, ki, ki]),
  .inl (2, [kr 27, kr 28, ki]),
  .inr (.inl (0, 8)),
  .inr (.inl (0, 8)),
  .inl (3, [ki, kr 30, ki, ki, ki, ki, ki, ki, ki, kj, ki, ki, ki, ki, ki, ki, ki]),
  .inl (2, [kr 31, kr 32, ki]),
  .inr (.inl (0, 8)),
  .inr (.inl (0, 8)),
  .inl (3, [ki, kr 34, ki, ki, ki, ki, ki, ki, ki, kj, ki, ki, ki, ki, ki, ki, ki]),
  .inl (2, [kr 35, kr 36, ki]),
  .inr (.inl (0, 8)),
  .inr (.inl (0, 8)),
  .inl (3, [ki, kr 38, ki, ki, ki, ki, ki, ki, ki, kj, ki, ki, ki, ki, ki, ki, ki]),
  .inl (2, [kr 39, kr 40, ki]),
  .inr (.inl (0, 8)),
  .inr (.inl (0, 8)),
  .inr (.inr (3, [some 42, some 44, some 46, some 48])),
  .inl (1, [kr 43, ki]),
  .inr (.inl (0, 4)),
  .inl (1, [kr 45, ki]),
  .inr (.inl (0, 4)),
  .inl (1, [kr 47, ki]),
  .inr (.inl (0, 4)),
  .inl (1, [kr 49, ki]),
  .inr (.inl (0, 4)),
  .inr (.inl (0, 4)),
  .inl (6, [kr 52, kr 53, ki, kr 54, kr 55, ki, kr 56, kr 57, kr 58, kr 59, kr 60, kr 61, kr 62, kr 63, kr 64, kr 65, kr 66, kr 67, kr 68, kr 69, kr 70, kr 71, kr 72, kr 73, ki, kr 74, kr 75, kr 76, ki, ki, ki]),
  .inr (.inl (0, 8)),
  .inr (.inl (0, 8)),
  .inr (.inl (0, 3)),
  .inr (.inl (0, 3)),
  .inr (.inl (0, 8)),
  .inr (.inl (0, 8)),
  .inr (.inl (0, 8)),
  .inr (.inl (0, 8)),
  .inr (.inl (0, 8)),
  .inr (.inl (0, 64)),
  .inr (.inl (0, 64)),
  .inr (.inl (0, 8)),
  .inr (.inl (0, 8)),
  .inr (.inl (0, 8)),
  .inr (.inl (0, 8)),
  .inr (.inl (0, 8)),
  .inr (.inl (0, 8)),
  .inr (.inl (0, 8)),
  .inr (.inl (0, 8)),
  .inr (.inl (0, 8)),
  .inr (.inl (0, 8)),
  .inr (.inl (0, 8)),
  .inr (.inl (0, 16)),
  .inr (.inl (0, 4)),
  .inr (.inl (0, 4))]
theorem e_A : EE[0]? = some (.inl (5, [kr 1, kr 4, kr 8, kr 41, kr 50, ki, ki, ki, ki, kj])) := rfl
theorem e_Wr : EE[1]? = some (.inl (4, [kr 2, kr 3, ki])) := rfl
theorem e_WrP : EE[2]? = some (.inr (.inl (0, 8))) := rfl
theorem e_WrE : EE[3]? = some (.inr (.inl (0, 8))) := rfl
theorem e_PA : EE[4]? = some (.inr (.inr (1, [some 5, some 6, some 7]))) := rfl
theorem e_P {j : Nat} (h : j < 3) : EE[5 + j]? = some (.inl (0, [ki, ki])) := by
  rcases (show j = 0 ∨ j = 1 ∨ j = 2 by omega) with rfl | rfl | rfl <;> rfl
theorem e_TA : EE[8]? = some (.inr (.inr (2, [some 9, some 13, some 17, some 21, some 25, some 29, some 33, some 37]))) := rfl
theorem e_K {j : Nat} (h : j < 8) : EE[9 + 4 * j]? = some (.inl (3, [ki, kr (10 + 4 * j), ki, ki, ki, ki, ki, ki, ki, kj, ki, ki, ki, ki, ki, ki, ki])) := by
  rcases (show j = 0 ∨ j = 1 ∨ j = 2 ∨ j = 3 ∨ j = 4 ∨ j = 5 ∨ j = 6 ∨ j = 7 by omega) with rfl | rfl | rfl | rfl | rfl | rfl | rfl | rfl <;> rfl
theorem e_G {j : Nat} (h : j < 8) : EE[10 + 4 * j]? = some (.inl (2, [kr (11 + 4 * j), kr (12 + 4 * j), ki])) := by
  rcases (show j = 0 ∨ j = 1 ∨ j = 2 ∨ j = 3 ∨ j = 4 ∨ j = 5 ∨ j = 6 ∨ j = 7 by omega) with rfl | rfl | rfl | rfl | rfl | rfl | rfl | rfl <;> rfl
theorem e_Or {j : Nat} (h : j < 8) : EE[11 + 4 * j]? = some (.inr (.inl (0, 8))) := by
  rcases (show j = 0 ∨ j = 1 ∨ j = 2 ∨ j = 3 ∨ j = 4 ∨ j = 5 ∨ j = 6 ∨ j = 7 by omega) with rfl | rfl | rfl | rfl | rfl | rfl | rfl | rfl <;> rfl
theorem e_Nu {j : Nat} (h : j < 8) : EE[12 + 4 * j]? = some (.inr (.inl (0, 8))) := by
  rcases (show j = 0 ∨ j = 1 ∨ j = 2 ∨ j = 3 ∨ j = 4 ∨ j = 5 ∨ j = 6 ∨ j = 7 by omega) with rfl | rfl | rfl | rfl | rfl | rfl | rfl | rfl <;> rfl
theorem e_OA : EE[41]? = some (.inr (.inr (3, [some 42, some 44, some 46, some 48]))) := rfl
theorem e_O {j : Nat} (h : j < 4) : EE[42 + 2 * j]? = some (.inl (1, [kr (43 + 2 * j), ki])) := by
  rcases (show j = 0 ∨ j = 1 ∨ j = 2 ∨ j = 3 by omega) with rfl | rfl | rfl | rfl <;> rfl
theorem e_Me {j : Nat} (h : j < 4) : EE[43 + 2 * j]? = some (.inr (.inl (0, 4))) := by
  rcases (show j = 0 ∨ j = 1 ∨ j = 2 ∨ j = 3 by omega) with rfl | rfl | rfl | rfl <;> rfl
theorem e_Se : EE[50]? = some (.inr (.inl (0, 4))) := rfl
theorem e_B : EE[51]? = some (.inl (6, [kr 52, kr 53, ki, kr 54, kr 55, ki, kr 56, kr 57, kr 58, kr 59, kr 60, kr 61, kr 62, kr 63, kr 64, kr 65, kr 66, kr 67, kr 68, kr 69, kr 70, kr 71, kr 72, kr 73, ki, kr 74, kr 75, kr 76, ki, ki, ki])) := rfl
theorem e_B_owner : EE[52]? = some (.inr (.inl (0, 8))) := rfl
theorem e_B_span : EE[53]? = some (.inr (.inl (0, 8))) := rfl
theorem e_B_state : EE[54]? = some (.inr (.inl (0, 3))) := rfl
theorem e_B_action : EE[55]? = some (.inr (.inl (0, 3))) := rfl
theorem e_B_partition : EE[56]? = some (.inr (.inl (0, 8))) := rfl
theorem e_B_priority : EE[57]? = some (.inr (.inl (0, 8))) := rfl
theorem e_B_period : EE[58]? = some (.inr (.inl (0, 8))) := rfl
theorem e_B_limit : EE[59]? = some (.inr (.inl (0, 8))) := rfl
theorem e_B_size : EE[60]? = some (.inr (.inl (0, 8))) := rfl
theorem e_B_order : EE[61]? = some (.inr (.inl (0, 64))) := rfl
theorem e_B_number : EE[62]? = some (.inr (.inl (0, 64))) := rfl
theorem e_B_is : EE[63]? = some (.inr (.inl (0, 8))) := rfl
theorem e_B_at : EE[64]? = some (.inr (.inl (0, 8))) := rfl
theorem e_B_worked : EE[65]? = some (.inr (.inl (0, 8))) := rfl
theorem e_B_rounds : EE[66]? = some (.inr (.inl (0, 8))) := rfl
theorem e_B_deadline : EE[67]? = some (.inr (.inl (0, 8))) := rfl
theorem e_B_missed : EE[68]? = some (.inr (.inl (0, 8))) := rfl
theorem e_B_skipped : EE[69]? = some (.inr (.inl (0, 8))) := rfl
theorem e_B_work : EE[70]? = some (.inr (.inl (0, 8))) := rfl
theorem e_B_letter : EE[71]? = some (.inr (.inl (0, 8))) := rfl
theorem e_B_next : EE[72]? = some (.inr (.inl (0, 8))) := rfl
theorem e_B_since : EE[73]? = some (.inr (.inl (0, 8))) := rfl
theorem e_B_message : EE[74]? = some (.inr (.inl (0, 16))) := rfl
theorem e_B_messages : EE[75]? = some (.inr (.inl (0, 4))) := rfl
theorem e_B_count : EE[76]? = some (.inr (.inl (0, 4))) := rfl
theorem g_PA_all : ∀ j, j < 3 → ([some 5, some 6, some 7] : List (Option Nat)).getD j none = some (5 + j) := by decide +kernel
theorem g_PA {j : Nat} (h : j < 3) : ([some 5, some 6, some 7] : List (Option Nat)).getD j none = some (5 + j) := g_PA_all j h
theorem g_TA_all : ∀ j, j < 8 → ([some 9, some 13, some 17, some 21, some 25, some 29, some 33, some 37] : List (Option Nat)).getD j none = some (9 + 4 * j) := by decide +kernel
theorem g_TA {j : Nat} (h : j < 8) : ([some 9, some 13, some 17, some 21, some 25, some 29, some 33, some 37] : List (Option Nat)).getD j none = some (9 + 4 * j) := g_TA_all j h
theorem g_OA_all : ∀ j, j < 4 → ([some 42, some 44, some 46, some 48] : List (Option Nat)).getD j none = some (42 + 2 * j) := by decide +kernel
theorem g_OA {j : Nat} (h : j < 4) : ([some 42, some 44, some 46, some 48] : List (Option Nat)).getD j none = some (42 + 2 * j) := g_OA_all j h
abbrev zt (cA : Nat → ClassId) : List (ClassId × FieldType) := [(cA 0, .int), (cA 1, .object "WindowPlan$Partition"), (cA 2, .object "WindowPlan$Task"), (cA 3, .object "WindowPlan$Port")]
abbrev zr (f n : Nat) : Room := { frames := f, cells := 0, slots := 0, locals := n }
abbrev Ci (l : Launch) (D : va_G) (cA : Nat → ClassId) (ad : Nat → Nat) (y : MethodName) (b : ByteArray) (nL : Nat) (ret : Option FieldType) (rm : Room) (as : List zA) (M : zM) (post : Int32 → zM → Prop) : Prop := zMi l D cls (zt cA) cA ad EE GG y b nL ret rm as M post
abbrev Cj (l : Launch) (D : va_G) (cA : Nat → ClassId) (ad : Nat → Nat) (y : MethodName) (b : ByteArray) (nL : Nat) (ret : Option FieldType) (rm : Room) (as : List zA) (M : zM) (post : Int64 → zM → Prop) : Prop := zMj l D cls (zt cA) cA ad EE GG y b nL ret rm as M post
abbrev Cv (l : Launch) (D : va_G) (cA : Nat → ClassId) (ad : Nat → Nat) (y : MethodName) (b : ByteArray) (nL : Nat) (ret : Option FieldType) (rm : Room) (as : List zA) (M : zM) (post : zM → Prop) : Prop := zMv l D cls (zt cA) cA ad EE GG y b nL ret rm as M post
abbrev Cq (l : Launch) (D : va_G) (cA : Nat → ClassId) (ad : Nat → Nat) (y : MethodName) (b : ByteArray) (nL : Nat) (ret : Option FieldType) (rm : Room) (as : List zA) (M : zM) (post : Option Nat → zM → Prop) : Prop := zMq l D cls (zt cA) cA ad EE GG y b nL ret rm as M post
end
section
/-! WHAT THE CLASS'S METHODS DO, over numbered memory. Cells: 0 the object (windows, partitions, tasks, ports, semaphores, 5 taskCount, 6 time, 7 lost, 8 idle, 9 turns: long), 1 the row of windows (2 size), 2 its partitions, 3 its ends, 5+i partition i (0 mode, 1 action), 9+4i task i (0 number, 2 partition, 3 priority, 4 period, 5 limit, 6 stage, 7 next, 8 ticksDone, 9 since: long, 10 rounds, 11 deadline, 12 missed, 13 skipped, 14 worked, 15 letter, 16 nextRelease), 10+4i its program (2 size), 11+4i orders, 12+4i numbers, 42+2i port i (1 size), 43+2i its messages, 50 semaphores. -/
def kRest (i : Nat) (M : zM) : zM := z_si (z_si (z_si (z_si M (9 + 4 * i) 6 0) (9 + 4 * i) 7 0) (9 + 4 * i) 8 0) (9 + 4 * i) 11 (-1)
def kReady (i : Nat) (t : Int64) (M : zM) : zM := z_sj (z_si M (9 + 4 * i) 6 1) (9 + 4 * i) 9 t
def kWait (i : Nat) (t : Int64) (M : zM) : zM := z_sj (z_si M (9 + 4 * i) 6 2) (9 + 4 * i) 9 t
def kAnew (i : Nat) (t : Int64) (M : zM) : zM := z_si (z_si (kReady i t M) (9 + 4 * i) 7 0) (9 + 4 * i) 8 0
def kDead (i : Nat) (tm : Int32) (M : zM) : Int32 := if M.1 (9 + 4 * i) 5 ≤ 0 then (-1) else tm + M.1 (9 + 4 * i) 5
def kRel1 (i : Nat) (M : zM) : zM := z_si M (9 + 4 * i) 10 (M.1 (9 + 4 * i) 10 + 1)
def kRel2 (i : Nat) (tm : Int32) (t : Int64) (M : zM) : zM := kAnew i t (z_si (kRel1 i M) (9 + 4 * i) 11 (kDead i tm (kRel1 i M)))
def kRel (i : Nat) (tm : Int32) (t : Int64) (M : zM) : zM := if (kRel2 i tm t M).1 (10 + 4 * i) 2 = 0 then kRest i (kRel2 i tm t M) else kRel2 i tm t M
def kAdv1 (i : Nat) (M : zM) : zM := z_si (z_si M (9 + 4 * i) 7 (M.1 (9 + 4 * i) 7 + 1)) (9 + 4 * i) 8 0
def kAdv (i : Nat) (M : zM) : zM := if (kAdv1 i M).1 (9 + 4 * i) 7 < (kAdv1 i M).1 (10 + 4 * i) 2 then kAdv1 i M else kRest i (kAdv1 i M)
def kWork1 (i : Nat) (M : zM) : zM := z_si M (9 + 4 * i) 14 (M.1 (9 + 4 * i) 14 + 1)
def kWork2 (i : Nat) (M : zM) : zM := z_si (kWork1 i M) (9 + 4 * i) 8 ((kWork1 i M).1 (9 + 4 * i) 8 + 1)
def kWork (i : Nat) (n : Int32) (M : zM) : zM := if (kWork2 i M).1 (9 + 4 * i) 8 < n then kWork2 i M else kAdv i (kWork2 i M)
/-- newTurn -/
def kTurn (M : zM) : zM := z_sj M 0 9 (M.2 0 9 + 1)
/-- does task i come before another -/
def kBef (M : zM) (i : Nat) : Option Nat → Prop
  | none => True
  | some j => if M.1 (9 + 4 * i) 3 = M.1 (9 + 4 * j) 3 then M.2 (9 + 4 * i) 9 < M.2 (9 + 4 * j) 9 else M.1 (9 + 4 * j) 3 < M.1 (9 + 4 * i) 3
/-- the first by rank among those of i, i+1 .. that P lets in, and b: k steps -/
noncomputable def kFst (P : Nat → Prop) (M : zM) : Nat → Nat → Option Nat → Option Nat
  | 0, _, b => b
  | k + 1, i, b => kFst P M k (i + 1) (@ite _ (P i ∧ kBef M i b) (Classical.propDecidable _) (some i) b)
def kIsReady (M : zM) (part : Int32) (i : Nat) : Prop := M.1 (9 + 4 * i) 2 = part ∧ M.1 (9 + 4 * i) 6 = 1
def kWaits (M : zM) (o n : Int32) (i : Nat) : Prop := M.1 (9 + 4 * i) 6 = 2 ∧ M.1 (11 + 4 * i) (M.1 (9 + 4 * i) 7).toNatClampNeg = o ∧ M.1 (12 + 4 * i) (M.1 (9 + 4 * i) 7).toNatClampNeg = n
/-- a step for each of i, i+1 ..: k steps -/
def kFor (f : Nat → zM → zM) : Nat → Nat → zM → zM
  | 0, _, M => M
  | k + 1, i, M => kFor f k (i + 1) (f i M)
def kRestOne (part : Int32) (i : Nat) (M : zM) : zM := if M.1 (9 + 4 * i) 2 = part then kRest i M else M
def kOnOne (part : Int32) (i : Nat) (M : zM) : zM := if M.1 (9 + 4 * i) 2 = part ∧ 0 < M.1 (9 + 4 * i) 4 then z_si M (9 + 4 * i) 16 (M.1 0 6) else M
def kDef (i : Nat) (a b c d : Int32) (M : zM) : zM := z_si (z_si (z_si (z_si M (9 + 4 * i) 2 a) (9 + 4 * i) 3 b) (9 + 4 * i) 4 c) (9 + 4 * i) 5 d
/-- state(what) of task i -/
def kTell (M : zM) (i : Nat) (w : Int32) : Int32 :=
  if w = 0 then M.1 (9 + 4 * i) 6 else if w = 1 then M.1 (9 + 4 * i) 7 else if w = 2 then M.1 (9 + 4 * i) 8 else if w = 3 then M.1 (9 + 4 * i) 10 else if w = 4 then M.1 (9 + 4 * i) 11
  else if w = 5 then M.1 (9 + 4 * i) 12 else if w = 6 then M.1 (9 + 4 * i) 13 else if w = 7 then M.1 (9 + 4 * i) 14 else if w = 8 then M.1 (9 + 4 * i) 15 else if w = 9 then M.1 (9 + 4 * i) 16 else (-1)
theorem h_lt_of {x y : Int64} (h : ¬ 0 ≤ lg_cmp x y) : x < y := by
  rw [lg_cmp_ge, Int64.le_iff_toInt_le] at h
  rw [Int64.lt_iff_toInt_lt]
  omega
theorem h_nlt_of {x y : Int64} (h : 0 ≤ lg_cmp x y) : ¬ x < y := by
  rw [lg_cmp_ge, Int64.le_iff_toInt_le] at h
  rw [Int64.lt_iff_toInt_lt]
  omega
def kAllOff (M : zM) : Prop := M.1 (5 + 0) 0 = 0 ∧ M.1 (5 + 1) 0 = 0 ∧ M.1 (5 + 2) 0 = 0
/-- Math.floorMod -/
def kMod (x y : Int32) : Int32 := if 0 ≤ x ^^^ y then x - x / y * y else if x - x / y * y = 0 then x - x / y * y else x - x / y * y + y
/-- indexOf: k windows at most are passed from i on -/
def kIx (M : zM) (off : Int32) : Nat → Nat → Nat
  | 0, i => i
  | k + 1, i => if off < M.1 3 i then i else kIx M off k (i + 1)
theorem kIx_le (M : zM) (off : Int32) : ∀ k i, kIx M off k i ≤ i + k
  | 0, i => Nat.le_refl i
  | k + 1, i => by
    have h := kIx_le M off k (i + 1)
    show (if off < M.1 3 i then i else kIx M off k (i + 1)) ≤ i + (k + 1)
    split <;> omega
def kOff (M : zM) (w : Nat) (t : Int32) : Int32 := kMod t (M.1 3 (w - 1))
def kIdx (M : zM) (w : Nat) (t : Int32) : Nat := kIx M (kOff M w t) (w - 1) 0
def kPartAt (M : zM) (w : Nat) (t : Int32) : Int32 := if w = 0 then (-1) else M.1 2 (kIdx M w t)
def kLeftAt (M : zM) (w : Nat) (t : Int32) : Int32 := if w = 0 then 0 else M.1 3 (kIdx M w t) - kOff M w t
theorem kIdx_lt (M : zM) {w : Nat} (h0 : w ≠ 0) (t : Int32) : kIdx M w t < w := by
  have := kIx_le M (kOff M w t) (w - 1) 0
  unfold kIdx
  omega
def kGadd (i n : Nat) (a b : Int32) (M : zM) : zM := z_si (z_si (z_si M (11 + 4 * i) n a) (12 + 4 * i) n b) (10 + 4 * i) 2 (nI (n + 1))
def kPut (q n : Nat) (x : Int32) (M : zM) : zM := z_si (z_si M (43 + 2 * q) n x) (42 + 2 * q) 1 (nI (n + 1))
/-- one step of the shifting in takeOldest -/
def kSh (q : Nat) (i : Nat) (M : zM) : zM := z_si M (43 + 2 * q) i (M.1 (43 + 2 * q) (i + 1))
def kTake (q n : Nat) (M : zM) : zM := kFor (kSh q) (n - 1) 0 (z_si M (42 + 2 * q) 1 (nI (n - 1)))
def kEnd (M : zM) (n : Nat) (x : Int32) : Int32 := if n = 0 then x else M.1 3 (n - 1) + x
def kWadd (n : Nat) (a x : Int32) (M : zM) : zM := z_si (z_si (z_si M 3 n (kEnd M n x)) 2 n a) 1 2 (nI (n + 1))
theorem kRest_0 (i : Nat) (M : zM) : (kRest i M).1 0 = M.1 0 := by
  unfold kRest
  rw [z_si_row _ _ _ (by omega), z_si_row _ _ _ (by omega), z_si_row _ _ _ (by omega), z_si_row _ _ _ (by omega)]
theorem nI_z {n : Nat} (h : n < 2 ^ 31) (q : nI n = 0) : n = 0 := by
  rcases Nat.eq_zero_or_pos n with h0 | h0
  · exact h0
  · exact absurd q (nI_ne0 h0 h)
theorem nI_m1 {n : Nat} (h : n ≠ 0) : nI n - 1 = nI (n - 1) := by
  obtain ⟨m, rfl⟩ : ∃ m, n = m + 1 := ⟨n - 1, by omega⟩
  exact nI_pred m
end
section
set_option maxHeartbeats 4000000 in
set_option maxRecDepth 100000 in
theorem c_K_rest (l : Launch) (D : va_G) (cA : Nat → ClassId) (ad : Nat → Nat) (M : zM) (i : Nat) (hi : i < 8) : Cv l D cA ad y_K_rest b_K_rest 1 none (zr 0 0) [zR (9 + 4 * i)] M (fun M' => M' = kRest i M) := by
  refine zMv_of (plainFor_of_name (by decide)) (Nat.le_of_ble_eq_true rfl) ?_
  intro p e s m args below meth c A X
  refine z_aload_n X 0 d_K_rest_0 rfl rfl ?_
  refine z_iconst X (v := 0) d_K_rest_1 (by decide) ?_
  refine z_puti X fl_K_18 (9 + 4 * i) (e_K hi) rfl rfl rfl d_K_rest_2 ?_
  refine z_aload_n X 0 d_K_rest_5 rfl rfl ?_
  refine z_iconst X (v := 0) d_K_rest_6 (by decide) ?_
  refine z_puti X fl_K_59 (9 + 4 * i) (e_K hi) rfl rfl rfl d_K_rest_7 ?_
  refine z_aload_n X 0 d_K_rest_10 rfl rfl ?_
  refine z_iconst X (v := 0) d_K_rest_11 (by decide) ?_
  refine z_puti X fl_K_62 (9 + 4 * i) (e_K hi) rfl rfl rfl d_K_rest_12 ?_
  refine z_aload_n X 0 d_K_rest_15 rfl rfl ?_
  refine z_iconst X (v := (-1)) d_K_rest_16 (by decide) ?_
  refine z_puti X fl_K_22 (9 + 4 * i) (e_K hi) rfl rfl rfl d_K_rest_17 ?_
  exact z_vret X rfl d_K_rest_20

set_option maxHeartbeats 4000000 in
set_option maxRecDepth 100000 in
theorem c_K_becomeReady (l : Launch) (D : va_G) (cA : Nat → ClassId) (ad : Nat → Nat) (M : zM) (i : Nat) (hi : i < 8) (t : Int64) : Cv l D cA ad y_K_becomeReady b_K_becomeReady 3 none (zr 0 0) [zR (9 + 4 * i), zJ t] M (fun M' => M' = kReady i t M) := by
  refine zMv_of (plainFor_of_name (by decide)) (Nat.le_of_ble_eq_true rfl) ?_
  intro p e s m args below meth c A X
  refine z_aload_n X 0 d_K_becomeReady_0 rfl rfl ?_
  refine z_iconst X (v := 1) d_K_becomeReady_1 (by decide) ?_
  refine z_puti X fl_K_18 (9 + 4 * i) (e_K hi) rfl rfl rfl d_K_becomeReady_2 ?_
  refine z_aload_n X 0 d_K_becomeReady_5 rfl rfl ?_
  refine z_lload_n X 1 d_K_becomeReady_6 rfl rfl ?_
  refine z_putj X fl_K_65 (9 + 4 * i) (e_K hi) rfl d_K_becomeReady_7 ?_
  exact z_vret X rfl d_K_becomeReady_10

set_option maxHeartbeats 4000000 in
set_option maxRecDepth 100000 in
theorem c_K_becomeWaiting (l : Launch) (D : va_G) (cA : Nat → ClassId) (ad : Nat → Nat) (M : zM) (i : Nat) (hi : i < 8) (t : Int64) : Cv l D cA ad y_K_becomeWaiting b_K_becomeWaiting 3 none (zr 0 0) [zR (9 + 4 * i), zJ t] M (fun M' => M' = kWait i t M) := by
  refine zMv_of (plainFor_of_name (by decide)) (Nat.le_of_ble_eq_true rfl) ?_
  intro p e s m args below meth c A X
  refine z_aload_n X 0 d_K_becomeWaiting_0 rfl rfl ?_
  refine z_iconst X (v := 2) d_K_becomeWaiting_1 (by decide) ?_
  refine z_puti X fl_K_18 (9 + 4 * i) (e_K hi) rfl rfl rfl d_K_becomeWaiting_2 ?_
  refine z_aload_n X 0 d_K_becomeWaiting_5 rfl rfl ?_
  refine z_lload_n X 1 d_K_becomeWaiting_6 rfl rfl ?_
  refine z_putj X fl_K_65 (9 + 4 * i) (e_K hi) rfl d_K_becomeWaiting_7 ?_
  exact z_vret X rfl d_K_becomeWaiting_10

set_option maxHeartbeats 4000000 in
set_option maxRecDepth 100000 in
theorem c_K_beginAnew (l : Launch) (D : va_G) (cA : Nat → ClassId) (ad : Nat → Nat) (M : zM) (i : Nat) (hi : i < 8) (t : Int64) : Cv l D cA ad y_K_beginAnew b_K_beginAnew 3 none (zr 1 22) [zR (9 + 4 * i), zJ t] M (fun M' => M' = kAnew i t M) := by
  refine zMv_of (plainFor_of_name (by decide)) (Nat.le_of_ble_eq_true rfl) ?_
  intro p e s m args below meth c A X
  refine z_aload_n X 0 d_K_beginAnew_0 rfl rfl ?_
  refine z_lload_n X 1 d_K_beginAnew_1 rfl rfl ?_
  refine z_Vv X GG_ok cf_K_56 (9 + 4 * i) [zJ t] [] (c_K_becomeReady l D cA ad _ i hi _) ⟨rfl, rfl⟩ (by decide) (e_K hi) rfl rfl rfl rfl (Nat.le_of_ble_eq_true rfl) ⟨Nat.zero_le _, Nat.zero_le _⟩ d_K_beginAnew_2 (fun M2 h3 => ?_)
  have qh3 := h3.symm
  subst qh3
  refine z_aload_n X 0 d_K_beginAnew_5 rfl rfl ?_
  refine z_iconst X (v := 0) d_K_beginAnew_6 (by decide) ?_
  refine z_puti X fl_K_59 (9 + 4 * i) (e_K hi) rfl rfl rfl d_K_beginAnew_7 ?_
  refine z_aload_n X 0 d_K_beginAnew_10 rfl rfl ?_
  refine z_iconst X (v := 0) d_K_beginAnew_11 (by decide) ?_
  refine z_puti X fl_K_62 (9 + 4 * i) (e_K hi) rfl rfl rfl d_K_beginAnew_12 ?_
  exact z_vret X rfl d_K_beginAnew_15

set_option maxHeartbeats 4000000 in
set_option maxRecDepth 100000 in
theorem c_K_release (l : Launch) (D : va_G) (cA : Nat → ClassId) (ad : Nat → Nat) (M : zM) (i : Nat) (hi : i < 8) (tm : Int32) (t : Int64) : Cv l D cA ad y_K_release b_K_release 4 none (zr 2 44) [zR (9 + 4 * i), zI tm, zJ t] M (fun M' => M' = kRel i tm t M) := by
  refine zMv_of (plainFor_of_name (by decide)) (Nat.le_of_ble_eq_true rfl) ?_
  intro p e s m args below meth c A X
  refine z_aload_n X 0 d_K_release_0 rfl rfl ?_
  refine z_dup X d_K_release_1 rfl ?_
  refine z_get X fl_K_43 (9 + 4 * i) (e_K hi) rfl rfl d_K_release_2 ?_
  refine z_iconst X (v := 1) d_K_release_5 (by decide) ?_
  refine z_iadd X d_K_release_6 ?_
  refine z_puti X fl_K_43 (9 + 4 * i) (e_K hi) rfl rfl rfl d_K_release_7 ?_
  refine z_aload_n X 0 d_K_release_10 rfl rfl ?_
  refine z_aload_n X 0 d_K_release_11 rfl rfl ?_
  refine z_get X fl_K_40 (9 + 4 * i) (e_K hi) rfl rfl d_K_release_12 ?_
  refine z_if_le X 27 d_K_release_15 (by decide) (fun c_15 => ?_) (fun c_15 => ?_)
  · refine z_iconst X (v := (-1)) d_K_release_27 (by decide) ?_
    refine z_puti X fl_K_22 (9 + 4 * i) (e_K hi) rfl rfl rfl d_K_release_28 ?_
    refine z_aload_n X 0 d_K_release_31 rfl rfl ?_
    refine z_lload_n X 2 d_K_release_32 rfl rfl ?_
    refine z_Vv X GG_ok cf_K_46 (9 + 4 * i) [zJ t] [] (c_K_beginAnew l D cA ad _ i hi _) ⟨rfl, rfl⟩ (by decide) (e_K hi) rfl rfl rfl rfl (Nat.le_of_ble_eq_true rfl) ⟨Nat.zero_le _, Nat.zero_le _⟩ d_K_release_33 (fun M2 h3 => ?_)
    have qh3 := h3.symm
    subst qh3
    refine z_aload_n X 0 d_K_release_36 rfl rfl ?_
    refine z_get X fl_K_12 (9 + 4 * i) (e_K hi) rfl rfl d_K_release_37 ?_
    refine z_get X fl_K_50 (10 + 4 * i) (e_G hi) rfl rfl d_K_release_40 ?_
    refine z_if_ne X 50 d_K_release_43 (by decide) (fun c_43 => ?_) (fun c_43 => ?_)
    · exact z_vret X (by simp only [kRel, kRel2, kRel1, kDead, c_15, c_43, if_true, if_false]) d_K_release_50
    · refine z_aload_n X 0 d_K_release_46 rfl rfl ?_
      refine z_Vv X GG_ok cf_K_53 (9 + 4 * i) [] [] (c_K_rest l D cA ad _ i hi ) ⟨rfl, rfl⟩ (by decide) (e_K hi) rfl rfl rfl rfl (Nat.le_of_ble_eq_true rfl) ⟨Nat.zero_le _, Nat.zero_le _⟩ d_K_release_47 (fun M5 h6 => ?_)
      have qh6 := h6.symm
      subst qh6
      exact z_vret X (by simp only [kRel, kRel2, kRel1, kDead, c_15, c_43, if_true, if_false]) d_K_release_50
  · refine z_iload_n X 1 d_K_release_18 rfl rfl ?_
    refine z_aload_n X 0 d_K_release_19 rfl rfl ?_
    refine z_get X fl_K_40 (9 + 4 * i) (e_K hi) rfl rfl d_K_release_20 ?_
    refine z_iadd X d_K_release_23 ?_
    refine z_goto X 28 d_K_release_24 (by decide) ?_
    refine z_puti X fl_K_22 (9 + 4 * i) (e_K hi) rfl rfl rfl d_K_release_28 ?_
    refine z_aload_n X 0 d_K_release_31 rfl rfl ?_
    refine z_lload_n X 2 d_K_release_32 rfl rfl ?_
    refine z_Vv X GG_ok cf_K_46 (9 + 4 * i) [zJ t] [] (c_K_beginAnew l D cA ad _ i hi _) ⟨rfl, rfl⟩ (by decide) (e_K hi) rfl rfl rfl rfl (Nat.le_of_ble_eq_true rfl) ⟨Nat.zero_le _, Nat.zero_le _⟩ d_K_release_33 (fun M8 h9 => ?_)
    have qh9 := h9.symm
    subst qh9
    refine z_aload_n X 0 d_K_release_36 rfl rfl ?_
    refine z_get X fl_K_12 (9 + 4 * i) (e_K hi) rfl rfl d_K_release_37 ?_
    refine z_get X fl_K_50 (10 + 4 * i) (e_G hi) rfl rfl d_K_release_40 ?_
    refine z_if_ne X 50 d_K_release_43 (by decide) (fun c_43_10 => ?_) (fun c_43_10 => ?_)
    · exact z_vret X (by simp only [kRel, kRel2, kRel1, kDead, c_15, c_43_10, if_true, if_false]) d_K_release_50
    · refine z_aload_n X 0 d_K_release_46 rfl rfl ?_
      refine z_Vv X GG_ok cf_K_53 (9 + 4 * i) [] [] (c_K_rest l D cA ad _ i hi ) ⟨rfl, rfl⟩ (by decide) (e_K hi) rfl rfl rfl rfl (Nat.le_of_ble_eq_true rfl) ⟨Nat.zero_le _, Nat.zero_le _⟩ d_K_release_47 (fun M12 h13 => ?_)
      have qh13 := h13.symm
      subst qh13
      exact z_vret X (by simp only [kRel, kRel2, kRel1, kDead, c_15, c_43_10, if_true, if_false]) d_K_release_50

set_option maxHeartbeats 4000000 in
set_option maxRecDepth 100000 in
theorem c_K_advance (l : Launch) (D : va_G) (cA : Nat → ClassId) (ad : Nat → Nat) (M : zM) (i : Nat) (hi : i < 8) : Cv l D cA ad y_K_advance b_K_advance 1 none (zr 1 20) [zR (9 + 4 * i)] M (fun M' => M' = kAdv i M) := by
  refine zMv_of (plainFor_of_name (by decide)) (Nat.le_of_ble_eq_true rfl) ?_
  intro p e s m args below meth c A X
  refine z_aload_n X 0 d_K_advance_0 rfl rfl ?_
  refine z_dup X d_K_advance_1 rfl ?_
  refine z_get X fl_K_59 (9 + 4 * i) (e_K hi) rfl rfl d_K_advance_2 ?_
  refine z_iconst X (v := 1) d_K_advance_5 (by decide) ?_
  refine z_iadd X d_K_advance_6 ?_
  refine z_puti X fl_K_59 (9 + 4 * i) (e_K hi) rfl rfl rfl d_K_advance_7 ?_
  refine z_aload_n X 0 d_K_advance_10 rfl rfl ?_
  refine z_iconst X (v := 0) d_K_advance_11 (by decide) ?_
  refine z_puti X fl_K_62 (9 + 4 * i) (e_K hi) rfl rfl rfl d_K_advance_12 ?_
  refine z_aload_n X 0 d_K_advance_15 rfl rfl ?_
  refine z_get X fl_K_59 (9 + 4 * i) (e_K hi) rfl rfl d_K_advance_16 ?_
  refine z_aload_n X 0 d_K_advance_19 rfl rfl ?_
  refine z_get X fl_K_12 (9 + 4 * i) (e_K hi) rfl rfl d_K_advance_20 ?_
  refine z_get X fl_K_50 (10 + 4 * i) (e_G hi) rfl rfl d_K_advance_23 ?_
  refine z_icmp_lt X 33 d_K_advance_26 (by decide) (fun c_26 => ?_) (fun c_26 => ?_)
  · exact z_vret X (by simp only [kAdv, kAdv1, c_26, if_true, if_false]) d_K_advance_33
  · refine z_aload_n X 0 d_K_advance_29 rfl rfl ?_
    refine z_Vv X GG_ok cf_K_53 (9 + 4 * i) [] [] (c_K_rest l D cA ad _ i hi ) ⟨rfl, rfl⟩ (by decide) (e_K hi) rfl rfl rfl rfl (Nat.le_of_ble_eq_true rfl) ⟨Nat.zero_le _, Nat.zero_le _⟩ d_K_advance_30 (fun M2 h3 => ?_)
    have qh3 := h3.symm
    subst qh3
    exact z_vret X (by simp only [kAdv, kAdv1, c_26, if_true, if_false]) d_K_advance_33

set_option maxHeartbeats 4000000 in
set_option maxRecDepth 100000 in
theorem c_K_work (l : Launch) (D : va_G) (cA : Nat → ClassId) (ad : Nat → Nat) (M : zM) (i : Nat) (hi : i < 8) (n : Int32) : Cv l D cA ad y_K_work b_K_work 2 none (zr 2 40) [zR (9 + 4 * i), zI n] M (fun M' => M' = kWork i n M) := by
  refine zMv_of (plainFor_of_name (by decide)) (Nat.le_of_ble_eq_true rfl) ?_
  intro p e s m args below meth c A X
  refine z_aload_n X 0 d_K_work_0 rfl rfl ?_
  refine z_dup X d_K_work_1 rfl ?_
  refine z_get X fl_K_69 (9 + 4 * i) (e_K hi) rfl rfl d_K_work_2 ?_
  refine z_iconst X (v := 1) d_K_work_5 (by decide) ?_
  refine z_iadd X d_K_work_6 ?_
  refine z_puti X fl_K_69 (9 + 4 * i) (e_K hi) rfl rfl rfl d_K_work_7 ?_
  refine z_aload_n X 0 d_K_work_10 rfl rfl ?_
  refine z_dup X d_K_work_11 rfl ?_
  refine z_get X fl_K_62 (9 + 4 * i) (e_K hi) rfl rfl d_K_work_12 ?_
  refine z_iconst X (v := 1) d_K_work_15 (by decide) ?_
  refine z_iadd X d_K_work_16 ?_
  refine z_puti X fl_K_62 (9 + 4 * i) (e_K hi) rfl rfl rfl d_K_work_17 ?_
  refine z_aload_n X 0 d_K_work_20 rfl rfl ?_
  refine z_get X fl_K_62 (9 + 4 * i) (e_K hi) rfl rfl d_K_work_21 ?_
  refine z_iload_n X 1 d_K_work_24 rfl rfl ?_
  refine z_icmp_lt X 32 d_K_work_25 (by decide) (fun c_25 => ?_) (fun c_25 => ?_)
  · exact z_vret X (by simp only [kWork, kWork2, kWork1, c_25, if_true, if_false]) d_K_work_32
  · refine z_aload_n X 0 d_K_work_28 rfl rfl ?_
    refine z_Vv X GG_ok cf_K_72 (9 + 4 * i) [] [] (c_K_advance l D cA ad _ i hi ) ⟨rfl, rfl⟩ (by decide) (e_K hi) rfl rfl rfl rfl (Nat.le_of_ble_eq_true rfl) ⟨Nat.zero_le _, Nat.zero_le _⟩ d_K_work_29 (fun M2 h3 => ?_)
    have qh3 := h3.symm
    subst qh3
    exact z_vret X (by simp only [kWork, kWork2, kWork1, c_25, if_true, if_false]) d_K_work_32

set_option maxHeartbeats 4000000 in
set_option maxRecDepth 100000 in
theorem c_K_define (l : Launch) (D : va_G) (cA : Nat → ClassId) (ad : Nat → Nat) (M : zM) (i : Nat) (hi : i < 8) (a b d q : Int32) : Cv l D cA ad y_K_define b_K_define 5 none (zr 0 0) [zR (9 + 4 * i), zI a, zI b, zI d, zI q] M (fun M' => M' = kDef i a b d q M) := by
  refine zMv_of (plainFor_of_name (by decide)) (Nat.le_of_ble_eq_true rfl) ?_
  intro p e s m args below meth c A X
  refine z_aload_n X 0 d_K_define_0 rfl rfl ?_
  refine z_iload_n X 1 d_K_define_1 rfl rfl ?_
  refine z_puti X fl_K_31 (9 + 4 * i) (e_K hi) rfl rfl rfl d_K_define_2 ?_
  refine z_aload_n X 0 d_K_define_5 rfl rfl ?_
  refine z_iload_n X 2 d_K_define_6 rfl rfl ?_
  refine z_puti X fl_K_34 (9 + 4 * i) (e_K hi) rfl rfl rfl d_K_define_7 ?_
  refine z_aload_n X 0 d_K_define_10 rfl rfl ?_
  refine z_iload_n X 3 d_K_define_11 rfl rfl ?_
  refine z_puti X fl_K_37 (9 + 4 * i) (e_K hi) rfl rfl rfl d_K_define_12 ?_
  refine z_aload_n X 0 d_K_define_15 rfl rfl ?_
  refine z_iload X 4 d_K_define_16 rfl ?_
  refine z_puti X fl_K_40 (9 + 4 * i) (e_K hi) rfl rfl rfl d_K_define_18 ?_
  exact z_vret X rfl d_K_define_21
end
section
set_option maxHeartbeats 4000000 in
set_option maxRecDepth 100000 in
theorem c_K_tell (l : Launch) (D : va_G) (cA : Nat → ClassId) (ad : Nat → Nat) (M : zM) (i : Nat) (hi : i < 8) (x : Int32) : Ci l D cA ad y_K_tell b_K_tell 2 (some (.int)) (zr 0 0) [zR (9 + 4 * i), zI x] M (fun r M' => M' = M ∧ r = kTell M i x) := by
  refine zMi_of (plainFor_of_name (by decide)) (Nat.le_of_ble_eq_true rfl) ?_
  intro p e s m args below meth c A X
  refine z_iload_n X 1 d_K_tell_0 rfl rfl ?_
  by_cases s1_0 : x = 0
  · refine z_tabIn X 56 d_K_tell_1 (by rw [s1_0]; decide) (by rw [s1_0]; decide) (by rw [s1_0]; rfl) (by decide) ?_
    refine z_aload_n X 0 d_K_tell_56 rfl rfl ?_
    refine z_get X fl_K_18 (9 + 4 * i) (e_K hi) rfl rfl d_K_tell_57 ?_
    exact z_iret X (⟨rfl, by rw [kTell, if_pos s1_0]⟩) d_K_tell_60
  by_cases s1_1 : x = 1
  · refine z_tabIn X 61 d_K_tell_1 (by rw [s1_1]; decide) (by rw [s1_1]; decide) (by rw [s1_1]; rfl) (by decide) ?_
    refine z_aload_n X 0 d_K_tell_61 rfl rfl ?_
    refine z_get X fl_K_59 (9 + 4 * i) (e_K hi) rfl rfl d_K_tell_62 ?_
    exact z_iret X (⟨rfl, by rw [kTell, if_neg s1_0, if_pos s1_1]⟩) d_K_tell_65
  by_cases s1_2 : x = 2
  · refine z_tabIn X 66 d_K_tell_1 (by rw [s1_2]; decide) (by rw [s1_2]; decide) (by rw [s1_2]; rfl) (by decide) ?_
    refine z_aload_n X 0 d_K_tell_66 rfl rfl ?_
    refine z_get X fl_K_62 (9 + 4 * i) (e_K hi) rfl rfl d_K_tell_67 ?_
    exact z_iret X (⟨rfl, by rw [kTell, if_neg s1_0, if_neg s1_1, if_pos s1_2]⟩) d_K_tell_70
  by_cases s1_3 : x = 3
  · refine z_tabIn X 71 d_K_tell_1 (by rw [s1_3]; decide) (by rw [s1_3]; decide) (by rw [s1_3]; rfl) (by decide) ?_
    refine z_aload_n X 0 d_K_tell_71 rfl rfl ?_
    refine z_get X fl_K_43 (9 + 4 * i) (e_K hi) rfl rfl d_K_tell_72 ?_
    exact z_iret X (⟨rfl, by rw [kTell, if_neg s1_0, if_neg s1_1, if_neg s1_2, if_pos s1_3]⟩) d_K_tell_75
  by_cases s1_4 : x = 4
  · refine z_tabIn X 76 d_K_tell_1 (by rw [s1_4]; decide) (by rw [s1_4]; decide) (by rw [s1_4]; rfl) (by decide) ?_
    refine z_aload_n X 0 d_K_tell_76 rfl rfl ?_
    refine z_get X fl_K_22 (9 + 4 * i) (e_K hi) rfl rfl d_K_tell_77 ?_
    exact z_iret X (⟨rfl, by rw [kTell, if_neg s1_0, if_neg s1_1, if_neg s1_2, if_neg s1_3, if_pos s1_4]⟩) d_K_tell_80
  by_cases s1_5 : x = 5
  · refine z_tabIn X 81 d_K_tell_1 (by rw [s1_5]; decide) (by rw [s1_5]; decide) (by rw [s1_5]; rfl) (by decide) ?_
    refine z_aload_n X 0 d_K_tell_81 rfl rfl ?_
    refine z_get X fl_K_82 (9 + 4 * i) (e_K hi) rfl rfl d_K_tell_82 ?_
    exact z_iret X (⟨rfl, by rw [kTell, if_neg s1_0, if_neg s1_1, if_neg s1_2, if_neg s1_3, if_neg s1_4, if_pos s1_5]⟩) d_K_tell_85
  by_cases s1_6 : x = 6
  · refine z_tabIn X 86 d_K_tell_1 (by rw [s1_6]; decide) (by rw [s1_6]; decide) (by rw [s1_6]; rfl) (by decide) ?_
    refine z_aload_n X 0 d_K_tell_86 rfl rfl ?_
    refine z_get X fl_K_85 (9 + 4 * i) (e_K hi) rfl rfl d_K_tell_87 ?_
    exact z_iret X (⟨rfl, by rw [kTell, if_neg s1_0, if_neg s1_1, if_neg s1_2, if_neg s1_3, if_neg s1_4, if_neg s1_5, if_pos s1_6]⟩) d_K_tell_90
  by_cases s1_7 : x = 7
  · refine z_tabIn X 91 d_K_tell_1 (by rw [s1_7]; decide) (by rw [s1_7]; decide) (by rw [s1_7]; rfl) (by decide) ?_
    refine z_aload_n X 0 d_K_tell_91 rfl rfl ?_
    refine z_get X fl_K_69 (9 + 4 * i) (e_K hi) rfl rfl d_K_tell_92 ?_
    exact z_iret X (⟨rfl, by rw [kTell, if_neg s1_0, if_neg s1_1, if_neg s1_2, if_neg s1_3, if_neg s1_4, if_neg s1_5, if_neg s1_6, if_pos s1_7]⟩) d_K_tell_95
  by_cases s1_8 : x = 8
  · refine z_tabIn X 96 d_K_tell_1 (by rw [s1_8]; decide) (by rw [s1_8]; decide) (by rw [s1_8]; rfl) (by decide) ?_
    refine z_aload_n X 0 d_K_tell_96 rfl rfl ?_
    refine z_get X fl_K_88 (9 + 4 * i) (e_K hi) rfl rfl d_K_tell_97 ?_
    exact z_iret X (⟨rfl, by rw [kTell, if_neg s1_0, if_neg s1_1, if_neg s1_2, if_neg s1_3, if_neg s1_4, if_neg s1_5, if_neg s1_6, if_neg s1_7, if_pos s1_8]⟩) d_K_tell_100
  by_cases s1_9 : x = 9
  · refine z_tabIn X 101 d_K_tell_1 (by rw [s1_9]; decide) (by rw [s1_9]; decide) (by rw [s1_9]; rfl) (by decide) ?_
    refine z_aload_n X 0 d_K_tell_101 rfl rfl ?_
    refine z_get X fl_K_25 (9 + 4 * i) (e_K hi) rfl rfl d_K_tell_102 ?_
    exact z_iret X (⟨rfl, by rw [kTell, if_neg s1_0, if_neg s1_1, if_neg s1_2, if_neg s1_3, if_neg s1_4, if_neg s1_5, if_neg s1_6, if_neg s1_7, if_neg s1_8, if_pos s1_9]⟩) d_K_tell_105
  refine z_tabOut X 106 d_K_tell_1 (by have q0 := lv_neT s1_0 (k := 0) (a := 0) (by decide); have q1 := lv_neT s1_1 (k := 1) (a := 1) (by decide); have q2 := lv_neT s1_2 (k := 2) (a := 2) (by decide); have q3 := lv_neT s1_3 (k := 3) (a := 3) (by decide); have q4 := lv_neT s1_4 (k := 4) (a := 4) (by decide); have q5 := lv_neT s1_5 (k := 5) (a := 5) (by decide); have q6 := lv_neT s1_6 (k := 6) (a := 6) (by decide); have q7 := lv_neT s1_7 (k := 7) (a := 7) (by decide); have q8 := lv_neT s1_8 (k := 8) (a := 8) (by decide); have q9 := lv_neT s1_9 (k := 9) (a := 9) (by decide); omega) (by decide) ?_
  refine z_iconst X (v := (-1)) d_K_tell_106 (by decide) ?_
  exact z_iret X (⟨rfl, by rw [kTell, if_neg s1_0, if_neg s1_1, if_neg s1_2, if_neg s1_3, if_neg s1_4, if_neg s1_5, if_neg s1_6, if_neg s1_7, if_neg s1_8, if_neg s1_9]⟩) d_K_tell_107

set_option maxHeartbeats 4000000 in
set_option maxRecDepth 100000 in
theorem c_K_waitsAt (l : Launch) (D : va_G) (cA : Nat → ClassId) (ad : Nat → Nat) (M : zM) (i : Nat) (hi : i < 8) (x : Nat) (hx : x < 8) (ex : M.1 (9 + 4 * i) 7 = nI x) (a b : Int32) : Ci l D cA ad y_K_waitsAt b_K_waitsAt 3 (some (.boolean)) (zr 0 0) [zR (9 + 4 * i), zI a, zI b] M (fun r M' => M' = M ∧ ((r = 1 ∧ kWaits M a b i) ∨ (r = 0 ∧ ¬ (kWaits M a b i)))) := by
  refine zMi_of (plainFor_of_name (by decide)) (Nat.le_of_ble_eq_true rfl) ?_
  intro p e s m args below meth c A X
  have hcl : (M.1 (9 + 4 * i) 7).toNatClampNeg = x := by rw [ex]; exact nI_clamp (by omega)
  refine z_aload_n X 0 d_K_waitsAt_0 rfl rfl ?_
  refine z_get X fl_K_18 (9 + 4 * i) (e_K hi) rfl rfl d_K_waitsAt_1 ?_
  refine z_iconst X (v := 2) d_K_waitsAt_4 (by decide) ?_
  refine z_icmp_ne X 44 d_K_waitsAt_5 (by decide) (fun c_5 => ?_) (fun c_5 => ?_)
  · refine z_iconst X (v := 0) d_K_waitsAt_44 (by decide) ?_
    exact z_zret X rfl (⟨rfl, Or.inr ⟨rfl, by simp only [kWaits, hcl, c_5, and_true, and_false, true_and, false_and, not_true, not_false_eq_true, and_self]⟩⟩) d_K_waitsAt_45
  · refine z_aload_n X 0 d_K_waitsAt_8 rfl rfl ?_
    refine z_get X fl_K_12 (9 + 4 * i) (e_K hi) rfl rfl d_K_waitsAt_9 ?_
    refine z_get X fl_K_75 (10 + 4 * i) (e_G hi) rfl rfl d_K_waitsAt_12 ?_
    refine z_aload_n X 0 d_K_waitsAt_15 rfl rfl ?_
    refine z_get X fl_K_59 (9 + 4 * i) (e_K hi) rfl rfl d_K_waitsAt_16 ?_
    refine z_iald X (11 + 4 * i) (e_Or hi) rfl x ex hx (by decide) d_K_waitsAt_19 ?_
    refine z_iload_n X 1 d_K_waitsAt_20 rfl rfl ?_
    refine z_icmp_ne X 44 d_K_waitsAt_21 (by decide) (fun c_21 => ?_) (fun c_21 => ?_)
    · refine z_iconst X (v := 0) d_K_waitsAt_44 (by decide) ?_
      exact z_zret X rfl (⟨rfl, Or.inr ⟨rfl, by simp only [kWaits, hcl, c_5, c_21, and_true, and_false, true_and, false_and, not_true, not_false_eq_true, and_self]⟩⟩) d_K_waitsAt_45
    · refine z_aload_n X 0 d_K_waitsAt_24 rfl rfl ?_
      refine z_get X fl_K_12 (9 + 4 * i) (e_K hi) rfl rfl d_K_waitsAt_25 ?_
      refine z_get X fl_K_79 (10 + 4 * i) (e_G hi) rfl rfl d_K_waitsAt_28 ?_
      refine z_aload_n X 0 d_K_waitsAt_31 rfl rfl ?_
      refine z_get X fl_K_59 (9 + 4 * i) (e_K hi) rfl rfl d_K_waitsAt_32 ?_
      refine z_iald X (12 + 4 * i) (e_Nu hi) rfl x ex hx (by decide) d_K_waitsAt_35 ?_
      refine z_iload_n X 2 d_K_waitsAt_36 rfl rfl ?_
      refine z_icmp_ne X 44 d_K_waitsAt_37 (by decide) (fun c_37 => ?_) (fun c_37 => ?_)
      · refine z_iconst X (v := 0) d_K_waitsAt_44 (by decide) ?_
        exact z_zret X rfl (⟨rfl, Or.inr ⟨rfl, by simp only [kWaits, hcl, c_5, c_21, c_37, and_true, and_false, true_and, false_and, not_true, not_false_eq_true, and_self]⟩⟩) d_K_waitsAt_45
      · refine z_iconst X (v := 1) d_K_waitsAt_40 (by decide) ?_
        refine z_goto X 45 d_K_waitsAt_41 (by decide) ?_
        exact z_zret X rfl (⟨rfl, Or.inl ⟨rfl, by simp only [kWaits, hcl, c_5, c_21, c_37, and_true, and_false, true_and, false_and, not_true, not_false_eq_true, and_self]⟩⟩) d_K_waitsAt_45

set_option maxHeartbeats 4000000 in
set_option maxRecDepth 100000 in
theorem c_K_comesBefore_N (l : Launch) (D : va_G) (cA : Nat → ClassId) (ad : Nat → Nat) (M : zM) (i : Nat) (hi : i < 8) : Ci l D cA ad y_K_comesBefore b_K_comesBefore 2 (some (.boolean)) (zr 0 0) [zR (9 + 4 * i), zN] M (fun r M' => M' = M ∧ ((r = 1 ∧ kBef M i none) ∨ (r = 0 ∧ ¬ (kBef M i none)))) := by
  refine zMi_of (plainFor_of_name (by decide)) (Nat.le_of_ble_eq_true rfl) ?_
  intro p e s m args below meth c A X
  refine z_aload_nN X 1 d_K_comesBefore_0 rfl rfl ?_
  refine z_ifnonnullN X d_K_comesBefore_1 ?_
  refine z_iconst X (v := 1) d_K_comesBefore_4 (by decide) ?_
  exact z_zret X rfl (⟨rfl, Or.inl ⟨rfl, trivial⟩⟩) d_K_comesBefore_5

set_option maxHeartbeats 4000000 in
set_option maxRecDepth 100000 in
theorem c_K_comesBefore_S (l : Launch) (D : va_G) (cA : Nat → ClassId) (ad : Nat → Nat) (M : zM) (i : Nat) (hi : i < 8) (j : Nat) (hj : j < 8) : Ci l D cA ad y_K_comesBefore b_K_comesBefore 2 (some (.boolean)) (zr 0 0) [zR (9 + 4 * i), zR (9 + 4 * j)] M (fun r M' => M' = M ∧ ((r = 1 ∧ kBef M i (some j)) ∨ (r = 0 ∧ ¬ (kBef M i (some j))))) := by
  refine zMi_of (plainFor_of_name (by decide)) (Nat.le_of_ble_eq_true rfl) ?_
  intro p e s m args below meth c A X
  refine z_aload_n X 1 d_K_comesBefore_0 rfl rfl ?_
  refine z_ifnonnull X 6 d_K_comesBefore_1 (by decide) ?_
  refine z_aload_n X 0 d_K_comesBefore_6 rfl rfl ?_
  refine z_get X fl_K_34 (9 + 4 * i) (e_K hi) rfl rfl d_K_comesBefore_7 ?_
  refine z_aload_n X 1 d_K_comesBefore_10 rfl rfl ?_
  refine z_get X fl_K_34 (9 + 4 * j) (e_K hj) rfl rfl d_K_comesBefore_11 ?_
  refine z_icmp_ne X 37 d_K_comesBefore_14 (by decide) (fun c_14 => ?_) (fun c_14 => ?_)
  · refine z_aload_n X 0 d_K_comesBefore_37 rfl rfl ?_
    refine z_get X fl_K_34 (9 + 4 * i) (e_K hi) rfl rfl d_K_comesBefore_38 ?_
    refine z_aload_n X 1 d_K_comesBefore_41 rfl rfl ?_
    refine z_get X fl_K_34 (9 + 4 * j) (e_K hj) rfl rfl d_K_comesBefore_42 ?_
    refine z_icmp_le X 52 d_K_comesBefore_45 (by decide) (fun c_45 => ?_) (fun c_45 => ?_)
    · refine z_iconst X (v := 0) d_K_comesBefore_52 (by decide) ?_
      exact z_zret X rfl (⟨rfl, Or.inr ⟨rfl, by simp only [kBef, c_14, c_45, if_true, if_false]; first | done | exact h_nlt_of c_45 | exact Int32.not_lt.mpr c_45⟩⟩) d_K_comesBefore_53
    · refine z_iconst X (v := 1) d_K_comesBefore_48 (by decide) ?_
      refine z_goto X 53 d_K_comesBefore_49 (by decide) ?_
      exact z_zret X rfl (⟨rfl, Or.inl ⟨rfl, by simp only [kBef, c_14, c_45, if_true, if_false]; first | done | exact h_lt_of c_45 | exact Int32.not_le.mp c_45⟩⟩) d_K_comesBefore_53
  · refine z_aload_n X 0 d_K_comesBefore_17 rfl rfl ?_
    refine z_get X fl_K_65 (9 + 4 * i) (e_K hi) rfl rfl d_K_comesBefore_18 ?_
    refine z_aload_n X 1 d_K_comesBefore_21 rfl rfl ?_
    refine z_get X fl_K_65 (9 + 4 * j) (e_K hj) rfl rfl d_K_comesBefore_22 ?_
    refine z_lcmp X d_K_comesBefore_25 ?_
    refine z_if_ge X 33 d_K_comesBefore_26 (by decide) (fun c_26 => ?_) (fun c_26 => ?_)
    · refine z_iconst X (v := 0) d_K_comesBefore_33 (by decide) ?_
      refine z_goto X 53 d_K_comesBefore_34 (by decide) ?_
      exact z_zret X rfl (⟨rfl, Or.inr ⟨rfl, by simp only [kBef, c_14, c_26, if_true, if_false]; first | done | exact h_nlt_of c_26 | exact Int32.not_lt.mpr c_26⟩⟩) d_K_comesBefore_53
    · refine z_iconst X (v := 1) d_K_comesBefore_29 (by decide) ?_
      refine z_goto X 53 d_K_comesBefore_30 (by decide) ?_
      exact z_zret X rfl (⟨rfl, Or.inl ⟨rfl, by simp only [kBef, c_14, c_26, if_true, if_false]; first | done | exact h_lt_of c_26 | exact Int32.not_le.mp c_26⟩⟩) d_K_comesBefore_53
end
section
set_option maxHeartbeats 4000000 in
set_option maxRecDepth 100000 in
theorem c_A_within (l : Launch) (D : va_G) (cA : Nat → ClassId) (ad : Nat → Nat) (M : zM) (a b d : Int32) : Ci l D cA ad y_A_within b_A_within 3 (some (.boolean)) (zr 0 0) [zI a, zI b, zI d] M (fun r M' => M' = M ∧ ((r = 1 ∧ b ≤ a ∧ a ≤ d) ∨ (r = 0 ∧ ¬ (b ≤ a ∧ a ≤ d)))) := by
  refine zMi_of (plainFor_of_name (by decide)) (Nat.le_of_ble_eq_true rfl) ?_
  intro p e s m args below meth c A X
  refine z_iload_n X 0 d_A_within_0 rfl rfl ?_
  refine z_iload_n X 1 d_A_within_1 rfl rfl ?_
  refine z_icmp_lt X 14 d_A_within_2 (by decide) (fun c_2 => ?_) (fun c_2 => ?_)
  · refine z_iconst X (v := 0) d_A_within_14 (by decide) ?_
    exact z_zret X rfl (⟨rfl, Or.inr ⟨rfl, fun q => absurd q.1 (Int32.not_le.mpr c_2)⟩⟩) d_A_within_15
  · refine z_iload_n X 0 d_A_within_5 rfl rfl ?_
    refine z_iload_n X 2 d_A_within_6 rfl rfl ?_
    refine z_icmp_gt X 14 d_A_within_7 (by decide) (fun c_7 => ?_) (fun c_7 => ?_)
    · refine z_iconst X (v := 0) d_A_within_14 (by decide) ?_
      exact z_zret X rfl (⟨rfl, Or.inr ⟨rfl, fun q => absurd q.2 (Int32.not_le.mpr c_7)⟩⟩) d_A_within_15
    · refine z_iconst X (v := 1) d_A_within_10 (by decide) ?_
      refine z_goto X 15 d_A_within_11 (by decide) ?_
      exact z_zret X rfl (⟨rfl, Or.inl ⟨rfl, ⟨Int32.not_lt.mp c_2, Int32.not_lt.mp c_7⟩⟩⟩) d_A_within_15

set_option maxHeartbeats 4000000 in
set_option maxRecDepth 100000 in
theorem c_A_isPartition (l : Launch) (D : va_G) (cA : Nat → ClassId) (ad : Nat → Nat) (M : zM) (a : Int32) : Ci l D cA ad y_A_isPartition b_A_isPartition 1 (some (.boolean)) (zr 1 22) [zI a] M (fun r M' => M' = M ∧ ((r = 1 ∧ 0 ≤ a ∧ a ≤ 2) ∨ (r = 0 ∧ ¬ (0 ≤ a ∧ a ≤ 2)))) := by
  refine zMi_of (plainFor_of_name (by decide)) (Nat.le_of_ble_eq_true rfl) ?_
  intro p e s m args below meth c A X
  refine z_iload_n X 0 d_A_isPartition_0 rfl rfl ?_
  refine z_iconst X (v := 0) d_A_isPartition_1 (by decide) ?_
  refine z_iconst X (v := 2) d_A_isPartition_2 (by decide) ?_
  refine z_Si X GG_ok cf_A_47 [zI a, zI 0, zI 2] [] (c_A_within l D cA ad _ _ _ _) ⟨rfl, rfl⟩ (by decide) rfl rfl (Nat.le_of_ble_eq_true rfl) ⟨Nat.zero_le _, Nat.zero_le _⟩ d_A_isPartition_3 (fun r1 M2 h3 => ?_)
  have qh3 := h3.1.symm
  subst qh3
  obtain ⟨-, ⟨rfl, p4⟩ | ⟨rfl, p4⟩⟩ := h3
  · exact z_zret X rfl (⟨rfl, Or.inl ⟨rfl, p4⟩⟩) d_A_isPartition_6
  · exact z_zret X rfl (⟨rfl, Or.inr ⟨rfl, p4⟩⟩) d_A_isPartition_6

set_option maxHeartbeats 4000000 in
set_option maxRecDepth 100000 in
theorem c_A_isProcess (l : Launch) (D : va_G) (cA : Nat → ClassId) (ad : Nat → Nat) (M : zM) (a : Int32) : Ci l D cA ad y_A_isProcess b_A_isProcess 2 (some (.boolean)) (zr 1 22) [zR 0, zI a] M (fun r M' => M' = M ∧ ((r = 1 ∧ 0 ≤ a ∧ a ≤ M.1 0 5 - 1) ∨ (r = 0 ∧ ¬ (0 ≤ a ∧ a ≤ M.1 0 5 - 1)))) := by
  refine zMi_of (plainFor_of_name (by decide)) (Nat.le_of_ble_eq_true rfl) ?_
  intro p e s m args below meth c A X
  refine z_iload_n X 1 d_A_isProcess_0 rfl rfl ?_
  refine z_iconst X (v := 0) d_A_isProcess_1 (by decide) ?_
  refine z_aload_n X 0 d_A_isProcess_2 rfl rfl ?_
  refine z_get X fl_A_63 0 e_A rfl rfl d_A_isProcess_3 ?_
  refine z_iconst X (v := 1) d_A_isProcess_6 (by decide) ?_
  refine z_isub X d_A_isProcess_7 ?_
  refine z_Si X GG_ok cf_A_47 [zI a, zI 0, zI ((M.1 0 5) - 1)] [] (c_A_within l D cA ad _ _ _ _) ⟨rfl, rfl⟩ (by decide) rfl rfl (Nat.le_of_ble_eq_true rfl) ⟨Nat.zero_le _, Nat.zero_le _⟩ d_A_isProcess_8 (fun r1 M2 h3 => ?_)
  have qh3 := h3.1.symm
  subst qh3
  obtain ⟨-, ⟨rfl, p4⟩ | ⟨rfl, p4⟩⟩ := h3
  · exact z_zret X rfl (⟨rfl, Or.inl ⟨rfl, p4⟩⟩) d_A_isProcess_11
  · exact z_zret X rfl (⟨rfl, Or.inr ⟨rfl, p4⟩⟩) d_A_isProcess_11

set_option maxHeartbeats 4000000 in
set_option maxRecDepth 100000 in
theorem c_A_isOn (l : Launch) (D : va_G) (cA : Nat → ClassId) (ad : Nat → Nat) (M : zM) (x : Int32) (j : Nat) (hj : j < 3) (ex : x = nI j) : Ci l D cA ad y_A_isOn b_A_isOn 2 (some (.boolean)) (zr 0 0) [zR 0, zI x] M (fun r M' => M' = M ∧ ((r = 1 ∧ M.1 (5 + j) 0 = 1) ∨ (r = 0 ∧ ¬ (M.1 (5 + j) 0 = 1)))) := by
  refine zMi_of (plainFor_of_name (by decide)) (Nat.le_of_ble_eq_true rfl) ?_
  intro p e s m args below meth c A X
  refine z_aload_n X 0 d_A_isOn_0 rfl rfl ?_
  refine z_get X fl_A_18 0 e_A rfl rfl d_A_isOn_1 ?_
  refine z_iload_n X 1 d_A_isOn_4 rfl rfl ?_
  refine z_aald X 4 e_PA rfl j ex hj (by decide) (g_PA hj) d_A_isOn_5 ?_
  refine z_get X fl_A_91 (5 + j) (e_P hj) rfl rfl d_A_isOn_6 ?_
  refine z_iconst X (v := 1) d_A_isOn_9 (by decide) ?_
  refine z_icmp_ne X 17 d_A_isOn_10 (by decide) (fun c_10 => ?_) (fun c_10 => ?_)
  · refine z_iconst X (v := 0) d_A_isOn_17 (by decide) ?_
    exact z_zret X rfl (⟨rfl, Or.inr ⟨rfl, c_10⟩⟩) d_A_isOn_18
  · refine z_iconst X (v := 1) d_A_isOn_13 (by decide) ?_
    refine z_goto X 18 d_A_isOn_14 (by decide) ?_
    exact z_zret X rfl (⟨rfl, Or.inl ⟨rfl, c_10⟩⟩) d_A_isOn_18

set_option maxHeartbeats 4000000 in
set_option maxRecDepth 100000 in
theorem c_A_allOff (l : Launch) (D : va_G) (cA : Nat → ClassId) (ad : Nat → Nat) (M : zM)  : Ci l D cA ad y_A_allOff b_A_allOff 2 (some (.boolean)) (zr 0 0) [zR 0] M (fun r M' => M' = M ∧ ((r = 1 ∧ kAllOff M) ∨ (r = 0 ∧ ¬ (kAllOff M)))) := by
  refine zMi_of (plainFor_of_name (by decide)) (Nat.le_of_ble_eq_true rfl) ?_
  intro p e s m args below meth c A X
  refine z_iconst X (v := 0) d_A_allOff_0 (by decide) ?_
  refine z_istore_n X (L' := [(1, zI 0), (0, zR 0)]) d_A_allOff_1 rfl (by decide) rfl ?_
  refine z_iload_n X 0 d_A_allOff_2 rfl rfl ?_
  refine z_iconst X (v := 3) d_A_allOff_3 (by decide) ?_
  refine z_icmp_ge X 27 d_A_allOff_4 (by decide) (fun h => absurd h (by decide)) (fun _ => ?_)
  refine z_aload_n X 1 d_A_allOff_7 rfl rfl ?_
  refine z_get X fl_A_18 0 e_A rfl rfl d_A_allOff_8 ?_
  refine z_iload_n X 0 d_A_allOff_11 rfl rfl ?_
  refine z_aald X 4 e_PA rfl 0 rfl (by decide) (by decide) (g_PA (by decide)) d_A_allOff_12 ?_
  refine z_get X fl_A_91 (5 + 0) (e_P (by decide)) rfl rfl d_A_allOff_13 ?_
  refine z_if_eq X 21 d_A_allOff_16 (by decide) (fun c_16 => ?_) (fun c_16 => ?_)
  · refine z_iinc X 0 (v := 1) (L' := [(1, zI 1), (0, zR 0)]) d_A_allOff_21 rfl rfl (by decide) rfl ?_
    refine z_goto X 2 d_A_allOff_24 (by decide) ?_
    refine z_iload_n X 0 d_A_allOff_2 rfl rfl ?_
    refine z_iconst X (v := 3) d_A_allOff_3 (by decide) ?_
    refine z_icmp_ge X 27 d_A_allOff_4 (by decide) (fun h => absurd h (by decide)) (fun _ => ?_)
    refine z_aload_n X 1 d_A_allOff_7 rfl rfl ?_
    refine z_get X fl_A_18 0 e_A rfl rfl d_A_allOff_8 ?_
    refine z_iload_n X 0 d_A_allOff_11 rfl rfl ?_
    refine z_aald X 4 e_PA rfl 1 rfl (by decide) (by decide) (g_PA (by decide)) d_A_allOff_12 ?_
    refine z_get X fl_A_91 (5 + 1) (e_P (by decide)) rfl rfl d_A_allOff_13 ?_
    refine z_if_eq X 21 d_A_allOff_16 (by decide) (fun c_16_2 => ?_) (fun c_16_2 => ?_)
    · refine z_iinc X 0 (v := 2) (L' := [(1, zI 2), (0, zR 0)]) d_A_allOff_21 rfl rfl (by decide) rfl ?_
      refine z_goto X 2 d_A_allOff_24 (by decide) ?_
      refine z_iload_n X 0 d_A_allOff_2 rfl rfl ?_
      refine z_iconst X (v := 3) d_A_allOff_3 (by decide) ?_
      refine z_icmp_ge X 27 d_A_allOff_4 (by decide) (fun h => absurd h (by decide)) (fun _ => ?_)
      refine z_aload_n X 1 d_A_allOff_7 rfl rfl ?_
      refine z_get X fl_A_18 0 e_A rfl rfl d_A_allOff_8 ?_
      refine z_iload_n X 0 d_A_allOff_11 rfl rfl ?_
      refine z_aald X 4 e_PA rfl 2 rfl (by decide) (by decide) (g_PA (by decide)) d_A_allOff_12 ?_
      refine z_get X fl_A_91 (5 + 2) (e_P (by decide)) rfl rfl d_A_allOff_13 ?_
      refine z_if_eq X 21 d_A_allOff_16 (by decide) (fun c_16_4 => ?_) (fun c_16_4 => ?_)
      · refine z_iinc X 0 (v := 3) (L' := [(1, zI 3), (0, zR 0)]) d_A_allOff_21 rfl rfl (by decide) rfl ?_
        refine z_goto X 2 d_A_allOff_24 (by decide) ?_
        refine z_iload_n X 0 d_A_allOff_2 rfl rfl ?_
        refine z_iconst X (v := 3) d_A_allOff_3 (by decide) ?_
        refine z_icmp_ge X 27 d_A_allOff_4 (by decide) (fun _ => ?_) (fun h => absurd h (by decide))
        refine z_iconst X (v := 1) d_A_allOff_27 (by decide) ?_
        exact z_zret X rfl (⟨rfl, Or.inl ⟨rfl, by simp only [kAllOff, c_16, c_16_2, c_16_4, and_true, and_false, true_and, false_and, not_true, not_false_eq_true, and_self]⟩⟩) d_A_allOff_28
      · refine z_iconst X (v := 0) d_A_allOff_19 (by decide) ?_
        exact z_zret X rfl (⟨rfl, Or.inr ⟨rfl, by simp only [kAllOff, c_16, c_16_2, c_16_4, and_true, and_false, true_and, false_and, not_true, not_false_eq_true, and_self]⟩⟩) d_A_allOff_20
    · refine z_iconst X (v := 0) d_A_allOff_19 (by decide) ?_
      exact z_zret X rfl (⟨rfl, Or.inr ⟨rfl, by simp only [kAllOff, c_16, c_16_2, and_true, and_false, true_and, false_and, not_true, not_false_eq_true, and_self]⟩⟩) d_A_allOff_20
  · refine z_iconst X (v := 0) d_A_allOff_19 (by decide) ?_
    exact z_zret X rfl (⟨rfl, Or.inr ⟨rfl, by simp only [kAllOff, c_16, and_true, and_false, true_and, false_and, not_true, not_false_eq_true, and_self]⟩⟩) d_A_allOff_20

set_option maxHeartbeats 4000000 in
set_option maxRecDepth 100000 in
theorem c_A_newTurn (l : Launch) (D : va_G) (cA : Nat → ClassId) (ad : Nat → Nat) (M : zM)  : Cj l D cA ad y_A_newTurn b_A_newTurn 1 (some (.long)) (zr 0 0) [zR 0] M (fun r M' => M' = kTurn M ∧ r = M.2 0 9 + 1) := by
  refine zMj_of (plainFor_of_name (by decide)) (Nat.le_of_ble_eq_true rfl) ?_
  intro p e s m args below meth c A X
  refine z_aload_n X 0 d_A_newTurn_0 rfl rfl ?_
  refine z_dup X d_A_newTurn_1 rfl ?_
  refine z_get X fl_A_140 0 e_A rfl rfl d_A_newTurn_2 ?_
  refine z_lconst X (v := 1) d_A_newTurn_5 (by decide) ?_
  refine z_ladd X d_A_newTurn_6 ?_
  refine z_putj X fl_A_140 0 e_A rfl d_A_newTurn_7 ?_
  refine z_aload_n X 0 d_A_newTurn_10 rfl rfl ?_
  refine z_get X fl_A_140 0 e_A rfl rfl d_A_newTurn_11 ?_
  exact z_lret X (⟨rfl, z_sj_same M 0 9 _⟩) d_A_newTurn_14
end
section
set_option maxHeartbeats 4000000 in
set_option maxRecDepth 100000 in
theorem c_J_floorMod (l : Launch) (D : va_G) (cA : Nat → ClassId) (ad : Nat → Nat) (M : zM) (x y : Int32) (hy : ¬ y = 0) : Ci l D cA ad y_J_floorMod b_J_floorMod 3 (some (.int)) (zr 0 0) [zI x, zI y] M (fun r M' => M' = M ∧ r = kMod x y) := by
  refine zMi_of (by decide +kernel) (Nat.le_of_ble_eq_true rfl) ?_
  intro p e s m args below meth c A X
  refine z_iload_n X 0 d_J_floorMod_0 rfl rfl ?_
  refine z_iload_n X 1 d_J_floorMod_1 rfl rfl ?_
  refine z_irem X d_J_floorMod_2 hy ?_
  refine z_istore_n X (L' := [(2, zI (x - x / y * y)), (0, zI x), (1, zI y)]) d_J_floorMod_3 rfl (by decide) rfl ?_
  refine z_iload_n X 1 d_J_floorMod_4 rfl rfl ?_
  refine z_iload_n X 2 d_J_floorMod_5 rfl rfl ?_
  refine z_ixor X d_J_floorMod_6 ?_
  refine z_if_ge X 18 d_J_floorMod_7 (by decide) (fun c_7 => ?_) (fun c_7 => ?_)
  · refine z_iload_n X 0 d_J_floorMod_18 rfl rfl ?_
    exact z_iret X (⟨rfl, by simp only [kMod, c_7, if_true, if_false]⟩) d_J_floorMod_19
  · refine z_iload_n X 0 d_J_floorMod_10 rfl rfl ?_
    refine z_if_eq X 18 d_J_floorMod_11 (by decide) (fun c_11 => ?_) (fun c_11 => ?_)
    · refine z_iload_n X 0 d_J_floorMod_18 rfl rfl ?_
      exact z_iret X (⟨rfl, by simp only [kMod, c_7, c_11, if_true, if_false]⟩) d_J_floorMod_19
    · refine z_iload_n X 0 d_J_floorMod_14 rfl rfl ?_
      refine z_iload_n X 2 d_J_floorMod_15 rfl rfl ?_
      refine z_iadd X d_J_floorMod_16 ?_
      exact z_iret X (⟨rfl, by simp only [kMod, c_7, c_11, if_true, if_false]⟩) d_J_floorMod_17

set_option maxHeartbeats 4000000 in
set_option maxRecDepth 100000 in
theorem c_Wr_offsetAt (l : Launch) (D : va_G) (cA : Nat → ClassId) (ad : Nat → Nat) (M : zM) (w : Nat) (hw : w ≤ 8) (ew : M.1 1 2 = nI w) (h0 : w ≠ 0) (hne : ¬ M.1 3 (w - 1) = 0) (t : Int32) : Ci l D cA ad y_Wr_offsetAt b_Wr_offsetAt 2 (some (.int)) (zr 1 22) [zR 1, zI t] M (fun r M' => M' = M ∧ r = kOff M w t) := by
  refine zMi_of (plainFor_of_name (by decide)) (Nat.le_of_ble_eq_true rfl) ?_
  intro p e s m args below meth c A X
  refine z_iload_n X 1 d_Wr_offsetAt_0 rfl rfl ?_
  refine z_aload_n X 0 d_Wr_offsetAt_1 rfl rfl ?_
  refine z_get X fl_Wr_15 1 e_Wr rfl rfl d_Wr_offsetAt_2 ?_
  refine z_aload_n X 0 d_Wr_offsetAt_5 rfl rfl ?_
  refine z_get X fl_Wr_18 1 e_Wr rfl rfl d_Wr_offsetAt_6 ?_
  refine z_iconst X (v := 1) d_Wr_offsetAt_9 (by decide) ?_
  refine z_isub X d_Wr_offsetAt_10 ?_
  refine z_iald X 3 e_WrE rfl (w - 1) (by rw [ew]; exact nI_m1 h0) (by omega) (by decide) d_Wr_offsetAt_11 ?_
  refine z_Si X GG_ok cf_Wr_29 [zI t, zI (M.1 3 (w - 1))] [] (c_J_floorMod l D cA ad _ _ _ hne) ⟨rfl, rfl⟩ (by decide) rfl rfl (Nat.le_of_ble_eq_true rfl) ⟨Nat.zero_le _, Nat.zero_le _⟩ d_Wr_offsetAt_12 (fun r1 M2 h3 => ?_)
  have qh3 := h3.1.symm
  subst qh3
  obtain ⟨-, rfl⟩ := h3
  exact z_iret X (⟨rfl, rfl⟩) d_Wr_offsetAt_15

set_option maxHeartbeats 4000000 in
set_option maxRecDepth 100000 in
theorem c_Wr_indexOf (l : Launch) (D : va_G) (cA : Nat → ClassId) (ad : Nat → Nat) (M : zM) (w : Nat) (hw : w ≤ 8) (ew : M.1 1 2 = nI w) (h0 : w ≠ 0) (t : Int32) : Ci l D cA ad y_Wr_indexOf b_Wr_indexOf 3 (some (.int)) (zr 0 0) [zR 1, zI t] M (fun r M' => M' = M ∧ r = nI (kIx M t (w - 1) 0)) := by
  refine zMi_of (plainFor_of_name (by decide)) (Nat.le_of_ble_eq_true rfl) ?_
  intro p e s m args below meth c A X
  have loop : ∀ (k i : Nat), i + k = w - 1 → kIx M t (w - 1) 0 = kIx M t k i → zW p l e (zr 0 0) s m args below meth c 0 0 (MQ below (va_Qi (fun r M' => M' = M ∧ r = nI (kIx M t (w - 1) 0)) (fun M' t => va_P D cls (z_w cA ad M' 0 EE) t.heap) A) args s 0 0 A) A D cls cA ad EE 3 M 2 [(2, zI (nI i)), (0, zR 1), (1, zI t)] [] := by
    intro k
    induction k with
    | zero =>
      intro i hi hq
      refine z_iload_n X 0 d_Wr_indexOf_2 rfl rfl ?_
      refine z_aload_n X 1 d_Wr_indexOf_3 rfl rfl ?_
      refine z_get X fl_Wr_18 1 e_Wr rfl rfl d_Wr_indexOf_4 ?_
      refine z_iconst X (v := 1) d_Wr_indexOf_7 (by decide) ?_
      refine z_isub X d_Wr_indexOf_8 ?_
      refine z_icmp_ge X 28 d_Wr_indexOf_9 (by decide) (fun c_9 => ?_) (fun c_9 => absurd (by rw [ew, nI_m1 h0, show i = w - 1 by omega]; exact nI_le (Nat.le_refl _) (by omega)) c_9)
      refine z_iload_n X 0 d_Wr_indexOf_28 rfl rfl ?_
      exact z_iret X (⟨rfl, by rw [hq]; rfl⟩) d_Wr_indexOf_29
    | succ k ih =>
      intro i hi hq
      refine z_iload_n X 0 d_Wr_indexOf_2 rfl rfl ?_
      refine z_aload_n X 1 d_Wr_indexOf_3 rfl rfl ?_
      refine z_get X fl_Wr_18 1 e_Wr rfl rfl d_Wr_indexOf_4 ?_
      refine z_iconst X (v := 1) d_Wr_indexOf_7 (by decide) ?_
      refine z_isub X d_Wr_indexOf_8 ?_
      refine z_icmp_ge X 28 d_Wr_indexOf_9 (by decide) (fun c_9 => absurd c_9 (by rw [ew, nI_m1 h0]; exact nI_ge (by omega) (by omega))) (fun c_9 => ?_)
      refine z_iload_n X 2 d_Wr_indexOf_12 rfl rfl ?_
      refine z_aload_n X 1 d_Wr_indexOf_13 rfl rfl ?_
      refine z_get X fl_Wr_15 1 e_Wr rfl rfl d_Wr_indexOf_14 ?_
      refine z_iload_n X 0 d_Wr_indexOf_17 rfl rfl ?_
      refine z_iald X 3 e_WrE rfl i rfl (by omega) (by decide) d_Wr_indexOf_18 ?_
      refine z_icmp_lt X 28 d_Wr_indexOf_19 (by decide) (fun c_19 => ?_) (fun c_19 => ?_)
      · refine z_iload_n X 0 d_Wr_indexOf_28 rfl rfl ?_
        exact z_iret X (⟨rfl, by rw [hq]; simp only [kIx, c_19, if_true]⟩) d_Wr_indexOf_29
      · refine z_iinc X 0 (v := nI (i + 1)) (L' := [(2, zI (nI (i + 1))), (0, zR 1), (1, zI t)]) d_Wr_indexOf_22 rfl (nI_1 i) (by decide) rfl ?_
        refine z_goto X 2 d_Wr_indexOf_25 (by decide) ?_
        exact ih (i + 1) (by omega) (by rw [hq]; simp only [kIx, c_19, if_false])
  refine z_iconst X (v := 0) d_Wr_indexOf_0 (by decide) ?_
  refine z_istore_n X (L' := [(2, zI 0), (0, zR 1), (1, zI t)]) d_Wr_indexOf_1 rfl (by decide) rfl ?_
  exact loop (w - 1) 0 (by omega) rfl

set_option maxHeartbeats 4000000 in
set_option maxRecDepth 100000 in
theorem c_Wr_partitionAt (l : Launch) (D : va_G) (cA : Nat → ClassId) (ad : Nat → Nat) (M : zM) (w : Nat) (hw : w ≤ 8) (ew : M.1 1 2 = nI w) (hne : w ≠ 0 → ¬ M.1 3 (w - 1) = 0) (t : Int32) : Ci l D cA ad y_Wr_partitionAt b_Wr_partitionAt 2 (some (.int)) (zr 2 43) [zR 1, zI t] M (fun r M' => M' = M ∧ r = kPartAt M w t) := by
  refine zMi_of (plainFor_of_name (by decide)) (Nat.le_of_ble_eq_true rfl) ?_
  intro p e s m args below meth c A X
  refine z_aload_n X 0 d_Wr_partitionAt_0 rfl rfl ?_
  refine z_get X fl_Wr_18 1 e_Wr rfl rfl d_Wr_partitionAt_1 ?_
  refine z_if_ne X 11 d_Wr_partitionAt_4 (by decide) (fun c_4 => ?_) (fun c_4 => ?_)
  · have h0 : w ≠ 0 := fun q => c_4 (by rw [ew, q]; rfl)
    have hne := hne h0
    refine z_aload_n X 0 d_Wr_partitionAt_11 rfl rfl ?_
    refine z_get X fl_Wr_9 1 e_Wr rfl rfl d_Wr_partitionAt_12 ?_
    refine z_aload_n X 0 d_Wr_partitionAt_15 rfl rfl ?_
    refine z_aload_n X 0 d_Wr_partitionAt_16 rfl rfl ?_
    refine z_iload_n X 1 d_Wr_partitionAt_17 rfl rfl ?_
    refine z_Vi X GG_ok cf_Wr_22 1 [zI t] [zR 1, zR 2] (c_Wr_offsetAt l D cA ad _ w hw ew h0 hne _) ⟨rfl, rfl⟩ (by decide) e_Wr rfl rfl rfl rfl (Nat.le_of_ble_eq_true rfl) ⟨Nat.zero_le _, Nat.zero_le _⟩ d_Wr_partitionAt_18 (fun r1 M2 h3 => ?_)
    have qh3 := h3.1.symm
    subst qh3
    obtain ⟨-, rfl⟩ := h3
    refine z_Vi X GG_ok cf_Wr_26 1 [zI (kOff M w t)] [zR 2] (c_Wr_indexOf l D cA ad _ w hw ew h0 _) ⟨rfl, rfl⟩ (by decide) e_Wr rfl rfl rfl rfl (Nat.le_of_ble_eq_true rfl) ⟨Nat.zero_le _, Nat.zero_le _⟩ d_Wr_partitionAt_21 (fun r4 M5 h6 => ?_)
    have qh6 := h6.1.symm
    subst qh6
    obtain ⟨-, rfl⟩ := h6
    refine z_iald X 2 e_WrP rfl (kIdx M w t) rfl (Nat.lt_of_lt_of_le (kIdx_lt M h0 t) hw) (by decide) d_Wr_partitionAt_24 ?_
    exact z_iret X (⟨rfl, by rw [kPartAt, if_neg h0]⟩) d_Wr_partitionAt_25
  · refine z_iconst X (v := (-1)) d_Wr_partitionAt_7 (by decide) ?_
    refine z_goto X 25 d_Wr_partitionAt_8 (by decide) ?_
    exact z_iret X (⟨rfl, by rw [kPartAt, if_pos (nI_z (by omega) (by rw [← ew]; exact c_4))]⟩) d_Wr_partitionAt_25

set_option maxHeartbeats 4000000 in
set_option maxRecDepth 100000 in
theorem c_Wr_leftAt (l : Launch) (D : va_G) (cA : Nat → ClassId) (ad : Nat → Nat) (M : zM) (w : Nat) (hw : w ≤ 8) (ew : M.1 1 2 = nI w) (hne : w ≠ 0 → ¬ M.1 3 (w - 1) = 0) (t : Int32) : Ci l D cA ad y_Wr_leftAt b_Wr_leftAt 2 (some (.int)) (zr 2 43) [zR 1, zI t] M (fun r M' => M' = M ∧ r = kLeftAt M w t) := by
  refine zMi_of (plainFor_of_name (by decide)) (Nat.le_of_ble_eq_true rfl) ?_
  intro p e s m args below meth c A X
  refine z_aload_n X 0 d_Wr_leftAt_0 rfl rfl ?_
  refine z_get X fl_Wr_18 1 e_Wr rfl rfl d_Wr_leftAt_1 ?_
  refine z_if_ne X 11 d_Wr_leftAt_4 (by decide) (fun c_4 => ?_) (fun c_4 => ?_)
  · have h0 : w ≠ 0 := fun q => c_4 (by rw [ew, q]; rfl)
    have hne := hne h0
    refine z_aload_n X 0 d_Wr_leftAt_11 rfl rfl ?_
    refine z_get X fl_Wr_15 1 e_Wr rfl rfl d_Wr_leftAt_12 ?_
    refine z_aload_n X 0 d_Wr_leftAt_15 rfl rfl ?_
    refine z_aload_n X 0 d_Wr_leftAt_16 rfl rfl ?_
    refine z_iload_n X 1 d_Wr_leftAt_17 rfl rfl ?_
    refine z_Vi X GG_ok cf_Wr_22 1 [zI t] [zR 1, zR 3] (c_Wr_offsetAt l D cA ad _ w hw ew h0 hne _) ⟨rfl, rfl⟩ (by decide) e_Wr rfl rfl rfl rfl (Nat.le_of_ble_eq_true rfl) ⟨Nat.zero_le _, Nat.zero_le _⟩ d_Wr_leftAt_18 (fun r1 M2 h3 => ?_)
    have qh3 := h3.1.symm
    subst qh3
    obtain ⟨-, rfl⟩ := h3
    refine z_Vi X GG_ok cf_Wr_26 1 [zI (kOff M w t)] [zR 3] (c_Wr_indexOf l D cA ad _ w hw ew h0 _) ⟨rfl, rfl⟩ (by decide) e_Wr rfl rfl rfl rfl (Nat.le_of_ble_eq_true rfl) ⟨Nat.zero_le _, Nat.zero_le _⟩ d_Wr_leftAt_21 (fun r4 M5 h6 => ?_)
    have qh6 := h6.1.symm
    subst qh6
    obtain ⟨-, rfl⟩ := h6
    refine z_iald X 3 e_WrE rfl (kIdx M w t) rfl (Nat.lt_of_lt_of_le (kIdx_lt M h0 t) hw) (by decide) d_Wr_leftAt_24 ?_
    refine z_aload_n X 0 d_Wr_leftAt_25 rfl rfl ?_
    refine z_iload_n X 1 d_Wr_leftAt_26 rfl rfl ?_
    refine z_Vi X GG_ok cf_Wr_22 1 [zI t] [zI (M.1 3 (kIdx M w t))] (c_Wr_offsetAt l D cA ad _ w hw ew h0 hne _) ⟨rfl, rfl⟩ (by decide) e_Wr rfl rfl rfl rfl (Nat.le_of_ble_eq_true rfl) ⟨Nat.zero_le _, Nat.zero_le _⟩ d_Wr_leftAt_27 (fun r7 M8 h9 => ?_)
    have qh9 := h9.1.symm
    subst qh9
    obtain ⟨-, rfl⟩ := h9
    refine z_isub X d_Wr_leftAt_30 ?_
    exact z_iret X (⟨rfl, by rw [kLeftAt, if_neg h0]⟩) d_Wr_leftAt_31
  · refine z_iconst X (v := 0) d_Wr_leftAt_7 (by decide) ?_
    refine z_goto X 31 d_Wr_leftAt_8 (by decide) ?_
    exact z_iret X (⟨rfl, by rw [kLeftAt, if_pos (nI_z (by omega) (by rw [← ew]; exact c_4))]⟩) d_Wr_leftAt_31

set_option maxHeartbeats 4000000 in
set_option maxRecDepth 100000 in
theorem c_G_add (l : Launch) (D : va_G) (cA : Nat → ClassId) (ad : Nat → Nat) (M : zM) (i : Nat) (hi : i < 8) (n : Nat) (hn : n < 8) (en : M.1 (10 + 4 * i) 2 = nI n) (a b : Int32) : Cv l D cA ad y_G_add b_G_add 3 none (zr 0 0) [zR (10 + 4 * i), zI a, zI b] M (fun M' => M' = kGadd i n a b M) := by
  refine zMv_of (plainFor_of_name (by decide)) (Nat.le_of_ble_eq_true rfl) ?_
  intro p e s m args below meth c A X
  refine z_aload_n X 0 d_G_add_0 rfl rfl ?_
  refine z_get X fl_G_9 (10 + 4 * i) (e_G hi) rfl rfl d_G_add_1 ?_
  refine z_aload_n X 0 d_G_add_4 rfl rfl ?_
  refine z_get X fl_G_18 (10 + 4 * i) (e_G hi) rfl rfl d_G_add_5 ?_
  refine z_iload_n X 1 d_G_add_8 rfl rfl ?_
  refine z_iast X (11 + 4 * i) (e_Or hi) rfl n en hn (by decide) d_G_add_9 ?_
  refine z_aload_n X 0 d_G_add_10 rfl rfl ?_
  refine z_get X fl_G_15 (10 + 4 * i) (e_G hi) rfl rfl d_G_add_11 ?_
  refine z_aload_n X 0 d_G_add_14 rfl rfl ?_
  refine z_get X fl_G_18 (10 + 4 * i) (e_G hi) rfl rfl d_G_add_15 ?_
  refine z_iload_n X 2 d_G_add_18 rfl rfl ?_
  refine z_iast X (12 + 4 * i) (e_Nu hi) rfl n (by rw [z_si_row _ _ _ (by omega)]; exact en) hn (by decide) d_G_add_19 ?_
  refine z_aload_n X 0 d_G_add_20 rfl rfl ?_
  refine z_dup X d_G_add_21 rfl ?_
  refine z_get X fl_G_18 (10 + 4 * i) (e_G hi) rfl rfl d_G_add_22 ?_
  refine z_iconst X (v := 1) d_G_add_25 (by decide) ?_
  refine z_iadd X d_G_add_26 ?_
  refine z_puti X fl_G_18 (10 + 4 * i) (e_G hi) rfl rfl rfl d_G_add_27 ?_
  exact z_vret X (by unfold kGadd; rw [z_si_row _ _ _ (show (10 + 4 * i) ≠ 12 + 4 * i by omega), z_si_row _ _ _ (show (10 + 4 * i) ≠ 11 + 4 * i by omega), en, nI_1]) d_G_add_30

set_option maxHeartbeats 4000000 in
set_option maxRecDepth 100000 in
theorem c_O_put (l : Launch) (D : va_G) (cA : Nat → ClassId) (ad : Nat → Nat) (M : zM) (q : Nat) (hq : q < 4) (n : Nat) (hn : n < 4) (en : M.1 (42 + 2 * q) 1 = nI n) (x : Int32) : Cv l D cA ad y_O_put b_O_put 2 none (zr 0 0) [zR (42 + 2 * q), zI x] M (fun M' => M' = kPut q n x M) := by
  refine zMv_of (plainFor_of_name (by decide)) (Nat.le_of_ble_eq_true rfl) ?_
  intro p e s m args below meth c A X
  refine z_aload_n X 0 d_O_put_0 rfl rfl ?_
  refine z_get X fl_O_9 (42 + 2 * q) (e_O hq) rfl rfl d_O_put_1 ?_
  refine z_aload_n X 0 d_O_put_4 rfl rfl ?_
  refine z_get X fl_O_15 (42 + 2 * q) (e_O hq) rfl rfl d_O_put_5 ?_
  refine z_iload_n X 1 d_O_put_8 rfl rfl ?_
  refine z_iast X (43 + 2 * q) (e_Me hq) rfl n en hn (by decide) d_O_put_9 ?_
  refine z_aload_n X 0 d_O_put_10 rfl rfl ?_
  refine z_dup X d_O_put_11 rfl ?_
  refine z_get X fl_O_15 (42 + 2 * q) (e_O hq) rfl rfl d_O_put_12 ?_
  refine z_iconst X (v := 1) d_O_put_15 (by decide) ?_
  refine z_iadd X d_O_put_16 ?_
  refine z_puti X fl_O_15 (42 + 2 * q) (e_O hq) rfl rfl rfl d_O_put_17 ?_
  exact z_vret X (by unfold kPut; rw [z_si_row _ _ _ (show (42 + 2 * q) ≠ 43 + 2 * q by omega), en, nI_1]) d_O_put_20

set_option maxHeartbeats 4000000 in
set_option maxRecDepth 100000 in
theorem c_Wr_add (l : Launch) (D : va_G) (cA : Nat → ClassId) (ad : Nat → Nat) (M : zM) (n : Nat) (hn : n < 8) (en : M.1 1 2 = nI n) (a x : Int32) : Cv l D cA ad y_Wr_add b_Wr_add 3 none (zr 0 0) [zR 1, zI a, zI x] M (fun M' => M' = kWadd n a x M) := by
  refine zMv_of (plainFor_of_name (by decide)) (Nat.le_of_ble_eq_true rfl) ?_
  intro p e s m args below meth c A X
  refine z_aload_n X 0 d_Wr_add_0 rfl rfl ?_
  refine z_get X fl_Wr_15 1 e_Wr rfl rfl d_Wr_add_1 ?_
  refine z_aload_n X 0 d_Wr_add_4 rfl rfl ?_
  refine z_get X fl_Wr_18 1 e_Wr rfl rfl d_Wr_add_5 ?_
  refine z_aload_n X 0 d_Wr_add_8 rfl rfl ?_
  refine z_get X fl_Wr_18 1 e_Wr rfl rfl d_Wr_add_9 ?_
  refine z_if_ne X 19 d_Wr_add_12 (by decide) (fun c_12 => ?_) (fun c_12 => ?_)
  · have h0 : n ≠ 0 := fun q => c_12 (by rw [en, q]; rfl)
    refine z_aload_n X 0 d_Wr_add_19 rfl rfl ?_
    refine z_get X fl_Wr_15 1 e_Wr rfl rfl d_Wr_add_20 ?_
    refine z_aload_n X 0 d_Wr_add_23 rfl rfl ?_
    refine z_get X fl_Wr_18 1 e_Wr rfl rfl d_Wr_add_24 ?_
    refine z_iconst X (v := 1) d_Wr_add_27 (by decide) ?_
    refine z_isub X d_Wr_add_28 ?_
    refine z_iald X 3 e_WrE rfl (n - 1) (by rw [en]; exact nI_m1 h0) (by omega) (by decide) d_Wr_add_29 ?_
    refine z_iload_n X 2 d_Wr_add_30 rfl rfl ?_
    refine z_iadd X d_Wr_add_31 ?_
    refine z_iast X 3 e_WrE rfl n en hn (by decide) d_Wr_add_32 ?_
    refine z_aload_n X 0 d_Wr_add_33 rfl rfl ?_
    refine z_get X fl_Wr_9 1 e_Wr rfl rfl d_Wr_add_34 ?_
    refine z_aload_n X 0 d_Wr_add_37 rfl rfl ?_
    refine z_get X fl_Wr_18 1 e_Wr rfl rfl d_Wr_add_38 ?_
    refine z_iload_n X 1 d_Wr_add_41 rfl rfl ?_
    refine z_iast X 2 e_WrP rfl n (by rw [z_si_row _ _ _ (by decide)]; exact en) hn (by decide) d_Wr_add_42 ?_
    refine z_aload_n X 0 d_Wr_add_43 rfl rfl ?_
    refine z_dup X d_Wr_add_44 rfl ?_
    refine z_get X fl_Wr_18 1 e_Wr rfl rfl d_Wr_add_45 ?_
    refine z_iconst X (v := 1) d_Wr_add_48 (by decide) ?_
    refine z_iadd X d_Wr_add_49 ?_
    refine z_puti X fl_Wr_18 1 e_Wr rfl rfl rfl d_Wr_add_50 ?_
    exact z_vret X (by unfold kWadd kEnd; rw [z_si_row _ _ _ (show (1 : Nat) ≠ 2 by decide), z_si_row _ _ _ (show (1 : Nat) ≠ 3 by decide), en, nI_1, if_neg h0]) d_Wr_add_53
  · refine z_iload_n X 2 d_Wr_add_15 rfl rfl ?_
    refine z_goto X 32 d_Wr_add_16 (by decide) ?_
    refine z_iast X 3 e_WrE rfl n en hn (by decide) d_Wr_add_32 ?_
    refine z_aload_n X 0 d_Wr_add_33 rfl rfl ?_
    refine z_get X fl_Wr_9 1 e_Wr rfl rfl d_Wr_add_34 ?_
    refine z_aload_n X 0 d_Wr_add_37 rfl rfl ?_
    refine z_get X fl_Wr_18 1 e_Wr rfl rfl d_Wr_add_38 ?_
    refine z_iload_n X 1 d_Wr_add_41 rfl rfl ?_
    refine z_iast X 2 e_WrP rfl n (by rw [z_si_row _ _ _ (by decide)]; exact en) hn (by decide) d_Wr_add_42 ?_
    refine z_aload_n X 0 d_Wr_add_43 rfl rfl ?_
    refine z_dup X d_Wr_add_44 rfl ?_
    refine z_get X fl_Wr_18 1 e_Wr rfl rfl d_Wr_add_45 ?_
    refine z_iconst X (v := 1) d_Wr_add_48 (by decide) ?_
    refine z_iadd X d_Wr_add_49 ?_
    refine z_puti X fl_Wr_18 1 e_Wr rfl rfl rfl d_Wr_add_50 ?_
    exact z_vret X (by unfold kWadd kEnd; rw [z_si_row _ _ _ (show (1 : Nat) ≠ 2 by decide), z_si_row _ _ _ (show (1 : Nat) ≠ 3 by decide), en, nI_1, if_pos (nI_z (by omega) (by rw [← en]; exact c_12))]) d_Wr_add_53
end
section
/-! WHAT ALWAYS HOLDS of the class's memory, as far as its indices need it: n processes, w windows -/
def kB (n w : Nat) (M : zM) : Prop :=
  n ≤ 8 ∧ w ≤ 8 ∧ M.1 0 5 = nI n ∧ M.1 1 2 = nI w ∧ (w ≠ 0 → ¬ M.1 3 (w - 1) = 0) ∧ (∀ j, j < w → ∃ q, q < 3 ∧ M.1 2 j = nI q) ∧ (∀ i, i < 8 → ∃ q, q < 3 ∧ M.1 (9 + 4 * i) 2 = nI q) ∧ (∀ i, i < 8 → ∃ z, z ≤ 8 ∧ M.1 (10 + 4 * i) 2 = nI z) ∧ (∀ i x, i < 8 → x < 8 → M.1 (11 + 4 * i) x = 0 ∨ ∃ q, q < 4 ∧ M.1 (12 + 4 * i) x = nI q) ∧ (∀ q, q < 4 → ∃ z, z ≤ 4 ∧ M.1 (42 + 2 * q) 1 = nI z)
def kN (M : zM) : Prop := ∀ i, i < 8 → ∃ x, x < 8 ∧ M.1 (9 + 4 * i) 7 = nI x
def kInv (n w : Nat) (M : zM) : Prop := kB n w M ∧ kN M
theorem kB_si {n w : Nat} {M : zM} (h : kB n w M) {c k : Nat} (x : Int32) (hc : (c = 0 ∧ k ≠ 5) ∨ (5 ≤ c ∧ c < 9) ∨ (9 ≤ c ∧ c < 41 ∧ c % 4 = 1 ∧ k ≠ 2) ∨ (43 ≤ c ∧ c % 2 = 1) ∨ c = 50 ∨ 51 ≤ c) : kB n w (z_si M c k x) := by
  obtain ⟨h1, h2, h3, h4, h5, h6, h7, h8, h9, h10⟩ := h
  refine ⟨h1, h2, ?_, ?_, ?_, ?_, ?_, ?_, ?_, ?_⟩
  · rw [z_si_other _ _ (by omega)]; exact h3
  · rw [z_si_other _ _ (by omega)]; exact h4
  · rw [z_si_other _ _ (by omega)]; exact h5
  · intro j hj; rw [z_si_other _ _ (by omega)]; exact h6 j hj
  · intro j hj; rw [z_si_other _ _ (by omega)]; exact h7 j hj
  · intro j hj; rw [z_si_other _ _ (by omega)]; exact h8 j hj
  · intro j y hj hy; rw [z_si_other _ _ (by omega), z_si_other _ _ (by omega)]; exact h9 j y hj hy
  · intro j hj; rw [z_si_other _ _ (by omega)]; exact h10 j hj
theorem kB_port {n w : Nat} {M : zM} (h : kB n w M) (q : Nat) {z : Nat} (hz : z ≤ 4) (hq : q < 4) : kB n w (z_si M (42 + 2 * q) 1 (nI z)) := by
  obtain ⟨h1, h2, h3, h4, h5, h6, h7, h8, h9, h10⟩ := h
  refine ⟨h1, h2, ?_, ?_, ?_, ?_, ?_, ?_, ?_, ?_⟩
  · rw [z_si_other _ _ (by omega)]; exact h3
  · rw [z_si_other _ _ (by omega)]; exact h4
  · rw [z_si_other _ _ (by omega)]; exact h5
  · intro j hj; rw [z_si_other _ _ (by omega)]; exact h6 j hj
  · intro j hj; rw [z_si_other _ _ (by omega)]; exact h7 j hj
  · intro j hj; rw [z_si_other _ _ (by omega)]; exact h8 j hj
  · intro j y hj hy; rw [z_si_other _ _ (by omega), z_si_other _ _ (by omega)]; exact h9 j y hj hy
  · intro j hj
    by_cases hjq : j = q
    · subst hjq
      exact ⟨z, hz, z_si_same _ _ _ _⟩
    · rw [z_si_other _ _ (by omega)]; exact h10 j hj
theorem kN_si {M : zM} (h : kN M) {c k : Nat} (x : Int32) (hc : ¬ (9 ≤ c ∧ c < 41 ∧ c % 4 = 1 ∧ k = 7)) : kN (z_si M c k x) := by
  intro j hj
  rw [z_si_other _ _ (by omega)]
  exact h j hj
theorem kN_7 {M : zM} {i : Nat} (h : ∀ j, j < 8 → j ≠ i → ∃ x, x < 8 ∧ M.1 (9 + 4 * j) 7 = nI x) {y : Nat} (hy : y < 8) : kN (z_si M (9 + 4 * i) 7 (nI y)) := by
  intro j hj
  by_cases hji : j = i
  · subst hji
    exact ⟨y, hy, z_si_same _ _ _ _⟩
  · rw [z_si_other _ _ (by omega)]
    exact h j hj hji
theorem kB_task {n w : Nat} {M : zM} (h : kB n w M) {i : Nat} (hi : i < 8) {k : Nat} (x : Int32) (hk : k ≠ 2) : kB n w (z_si M (9 + 4 * i) k x) := kB_si h x (by omega)
theorem kB_Rest {n w : Nat} {M : zM} (h : kB n w M) {i : Nat} (hi : i < 8) : kB n w (kRest i M) := kB_task (kB_task (kB_task (kB_task h hi _ (by decide)) hi _ (by decide)) hi _ (by decide)) hi _ (by decide)
theorem kN_Rest' {M : zM} {i : Nat} (hi : i < 8) (h : ∀ j, j < 8 → j ≠ i → ∃ x, x < 8 ∧ M.1 (9 + 4 * j) 7 = nI x) : kN (kRest i M) := by
  refine kN_si (kN_si (kN_7 (y := 0) (fun j hj hji => ?_) (by decide)) _ (by omega)) _ (by omega)
  rw [z_si_other _ _ (by omega)]
  exact h j hj hji
theorem kInv_Rest {n w : Nat} {M : zM} (h : kInv n w M) {i : Nat} (hi : i < 8) : kInv n w (kRest i M) := ⟨kB_Rest h.1 hi, kN_Rest' hi (fun j hj _ => h.2 j hj)⟩
theorem kInv_task {n w : Nat} {M : zM} (h : kInv n w M) {i : Nat} (hi : i < 8) {k : Nat} (x : Int32) (hk : k ≠ 2) (hk7 : k ≠ 7) : kInv n w (z_si M (9 + 4 * i) k x) := ⟨kB_task h.1 hi x hk, kN_si h.2 x (by omega)⟩
theorem kInv_sj {n w : Nat} {M : zM} (h : kInv n w M) (c k : Nat) (x : Int64) : kInv n w (z_sj M c k x) := h
theorem kInv_far {n w : Nat} {M : zM} (h : kInv n w M) {c k : Nat} (x : Int32) (hc : (c = 0 ∧ k ≠ 5) ∨ (5 ≤ c ∧ c < 9) ∨ (43 ≤ c ∧ c % 2 = 1) ∨ c = 50 ∨ 51 ≤ c) : kInv n w (z_si M c k x) := ⟨kB_si h.1 x (by omega), kN_si h.2 x (by omega)⟩
theorem kInv_port {n w : Nat} {M : zM} (h : kInv n w M) (q : Nat) {z : Nat} (hz : z ≤ 4) (hq : q < 4) : kInv n w (z_si M (42 + 2 * q) 1 (nI z)) := ⟨kB_port h.1 q hz hq, kN_si h.2 _ (by omega)⟩
theorem kInv_next {n w : Nat} {M : zM} (h : kInv n w M) {i : Nat} (hi : i < 8) {y : Nat} (hy : y < 8) : kInv n w (z_si M (9 + 4 * i) 7 (nI y)) := ⟨kB_task h.1 hi _ (by decide), kN_7 (fun j hj _ => h.2 j hj) hy⟩
theorem kInv_Ready {n w : Nat} {M : zM} (h : kInv n w M) {i : Nat} (hi : i < 8) (t : Int64) : kInv n w (kReady i t M) := kInv_sj (kInv_task h hi _ (by decide) (by decide)) _ _ _
theorem kInv_Wait {n w : Nat} {M : zM} (h : kInv n w M) {i : Nat} (hi : i < 8) (t : Int64) : kInv n w (kWait i t M) := kInv_sj (kInv_task h hi _ (by decide) (by decide)) _ _ _
theorem kInv_Anew {n w : Nat} {M : zM} (h : kInv n w M) {i : Nat} (hi : i < 8) (t : Int64) : kInv n w (kAnew i t M) := kInv_task (kInv_next (y := 0) (kInv_Ready h hi t) hi (by decide)) hi _ (by decide) (by decide)
theorem kInv_Rel {n w : Nat} {M : zM} (h : kInv n w M) {i : Nat} (hi : i < 8) (tm : Int32) (t : Int64) : kInv n w (kRel i tm t M) := by
  have h2 : kInv n w (kRel2 i tm t M) := kInv_Anew (kInv_task (kInv_task h hi _ (by decide) (by decide)) hi _ (by decide) (by decide)) hi t
  unfold kRel
  split
  · exact kInv_Rest h2 hi
  · exact h2
theorem kInv_Adv {n w : Nat} {M : zM} (h : kInv n w M) {i : Nat} (hi : i < 8) : kInv n w (kAdv i M) := by
  obtain ⟨x, hx, ex⟩ := h.2 i hi
  obtain ⟨z, hz, ez⟩ := h.1.2.2.2.2.2.2.2.1 i hi
  have hb : kB n w (kAdv1 i M) := kB_task (kB_task h.1 hi _ (by decide)) hi _ (by decide)
  have e1 : (kAdv1 i M).1 (9 + 4 * i) 7 = nI (x + 1) := by
    unfold kAdv1
    rw [z_si_other _ _ (by omega), z_si_same, ex, nI_1]
  have e2 : (kAdv1 i M).1 (10 + 4 * i) 2 = nI z := by
    unfold kAdv1
    rw [z_si_other _ _ (by omega), z_si_other _ _ (by omega), ez]
  have ho : ∀ j, j < 8 → j ≠ i → ∃ x, x < 8 ∧ (kAdv1 i M).1 (9 + 4 * j) 7 = nI x := by
    intro j hj hji
    unfold kAdv1
    rw [z_si_other _ _ (by omega), z_si_other _ _ (by omega)]
    exact h.2 j hj
  unfold kAdv
  split
  · rename_i hlt
    rw [e1, e2, nI_ltI (by omega) (by omega)] at hlt
    refine ⟨hb, fun j hj => ?_⟩
    by_cases hji : j = i
    · subst hji
      exact ⟨x + 1, by omega, e1⟩
    · exact ho j hj hji
  · exact ⟨kB_Rest hb hi, kN_Rest' hi ho⟩
theorem kInv_Work {n w : Nat} {M : zM} (h : kInv n w M) {i : Nat} (hi : i < 8) (x : Int32) : kInv n w (kWork i x M) := by
  have h2 : kInv n w (kWork2 i M) := kInv_task (kInv_task h hi _ (by decide) (by decide)) hi _ (by decide) (by decide)
  unfold kWork
  split
  · exact h2
  · exact kInv_Adv h2 hi
theorem kInv_Turn {n w : Nat} {M : zM} (h : kInv n w M) : kInv n w (kTurn M) := h
theorem kInv_For {n w : Nat} {f : Nat → zM → zM} {N : Nat} (hf : ∀ i M, i < N → kInv n w M → kInv n w (f i M)) : ∀ (k i : Nat) (M : zM), i + k ≤ N → kInv n w M → kInv n w (kFor f k i M)
  | 0, _, _, _, h => h
  | k + 1, i, M, hk, h => kInv_For hf k (i + 1) (f i M) (by omega) (hf i M (by omega) h)
theorem kInv_cnt {n w : Nat} {M : zM} (h : kInv n w M) : M.1 0 5 = nI n := h.1.2.2.1
theorem kInv_RestOne {n w : Nat} (part : Int32) (i : Nat) (M : zM) (hi : i < 8) (h : kInv n w M) : kInv n w (kRestOne part i M) := by
  unfold kRestOne
  split
  · exact kInv_Rest h hi
  · exact h
theorem kInv_OnOne {n w : Nat} (part : Int32) (i : Nat) (M : zM) (hi : i < 8) (h : kInv n w M) : kInv n w (kOnOne part i M) := by
  unfold kOnOne
  split
  · exact kInv_task h hi _ (by decide) (by decide)
  · exact h
end
section
/-! what the class's larger methods do -/
def kPt (M : zM) (i : Nat) : Nat := (M.1 (9 + 4 * i) 2).toNatClampNeg
def kNx (M : zM) (i : Nat) : Nat := (M.1 (9 + 4 * i) 7).toNatClampNeg
def kSz (M : zM) (q : Nat) : Nat := (M.1 (42 + 2 * q) 1).toNatClampNeg
theorem kPt_lt {n w : Nat} {M : zM} (h : kInv n w M) {i : Nat} (hi : i < 8) : kPt M i < 3 := by
  obtain ⟨q, hq, e⟩ := h.1.2.2.2.2.2.2.1 i hi
  unfold kPt
  rw [e, nI_clamp (n := q) (by omega)]
  exact hq
theorem kPt_eq {n w : Nat} {M : zM} (h : kInv n w M) {i : Nat} (hi : i < 8) : M.1 (9 + 4 * i) 2 = nI (kPt M i) := by
  obtain ⟨q, hq, e⟩ := h.1.2.2.2.2.2.2.1 i hi
  unfold kPt
  rw [e, nI_clamp (n := q) (by omega)]
theorem kNx_lt {n w : Nat} {M : zM} (h : kInv n w M) {i : Nat} (hi : i < 8) : kNx M i < 8 := by
  obtain ⟨q, hq, e⟩ := h.2 i hi
  unfold kNx
  rw [e, nI_clamp (n := q) (by omega)]
  exact hq
theorem kNx_eq {n w : Nat} {M : zM} (h : kInv n w M) {i : Nat} (hi : i < 8) : M.1 (9 + 4 * i) 7 = nI (kNx M i) := by
  obtain ⟨q, hq, e⟩ := h.2 i hi
  unfold kNx
  rw [e, nI_clamp (n := q) (by omega)]
theorem kSz_le {n w : Nat} {M : zM} (h : kInv n w M) {q : Nat} (hq : q < 4) : kSz M q ≤ 4 := by
  obtain ⟨z, hz, e⟩ := h.1.2.2.2.2.2.2.2.2.2 q hq
  unfold kSz
  rw [e, nI_clamp (n := z) (by omega)]
  exact hz
theorem kSz_eq {n w : Nat} {M : zM} (h : kInv n w M) {q : Nat} (hq : q < 4) : M.1 (42 + 2 * q) 1 = nI (kSz M q) := by
  obtain ⟨z, hz, e⟩ := h.1.2.2.2.2.2.2.2.2.2 q hq
  unfold kSz
  rw [e, nI_clamp (n := z) (by omega)]
theorem kSz_lt {n w : Nat} {M : zM} (h : kInv n w M) {q : Nat} (hq : q < 4) (h4 : ¬ M.1 (42 + 2 * q) 1 = 4) : kSz M q < 4 := by
  have h1 := kSz_le h hq
  have h2 := kSz_eq h hq
  rcases Nat.lt_or_ge (kSz M q) 4 with h3 | h3
  · exact h3
  · exact absurd (by rw [h2, show kSz M q = 4 by omega]; rfl) h4
theorem kSz_pos {n w : Nat} {M : zM} (h : kInv n w M) {q : Nat} (hq : q < 4) (h0 : ¬ M.1 (42 + 2 * q) 1 = 0) : 0 < kSz M q := by
  have h2 := kSz_eq h hq
  rcases Nat.eq_zero_or_pos (kSz M q) with h3 | h3
  · exact absurd (by rw [h2, h3]; rfl) h0
  · exact h3
def kMsg (M : zM) (i : Nat) : Int32 := M.1 (9 + 4 * i) 0 + 8 * M.1 (9 + 4 * i) 10
def kWake (j : Nat) (M : zM) : zM := kAdv j (kReady j (M.2 0 9 + 1) (kTurn M))
noncomputable def kFR (n : Nat) (p : Int32) (M : zM) : Option Nat := kFst (kIsReady M p) M n 0 none
noncomputable def kFW (n : Nat) (o x : Int32) (M : zM) : Option Nat := kFst (kWaits M o x) M n 0 none
def kSend0 (i q : Nat) (M : zM) : zM := if M.1 (42 + 2 * q) 1 = 4 then z_si M 0 7 (M.1 0 7 + 1) else kPut q (kSz M q) (kMsg M i) M
def kSend1 (i j : Nat) (M : zM) : zM := kWake j (z_si M (9 + 4 * j) 15 (kMsg M i))
noncomputable def kSend (n i q : Nat) (M : zM) : zM := match kFW n 2 (nI q) M with
  | some j => kAdv i (kSend1 i j M)
  | none => kAdv i (kSend0 i q M)
def kTakes (i q : Nat) (M : zM) : zM := if M.1 (42 + 2 * q) 1 = 0 then kWait i (M.2 0 9 + 1) (kTurn M) else kAdv i (z_si (kTake q (kSz M q) M) (9 + 4 * i) 15 (M.1 (43 + 2 * q) 0))
def kUp0 (s : Nat) (M : zM) : zM := if 9 ≤ M.1 50 s then M else z_si M 50 s (M.1 50 s + 1)
noncomputable def kUp (n i s : Nat) (M : zM) : zM := match kFW n 4 (nI s) M with
  | some j => kAdv i (kWake j M)
  | none => kAdv i (kUp0 s M)
def kDown (i s : Nat) (M : zM) : zM := if M.1 50 s = 0 then kWait i (M.2 0 9 + 1) (kTurn M) else kAdv i (z_si M 50 s (M.1 50 s - 1))
def kOrd (M : zM) (i : Nat) : Int32 := M.1 (11 + 4 * i) (kNx M i)
def kNum (M : zM) (i : Nat) : Int32 := M.1 (12 + 4 * i) (kNx M i)
noncomputable def kDo (n i : Nat) (M : zM) : zM :=
  if kOrd M i = 0 then kWork i (kNum M i) M else if kOrd M i = 1 then kSend n i (kNum M i).toNatClampNeg M else if kOrd M i = 2 then kTakes i (kNum M i).toNatClampNeg M else if kOrd M i = 3 then kUp n i (kNum M i).toNatClampNeg M else kDown i (kNum M i).toNatClampNeg M
def kIdle (M : zM) : zM := z_si M 0 8 (M.1 0 8 + 1)
noncomputable def kGo (n : Nat) (p : Int32) : Nat → zM → zM
  | 0, M => kIdle M
  | f + 1, M => match kFR n p M with
    | none => kIdle M
    | some j => if kOrd M j = 0 then kDo n j M else kGo n p f (kDo n j M)
noncomputable def kGive (n w : Nat) (M : zM) : zM := if kPartAt M w (M.1 0 6) = (-1) then M else if M.1 (5 + (kPartAt M w (M.1 0 6)).toNatClampNeg) 0 = 1 then kGo n (kPartAt M w (M.1 0 6)) 65 M else M
def kMiss1 (i : Nat) (M : zM) : zM := z_si (z_si M (9 + 4 * i) 12 (M.1 (9 + 4 * i) 12 + 1)) (9 + 4 * i) 11 (-1)
def kMiss (n i : Nat) (M : zM) : zM :=
  if (kMiss1 i M).1 (5 + kPt M i) 1 = 1 then kAnew i ((kMiss1 i M).2 0 9 + 1) (kTurn (kMiss1 i M))
  else if (kMiss1 i M).1 (5 + kPt M i) 1 = 2 then kFor (kRestOne (nI (kPt M i))) n 0 (z_si (kMiss1 i M) (5 + kPt M i) 0 2) else kMiss1 i M
def kMissOne (n i : Nat) (M : zM) : zM := if M.1 (5 + kPt M i) 0 = 1 then (if M.1 (9 + 4 * i) 6 = 0 then M else if M.1 (9 + 4 * i) 11 = M.1 0 6 then kMiss n i M else M) else M
def kRelA (i : Nat) (M : zM) : zM := if M.1 (9 + 4 * i) 6 = 0 then kRel i (M.1 0 6) (M.2 0 9 + 1) (kTurn M) else z_si M (9 + 4 * i) 13 (M.1 (9 + 4 * i) 13 + 1)
def kRelOne (i : Nat) (M : zM) : zM := if M.1 (9 + 4 * i) 4 ≤ 0 then M else if M.1 (5 + kPt M i) 0 = 1 then (if M.1 (9 + 4 * i) 16 = M.1 0 6 then z_si (kRelA i M) (9 + 4 * i) 16 ((kRelA i M).1 0 6 + (kRelA i M).1 (9 + 4 * i) 4) else M) else M
noncomputable def kTick (n w : Nat) (M : zM) : zM := z_si (kGive n w (kFor (kMissOne n) n 0 (kFor kRelOne n 0 M))) 0 6 ((kGive n w (kFor (kMissOne n) n 0 (kFor kRelOne n 0 M))).1 0 6 + 1)
noncomputable def kTicks (n w : Nat) : Nat → zM → zM
  | 0, M => M
  | k + 1, M => kTicks n w k (kTick n w M)
theorem kInv_Put {n w : Nat} {M : zM} (h : kInv n w M) {q z : Nat} (hq : q < 4) (hz : z < 4) (x : Int32) : kInv n w (kPut q z x M) := kInv_port (kInv_far h _ (by omega)) q (by omega) hq
theorem kInv_Take {n w : Nat} {M : zM} (h : kInv n w M) {q z : Nat} (hq : q < 4) (hz : z ≤ 4) : kInv n w (kTake q z M) :=
  kInv_For (N := z) (fun i M _ hM => kInv_far hM _ (by omega)) _ _ _ (by omega) (kInv_port h q (by omega) hq)
theorem kInv_Wake {n w : Nat} {M : zM} (h : kInv n w M) {j : Nat} (hj : j < 8) : kInv n w (kWake j M) := kInv_Adv (kInv_Ready (kInv_Turn h) hj _) hj
theorem kFst_lt (P : Nat → Prop) (M : zM) : ∀ (k i : Nat) (b : Option Nat), (∀ j, b = some j → j < i) → ∀ j, kFst P M k i b = some j → j < i + k
  | 0, i, b, hb, j, h => by have := hb j h; omega
  | k + 1, i, b, hb, j, h => by
    have := kFst_lt P M k (i + 1) _ (fun j h => ?_) j h
    · omega
    · split at h
      · cases h; omega
      · have := hb j h; omega
theorem kFR_lt {n : Nat} {p : Int32} {M : zM} {j : Nat} (h : kFR n p M = some j) : j < n := by
  have := kFst_lt _ M n 0 none (fun j h => by cases h) j h
  omega
theorem kFW_lt {n : Nat} {o x : Int32} {M : zM} {j : Nat} (h : kFW n o x M = some j) : j < n := by
  have := kFst_lt _ M n 0 none (fun j h => by cases h) j h
  omega
theorem kInv_n {n w : Nat} {M : zM} (h : kInv n w M) : n ≤ 8 := h.1.1
theorem kInv_Send0 {n w : Nat} {M : zM} (h : kInv n w M) (i : Nat) {q : Nat} (hq : q < 4) : kInv n w (kSend0 i q M) := by
  unfold kSend0
  split
  · exact kInv_far h _ (by omega)
  · rename_i h4; exact kInv_Put h hq (kSz_lt h hq h4) _
theorem kInv_Send1 {n w : Nat} {M : zM} (h : kInv n w M) (i : Nat) {j : Nat} (hj : j < 8) : kInv n w (kSend1 i j M) := kInv_Wake (kInv_task h hj _ (by decide) (by decide)) hj
theorem kInv_Send {n w : Nat} {M : zM} (h : kInv n w M) {i q : Nat} (hi : i < 8) (hq : q < 4) : kInv n w (kSend n i q M) := by
  unfold kSend
  split
  · rename_i j hj; exact kInv_Adv (kInv_Send1 h i (Nat.lt_of_lt_of_le (kFW_lt hj) (kInv_n h))) hi
  · exact kInv_Adv (kInv_Send0 h i hq) hi
theorem kInv_Takes {n w : Nat} {M : zM} (h : kInv n w M) {i q : Nat} (hi : i < 8) (hq : q < 4) : kInv n w (kTakes i q M) := by
  unfold kTakes
  split
  · exact kInv_Wait (kInv_Turn h) hi _
  · exact kInv_Adv (kInv_task (kInv_Take h hq (kSz_le h hq)) hi _ (by decide) (by decide)) hi
theorem kInv_Up {n w : Nat} {M : zM} (h : kInv n w M) {i q : Nat} (hi : i < 8) : kInv n w (kUp n i q M) := by
  unfold kUp
  split
  · rename_i j hj; exact kInv_Adv (kInv_Wake h (Nat.lt_of_lt_of_le (kFW_lt hj) (kInv_n h))) hi
  · refine kInv_Adv ?_ hi
    unfold kUp0
    split
    · exact h
    · exact kInv_far h _ (by omega)
theorem kInv_Down {n w : Nat} {M : zM} (h : kInv n w M) {i q : Nat} (hi : i < 8) : kInv n w (kDown i q M) := by
  unfold kDown
  split
  · exact kInv_Wait (kInv_Turn h) hi _
  · exact kInv_Adv (kInv_far h _ (by omega)) hi
theorem kNum_lt {n w : Nat} {M : zM} (h : kInv n w M) {i : Nat} (hi : i < 8) (h0 : ¬ kOrd M i = 0) : (kNum M i).toNatClampNeg < 4 ∧ kNum M i = nI (kNum M i).toNatClampNeg := by
  rcases h.1.2.2.2.2.2.2.2.2.1 i (kNx M i) hi (kNx_lt h hi) with h1 | ⟨q, hq, e⟩
  · exact absurd h1 h0
  · have e2 : kNum M i = nI q := e
    rw [e2, nI_clamp (n := q) (by omega)]
    exact ⟨hq, rfl⟩
theorem kInv_Do {n w : Nat} {M : zM} (h : kInv n w M) {i : Nat} (hi : i < 8) : kInv n w (kDo n i M) := by
  unfold kDo
  split
  · exact kInv_Work h hi _
  · rename_i h0
    have hn := (kNum_lt h hi h0).1
    split
    · exact kInv_Send h hi hn
    · split
      · exact kInv_Takes h hi hn
      · split
        · exact kInv_Up h hi
        · exact kInv_Down h hi
theorem kInv_Idle {n w : Nat} {M : zM} (h : kInv n w M) : kInv n w (kIdle M) := kInv_far h _ (by omega)
theorem kInv_Go {n w : Nat} (p : Int32) : ∀ (f : Nat) (M : zM), kInv n w M → kInv n w (kGo n p f M)
  | 0, M, h => kInv_Idle h
  | f + 1, M, h => by
    unfold kGo
    split
    · exact kInv_Idle h
    · rename_i j hj
      have hj8 : j < 8 := Nat.lt_of_lt_of_le (kFR_lt hj) (kInv_n h)
      split
      · exact kInv_Do h hj8
      · exact kInv_Go p f _ (kInv_Do h hj8)
theorem kInv_Give {n w : Nat} {M : zM} (h : kInv n w M) : kInv n w (kGive n w M) := by
  unfold kGive
  split
  · exact h
  · split
    · exact kInv_Go _ _ _ h
    · exact h
theorem kInv_Miss {n w : Nat} {M : zM} (h : kInv n w M) {i : Nat} (hi : i < 8) : kInv n w (kMiss n i M) := by
  have h1 : kInv n w (kMiss1 i M) := kInv_task (kInv_task h hi _ (by decide) (by decide)) hi _ (by decide) (by decide)
  have hp := kPt_lt h hi
  unfold kMiss
  split
  · exact kInv_Anew (kInv_Turn h1) hi _
  · split
    · exact kInv_For (N := n) (fun i M hi hM => kInv_RestOne _ i M (Nat.lt_of_lt_of_le hi (kInv_n h)) hM) _ _ _ (by omega) (kInv_far h1 _ (by omega))
    · exact h1
theorem kInv_MissOne {n w : Nat} (i : Nat) (M : zM) (hi : i < 8) (h : kInv n w M) : kInv n w (kMissOne n i M) := by
  unfold kMissOne
  split
  · split
    · exact h
    · split
      · exact kInv_Miss h hi
      · exact h
  · exact h
theorem kInv_RelA {n w : Nat} {i : Nat} {M : zM} (hi : i < 8) (h : kInv n w M) : kInv n w (kRelA i M) := by
  unfold kRelA
  split
  · exact kInv_Rel (kInv_Turn h) hi _ _
  · exact kInv_task h hi _ (by decide) (by decide)
theorem kInv_RelOne {n w : Nat} (i : Nat) (M : zM) (hi : i < 8) (h : kInv n w M) : kInv n w (kRelOne i M) := by
  unfold kRelOne
  split
  · exact h
  · split
    · split
      · exact kInv_task (kInv_RelA hi h) hi _ (by decide) (by decide)
      · exact h
    · exact h
theorem kInv_Tick {n w : Nat} {M : zM} (h : kInv n w M) : kInv n w (kTick n w M) := by
  have hn := kInv_n h
  exact kInv_far (kInv_Give (kInv_For (N := n) (fun i M hi hM => kInv_MissOne i M (by omega) hM) _ _ _ (by omega) (kInv_For (N := n) (fun i M hi hM => kInv_RelOne i M (by omega) hM) _ _ _ (by omega) h))) _ (by omega)
theorem kInv_Ticks {n w : Nat} : ∀ (k : Nat) (M : zM), kInv n w M → kInv n w (kTicks n w k M)
  | 0, _, h => h
  | k + 1, M, h => kInv_Ticks k _ (kInv_Tick h)
end
section
set_option maxHeartbeats 4000000 in
set_option maxRecDepth 100000 in
theorem c_O_takeOldest (l : Launch) (D : va_G) (cA : Nat → ClassId) (ad : Nat → Nat) (M : zM) (q : Nat) (hq4 : q < 4) (n : Nat) (hn : n ≤ 4) (h0 : 0 < n) (en : M.1 (42 + 2 * q) 1 = nI n) : Ci l D cA ad y_O_takeOldest b_O_takeOldest 3 (some (.int)) (zr 0 0) [zR (42 + 2 * q)] M (fun r M' => M' = kTake q n M ∧ r = M.1 (43 + 2 * q) 0) := by
  refine zMi_of (plainFor_of_name (by decide)) (Nat.le_of_ble_eq_true rfl) ?_
  intro p e s m args below meth c A X
  have loop : ∀ (k i : Nat) (N : zM), i + k = n - 1 → N.1 (42 + 2 * q) 1 = nI (n - 1) → kFor (kSh q) k i N = kTake q n M → zW p l e (zr 0 0) s m args below meth c 0 0 (MQ below (va_Qi (fun r M' => M' = kTake q n M ∧ r = M.1 (43 + 2 * q) 0) (fun M' t => va_P D cls (z_w cA ad M' 0 EE) t.heap) A) args s 0 0 A) A D cls cA ad EE 3 N 19 [(2, zI (nI i)), (1, zI (M.1 (43 + 2 * q) 0)), (0, zR (42 + 2 * q))] [] := by
    intro k
    induction k with
    | zero =>
      intro i N hi hN hq
      refine z_iload_n X 0 d_O_takeOldest_19 rfl rfl ?_
      refine z_aload_n X 2 d_O_takeOldest_20 rfl rfl ?_
      refine z_get X fl_O_15 (42 + 2 * q) (e_O hq4) rfl rfl d_O_takeOldest_21 ?_
      refine z_icmp_ge X 47 d_O_takeOldest_24 (by decide) (fun c_24 => ?_) (fun c_24 => absurd (by rw [hN, show i = n - 1 by omega]; exact nI_le (Nat.le_refl _) (by omega)) c_24)
      refine z_iload_n X 1 d_O_takeOldest_47 rfl rfl ?_
      exact z_iret X (⟨hq, rfl⟩) d_O_takeOldest_48
    | succ k ih =>
      intro i N hi hN hq
      refine z_iload_n X 0 d_O_takeOldest_19 rfl rfl ?_
      refine z_aload_n X 2 d_O_takeOldest_20 rfl rfl ?_
      refine z_get X fl_O_15 (42 + 2 * q) (e_O hq4) rfl rfl d_O_takeOldest_21 ?_
      refine z_icmp_ge X 47 d_O_takeOldest_24 (by decide) (fun c_24 => absurd c_24 (by rw [hN]; exact nI_ge (by omega) (by omega))) (fun c_24 => ?_)
      refine z_aload_n X 2 d_O_takeOldest_27 rfl rfl ?_
      refine z_get X fl_O_9 (42 + 2 * q) (e_O hq4) rfl rfl d_O_takeOldest_28 ?_
      refine z_iload_n X 0 d_O_takeOldest_31 rfl rfl ?_
      refine z_aload_n X 2 d_O_takeOldest_32 rfl rfl ?_
      refine z_get X fl_O_9 (42 + 2 * q) (e_O hq4) rfl rfl d_O_takeOldest_33 ?_
      refine z_iload_n X 0 d_O_takeOldest_36 rfl rfl ?_
      refine z_iconst X (v := 1) d_O_takeOldest_37 (by decide) ?_
      refine z_iadd X d_O_takeOldest_38 ?_
      refine z_iald X (43 + 2 * q) (e_Me hq4) rfl (i + 1) (nI_1 i) (by omega) (by decide) d_O_takeOldest_39 ?_
      refine z_iast X (43 + 2 * q) (e_Me hq4) rfl i rfl (by omega) (by decide) d_O_takeOldest_40 ?_
      refine z_iinc X 0 (v := nI (i + 1)) (L' := [(2, zI (nI (i + 1))), (1, zI (M.1 (43 + 2 * q) 0)), (0, zR (42 + 2 * q))]) d_O_takeOldest_41 rfl (nI_1 i) (by decide) rfl ?_
      refine z_goto X 19 d_O_takeOldest_44 (by decide) ?_
      exact ih (i + 1) (z_si N (43 + 2 * q) i (N.1 (43 + 2 * q) (i + 1))) (by omega) (by rw [z_si_row _ _ _ (by omega)]; exact hN) hq
  refine z_aload_n X 0 d_O_takeOldest_0 rfl rfl ?_
  refine z_get X fl_O_9 (42 + 2 * q) (e_O hq4) rfl rfl d_O_takeOldest_1 ?_
  refine z_iconst X (v := 0) d_O_takeOldest_4 (by decide) ?_
  refine z_iald X (43 + 2 * q) (e_Me hq4) rfl 0 rfl (by decide) (by decide) d_O_takeOldest_5 ?_
  refine z_istore_n X (L' := [(1, zI (M.1 (43 + 2 * q) 0)), (0, zR (42 + 2 * q))]) d_O_takeOldest_6 rfl (by decide) rfl ?_
  refine z_aload_n X 1 d_O_takeOldest_7 rfl rfl ?_
  refine z_dup X d_O_takeOldest_8 rfl ?_
  refine z_get X fl_O_15 (42 + 2 * q) (e_O hq4) rfl rfl d_O_takeOldest_9 ?_
  refine z_iconst X (v := 1) d_O_takeOldest_12 (by decide) ?_
  refine z_isub X d_O_takeOldest_13 ?_
  refine z_puti X fl_O_15 (42 + 2 * q) (e_O hq4) rfl rfl rfl d_O_takeOldest_14 ?_
  refine z_iconst X (v := 0) d_O_takeOldest_17 (by decide) ?_
  refine z_istore_n X (L' := [(2, zI 0), (1, zI (M.1 (43 + 2 * q) 0)), (0, zR (42 + 2 * q))]) d_O_takeOldest_18 rfl (by decide) rfl ?_
  exact loop (n - 1) 0 (z_si M (42 + 2 * q) 1 ((M.1 (42 + 2 * q) 1) - 1)) (by omega) (by rw [z_si_same, en]; exact nI_m1 (by omega)) (by rw [en, nI_m1 (by omega)]; rfl)

set_option maxHeartbeats 4000000 in
set_option maxRecDepth 100000 in
theorem c_A_restAll (l : Launch) (D : va_G) (cA : Nat → ClassId) (ad : Nat → Nat) (M : zM) (n w : Nat) (hI : kInv n w M) (a : Int32) : Cv l D cA ad y_A_restAll b_A_restAll 3 none (zr 1 20) [zR 0, zI a] M (fun M' => M' = kFor (kRestOne a) n 0 M) := by
  refine zMv_of (plainFor_of_name (by decide)) (Nat.le_of_ble_eq_true rfl) ?_
  intro p e s m args below meth c A X
  have loop : ∀ (k i : Nat) (N : zM), i + k = n → kInv n w N → kFor (kRestOne a) k i N = kFor (kRestOne a) n 0 M → zW p l e (zr 1 20) s m args below meth c 0 0 (MQ below (va_Qv (fun M' => M' = kFor (kRestOne a) n 0 M) (fun M' t => va_P D cls (z_w cA ad M' 0 EE) t.heap) A) args s 0 0 A) A D cls cA ad EE 3 N 2 [(2, zI (nI i)), (0, zR 0), (1, zI a)] [] := by
    intro k
    induction k with
    | zero =>
      intro i N hk hN hq
      have hn := kInv_n hN
      refine z_iload_n X 0 d_A_restAll_2 rfl rfl ?_
      refine z_aload_n X 1 d_A_restAll_3 rfl rfl ?_
      refine z_get X fl_A_63 0 e_A rfl rfl d_A_restAll_4 ?_
      refine z_icmp_ge X 38 d_A_restAll_7 (by decide) (fun c_7 => ?_) (fun c_7 => absurd (by rw [kInv_cnt hN, show i = n by omega]; exact nI_le (Nat.le_refl _) (by omega)) c_7)
      exact z_vret X hq d_A_restAll_38
    | succ k ih =>
      intro i N hk hN hq
      have hn := kInv_n hN
      have hi : i < 8 := by omega
      refine z_iload_n X 0 d_A_restAll_2 rfl rfl ?_
      refine z_aload_n X 1 d_A_restAll_3 rfl rfl ?_
      refine z_get X fl_A_63 0 e_A rfl rfl d_A_restAll_4 ?_
      refine z_icmp_ge X 38 d_A_restAll_7 (by decide) (fun c_7 => absurd c_7 (by rw [kInv_cnt hN]; exact nI_ge (by omega) (by omega))) (fun c_7 => ?_)
      refine z_aload_n X 1 d_A_restAll_10 rfl rfl ?_
      refine z_get X fl_A_25 0 e_A rfl rfl d_A_restAll_11 ?_
      refine z_iload_n X 0 d_A_restAll_14 rfl rfl ?_
      refine z_aald X 8 e_TA rfl i rfl hi (by decide) (g_TA hi) d_A_restAll_15 ?_
      refine z_get X fl_A_97 (9 + 4 * i) (e_K hi) rfl rfl d_A_restAll_16 ?_
      refine z_iload_n X 2 d_A_restAll_19 rfl rfl ?_
      refine z_icmp_ne X 32 d_A_restAll_20 (by decide) (fun c_20 => ?_) (fun c_20 => ?_)
      · refine z_iinc X 0 (v := nI (i + 1)) (L' := [(2, zI (nI (i + 1))), (0, zR 0), (1, zI a)]) d_A_restAll_32 rfl (nI_1 i) (by decide) rfl ?_
        refine z_goto X 2 d_A_restAll_35 (by decide) ?_
        have hX1 : kRestOne a i N = N := by simp only [kRestOne, c_20, if_true, if_false]
        exact ih (i + 1) N (by omega) (hX1 ▸ kInv_RestOne a i N (by omega) hN) (hX1 ▸ hq)
      · refine z_aload_n X 1 d_A_restAll_23 rfl rfl ?_
        refine z_get X fl_A_25 0 e_A rfl rfl d_A_restAll_24 ?_
        refine z_iload_n X 0 d_A_restAll_27 rfl rfl ?_
        refine z_aald X 8 e_TA rfl i rfl hi (by decide) (g_TA hi) d_A_restAll_28 ?_
        refine z_Vv X GG_ok cf_A_144 (9 + 4 * i) [] [] (c_K_rest l D cA ad _ i hi ) ⟨rfl, rfl⟩ (by decide) (e_K hi) rfl rfl rfl rfl (Nat.le_of_ble_eq_true rfl) ⟨Nat.zero_le _, Nat.zero_le _⟩ d_A_restAll_29 (fun M3 h4 => ?_)
        have qh4 := h4.symm
        subst qh4
        refine z_iinc X 0 (v := nI (i + 1)) (L' := [(2, zI (nI (i + 1))), (0, zR 0), (1, zI a)]) d_A_restAll_32 rfl (nI_1 i) (by decide) rfl ?_
        refine z_goto X 2 d_A_restAll_35 (by decide) ?_
        have hX5 : kRestOne a i N = kRest i N := by simp only [kRestOne, c_20, if_true, if_false]
        exact ih (i + 1) (kRest i N) (by omega) (hX5 ▸ kInv_RestOne a i N (by omega) hN) (hX5 ▸ hq)
  refine z_iconst X (v := 0) d_A_restAll_0 (by decide) ?_
  refine z_istore_n X (L' := [(2, zI 0), (0, zR 0), (1, zI a)]) d_A_restAll_1 rfl (by decide) rfl ?_
  exact loop n 0 M (by omega) hI rfl
end
section
set_option maxHeartbeats 4000000 in
set_option maxRecDepth 100000 in
theorem c_A_releaseDue (l : Launch) (D : va_G) (cA : Nat → ClassId) (ad : Nat → Nat) (M : zM) (n w : Nat) (hI : kInv n w M) : Cv l D cA ad y_A_releaseDue b_A_releaseDue 3 none (zr 3 67) [zR 0] M (fun M' => M' = kFor kRelOne n 0 M) := by
  refine zMv_of (plainFor_of_name (by decide)) (Nat.le_of_ble_eq_true rfl) ?_
  intro p e s m args below meth c A X
  have loop : ∀ (k i : Nat) (N : zM), i + k = n → kInv n w N → kFor kRelOne k i N = kFor kRelOne n 0 M → zW p l e (zr 3 67) s m args below meth c 0 0 (MQ below (va_Qv (fun M' => M' = kFor kRelOne n 0 M) (fun M' t => va_P D cls (z_w cA ad M' 0 EE) t.heap) A) args s 0 0 A) A D cls cA ad EE 3 N 2 [(1, zI (nI i)), (0, zR 0)] [] := by
    intro k
    induction k with
    | zero =>
      intro i N hk hN hq
      have hn := kInv_n hN
      refine z_iload_n X 0 d_A_releaseDue_2 rfl rfl ?_
      refine z_aload_n X 1 d_A_releaseDue_3 rfl rfl ?_
      refine z_get X fl_A_63 0 e_A rfl rfl d_A_releaseDue_4 ?_
      refine z_icmp_ge X 97 d_A_releaseDue_7 (by decide) (fun c_7 => ?_) (fun c_7 => absurd (by rw [kInv_cnt hN, show i = n by omega]; exact nI_le (Nat.le_refl _) (by omega)) c_7)
      exact z_vret X hq d_A_releaseDue_97
    | succ k ih =>
      intro i N hk hN hq
      have hn := kInv_n hN
      have hi : i < 8 := by omega
      refine z_iload_n X 0 d_A_releaseDue_2 rfl rfl ?_
      refine z_aload_n X 1 d_A_releaseDue_3 rfl rfl ?_
      refine z_get X fl_A_63 0 e_A rfl rfl d_A_releaseDue_4 ?_
      refine z_icmp_ge X 97 d_A_releaseDue_7 (by decide) (fun c_7 => absurd c_7 (by rw [kInv_cnt hN]; exact nI_ge (by omega) (by omega))) (fun c_7 => ?_)
      refine z_aload_n X 1 d_A_releaseDue_10 rfl rfl ?_
      refine z_get X fl_A_25 0 e_A rfl rfl d_A_releaseDue_11 ?_
      refine z_iload_n X 0 d_A_releaseDue_14 rfl rfl ?_
      refine z_aald X 8 e_TA rfl i rfl hi (by decide) (g_TA hi) d_A_releaseDue_15 ?_
      refine z_astore_n X (L' := [(2, zR (9 + 4 * i)), (1, zI (nI i)), (0, zR 0)]) d_A_releaseDue_16 rfl (by decide) rfl ?_
      refine z_aload_n X 0 d_A_releaseDue_17 rfl rfl ?_
      refine z_get X fl_A_100 (9 + 4 * i) (e_K hi) rfl rfl d_A_releaseDue_18 ?_
      refine z_if_le X 91 d_A_releaseDue_21 (by decide) (fun c_21 => ?_) (fun c_21 => ?_)
      · refine z_iinc X 1 (v := nI (i + 1)) (L' := [(1, zI (nI (i + 1))), (2, zR (9 + 4 * i)), (0, zR 0)]) d_A_releaseDue_91 rfl (nI_1 i) (by decide) rfl ?_
        refine z_goto X 2 d_A_releaseDue_94 (by decide) ?_
        have hX1 : kRelOne i N = N := by simp only [kRelOne, kRelA, c_21, if_true, if_false]
        exact z_keep (ks := [0, 2]) (L' := [(1, zI (nI (i + 1))), (0, zR 0)]) rfl (ih (i + 1) N (by omega) (hX1 ▸ kInv_RelOne i N hi hN) (hX1 ▸ hq))
      · refine z_aload_n X 2 d_A_releaseDue_24 rfl rfl ?_
        refine z_aload_n X 0 d_A_releaseDue_25 rfl rfl ?_
        refine z_get X fl_A_97 (9 + 4 * i) (e_K hi) rfl rfl d_A_releaseDue_26 ?_
        refine z_Vi X GG_ok cf_A_88 0 [zI (N.1 (9 + 4 * i) 2)] [] (c_A_isOn l D cA ad _ _ (kPt N i) (kPt_lt hN hi) (kPt_eq hN hi)) ⟨rfl, rfl⟩ (by decide) e_A rfl rfl rfl rfl (Nat.le_of_ble_eq_true rfl) ⟨Nat.zero_le _, Nat.zero_le _⟩ d_A_releaseDue_29 (fun r2 M3 h4 => ?_)
        have qh4 := h4.1.symm
        subst qh4
        obtain ⟨-, ⟨rfl, p5⟩ | ⟨rfl, p5⟩⟩ := h4
        · refine z_if_eq X 91 d_A_releaseDue_32 (by decide) (fun h => absurd h (by decide)) (fun _ => ?_)
          refine z_aload_n X 0 d_A_releaseDue_35 rfl rfl ?_
          refine z_get X fl_A_106 (9 + 4 * i) (e_K hi) rfl rfl d_A_releaseDue_36 ?_
          refine z_aload_n X 2 d_A_releaseDue_39 rfl rfl ?_
          refine z_get X fl_A_103 0 e_A rfl rfl d_A_releaseDue_40 ?_
          refine z_icmp_ne X 91 d_A_releaseDue_43 (by decide) (fun c_43 => ?_) (fun c_43 => ?_)
          · refine z_iinc X 1 (v := nI (i + 1)) (L' := [(1, zI (nI (i + 1))), (2, zR (9 + 4 * i)), (0, zR 0)]) d_A_releaseDue_91 rfl (nI_1 i) (by decide) rfl ?_
            refine z_goto X 2 d_A_releaseDue_94 (by decide) ?_
            have hX6 : kRelOne i N = N := by simp only [kRelOne, kRelA, c_21, p5, c_43, if_true, if_false]
            exact z_keep (ks := [0, 2]) (L' := [(1, zI (nI (i + 1))), (0, zR 0)]) rfl (ih (i + 1) N (by omega) (hX6 ▸ kInv_RelOne i N hi hN) (hX6 ▸ hq))
          · refine z_aload_n X 0 d_A_releaseDue_46 rfl rfl ?_
            refine z_get X fl_A_109 (9 + 4 * i) (e_K hi) rfl rfl d_A_releaseDue_47 ?_
            refine z_if_ne X 68 d_A_releaseDue_50 (by decide) (fun c_50 => ?_) (fun c_50 => ?_)
            · refine z_aload_n X 0 d_A_releaseDue_68 rfl rfl ?_
              refine z_dup X d_A_releaseDue_69 rfl ?_
              refine z_get X fl_A_156 (9 + 4 * i) (e_K hi) rfl rfl d_A_releaseDue_70 ?_
              refine z_iconst X (v := 1) d_A_releaseDue_73 (by decide) ?_
              refine z_iadd X d_A_releaseDue_74 ?_
              refine z_puti X fl_A_156 (9 + 4 * i) (e_K hi) rfl rfl rfl d_A_releaseDue_75 ?_
              refine z_aload_n X 0 d_A_releaseDue_78 rfl rfl ?_
              refine z_aload_n X 2 d_A_releaseDue_79 rfl rfl ?_
              refine z_get X fl_A_103 0 e_A rfl rfl d_A_releaseDue_80 ?_
              refine z_aload_n X 0 d_A_releaseDue_83 rfl rfl ?_
              refine z_get X fl_A_100 (9 + 4 * i) (e_K hi) rfl rfl d_A_releaseDue_84 ?_
              refine z_iadd X d_A_releaseDue_87 ?_
              refine z_puti X fl_A_106 (9 + 4 * i) (e_K hi) rfl rfl rfl d_A_releaseDue_88 ?_
              refine z_iinc X 1 (v := nI (i + 1)) (L' := [(1, zI (nI (i + 1))), (2, zR (9 + 4 * i)), (0, zR 0)]) d_A_releaseDue_91 rfl (nI_1 i) (by decide) rfl ?_
              refine z_goto X 2 d_A_releaseDue_94 (by decide) ?_
              have hX7 : kRelOne i N = z_si (z_si N (9 + 4 * i) 13 ((N.1 (9 + 4 * i) 13) + 1)) (9 + 4 * i) 16 (((z_si N (9 + 4 * i) 13 ((N.1 (9 + 4 * i) 13) + 1)).1 0 6) + ((z_si N (9 + 4 * i) 13 ((N.1 (9 + 4 * i) 13) + 1)).1 (9 + 4 * i) 4)) := by simp only [kRelOne, kRelA, c_21, p5, c_43, c_50, if_true, if_false]
              exact z_keep (ks := [0, 2]) (L' := [(1, zI (nI (i + 1))), (0, zR 0)]) rfl (ih (i + 1) (z_si (z_si N (9 + 4 * i) 13 ((N.1 (9 + 4 * i) 13) + 1)) (9 + 4 * i) 16 (((z_si N (9 + 4 * i) 13 ((N.1 (9 + 4 * i) 13) + 1)).1 0 6) + ((z_si N (9 + 4 * i) 13 ((N.1 (9 + 4 * i) 13) + 1)).1 (9 + 4 * i) 4))) (by omega) (hX7 ▸ kInv_RelOne i N hi hN) (hX7 ▸ hq))
            · refine z_aload_n X 0 d_A_releaseDue_53 rfl rfl ?_
              refine z_aload_n X 2 d_A_releaseDue_54 rfl rfl ?_
              refine z_get X fl_A_103 0 e_A rfl rfl d_A_releaseDue_55 ?_
              refine z_aload_n X 2 d_A_releaseDue_58 rfl rfl ?_
              refine z_Vj X GG_ok cf_A_112 0 [] [zI (N.1 0 6), zR (9 + 4 * i)] (c_A_newTurn l D cA ad _) ⟨rfl, rfl⟩ (by decide) e_A rfl rfl rfl rfl (Nat.le_of_ble_eq_true rfl) ⟨Nat.zero_le _, Nat.zero_le _⟩ d_A_releaseDue_59 (fun r8 M9 h10 => ?_)
              have qh10 := h10.1.symm
              subst qh10
              obtain ⟨-, rfl⟩ := h10
              refine z_Vv X GG_ok cf_A_116 (9 + 4 * i) [zI (N.1 0 6), zJ (N.2 0 9 + 1)] [] (c_K_release l D cA ad _ i hi _ _) ⟨rfl, rfl⟩ (by decide) (e_K hi) rfl rfl rfl rfl (Nat.le_of_ble_eq_true rfl) ⟨Nat.zero_le _, Nat.zero_le _⟩ d_A_releaseDue_62 (fun M12 h13 => ?_)
              have qh13 := h13.symm
              subst qh13
              refine z_goto X 78 d_A_releaseDue_65 (by decide) ?_
              refine z_aload_n X 0 d_A_releaseDue_78 rfl rfl ?_
              refine z_aload_n X 2 d_A_releaseDue_79 rfl rfl ?_
              refine z_get X fl_A_103 0 e_A rfl rfl d_A_releaseDue_80 ?_
              refine z_aload_n X 0 d_A_releaseDue_83 rfl rfl ?_
              refine z_get X fl_A_100 (9 + 4 * i) (e_K hi) rfl rfl d_A_releaseDue_84 ?_
              refine z_iadd X d_A_releaseDue_87 ?_
              refine z_puti X fl_A_106 (9 + 4 * i) (e_K hi) rfl rfl rfl d_A_releaseDue_88 ?_
              refine z_iinc X 1 (v := nI (i + 1)) (L' := [(1, zI (nI (i + 1))), (2, zR (9 + 4 * i)), (0, zR 0)]) d_A_releaseDue_91 rfl (nI_1 i) (by decide) rfl ?_
              refine z_goto X 2 d_A_releaseDue_94 (by decide) ?_
              have hX14 : kRelOne i N = z_si (kRel i (N.1 0 6) (N.2 0 9 + 1) (kTurn N)) (9 + 4 * i) 16 (((kRel i (N.1 0 6) (N.2 0 9 + 1) (kTurn N)).1 0 6) + ((kRel i (N.1 0 6) (N.2 0 9 + 1) (kTurn N)).1 (9 + 4 * i) 4)) := by simp only [kRelOne, kRelA, c_21, p5, c_43, c_50, if_true, if_false]
              exact z_keep (ks := [0, 2]) (L' := [(1, zI (nI (i + 1))), (0, zR 0)]) rfl (ih (i + 1) (z_si (kRel i (N.1 0 6) (N.2 0 9 + 1) (kTurn N)) (9 + 4 * i) 16 (((kRel i (N.1 0 6) (N.2 0 9 + 1) (kTurn N)).1 0 6) + ((kRel i (N.1 0 6) (N.2 0 9 + 1) (kTurn N)).1 (9 + 4 * i) 4))) (by omega) (hX14 ▸ kInv_RelOne i N hi hN) (hX14 ▸ hq))
        · refine z_if_eq X 91 d_A_releaseDue_32 (by decide) (fun _ => ?_) (fun h => absurd h (by decide))
          refine z_iinc X 1 (v := nI (i + 1)) (L' := [(1, zI (nI (i + 1))), (2, zR (9 + 4 * i)), (0, zR 0)]) d_A_releaseDue_91 rfl (nI_1 i) (by decide) rfl ?_
          refine z_goto X 2 d_A_releaseDue_94 (by decide) ?_
          have hX16 : kRelOne i N = N := by simp only [kRelOne, kRelA, c_21, p5, if_true, if_false]
          exact z_keep (ks := [0, 2]) (L' := [(1, zI (nI (i + 1))), (0, zR 0)]) rfl (ih (i + 1) N (by omega) (hX16 ▸ kInv_RelOne i N hi hN) (hX16 ▸ hq))
  refine z_iconst X (v := 0) d_A_releaseDue_0 (by decide) ?_
  refine z_istore_n X (L' := [(1, zI 0), (0, zR 0)]) d_A_releaseDue_1 rfl (by decide) rfl ?_
  exact loop n 0 M (by omega) hI rfl

set_option maxHeartbeats 4000000 in
set_option maxRecDepth 100000 in
theorem c_A_miss (l : Launch) (D : va_G) (cA : Nat → ClassId) (ad : Nat → Nat) (M : zM) (n w : Nat) (hI : kInv n w M) (i : Nat) (hi : i < 8) : Cv l D cA ad y_A_miss b_A_miss 3 none (zr 2 44) [zR 0, zR (9 + 4 * i)] M (fun M' => M' = kMiss n i M) := by
  refine zMv_of (plainFor_of_name (by decide)) (Nat.le_of_ble_eq_true rfl) ?_
  intro p e s m args below meth c A X
  refine z_aload_n X 0 d_A_miss_0 rfl rfl ?_
  refine z_get X fl_A_18 0 e_A rfl rfl d_A_miss_1 ?_
  refine z_aload_n X 1 d_A_miss_4 rfl rfl ?_
  refine z_get X fl_A_97 (9 + 4 * i) (e_K hi) rfl rfl d_A_miss_5 ?_
  refine z_aald X 4 e_PA rfl (kPt M i) (kPt_eq hI hi) (kPt_lt hI hi) (by decide) (g_PA (kPt_lt hI hi)) d_A_miss_8 ?_
  refine z_astore_n X (L' := [(2, zR (5 + (kPt M i))), (0, zR 0), (1, zR (9 + 4 * i))]) d_A_miss_9 rfl (by decide) rfl ?_
  refine z_aload_n X 2 d_A_miss_10 rfl rfl ?_
  refine z_dup X d_A_miss_11 rfl ?_
  refine z_get X fl_A_166 (9 + 4 * i) (e_K hi) rfl rfl d_A_miss_12 ?_
  refine z_iconst X (v := 1) d_A_miss_15 (by decide) ?_
  refine z_iadd X d_A_miss_16 ?_
  refine z_puti X fl_A_166 (9 + 4 * i) (e_K hi) rfl rfl rfl d_A_miss_17 ?_
  refine z_aload_n X 2 d_A_miss_20 rfl rfl ?_
  refine z_iconst X (v := (-1)) d_A_miss_21 (by decide) ?_
  refine z_puti X fl_A_159 (9 + 4 * i) (e_K hi) rfl rfl rfl d_A_miss_22 ?_
  refine z_aload_n X 0 d_A_miss_25 rfl rfl ?_
  refine z_get X fl_A_85 (5 + (kPt M i)) (e_P (kPt_lt hI hi)) rfl rfl d_A_miss_26 ?_
  refine z_iconst X (v := 1) d_A_miss_29 (by decide) ?_
  refine z_icmp_ne X 44 d_A_miss_30 (by decide) (fun c_30 => ?_) (fun c_30 => ?_)
  · refine z_aload_n X 0 d_A_miss_44 rfl rfl ?_
    refine z_get X fl_A_85 (5 + (kPt M i)) (e_P (kPt_lt hI hi)) rfl rfl d_A_miss_45 ?_
    refine z_iconst X (v := 2) d_A_miss_48 (by decide) ?_
    refine z_icmp_ne X 65 d_A_miss_49 (by decide) (fun c_49 => ?_) (fun c_49 => ?_)
    · exact z_vret X (by simp only [kMiss, kMiss1, c_30, c_49, if_true, if_false]) d_A_miss_65
    · refine z_aload_n X 0 d_A_miss_52 rfl rfl ?_
      refine z_iconst X (v := 2) d_A_miss_53 (by decide) ?_
      refine z_puti X fl_A_91 (5 + (kPt M i)) (e_P (kPt_lt hI hi)) rfl rfl rfl d_A_miss_54 ?_
      refine z_aload_n X 1 d_A_miss_57 rfl rfl ?_
      refine z_aload_n X 2 d_A_miss_58 rfl rfl ?_
      refine z_get X fl_A_97 (9 + 4 * i) (e_K hi) rfl rfl d_A_miss_59 ?_
      refine z_Vv X GG_ok cf_A_94 0 [zI ((z_si (z_si (z_si M (9 + 4 * i) 12 ((M.1 (9 + 4 * i) 12) + 1)) (9 + 4 * i) 11 (-1)) (5 + (kPt M i)) 0 2).1 (9 + 4 * i) 2)] [] (c_A_restAll l D cA ad _ n w (kInv_far (kInv_task (kInv_task hI hi _ (by decide) (by decide)) hi _ (by decide) (by decide)) _ (by have := kPt_lt hI hi; omega)) _) ⟨rfl, rfl⟩ (by decide) e_A rfl rfl rfl rfl (Nat.le_of_ble_eq_true rfl) ⟨Nat.zero_le _, Nat.zero_le _⟩ d_A_miss_62 (fun M2 h3 => ?_)
      have qh3 := h3.symm
      subst qh3
      exact z_vret X (by simp only [kMiss, kMiss1, c_30, c_49, if_true, if_false]; rw [z_si_other _ _ (by omega), z_si_other _ _ (by omega), z_si_other _ _ (by omega), kPt_eq hI hi]; exact (if_neg (by decide)).symm) d_A_miss_65
  · refine z_aload_n X 2 d_A_miss_33 rfl rfl ?_
    refine z_aload_n X 1 d_A_miss_34 rfl rfl ?_
    refine z_Vj X GG_ok cf_A_112 0 [] [zR (9 + 4 * i)] (c_A_newTurn l D cA ad _) ⟨rfl, rfl⟩ (by decide) e_A rfl rfl rfl rfl (Nat.le_of_ble_eq_true rfl) ⟨Nat.zero_le _, Nat.zero_le _⟩ d_A_miss_35 (fun r4 M5 h6 => ?_)
    have qh6 := h6.1.symm
    subst qh6
    obtain ⟨-, rfl⟩ := h6
    refine z_Vv X GG_ok cf_A_169 (9 + 4 * i) [zJ ((z_si (z_si M (9 + 4 * i) 12 ((M.1 (9 + 4 * i) 12) + 1)) (9 + 4 * i) 11 (-1)).2 0 9 + 1)] [] (c_K_beginAnew l D cA ad _ i hi _) ⟨rfl, rfl⟩ (by decide) (e_K hi) rfl rfl rfl rfl (Nat.le_of_ble_eq_true rfl) ⟨Nat.zero_le _, Nat.zero_le _⟩ d_A_miss_38 (fun M8 h9 => ?_)
    have qh9 := h9.symm
    subst qh9
    refine z_goto X 65 d_A_miss_41 (by decide) ?_
    exact z_vret X (by simp only [kMiss, kMiss1, c_30, if_true, if_false]) d_A_miss_65

set_option maxHeartbeats 4000000 in
set_option maxRecDepth 100000 in
theorem c_A_missDue (l : Launch) (D : va_G) (cA : Nat → ClassId) (ad : Nat → Nat) (M : zM) (n w : Nat) (hI : kInv n w M) : Cv l D cA ad y_A_missDue b_A_missDue 3 none (zr 3 66) [zR 0] M (fun M' => M' = kFor (kMissOne n) n 0 M) := by
  refine zMv_of (plainFor_of_name (by decide)) (Nat.le_of_ble_eq_true rfl) ?_
  intro p e s m args below meth c A X
  have loop : ∀ (k i : Nat) (N : zM), i + k = n → kInv n w N → kFor (kMissOne n) k i N = kFor (kMissOne n) n 0 M → zW p l e (zr 3 66) s m args below meth c 0 0 (MQ below (va_Qv (fun M' => M' = kFor (kMissOne n) n 0 M) (fun M' t => va_P D cls (z_w cA ad M' 0 EE) t.heap) A) args s 0 0 A) A D cls cA ad EE 3 N 2 [(1, zI (nI i)), (0, zR 0)] [] := by
    intro k
    induction k with
    | zero =>
      intro i N hk hN hq
      have hn := kInv_n hN
      refine z_iload_n X 0 d_A_missDue_2 rfl rfl ?_
      refine z_aload_n X 1 d_A_missDue_3 rfl rfl ?_
      refine z_get X fl_A_63 0 e_A rfl rfl d_A_missDue_4 ?_
      refine z_icmp_ge X 57 d_A_missDue_7 (by decide) (fun c_7 => ?_) (fun c_7 => absurd (by rw [kInv_cnt hN, show i = n by omega]; exact nI_le (Nat.le_refl _) (by omega)) c_7)
      exact z_vret X hq d_A_missDue_57
    | succ k ih =>
      intro i N hk hN hq
      have hn := kInv_n hN
      have hi : i < 8 := by omega
      refine z_iload_n X 0 d_A_missDue_2 rfl rfl ?_
      refine z_aload_n X 1 d_A_missDue_3 rfl rfl ?_
      refine z_get X fl_A_63 0 e_A rfl rfl d_A_missDue_4 ?_
      refine z_icmp_ge X 57 d_A_missDue_7 (by decide) (fun c_7 => absurd c_7 (by rw [kInv_cnt hN]; exact nI_ge (by omega) (by omega))) (fun c_7 => ?_)
      refine z_aload_n X 1 d_A_missDue_10 rfl rfl ?_
      refine z_get X fl_A_25 0 e_A rfl rfl d_A_missDue_11 ?_
      refine z_iload_n X 0 d_A_missDue_14 rfl rfl ?_
      refine z_aald X 8 e_TA rfl i rfl hi (by decide) (g_TA hi) d_A_missDue_15 ?_
      refine z_astore_n X (L' := [(2, zR (9 + 4 * i)), (1, zI (nI i)), (0, zR 0)]) d_A_missDue_16 rfl (by decide) rfl ?_
      refine z_aload_n X 2 d_A_missDue_17 rfl rfl ?_
      refine z_aload_n X 0 d_A_missDue_18 rfl rfl ?_
      refine z_get X fl_A_97 (9 + 4 * i) (e_K hi) rfl rfl d_A_missDue_19 ?_
      refine z_Vi X GG_ok cf_A_88 0 [zI (N.1 (9 + 4 * i) 2)] [] (c_A_isOn l D cA ad _ _ (kPt N i) (kPt_lt hN hi) (kPt_eq hN hi)) ⟨rfl, rfl⟩ (by decide) e_A rfl rfl rfl rfl (Nat.le_of_ble_eq_true rfl) ⟨Nat.zero_le _, Nat.zero_le _⟩ d_A_missDue_22 (fun r1 M2 h3 => ?_)
      have qh3 := h3.1.symm
      subst qh3
      obtain ⟨-, ⟨rfl, p4⟩ | ⟨rfl, p4⟩⟩ := h3
      · refine z_if_eq X 51 d_A_missDue_25 (by decide) (fun h => absurd h (by decide)) (fun _ => ?_)
        refine z_aload_n X 0 d_A_missDue_28 rfl rfl ?_
        refine z_get X fl_A_109 (9 + 4 * i) (e_K hi) rfl rfl d_A_missDue_29 ?_
        refine z_if_eq X 51 d_A_missDue_32 (by decide) (fun c_32 => ?_) (fun c_32 => ?_)
        · refine z_iinc X 1 (v := nI (i + 1)) (L' := [(1, zI (nI (i + 1))), (2, zR (9 + 4 * i)), (0, zR 0)]) d_A_missDue_51 rfl (nI_1 i) (by decide) rfl ?_
          refine z_goto X 2 d_A_missDue_54 (by decide) ?_
          have hX5 : kMissOne n i N = N := by simp only [kMissOne, p4, c_32, if_true, if_false]
          exact z_keep (ks := [0, 2]) (L' := [(1, zI (nI (i + 1))), (0, zR 0)]) rfl (ih (i + 1) N (by omega) (hX5 ▸ kInv_MissOne i N hi hN) (hX5 ▸ hq))
        · refine z_aload_n X 0 d_A_missDue_35 rfl rfl ?_
          refine z_get X fl_A_159 (9 + 4 * i) (e_K hi) rfl rfl d_A_missDue_36 ?_
          refine z_aload_n X 2 d_A_missDue_39 rfl rfl ?_
          refine z_get X fl_A_103 0 e_A rfl rfl d_A_missDue_40 ?_
          refine z_icmp_ne X 51 d_A_missDue_43 (by decide) (fun c_43 => ?_) (fun c_43 => ?_)
          · refine z_iinc X 1 (v := nI (i + 1)) (L' := [(1, zI (nI (i + 1))), (2, zR (9 + 4 * i)), (0, zR 0)]) d_A_missDue_51 rfl (nI_1 i) (by decide) rfl ?_
            refine z_goto X 2 d_A_missDue_54 (by decide) ?_
            have hX6 : kMissOne n i N = N := by simp only [kMissOne, p4, c_32, c_43, if_true, if_false]
            exact z_keep (ks := [0, 2]) (L' := [(1, zI (nI (i + 1))), (0, zR 0)]) rfl (ih (i + 1) N (by omega) (hX6 ▸ kInv_MissOne i N hi hN) (hX6 ▸ hq))
          · refine z_aload_n X 2 d_A_missDue_46 rfl rfl ?_
            refine z_aload_n X 0 d_A_missDue_47 rfl rfl ?_
            refine z_Vv X GG_ok cf_A_162 0 [zR (9 + 4 * i)] [] (c_A_miss l D cA ad _ n w hN i hi) ⟨rfl, rfl⟩ (by decide) e_A rfl rfl rfl rfl (Nat.le_of_ble_eq_true rfl) ⟨Nat.zero_le _, Nat.zero_le _⟩ d_A_missDue_48 (fun M8 h9 => ?_)
            have qh9 := h9.symm
            subst qh9
            refine z_iinc X 1 (v := nI (i + 1)) (L' := [(1, zI (nI (i + 1))), (2, zR (9 + 4 * i)), (0, zR 0)]) d_A_missDue_51 rfl (nI_1 i) (by decide) rfl ?_
            refine z_goto X 2 d_A_missDue_54 (by decide) ?_
            have hX10 : kMissOne n i N = kMiss n i N := by simp only [kMissOne, p4, c_32, c_43, if_true, if_false]
            exact z_keep (ks := [0, 2]) (L' := [(1, zI (nI (i + 1))), (0, zR 0)]) rfl (ih (i + 1) (kMiss n i N) (by omega) (hX10 ▸ kInv_MissOne i N hi hN) (hX10 ▸ hq))
      · refine z_if_eq X 51 d_A_missDue_25 (by decide) (fun _ => ?_) (fun h => absurd h (by decide))
        refine z_iinc X 1 (v := nI (i + 1)) (L' := [(1, zI (nI (i + 1))), (2, zR (9 + 4 * i)), (0, zR 0)]) d_A_missDue_51 rfl (nI_1 i) (by decide) rfl ?_
        refine z_goto X 2 d_A_missDue_54 (by decide) ?_
        have hX12 : kMissOne n i N = N := by simp only [kMissOne, p4, if_true, if_false]
        exact z_keep (ks := [0, 2]) (L' := [(1, zI (nI (i + 1))), (0, zR 0)]) rfl (ih (i + 1) N (by omega) (hX12 ▸ kInv_MissOne i N hi hN) (hX12 ▸ hq))
  refine z_iconst X (v := 0) d_A_missDue_0 (by decide) ?_
  refine z_istore_n X (L' := [(1, zI 0), (0, zR 0)]) d_A_missDue_1 rfl (by decide) rfl ?_
  exact loop n 0 M (by omega) hI rfl
end
section
theorem kFst_no {P : Nat → Prop} {M : zM} {k i : Nat} {b : Option Nat} (h : ¬ (P i ∧ kBef M i b)) : kFst P M (k + 1) i b = kFst P M k (i + 1) b := by rw [kFst, if_neg h]
theorem kFst_yes {P : Nat → Prop} {M : zM} {k i : Nat} {b : Option Nat} (h : P i ∧ kBef M i b) : kFst P M (k + 1) i b = kFst P M k (i + 1) (some i) := by rw [kFst, if_pos h]
theorem kPartAt_ok {n w : Nat} {M : zM} (h : kInv n w M) {t : Int32} (h1 : ¬ kPartAt M w t = (-1)) : kPartAt M w t = nI (kPartAt M w t).toNatClampNeg ∧ (kPartAt M w t).toNatClampNeg < 3 := by
  unfold kPartAt at h1 ⊢
  by_cases h0 : w = 0
  · rw [if_pos h0] at h1
    exact absurd rfl h1
  · rw [if_neg h0]
    obtain ⟨q, hq, e⟩ := h.1.2.2.2.2.2.1 (kIdx M w t) (kIdx_lt M h0 t)
    rw [e, nI_clamp (n := q) (by omega)]
    exact ⟨rfl, hq⟩
theorem kGo_none {n : Nat} {p : Int32} {f : Nat} {M : zM} (h : kFR n p M = none) : kGo n p (f + 1) M = kIdle M := by rw [kGo, h]
theorem kGo_work {n : Nat} {p : Int32} {f : Nat} {M : zM} {j : Nat} (h : kFR n p M = some j) (h0 : kOrd M j = 0) : kGo n p (f + 1) M = kDo n j M := by
  rw [kGo, h]
  exact if_pos h0
theorem kGo_on {n : Nat} {p : Int32} {f : Nat} {M : zM} {j : Nat} (h : kFR n p M = some j) (h0 : ¬ kOrd M j = 0) : kGo n p (f + 1) M = kGo n p f (kDo n j M) := by
  rw [kGo, h]
  exact if_neg h0
section ZMore
variable {p : Program} {l : Launch} {e : Env} {R : Room} {s : State} {m : MethodId} {args : Array Value} {below : List Frame} {meth : Method} {c : Code} {cells slots : Nat} {Q : State → Prop} {A : Nat → Prop} {D : va_G} {cl : List vw_C} {tys : List (ClassId × FieldType)} {cA : Nat → ClassId} {ad : Nat → Nat} {E : List zC} {nL : Nat} {M : zM} {pc : Nat} {L L' : List (Nat × zA)} {st : List zA} {Ts : List Cond} {own : String} {cc : ByteArray} {ret : Option FieldType}
theorem z_aloadN (X : zX p s m args meth c A D cl tys Ts own cc nL ret) {i : Nat} (j : Nat) (hd : decode cc pc = .ok (.aload i, 2)) (hj : L[j]? = some (i, zN)) (k : zW p l e R s m args below meth c cells slots Q A D cl cA ad E nL M (pc + 2) L (zN :: st)) : zW p l e R s m args below meth c cells slots Q A D cl cA ad E nL M pc L st :=
  fun H locs ls hP hD hS hl => lv_aloadN X.1 X.2.1 hd (lv_at hl j (z_L hj)) (k H locs ls hP hD hS hl)
theorem z_astoreN (X : zX p s m args meth c A D cl tys Ts own cc nL ret) {i : Nat} (hd : decode cc pc = .ok (.astore i, 2)) (hn : i < nL) (hl' : (i, zN) :: L.filter (fun q => !(q.1 == i) && !(q.1 + 1 == i && z_two q.2)) = L') (k : zW p l e R s m args below meth c cells slots Q A D cl cA ad E nL M (pc + 2) L' st) : zW p l e R s m args below meth c cells slots Q A D cl cA ad E nL M pc L (zN :: st) :=
  fun H locs ls hP hD hS hl => lv_astoreN X.1 X.2.1 hd hl hn (by rw [z_fil, ← hl']; rfl) (fun ls' hl2 => k H locs ls' hP hD hS hl2)
end ZMore
end
section
set_option maxHeartbeats 4000000 in
set_option maxRecDepth 100000 in
theorem c_A_firstReady (l : Launch) (D : va_G) (cA : Nat → ClassId) (ad : Nat → Nat) (M : zM) (n w : Nat) (hI : kInv n w M) (a : Int32) : Cq l D cA ad y_A_firstReady b_A_firstReady 5 (some (.object "WindowPlan$Task")) (zr 1 21) [zR 0, zI a] M (fun o M' => M' = M ∧ o = (kFR n a M).map (fun j => 9 + 4 * j)) := by
  refine zMq_of (plainFor_of_name (by decide)) (Nat.le_of_ble_eq_true rfl) ?_
  intro p e s m args below meth c A X
  have hn := kInv_n hI
  have loop : ∀ (k i : Nat) (b : Option Nat), i + k = n → (∀ j, b = some j → j < i) → kFst (kIsReady M a) M k i b = kFR n a M → zW p l e (zr 1 21) s m args below meth c 0 0 (MQ below (va_Qq (fun (r : Option Nat) (u : zM) => ∃ o : Option Nat, r = o.map ad ∧ ((fun o M' => M' = M ∧ o = (kFR n a M).map (fun j => 9 + 4 * j))) o u) (fun M' t => va_P D cls (z_w cA ad M' 0 EE) t.heap) A) args s 0 0 A) A D cls cA ad EE 5 M 4 [(3, zI (nI i)), (2, (.inr (.inr (b.map (fun j => 9 + 4 * j))) : zA)), (0, zR 0), (1, zI a)] [] := by
    intro k
    induction k with
    | zero =>
      intro i b hk hb hq
      cases b with
      | none =>
        refine z_iload_n X 0 d_A_firstReady_4 rfl rfl ?_
        refine z_aload_n X 2 d_A_firstReady_5 rfl rfl ?_
        refine z_get X fl_A_63 0 e_A rfl rfl d_A_firstReady_6 ?_
        refine z_icmp_ge X 56 d_A_firstReady_9 (by decide) (fun c_9 => ?_) (fun c_9 => absurd (by rw [kInv_cnt hI, show i = n by omega]; exact nI_le (Nat.le_refl _) (by omega)) c_9)
        refine z_aload_nN X 1 d_A_firstReady_56 rfl rfl ?_
        exact z_aret X (o := none) (⟨rfl, by rw [← hq]; rfl⟩) d_A_firstReady_57
      | some j =>
        refine z_iload_n X 0 d_A_firstReady_4 rfl rfl ?_
        refine z_aload_n X 2 d_A_firstReady_5 rfl rfl ?_
        refine z_get X fl_A_63 0 e_A rfl rfl d_A_firstReady_6 ?_
        refine z_icmp_ge X 56 d_A_firstReady_9 (by decide) (fun c_9 => ?_) (fun c_9 => absurd (by rw [kInv_cnt hI, show i = n by omega]; exact nI_le (Nat.le_refl _) (by omega)) c_9)
        refine z_aload_n X 1 d_A_firstReady_56 rfl rfl ?_
        exact z_aret X (o := some (9 + 4 * j)) (⟨rfl, by rw [← hq]; rfl⟩) d_A_firstReady_57
    | succ k ih =>
      intro i b hk hb hq
      have hi : i < 8 := by omega
      cases b with
      | none =>
        refine z_iload_n X 0 d_A_firstReady_4 rfl rfl ?_
        refine z_aload_n X 2 d_A_firstReady_5 rfl rfl ?_
        refine z_get X fl_A_63 0 e_A rfl rfl d_A_firstReady_6 ?_
        refine z_icmp_ge X 56 d_A_firstReady_9 (by decide) (fun c_9 => absurd c_9 (by rw [kInv_cnt hI]; exact nI_ge (by omega) (by omega))) (fun c_9 => ?_)
        refine z_aload_n X 2 d_A_firstReady_12 rfl rfl ?_
        refine z_get X fl_A_25 0 e_A rfl rfl d_A_firstReady_13 ?_
        refine z_iload_n X 0 d_A_firstReady_16 rfl rfl ?_
        refine z_aald X 8 e_TA rfl i rfl hi (by decide) (g_TA hi) d_A_firstReady_17 ?_
        refine z_astore X (L' := [(4, zR (9 + 4 * i)), (3, zI (nI i)), (2, zN), (0, zR 0), (1, zI a)]) d_A_firstReady_18 (by decide) rfl ?_
        refine z_aload X 0 d_A_firstReady_20 rfl ?_
        refine z_get X fl_A_97 (9 + 4 * i) (e_K hi) rfl rfl d_A_firstReady_22 ?_
        refine z_iload_n X 4 d_A_firstReady_25 rfl rfl ?_
        refine z_icmp_ne X 50 d_A_firstReady_26 (by decide) (fun c_26 => ?_) (fun c_26 => ?_)
        · refine z_iinc X 1 (v := nI (i + 1)) (L' := [(3, zI (nI (i + 1))), (4, zR (9 + 4 * i)), (2, zN), (0, zR 0), (1, zI a)]) d_A_firstReady_50 rfl (nI_1 i) (by decide) rfl ?_
          refine z_goto X 4 d_A_firstReady_53 (by decide) ?_
          exact z_keep (ks := [0, 2, 3, 4]) (L' := [(3, zI (nI (i + 1))), (2, zN), (0, zR 0), (1, zI a)]) rfl (ih (i + 1) none (by omega) (fun j h => by cases h) ((kFst_no (fun q => c_26 q.1.1)).symm.trans hq))
        · refine z_aload X 0 d_A_firstReady_29 rfl ?_
          refine z_get X fl_A_109 (9 + 4 * i) (e_K hi) rfl rfl d_A_firstReady_31 ?_
          refine z_iconst X (v := 1) d_A_firstReady_34 (by decide) ?_
          refine z_icmp_ne X 50 d_A_firstReady_35 (by decide) (fun c_35 => ?_) (fun c_35 => ?_)
          · refine z_iinc X 1 (v := nI (i + 1)) (L' := [(3, zI (nI (i + 1))), (4, zR (9 + 4 * i)), (2, zN), (0, zR 0), (1, zI a)]) d_A_firstReady_50 rfl (nI_1 i) (by decide) rfl ?_
            refine z_goto X 4 d_A_firstReady_53 (by decide) ?_
            exact z_keep (ks := [0, 2, 3, 4]) (L' := [(3, zI (nI (i + 1))), (2, zN), (0, zR 0), (1, zI a)]) rfl (ih (i + 1) none (by omega) (fun j h => by cases h) ((kFst_no (fun q => c_35 q.1.2)).symm.trans hq))
          · refine z_aload X 0 d_A_firstReady_38 rfl ?_
            refine z_aload_nN X 2 d_A_firstReady_40 rfl rfl ?_
            refine z_Vi X GG_ok cf_A_235 (9 + 4 * i) [zN] [] (c_K_comesBefore_N l D cA ad _ i hi) ⟨rfl, rfl⟩ (by decide) (e_K hi) rfl rfl rfl rfl (Nat.le_of_ble_eq_true rfl) ⟨Nat.zero_le _, Nat.zero_le _⟩ d_A_firstReady_41 (fun r1 M2 h3 => ?_)
            have qh3 := h3.1.symm
            subst qh3
            obtain ⟨-, ⟨rfl, pb⟩ | ⟨rfl, pb⟩⟩ := h3
            · refine z_if_eq X 50 d_A_firstReady_44 (by decide) (fun h => absurd h (by decide)) (fun _ => ?_)
              refine z_aload X 0 d_A_firstReady_47 rfl ?_
              refine z_astore_n X (L' := [(2, zR (9 + 4 * i)), (4, zR (9 + 4 * i)), (3, zI (nI i)), (0, zR 0), (1, zI a)]) d_A_firstReady_49 rfl (by decide) rfl ?_
              refine z_iinc X 2 (v := nI (i + 1)) (L' := [(3, zI (nI (i + 1))), (2, zR (9 + 4 * i)), (4, zR (9 + 4 * i)), (0, zR 0), (1, zI a)]) d_A_firstReady_50 rfl (nI_1 i) (by decide) rfl ?_
              refine z_goto X 4 d_A_firstReady_53 (by decide) ?_
              exact z_keep (ks := [0, 1, 3, 4]) (L' := [(3, zI (nI (i + 1))), (2, zR (9 + 4 * i)), (0, zR 0), (1, zI a)]) rfl (ih (i + 1) (some i) (by omega) (fun j h => by cases h; omega) ((kFst_yes ⟨⟨c_26, c_35⟩, pb⟩).symm.trans hq))
            · refine z_if_eq X 50 d_A_firstReady_44 (by decide) (fun _ => ?_) (fun h => absurd h (by decide))
              refine z_iinc X 1 (v := nI (i + 1)) (L' := [(3, zI (nI (i + 1))), (4, zR (9 + 4 * i)), (2, zN), (0, zR 0), (1, zI a)]) d_A_firstReady_50 rfl (nI_1 i) (by decide) rfl ?_
              refine z_goto X 4 d_A_firstReady_53 (by decide) ?_
              exact z_keep (ks := [0, 2, 3, 4]) (L' := [(3, zI (nI (i + 1))), (2, zN), (0, zR 0), (1, zI a)]) rfl (ih (i + 1) none (by omega) (fun j h => by cases h) ((kFst_no (fun q => pb q.2)).symm.trans hq))
      | some j =>
        have hj : j < 8 := by have := hb j rfl; omega
        refine z_iload_n X 0 d_A_firstReady_4 rfl rfl ?_
        refine z_aload_n X 2 d_A_firstReady_5 rfl rfl ?_
        refine z_get X fl_A_63 0 e_A rfl rfl d_A_firstReady_6 ?_
        refine z_icmp_ge X 56 d_A_firstReady_9 (by decide) (fun c_9 => absurd c_9 (by rw [kInv_cnt hI]; exact nI_ge (by omega) (by omega))) (fun c_9 => ?_)
        refine z_aload_n X 2 d_A_firstReady_12 rfl rfl ?_
        refine z_get X fl_A_25 0 e_A rfl rfl d_A_firstReady_13 ?_
        refine z_iload_n X 0 d_A_firstReady_16 rfl rfl ?_
        refine z_aald X 8 e_TA rfl i rfl hi (by decide) (g_TA hi) d_A_firstReady_17 ?_
        refine z_astore X (L' := [(4, zR (9 + 4 * i)), (3, zI (nI i)), (2, zR (9 + 4 * j)), (0, zR 0), (1, zI a)]) d_A_firstReady_18 (by decide) rfl ?_
        refine z_aload X 0 d_A_firstReady_20 rfl ?_
        refine z_get X fl_A_97 (9 + 4 * i) (e_K hi) rfl rfl d_A_firstReady_22 ?_
        refine z_iload_n X 4 d_A_firstReady_25 rfl rfl ?_
        refine z_icmp_ne X 50 d_A_firstReady_26 (by decide) (fun c_26 => ?_) (fun c_26 => ?_)
        · refine z_iinc X 1 (v := nI (i + 1)) (L' := [(3, zI (nI (i + 1))), (4, zR (9 + 4 * i)), (2, zR (9 + 4 * j)), (0, zR 0), (1, zI a)]) d_A_firstReady_50 rfl (nI_1 i) (by decide) rfl ?_
          refine z_goto X 4 d_A_firstReady_53 (by decide) ?_
          exact z_keep (ks := [0, 2, 3, 4]) (L' := [(3, zI (nI (i + 1))), (2, zR (9 + 4 * j)), (0, zR 0), (1, zI a)]) rfl (ih (i + 1) (some j) (by omega) (fun j h => by have := hb j h; omega) ((kFst_no (fun q => c_26 q.1.1)).symm.trans hq))
        · refine z_aload X 0 d_A_firstReady_29 rfl ?_
          refine z_get X fl_A_109 (9 + 4 * i) (e_K hi) rfl rfl d_A_firstReady_31 ?_
          refine z_iconst X (v := 1) d_A_firstReady_34 (by decide) ?_
          refine z_icmp_ne X 50 d_A_firstReady_35 (by decide) (fun c_35 => ?_) (fun c_35 => ?_)
          · refine z_iinc X 1 (v := nI (i + 1)) (L' := [(3, zI (nI (i + 1))), (4, zR (9 + 4 * i)), (2, zR (9 + 4 * j)), (0, zR 0), (1, zI a)]) d_A_firstReady_50 rfl (nI_1 i) (by decide) rfl ?_
            refine z_goto X 4 d_A_firstReady_53 (by decide) ?_
            exact z_keep (ks := [0, 2, 3, 4]) (L' := [(3, zI (nI (i + 1))), (2, zR (9 + 4 * j)), (0, zR 0), (1, zI a)]) rfl (ih (i + 1) (some j) (by omega) (fun j h => by have := hb j h; omega) ((kFst_no (fun q => c_35 q.1.2)).symm.trans hq))
          · refine z_aload X 0 d_A_firstReady_38 rfl ?_
            refine z_aload_n X 2 d_A_firstReady_40 rfl rfl ?_
            refine z_Vi X GG_ok cf_A_235 (9 + 4 * i) [zR (9 + 4 * j)] [] (c_K_comesBefore_S l D cA ad _ i hi j hj) ⟨rfl, rfl⟩ (by decide) (e_K hi) rfl rfl rfl rfl (Nat.le_of_ble_eq_true rfl) ⟨Nat.zero_le _, Nat.zero_le _⟩ d_A_firstReady_41 (fun r1 M2 h3 => ?_)
            have qh3 := h3.1.symm
            subst qh3
            obtain ⟨-, ⟨rfl, pb⟩ | ⟨rfl, pb⟩⟩ := h3
            · refine z_if_eq X 50 d_A_firstReady_44 (by decide) (fun h => absurd h (by decide)) (fun _ => ?_)
              refine z_aload X 0 d_A_firstReady_47 rfl ?_
              refine z_astore_n X (L' := [(2, zR (9 + 4 * i)), (4, zR (9 + 4 * i)), (3, zI (nI i)), (0, zR 0), (1, zI a)]) d_A_firstReady_49 rfl (by decide) rfl ?_
              refine z_iinc X 2 (v := nI (i + 1)) (L' := [(3, zI (nI (i + 1))), (2, zR (9 + 4 * i)), (4, zR (9 + 4 * i)), (0, zR 0), (1, zI a)]) d_A_firstReady_50 rfl (nI_1 i) (by decide) rfl ?_
              refine z_goto X 4 d_A_firstReady_53 (by decide) ?_
              exact z_keep (ks := [0, 1, 3, 4]) (L' := [(3, zI (nI (i + 1))), (2, zR (9 + 4 * i)), (0, zR 0), (1, zI a)]) rfl (ih (i + 1) (some i) (by omega) (fun j h => by cases h; omega) ((kFst_yes ⟨⟨c_26, c_35⟩, pb⟩).symm.trans hq))
            · refine z_if_eq X 50 d_A_firstReady_44 (by decide) (fun _ => ?_) (fun h => absurd h (by decide))
              refine z_iinc X 1 (v := nI (i + 1)) (L' := [(3, zI (nI (i + 1))), (4, zR (9 + 4 * i)), (2, zR (9 + 4 * j)), (0, zR 0), (1, zI a)]) d_A_firstReady_50 rfl (nI_1 i) (by decide) rfl ?_
              refine z_goto X 4 d_A_firstReady_53 (by decide) ?_
              exact z_keep (ks := [0, 2, 3, 4]) (L' := [(3, zI (nI (i + 1))), (2, zR (9 + 4 * j)), (0, zR 0), (1, zI a)]) rfl (ih (i + 1) (some j) (by omega) (fun j h => by have := hb j h; omega) ((kFst_no (fun q => pb q.2)).symm.trans hq))
  refine z_null X d_A_firstReady_0 ?_
  refine z_astore_nN X (L' := [(2, zN), (0, zR 0), (1, zI a)]) d_A_firstReady_1 rfl (by decide) rfl ?_
  refine z_iconst X (v := 0) d_A_firstReady_2 (by decide) ?_
  refine z_istore_n X (L' := [(3, zI 0), (2, zN), (0, zR 0), (1, zI a)]) d_A_firstReady_3 rfl (by decide) rfl ?_
  exact loop n 0 none (by omega) (fun j h => by cases h) rfl

set_option maxHeartbeats 4000000 in
set_option maxRecDepth 100000 in
theorem c_A_firstWaiting (l : Launch) (D : va_G) (cA : Nat → ClassId) (ad : Nat → Nat) (M : zM) (n w : Nat) (hI : kInv n w M) (a d : Int32) : Cq l D cA ad y_A_firstWaiting b_A_firstWaiting 6 (some (.object "WindowPlan$Task")) (zr 1 22) [zR 0, zI a, zI d] M (fun o M' => M' = M ∧ o = (kFW n a d M).map (fun j => 9 + 4 * j)) := by
  refine zMq_of (plainFor_of_name (by decide)) (Nat.le_of_ble_eq_true rfl) ?_
  intro p e s m args below meth c A X
  have hn := kInv_n hI
  have loop : ∀ (k i : Nat) (b : Option Nat), i + k = n → (∀ j, b = some j → j < i) → kFst (kWaits M a d) M k i b = kFW n a d M → zW p l e (zr 1 22) s m args below meth c 0 0 (MQ below (va_Qq (fun (r : Option Nat) (u : zM) => ∃ o : Option Nat, r = o.map ad ∧ ((fun o M' => M' = M ∧ o = (kFW n a d M).map (fun j => 9 + 4 * j))) o u) (fun M' t => va_P D cls (z_w cA ad M' 0 EE) t.heap) A) args s 0 0 A) A D cls cA ad EE 6 M 5 [(4, zI (nI i)), (3, (.inr (.inr (b.map (fun j => 9 + 4 * j))) : zA)), (0, zR 0), (1, zI a), (2, zI d)] [] := by
    intro k
    induction k with
    | zero =>
      intro i b hk hb hq
      cases b with
      | none =>
        refine z_iload X 0 d_A_firstWaiting_5 rfl ?_
        refine z_aload_n X 2 d_A_firstWaiting_7 rfl rfl ?_
        refine z_get X fl_A_63 0 e_A rfl rfl d_A_firstWaiting_8 ?_
        refine z_icmp_ge X 51 d_A_firstWaiting_11 (by decide) (fun c_11 => ?_) (fun c_11 => absurd (by rw [kInv_cnt hI, show i = n by omega]; exact nI_le (Nat.le_refl _) (by omega)) c_11)
        refine z_aload_nN X 1 d_A_firstWaiting_51 rfl rfl ?_
        exact z_aret X (o := none) (⟨rfl, by rw [← hq]; rfl⟩) d_A_firstWaiting_52
      | some j =>
        refine z_iload X 0 d_A_firstWaiting_5 rfl ?_
        refine z_aload_n X 2 d_A_firstWaiting_7 rfl rfl ?_
        refine z_get X fl_A_63 0 e_A rfl rfl d_A_firstWaiting_8 ?_
        refine z_icmp_ge X 51 d_A_firstWaiting_11 (by decide) (fun c_11 => ?_) (fun c_11 => absurd (by rw [kInv_cnt hI, show i = n by omega]; exact nI_le (Nat.le_refl _) (by omega)) c_11)
        refine z_aload_n X 1 d_A_firstWaiting_51 rfl rfl ?_
        exact z_aret X (o := some (9 + 4 * j)) (⟨rfl, by rw [← hq]; rfl⟩) d_A_firstWaiting_52
    | succ k ih =>
      intro i b hk hb hq
      have hi : i < 8 := by omega
      cases b with
      | none =>
        refine z_iload X 0 d_A_firstWaiting_5 rfl ?_
        refine z_aload_n X 2 d_A_firstWaiting_7 rfl rfl ?_
        refine z_get X fl_A_63 0 e_A rfl rfl d_A_firstWaiting_8 ?_
        refine z_icmp_ge X 51 d_A_firstWaiting_11 (by decide) (fun c_11 => absurd c_11 (by rw [kInv_cnt hI]; exact nI_ge (by omega) (by omega))) (fun c_11 => ?_)
        refine z_aload_n X 2 d_A_firstWaiting_14 rfl rfl ?_
        refine z_get X fl_A_25 0 e_A rfl rfl d_A_firstWaiting_15 ?_
        refine z_iload X 0 d_A_firstWaiting_18 rfl ?_
        refine z_aald X 8 e_TA rfl i rfl hi (by decide) (g_TA hi) d_A_firstWaiting_20 ?_
        refine z_astore X (L' := [(5, zR (9 + 4 * i)), (4, zI (nI i)), (3, zN), (0, zR 0), (1, zI a), (2, zI d)]) d_A_firstWaiting_21 (by decide) rfl ?_
        refine z_aload X 0 d_A_firstWaiting_23 rfl ?_
        refine z_iload_n X 4 d_A_firstWaiting_25 rfl rfl ?_
        refine z_iload_n X 5 d_A_firstWaiting_26 rfl rfl ?_
        refine z_Vi X GG_ok cf_A_238 (9 + 4 * i) [zI a, zI d] [] (c_K_waitsAt l D cA ad _ i hi (kNx M i) (kNx_lt hI hi) (kNx_eq hI hi) _ _) ⟨rfl, rfl⟩ (by decide) (e_K hi) rfl rfl rfl rfl (Nat.le_of_ble_eq_true rfl) ⟨Nat.zero_le _, Nat.zero_le _⟩ d_A_firstWaiting_27 (fun r1 M2 h3 => ?_)
        have qh3 := h3.1.symm
        subst qh3
        obtain ⟨-, ⟨rfl, pw⟩ | ⟨rfl, pw⟩⟩ := h3
        · refine z_if_eq X 45 d_A_firstWaiting_30 (by decide) (fun h => absurd h (by decide)) (fun _ => ?_)
          refine z_aload X 0 d_A_firstWaiting_33 rfl ?_
          refine z_aload_nN X 2 d_A_firstWaiting_35 rfl rfl ?_
          refine z_Vi X GG_ok cf_A_235 (9 + 4 * i) [zN] [] (c_K_comesBefore_N l D cA ad _ i hi) ⟨rfl, rfl⟩ (by decide) (e_K hi) rfl rfl rfl rfl (Nat.le_of_ble_eq_true rfl) ⟨Nat.zero_le _, Nat.zero_le _⟩ d_A_firstWaiting_36 (fun r4 M5 h6 => ?_)
          have qh6 := h6.1.symm
          subst qh6
          obtain ⟨-, ⟨rfl, pb⟩ | ⟨rfl, pb⟩⟩ := h6
          · refine z_if_eq X 45 d_A_firstWaiting_39 (by decide) (fun h => absurd h (by decide)) (fun _ => ?_)
            refine z_aload X 0 d_A_firstWaiting_42 rfl ?_
            refine z_astore_n X (L' := [(3, zR (9 + 4 * i)), (5, zR (9 + 4 * i)), (4, zI (nI i)), (0, zR 0), (1, zI a), (2, zI d)]) d_A_firstWaiting_44 rfl (by decide) rfl ?_
            refine z_iinc X 2 (v := nI (i + 1)) (L' := [(4, zI (nI (i + 1))), (3, zR (9 + 4 * i)), (5, zR (9 + 4 * i)), (0, zR 0), (1, zI a), (2, zI d)]) d_A_firstWaiting_45 rfl (nI_1 i) (by decide) rfl ?_
            refine z_goto X 5 d_A_firstWaiting_48 (by decide) ?_
            exact z_keep (ks := [0, 1, 3, 4, 5]) (L' := [(4, zI (nI (i + 1))), (3, zR (9 + 4 * i)), (0, zR 0), (1, zI a), (2, zI d)]) rfl (ih (i + 1) (some i) (by omega) (fun j h => by cases h; omega) ((kFst_yes ⟨pw, pb⟩).symm.trans hq))
          · refine z_if_eq X 45 d_A_firstWaiting_39 (by decide) (fun _ => ?_) (fun h => absurd h (by decide))
            refine z_iinc X 1 (v := nI (i + 1)) (L' := [(4, zI (nI (i + 1))), (5, zR (9 + 4 * i)), (3, zN), (0, zR 0), (1, zI a), (2, zI d)]) d_A_firstWaiting_45 rfl (nI_1 i) (by decide) rfl ?_
            refine z_goto X 5 d_A_firstWaiting_48 (by decide) ?_
            exact z_keep (ks := [0, 2, 3, 4, 5]) (L' := [(4, zI (nI (i + 1))), (3, zN), (0, zR 0), (1, zI a), (2, zI d)]) rfl (ih (i + 1) none (by omega) (fun j h => by cases h) ((kFst_no (fun q => pb q.2)).symm.trans hq))
        · refine z_if_eq X 45 d_A_firstWaiting_30 (by decide) (fun _ => ?_) (fun h => absurd h (by decide))
          refine z_iinc X 1 (v := nI (i + 1)) (L' := [(4, zI (nI (i + 1))), (5, zR (9 + 4 * i)), (3, zN), (0, zR 0), (1, zI a), (2, zI d)]) d_A_firstWaiting_45 rfl (nI_1 i) (by decide) rfl ?_
          refine z_goto X 5 d_A_firstWaiting_48 (by decide) ?_
          exact z_keep (ks := [0, 2, 3, 4, 5]) (L' := [(4, zI (nI (i + 1))), (3, zN), (0, zR 0), (1, zI a), (2, zI d)]) rfl (ih (i + 1) none (by omega) (fun j h => by cases h) ((kFst_no (fun q => pw q.1)).symm.trans hq))
      | some j =>
        have hj : j < 8 := by have := hb j rfl; omega
        refine z_iload X 0 d_A_firstWaiting_5 rfl ?_
        refine z_aload_n X 2 d_A_firstWaiting_7 rfl rfl ?_
        refine z_get X fl_A_63 0 e_A rfl rfl d_A_firstWaiting_8 ?_
        refine z_icmp_ge X 51 d_A_firstWaiting_11 (by decide) (fun c_11 => absurd c_11 (by rw [kInv_cnt hI]; exact nI_ge (by omega) (by omega))) (fun c_11 => ?_)
        refine z_aload_n X 2 d_A_firstWaiting_14 rfl rfl ?_
        refine z_get X fl_A_25 0 e_A rfl rfl d_A_firstWaiting_15 ?_
        refine z_iload X 0 d_A_firstWaiting_18 rfl ?_
        refine z_aald X 8 e_TA rfl i rfl hi (by decide) (g_TA hi) d_A_firstWaiting_20 ?_
        refine z_astore X (L' := [(5, zR (9 + 4 * i)), (4, zI (nI i)), (3, zR (9 + 4 * j)), (0, zR 0), (1, zI a), (2, zI d)]) d_A_firstWaiting_21 (by decide) rfl ?_
        refine z_aload X 0 d_A_firstWaiting_23 rfl ?_
        refine z_iload_n X 4 d_A_firstWaiting_25 rfl rfl ?_
        refine z_iload_n X 5 d_A_firstWaiting_26 rfl rfl ?_
        refine z_Vi X GG_ok cf_A_238 (9 + 4 * i) [zI a, zI d] [] (c_K_waitsAt l D cA ad _ i hi (kNx M i) (kNx_lt hI hi) (kNx_eq hI hi) _ _) ⟨rfl, rfl⟩ (by decide) (e_K hi) rfl rfl rfl rfl (Nat.le_of_ble_eq_true rfl) ⟨Nat.zero_le _, Nat.zero_le _⟩ d_A_firstWaiting_27 (fun r1 M2 h3 => ?_)
        have qh3 := h3.1.symm
        subst qh3
        obtain ⟨-, ⟨rfl, pw⟩ | ⟨rfl, pw⟩⟩ := h3
        · refine z_if_eq X 45 d_A_firstWaiting_30 (by decide) (fun h => absurd h (by decide)) (fun _ => ?_)
          refine z_aload X 0 d_A_firstWaiting_33 rfl ?_
          refine z_aload_n X 2 d_A_firstWaiting_35 rfl rfl ?_
          refine z_Vi X GG_ok cf_A_235 (9 + 4 * i) [zR (9 + 4 * j)] [] (c_K_comesBefore_S l D cA ad _ i hi j hj) ⟨rfl, rfl⟩ (by decide) (e_K hi) rfl rfl rfl rfl (Nat.le_of_ble_eq_true rfl) ⟨Nat.zero_le _, Nat.zero_le _⟩ d_A_firstWaiting_36 (fun r4 M5 h6 => ?_)
          have qh6 := h6.1.symm
          subst qh6
          obtain ⟨-, ⟨rfl, pb⟩ | ⟨rfl, pb⟩⟩ := h6
          · refine z_if_eq X 45 d_A_firstWaiting_39 (by decide) (fun h => absurd h (by decide)) (fun _ => ?_)
            refine z_aload X 0 d_A_firstWaiting_42 rfl ?_
            refine z_astore_n X (L' := [(3, zR (9 + 4 * i)), (5, zR (9 + 4 * i)), (4, zI (nI i)), (0, zR 0), (1, zI a), (2, zI d)]) d_A_firstWaiting_44 rfl (by decide) rfl ?_
            refine z_iinc X 2 (v := nI (i + 1)) (L' := [(4, zI (nI (i + 1))), (3, zR (9 + 4 * i)), (5, zR (9 + 4 * i)), (0, zR 0), (1, zI a), (2, zI d)]) d_A_firstWaiting_45 rfl (nI_1 i) (by decide) rfl ?_
            refine z_goto X 5 d_A_firstWaiting_48 (by decide) ?_
            exact z_keep (ks := [0, 1, 3, 4, 5]) (L' := [(4, zI (nI (i + 1))), (3, zR (9 + 4 * i)), (0, zR 0), (1, zI a), (2, zI d)]) rfl (ih (i + 1) (some i) (by omega) (fun j h => by cases h; omega) ((kFst_yes ⟨pw, pb⟩).symm.trans hq))
          · refine z_if_eq X 45 d_A_firstWaiting_39 (by decide) (fun _ => ?_) (fun h => absurd h (by decide))
            refine z_iinc X 1 (v := nI (i + 1)) (L' := [(4, zI (nI (i + 1))), (5, zR (9 + 4 * i)), (3, zR (9 + 4 * j)), (0, zR 0), (1, zI a), (2, zI d)]) d_A_firstWaiting_45 rfl (nI_1 i) (by decide) rfl ?_
            refine z_goto X 5 d_A_firstWaiting_48 (by decide) ?_
            exact z_keep (ks := [0, 2, 3, 4, 5]) (L' := [(4, zI (nI (i + 1))), (3, zR (9 + 4 * j)), (0, zR 0), (1, zI a), (2, zI d)]) rfl (ih (i + 1) (some j) (by omega) (fun j h => by have := hb j h; omega) ((kFst_no (fun q => pb q.2)).symm.trans hq))
        · refine z_if_eq X 45 d_A_firstWaiting_30 (by decide) (fun _ => ?_) (fun h => absurd h (by decide))
          refine z_iinc X 1 (v := nI (i + 1)) (L' := [(4, zI (nI (i + 1))), (5, zR (9 + 4 * i)), (3, zR (9 + 4 * j)), (0, zR 0), (1, zI a), (2, zI d)]) d_A_firstWaiting_45 rfl (nI_1 i) (by decide) rfl ?_
          refine z_goto X 5 d_A_firstWaiting_48 (by decide) ?_
          exact z_keep (ks := [0, 2, 3, 4, 5]) (L' := [(4, zI (nI (i + 1))), (3, zR (9 + 4 * j)), (0, zR 0), (1, zI a), (2, zI d)]) rfl (ih (i + 1) (some j) (by omega) (fun j h => by have := hb j h; omega) ((kFst_no (fun q => pw q.1)).symm.trans hq))
  refine z_null X d_A_firstWaiting_0 ?_
  refine z_astore_nN X (L' := [(3, zN), (0, zR 0), (1, zI a), (2, zI d)]) d_A_firstWaiting_1 rfl (by decide) rfl ?_
  refine z_iconst X (v := 0) d_A_firstWaiting_2 (by decide) ?_
  refine z_istore X (L' := [(4, zI 0), (3, zN), (0, zR 0), (1, zI a), (2, zI d)]) d_A_firstWaiting_3 (by decide) rfl ?_
  exact loop n 0 none (by omega) (fun j h => by cases h) rfl
end
section
set_option maxHeartbeats 4000000 in
set_option maxRecDepth 100000 in
theorem c_A_send (l : Launch) (D : va_G) (cA : Nat → ClassId) (ad : Nat → Nat) (M : zM) (n w : Nat) (hI : kInv n w M) (i : Nat) (hi : i < 8) (x : Int32) (q : Nat) (hq : q < 4) (ex : x = nI q) : Cv l D cA ad y_A_send b_A_send 5 none (zr 2 47) [zR 0, zR (9 + 4 * i), zI x] M (fun M' => M' = kSend n i q M) := by
  refine zMv_of (plainFor_of_name (by decide)) (Nat.le_of_ble_eq_true rfl) ?_
  intro p e s m args below meth c A X
  subst ex
  refine z_aload_n X 1 d_A_send_0 rfl rfl ?_
  refine z_get X fl_A_206 (9 + 4 * i) (e_K hi) rfl rfl d_A_send_1 ?_
  refine z_bipush X (v := 8) d_A_send_4 (by decide) ?_
  refine z_aload_n X 1 d_A_send_6 rfl rfl ?_
  refine z_get X fl_A_209 (9 + 4 * i) (e_K hi) rfl rfl d_A_send_7 ?_
  refine z_imul X d_A_send_10 ?_
  refine z_iadd X d_A_send_11 ?_
  refine z_istore_n X (L' := [(3, zI ((M.1 (9 + 4 * i) 0) + (8 * (M.1 (9 + 4 * i) 10)))), (0, zR 0), (1, zR (9 + 4 * i)), (2, zI (nI q))]) d_A_send_12 rfl (by decide) rfl ?_
  refine z_aload_n X 1 d_A_send_13 rfl rfl ?_
  refine z_iconst X (v := 2) d_A_send_14 (by decide) ?_
  refine z_iload_n X 3 d_A_send_15 rfl rfl ?_
  refine z_Vq X GG_ok cf_A_212 0 [zI 2, zI (nI q)] [] (c_A_firstWaiting l D cA ad _ n w hI _ _) ⟨rfl, rfl⟩ (by decide) e_A rfl rfl rfl rfl (Nat.le_of_ble_eq_true rfl) ⟨Nat.zero_le _, Nat.zero_le _⟩ d_A_send_16 (fun r1 M2 h3 => ?_)
  have qh3 := h3.1.symm
  subst qh3
  obtain ⟨-, rfl⟩ := h3
  rcases hF : kFW n 2 (nI q) M with _ | j
  · refine z_astoreN X (L' := [(4, zN), (3, zI ((M.1 (9 + 4 * i) 0) + (8 * (M.1 (9 + 4 * i) 10)))), (0, zR 0), (1, zR (9 + 4 * i)), (2, zI (nI q))]) d_A_send_19 (by decide) rfl ?_
    refine z_aloadN X 0 d_A_send_21 rfl ?_
    refine z_ifnullN X 49 d_A_send_23 (by decide) ?_
    refine z_aload_n X 2 d_A_send_49 rfl rfl ?_
    refine z_get X fl_A_34 0 e_A rfl rfl d_A_send_50 ?_
    refine z_iload_n X 4 d_A_send_53 rfl rfl ?_
    refine z_aald X 41 e_OA rfl q rfl hq (by decide) (g_OA hq) d_A_send_54 ?_
    refine z_get X fl_A_127 (42 + 2 * q) (e_O hq) rfl rfl d_A_send_55 ?_
    refine z_iconst X (v := 4) d_A_send_58 (by decide) ?_
    refine z_icmp_ne X 75 d_A_send_59 (by decide) (fun c_59 => ?_) (fun c_59 => ?_)
    · refine z_aload_n X 2 d_A_send_75 rfl rfl ?_
      refine z_get X fl_A_34 0 e_A rfl rfl d_A_send_76 ?_
      refine z_iload_n X 4 d_A_send_79 rfl rfl ?_
      refine z_aald X 41 e_OA rfl q rfl hq (by decide) (g_OA hq) d_A_send_80 ?_
      refine z_iload_n X 1 d_A_send_81 rfl rfl ?_
      refine z_Vv X GG_ok cf_A_225 (42 + 2 * q) [zI ((M.1 (9 + 4 * i) 0) + (8 * (M.1 (9 + 4 * i) 10)))] [] (c_O_put l D cA ad _ q hq (kSz M q) (kSz_lt hI hq c_59) (kSz_eq hI hq) _) ⟨rfl, rfl⟩ (by decide) (e_O hq) rfl rfl rfl rfl (Nat.le_of_ble_eq_true rfl) ⟨Nat.zero_le _, Nat.zero_le _⟩ d_A_send_82 (fun M5 h6 => ?_)
      have qh6 := h6.symm
      subst qh6
      refine z_aload_n X 3 d_A_send_85 rfl rfl ?_
      refine z_Vv X GG_ok cf_A_222 (9 + 4 * i) [] [] (c_K_advance l D cA ad _ i hi ) ⟨rfl, rfl⟩ (by decide) (e_K hi) rfl rfl rfl rfl (Nat.le_of_ble_eq_true rfl) ⟨Nat.zero_le _, Nat.zero_le _⟩ d_A_send_86 (fun M8 h9 => ?_)
      have qh9 := h9.symm
      subst qh9
      exact z_vret X (by unfold kSend kSend0; rw [hF]; simp only [c_59, if_true, if_false]; try rfl) d_A_send_89
    · refine z_aload_n X 2 d_A_send_62 rfl rfl ?_
      refine z_dup X d_A_send_63 rfl ?_
      refine z_get X fl_A_134 0 e_A rfl rfl d_A_send_64 ?_
      refine z_iconst X (v := 1) d_A_send_67 (by decide) ?_
      refine z_iadd X d_A_send_68 ?_
      refine z_puti X fl_A_134 0 e_A rfl rfl rfl d_A_send_69 ?_
      refine z_goto X 85 d_A_send_72 (by decide) ?_
      refine z_aload_n X 3 d_A_send_85 rfl rfl ?_
      refine z_Vv X GG_ok cf_A_222 (9 + 4 * i) [] [] (c_K_advance l D cA ad _ i hi ) ⟨rfl, rfl⟩ (by decide) (e_K hi) rfl rfl rfl rfl (Nat.le_of_ble_eq_true rfl) ⟨Nat.zero_le _, Nat.zero_le _⟩ d_A_send_86 (fun M11 h12 => ?_)
      have qh12 := h12.symm
      subst qh12
      exact z_vret X (by unfold kSend kSend0; rw [hF]; simp only [c_59, if_true, if_false]; try rfl) d_A_send_89
  · have hj : j < 8 := Nat.lt_of_lt_of_le (kFW_lt hF) (kInv_n hI)
    refine z_astore X (L' := [(4, zR (9 + 4 * j)), (3, zI ((M.1 (9 + 4 * i) 0) + (8 * (M.1 (9 + 4 * i) 10)))), (0, zR 0), (1, zR (9 + 4 * i)), (2, zI (nI q))]) d_A_send_19 (by decide) rfl ?_
    refine z_aload X 0 d_A_send_21 rfl ?_
    refine z_ifnull X d_A_send_23 ?_
    refine z_aload X 0 d_A_send_26 rfl ?_
    refine z_iload_n X 1 d_A_send_28 rfl rfl ?_
    refine z_puti X fl_A_216 (9 + 4 * j) (e_K hj) rfl rfl rfl d_A_send_29 ?_
    refine z_aload X 0 d_A_send_32 rfl ?_
    refine z_aload_n X 2 d_A_send_34 rfl rfl ?_
    refine z_Vj X GG_ok cf_A_112 0 [] [zR (9 + 4 * j)] (c_A_newTurn l D cA ad _) ⟨rfl, rfl⟩ (by decide) e_A rfl rfl rfl rfl (Nat.le_of_ble_eq_true rfl) ⟨Nat.zero_le _, Nat.zero_le _⟩ d_A_send_35 (fun r13 M14 h15 => ?_)
    have qh15 := h15.1.symm
    subst qh15
    obtain ⟨-, rfl⟩ := h15
    refine z_Vv X GG_ok cf_A_219 (9 + 4 * j) [zJ ((z_si M (9 + 4 * j) 15 ((M.1 (9 + 4 * i) 0) + (8 * (M.1 (9 + 4 * i) 10)))).2 0 9 + 1)] [] (c_K_becomeReady l D cA ad _ j hj _) ⟨rfl, rfl⟩ (by decide) (e_K hj) rfl rfl rfl rfl (Nat.le_of_ble_eq_true rfl) ⟨Nat.zero_le _, Nat.zero_le _⟩ d_A_send_38 (fun M17 h18 => ?_)
    have qh18 := h18.symm
    subst qh18
    refine z_aload X 0 d_A_send_41 rfl ?_
    refine z_Vv X GG_ok cf_A_222 (9 + 4 * j) [] [] (c_K_advance l D cA ad _ j hj ) ⟨rfl, rfl⟩ (by decide) (e_K hj) rfl rfl rfl rfl (Nat.le_of_ble_eq_true rfl) ⟨Nat.zero_le _, Nat.zero_le _⟩ d_A_send_43 (fun M20 h21 => ?_)
    have qh21 := h21.symm
    subst qh21
    refine z_goto X 85 d_A_send_46 (by decide) ?_
    refine z_aload_n X 3 d_A_send_85 rfl rfl ?_
    refine z_Vv X GG_ok cf_A_222 (9 + 4 * i) [] [] (c_K_advance l D cA ad _ i hi ) ⟨rfl, rfl⟩ (by decide) (e_K hi) rfl rfl rfl rfl (Nat.le_of_ble_eq_true rfl) ⟨Nat.zero_le _, Nat.zero_le _⟩ d_A_send_86 (fun M23 h24 => ?_)
    have qh24 := h24.symm
    subst qh24
    exact z_vret X (by unfold kSend; rw [hF]; rfl) d_A_send_89

set_option maxHeartbeats 4000000 in
set_option maxRecDepth 100000 in
theorem c_A_take (l : Launch) (D : va_G) (cA : Nat → ClassId) (ad : Nat → Nat) (M : zM) (n w : Nat) (hI : kInv n w M) (i : Nat) (hi : i < 8) (x : Int32) (q : Nat) (hq : q < 4) (ex : x = nI q) : Cv l D cA ad y_A_take b_A_take 3 none (zr 2 40) [zR 0, zR (9 + 4 * i), zI x] M (fun M' => M' = kTakes i q M) := by
  refine zMv_of (plainFor_of_name (by decide)) (Nat.le_of_ble_eq_true rfl) ?_
  intro p e s m args below meth c A X
  subst ex
  refine z_aload_n X 0 d_A_take_0 rfl rfl ?_
  refine z_get X fl_A_34 0 e_A rfl rfl d_A_take_1 ?_
  refine z_iload_n X 2 d_A_take_4 rfl rfl ?_
  refine z_aald X 41 e_OA rfl q rfl hq (by decide) (g_OA hq) d_A_take_5 ?_
  refine z_get X fl_A_127 (42 + 2 * q) (e_O hq) rfl rfl d_A_take_6 ?_
  refine z_if_ne X 23 d_A_take_9 (by decide) (fun c_9 => ?_) (fun c_9 => ?_)
  · refine z_aload_n X 1 d_A_take_23 rfl rfl ?_
    refine z_aload_n X 0 d_A_take_24 rfl rfl ?_
    refine z_get X fl_A_34 0 e_A rfl rfl d_A_take_25 ?_
    refine z_iload_n X 2 d_A_take_28 rfl rfl ?_
    refine z_aald X 41 e_OA rfl q rfl hq (by decide) (g_OA hq) d_A_take_29 ?_
    refine z_Vi X GG_ok cf_A_231 (42 + 2 * q) [] [zR (9 + 4 * i)] (c_O_takeOldest l D cA ad _ q hq (kSz M q) (kSz_le hI hq) (kSz_pos hI hq c_9) (kSz_eq hI hq)) ⟨rfl, rfl⟩ (by decide) (e_O hq) rfl rfl rfl rfl (Nat.le_of_ble_eq_true rfl) ⟨Nat.zero_le _, Nat.zero_le _⟩ d_A_take_30 (fun r1 M2 h3 => ?_)
    have qh3 := h3.1.symm
    subst qh3
    obtain ⟨-, rfl⟩ := h3
    refine z_puti X fl_A_216 (9 + 4 * i) (e_K hi) rfl rfl rfl d_A_take_33 ?_
    refine z_aload_n X 1 d_A_take_36 rfl rfl ?_
    refine z_Vv X GG_ok cf_A_222 (9 + 4 * i) [] [] (c_K_advance l D cA ad _ i hi ) ⟨rfl, rfl⟩ (by decide) (e_K hi) rfl rfl rfl rfl (Nat.le_of_ble_eq_true rfl) ⟨Nat.zero_le _, Nat.zero_le _⟩ d_A_take_37 (fun M5 h6 => ?_)
    have qh6 := h6.symm
    subst qh6
    exact z_vret X (by simp only [kTakes, c_9, if_true, if_false]) d_A_take_40
  · refine z_aload_n X 1 d_A_take_12 rfl rfl ?_
    refine z_aload_n X 0 d_A_take_13 rfl rfl ?_
    refine z_Vj X GG_ok cf_A_112 0 [] [zR (9 + 4 * i)] (c_A_newTurn l D cA ad _) ⟨rfl, rfl⟩ (by decide) e_A rfl rfl rfl rfl (Nat.le_of_ble_eq_true rfl) ⟨Nat.zero_le _, Nat.zero_le _⟩ d_A_take_14 (fun r7 M8 h9 => ?_)
    have qh9 := h9.1.symm
    subst qh9
    obtain ⟨-, rfl⟩ := h9
    refine z_Vv X GG_ok cf_A_228 (9 + 4 * i) [zJ (M.2 0 9 + 1)] [] (c_K_becomeWaiting l D cA ad _ i hi _) ⟨rfl, rfl⟩ (by decide) (e_K hi) rfl rfl rfl rfl (Nat.le_of_ble_eq_true rfl) ⟨Nat.zero_le _, Nat.zero_le _⟩ d_A_take_17 (fun M11 h12 => ?_)
    have qh12 := h12.symm
    subst qh12
    refine z_goto X 40 d_A_take_20 (by decide) ?_
    exact z_vret X (by simp only [kTakes, c_9, if_true, if_false]) d_A_take_40

set_option maxHeartbeats 4000000 in
set_option maxRecDepth 100000 in
theorem c_A_up (l : Launch) (D : va_G) (cA : Nat → ClassId) (ad : Nat → Nat) (M : zM) (n w : Nat) (hI : kInv n w M) (i : Nat) (hi : i < 8) (x : Int32) (q : Nat) (hq : q < 4) (ex : x = nI q) : Cv l D cA ad y_A_up b_A_up 4 none (zr 2 47) [zR 0, zR (9 + 4 * i), zI x] M (fun M' => M' = kUp n i q M) := by
  refine zMv_of (plainFor_of_name (by decide)) (Nat.le_of_ble_eq_true rfl) ?_
  intro p e s m args below meth c A X
  subst ex
  refine z_aload_n X 0 d_A_up_0 rfl rfl ?_
  refine z_iconst X (v := 4) d_A_up_1 (by decide) ?_
  refine z_iload_n X 2 d_A_up_2 rfl rfl ?_
  refine z_Vq X GG_ok cf_A_212 0 [zI 4, zI (nI q)] [] (c_A_firstWaiting l D cA ad _ n w hI _ _) ⟨rfl, rfl⟩ (by decide) e_A rfl rfl rfl rfl (Nat.le_of_ble_eq_true rfl) ⟨Nat.zero_le _, Nat.zero_le _⟩ d_A_up_3 (fun r1 M2 h3 => ?_)
  have qh3 := h3.1.symm
  subst qh3
  obtain ⟨-, rfl⟩ := h3
  rcases hF : kFW n 4 (nI q) M with _ | j
  · refine z_astore_nN X (L' := [(3, zN), (0, zR 0), (1, zR (9 + 4 * i)), (2, zI (nI q))]) d_A_up_6 rfl (by decide) rfl ?_
    refine z_aload_nN X 0 d_A_up_7 rfl rfl ?_
    refine z_ifnullN X 26 d_A_up_8 (by decide) ?_
    refine z_aload_n X 1 d_A_up_26 rfl rfl ?_
    refine z_get X fl_A_39 0 e_A rfl rfl d_A_up_27 ?_
    refine z_iload_n X 3 d_A_up_30 rfl rfl ?_
    refine z_iald X 50 e_Se rfl q rfl hq (by decide) d_A_up_31 ?_
    refine z_bipush X (v := 9) d_A_up_32 (by decide) ?_
    refine z_icmp_ge X 47 d_A_up_34 (by decide) (fun c_34 => ?_) (fun c_34 => ?_)
    · refine z_aload_n X 2 d_A_up_47 rfl rfl ?_
      refine z_Vv X GG_ok cf_A_222 (9 + 4 * i) [] [] (c_K_advance l D cA ad _ i hi ) ⟨rfl, rfl⟩ (by decide) (e_K hi) rfl rfl rfl rfl (Nat.le_of_ble_eq_true rfl) ⟨Nat.zero_le _, Nat.zero_le _⟩ d_A_up_48 (fun M5 h6 => ?_)
      have qh6 := h6.symm
      subst qh6
      exact z_vret X (by unfold kUp kUp0; rw [hF]; simp only [c_34, if_true, if_false]) d_A_up_51
    · refine z_aload_n X 1 d_A_up_37 rfl rfl ?_
      refine z_get X fl_A_39 0 e_A rfl rfl d_A_up_38 ?_
      refine z_iload_n X 3 d_A_up_41 rfl rfl ?_
      refine z_dup2 X d_A_up_42 rfl rfl ?_
      refine z_iald X 50 e_Se rfl q rfl hq (by decide) d_A_up_43 ?_
      refine z_iconst X (v := 1) d_A_up_44 (by decide) ?_
      refine z_iadd X d_A_up_45 ?_
      refine z_iast X 50 e_Se rfl q rfl hq (by decide) d_A_up_46 ?_
      refine z_aload_n X 2 d_A_up_47 rfl rfl ?_
      refine z_Vv X GG_ok cf_A_222 (9 + 4 * i) [] [] (c_K_advance l D cA ad _ i hi ) ⟨rfl, rfl⟩ (by decide) (e_K hi) rfl rfl rfl rfl (Nat.le_of_ble_eq_true rfl) ⟨Nat.zero_le _, Nat.zero_le _⟩ d_A_up_48 (fun M8 h9 => ?_)
      have qh9 := h9.symm
      subst qh9
      exact z_vret X (by unfold kUp kUp0; rw [hF]; simp only [c_34, if_true, if_false]) d_A_up_51
  · have hj : j < 8 := Nat.lt_of_lt_of_le (kFW_lt hF) (kInv_n hI)
    refine z_astore_n X (L' := [(3, zR (9 + 4 * j)), (0, zR 0), (1, zR (9 + 4 * i)), (2, zI (nI q))]) d_A_up_6 rfl (by decide) rfl ?_
    refine z_aload_n X 0 d_A_up_7 rfl rfl ?_
    refine z_ifnull X d_A_up_8 ?_
    refine z_aload_n X 0 d_A_up_11 rfl rfl ?_
    refine z_aload_n X 1 d_A_up_12 rfl rfl ?_
    refine z_Vj X GG_ok cf_A_112 0 [] [zR (9 + 4 * j)] (c_A_newTurn l D cA ad _) ⟨rfl, rfl⟩ (by decide) e_A rfl rfl rfl rfl (Nat.le_of_ble_eq_true rfl) ⟨Nat.zero_le _, Nat.zero_le _⟩ d_A_up_13 (fun r10 M11 h12 => ?_)
    have qh12 := h12.1.symm
    subst qh12
    obtain ⟨-, rfl⟩ := h12
    refine z_Vv X GG_ok cf_A_219 (9 + 4 * j) [zJ (M.2 0 9 + 1)] [] (c_K_becomeReady l D cA ad _ j hj _) ⟨rfl, rfl⟩ (by decide) (e_K hj) rfl rfl rfl rfl (Nat.le_of_ble_eq_true rfl) ⟨Nat.zero_le _, Nat.zero_le _⟩ d_A_up_16 (fun M14 h15 => ?_)
    have qh15 := h15.symm
    subst qh15
    refine z_aload_n X 0 d_A_up_19 rfl rfl ?_
    refine z_Vv X GG_ok cf_A_222 (9 + 4 * j) [] [] (c_K_advance l D cA ad _ j hj ) ⟨rfl, rfl⟩ (by decide) (e_K hj) rfl rfl rfl rfl (Nat.le_of_ble_eq_true rfl) ⟨Nat.zero_le _, Nat.zero_le _⟩ d_A_up_20 (fun M17 h18 => ?_)
    have qh18 := h18.symm
    subst qh18
    refine z_goto X 47 d_A_up_23 (by decide) ?_
    refine z_aload_n X 2 d_A_up_47 rfl rfl ?_
    refine z_Vv X GG_ok cf_A_222 (9 + 4 * i) [] [] (c_K_advance l D cA ad _ i hi ) ⟨rfl, rfl⟩ (by decide) (e_K hi) rfl rfl rfl rfl (Nat.le_of_ble_eq_true rfl) ⟨Nat.zero_le _, Nat.zero_le _⟩ d_A_up_48 (fun M20 h21 => ?_)
    have qh21 := h21.symm
    subst qh21
    exact z_vret X (by unfold kUp; rw [hF]; rfl) d_A_up_51

set_option maxHeartbeats 4000000 in
set_option maxRecDepth 100000 in
theorem c_A_down (l : Launch) (D : va_G) (cA : Nat → ClassId) (ad : Nat → Nat) (M : zM) (n w : Nat) (hI : kInv n w M) (i : Nat) (hi : i < 8) (x : Int32) (q : Nat) (hq : q < 4) (ex : x = nI q) : Cv l D cA ad y_A_down b_A_down 3 none (zr 2 40) [zR 0, zR (9 + 4 * i), zI x] M (fun M' => M' = kDown i q M) := by
  refine zMv_of (plainFor_of_name (by decide)) (Nat.le_of_ble_eq_true rfl) ?_
  intro p e s m args below meth c A X
  subst ex
  refine z_aload_n X 0 d_A_down_0 rfl rfl ?_
  refine z_get X fl_A_39 0 e_A rfl rfl d_A_down_1 ?_
  refine z_iload_n X 2 d_A_down_4 rfl rfl ?_
  refine z_iald X 50 e_Se rfl q rfl hq (by decide) d_A_down_5 ?_
  refine z_if_ne X 20 d_A_down_6 (by decide) (fun c_6 => ?_) (fun c_6 => ?_)
  · refine z_aload_n X 0 d_A_down_20 rfl rfl ?_
    refine z_get X fl_A_39 0 e_A rfl rfl d_A_down_21 ?_
    refine z_iload_n X 2 d_A_down_24 rfl rfl ?_
    refine z_dup2 X d_A_down_25 rfl rfl ?_
    refine z_iald X 50 e_Se rfl q rfl hq (by decide) d_A_down_26 ?_
    refine z_iconst X (v := 1) d_A_down_27 (by decide) ?_
    refine z_isub X d_A_down_28 ?_
    refine z_iast X 50 e_Se rfl q rfl hq (by decide) d_A_down_29 ?_
    refine z_aload_n X 1 d_A_down_30 rfl rfl ?_
    refine z_Vv X GG_ok cf_A_222 (9 + 4 * i) [] [] (c_K_advance l D cA ad _ i hi ) ⟨rfl, rfl⟩ (by decide) (e_K hi) rfl rfl rfl rfl (Nat.le_of_ble_eq_true rfl) ⟨Nat.zero_le _, Nat.zero_le _⟩ d_A_down_31 (fun M2 h3 => ?_)
    have qh3 := h3.symm
    subst qh3
    exact z_vret X (by simp only [kDown, c_6, if_true, if_false]) d_A_down_34
  · refine z_aload_n X 1 d_A_down_9 rfl rfl ?_
    refine z_aload_n X 0 d_A_down_10 rfl rfl ?_
    refine z_Vj X GG_ok cf_A_112 0 [] [zR (9 + 4 * i)] (c_A_newTurn l D cA ad _) ⟨rfl, rfl⟩ (by decide) e_A rfl rfl rfl rfl (Nat.le_of_ble_eq_true rfl) ⟨Nat.zero_le _, Nat.zero_le _⟩ d_A_down_11 (fun r4 M5 h6 => ?_)
    have qh6 := h6.1.symm
    subst qh6
    obtain ⟨-, rfl⟩ := h6
    refine z_Vv X GG_ok cf_A_228 (9 + 4 * i) [zJ (M.2 0 9 + 1)] [] (c_K_becomeWaiting l D cA ad _ i hi _) ⟨rfl, rfl⟩ (by decide) (e_K hi) rfl rfl rfl rfl (Nat.le_of_ble_eq_true rfl) ⟨Nat.zero_le _, Nat.zero_le _⟩ d_A_down_14 (fun M8 h9 => ?_)
    have qh9 := h9.symm
    subst qh9
    refine z_goto X 34 d_A_down_17 (by decide) ?_
    exact z_vret X (by simp only [kDown, c_6, if_true, if_false]) d_A_down_34

set_option maxHeartbeats 4000000 in
set_option maxRecDepth 100000 in
theorem c_A_doOrder (l : Launch) (D : va_G) (cA : Nat → ClassId) (ad : Nat → Nat) (M : zM) (n w : Nat) (hI : kInv n w M) (i : Nat) (hi : i < 8) : Ci l D cA ad y_A_doOrder b_A_doOrder 3 (some (.boolean)) (zr 3 71) [zR 0, zR (9 + 4 * i)] M (fun r M' => M' = kDo n i M ∧ ((r = 1 ∧ kOrd M i = 0) ∨ (r = 0 ∧ ¬ kOrd M i = 0))) := by
  refine zMi_of (plainFor_of_name (by decide)) (Nat.le_of_ble_eq_true rfl) ?_
  intro p e s m args below meth c A X
  refine z_aload_n X 1 d_A_doOrder_0 rfl rfl ?_
  refine z_get X fl_A_77 (9 + 4 * i) (e_K hi) rfl rfl d_A_doOrder_1 ?_
  refine z_get X fl_A_181 (10 + 4 * i) (e_G hi) rfl rfl d_A_doOrder_4 ?_
  refine z_aload_n X 1 d_A_doOrder_7 rfl rfl ?_
  refine z_get X fl_A_184 (9 + 4 * i) (e_K hi) rfl rfl d_A_doOrder_8 ?_
  refine z_iald X (12 + 4 * i) (e_Nu hi) rfl (kNx M i) (kNx_eq hI hi) (kNx_lt hI hi) (by decide) d_A_doOrder_11 ?_
  refine z_istore_n X (L' := [(2, zI (M.1 (12 + 4 * i) (kNx M i))), (0, zR 0), (1, zR (9 + 4 * i))]) d_A_doOrder_12 rfl (by decide) rfl ?_
  refine z_aload_n X 2 d_A_doOrder_13 rfl rfl ?_
  refine z_get X fl_A_77 (9 + 4 * i) (e_K hi) rfl rfl d_A_doOrder_14 ?_
  refine z_get X fl_A_187 (10 + 4 * i) (e_G hi) rfl rfl d_A_doOrder_17 ?_
  refine z_aload_n X 2 d_A_doOrder_20 rfl rfl ?_
  refine z_get X fl_A_184 (9 + 4 * i) (e_K hi) rfl rfl d_A_doOrder_21 ?_
  refine z_iald X (11 + 4 * i) (e_Or hi) rfl (kNx M i) (kNx_eq hI hi) (kNx_lt hI hi) (by decide) d_A_doOrder_24 ?_
  by_cases s1_0 : (M.1 (11 + 4 * i) (kNx M i)) = 0
  · refine z_tabIn X 56 d_A_doOrder_25 (by rw [s1_0]; decide) (by rw [s1_0]; decide) (by rw [s1_0]; rfl) (by decide) ?_
    refine z_aload_n X 2 d_A_doOrder_56 rfl rfl ?_
    refine z_iload_n X 0 d_A_doOrder_57 rfl rfl ?_
    refine z_Vv X GG_ok cf_A_190 (9 + 4 * i) [zI (M.1 (12 + 4 * i) (kNx M i))] [] (c_K_work l D cA ad _ i hi _) ⟨rfl, rfl⟩ (by decide) (e_K hi) rfl rfl rfl rfl (Nat.le_of_ble_eq_true rfl) ⟨Nat.zero_le _, Nat.zero_le _⟩ d_A_doOrder_58 (fun M3 h4 => ?_)
    have qh4 := h4.symm
    subst qh4
    refine z_iconst X (v := 1) d_A_doOrder_61 (by decide) ?_
    exact z_zret X rfl (⟨by rw [kDo, if_pos (show kOrd M i = 0 from s1_0)]; rfl, Or.inl ⟨rfl, s1_0⟩⟩) d_A_doOrder_62
  by_cases s1_1 : (M.1 (11 + 4 * i) (kNx M i)) = 1
  · refine z_tabIn X 63 d_A_doOrder_25 (by rw [s1_1]; decide) (by rw [s1_1]; decide) (by rw [s1_1]; rfl) (by decide) ?_
    refine z_aload_n X 1 d_A_doOrder_63 rfl rfl ?_
    refine z_aload_n X 2 d_A_doOrder_64 rfl rfl ?_
    refine z_iload_n X 0 d_A_doOrder_65 rfl rfl ?_
    refine z_Vv X GG_ok cf_A_193 0 [zR (9 + 4 * i), zI (M.1 (12 + 4 * i) (kNx M i))] [] (c_A_send l D cA ad _ n w hI i hi _ (kNum M i).toNatClampNeg (kNum_lt hI hi s1_0).1 (kNum_lt hI hi s1_0).2) ⟨rfl, rfl⟩ (by decide) e_A rfl rfl rfl rfl (Nat.le_of_ble_eq_true rfl) ⟨Nat.zero_le _, Nat.zero_le _⟩ d_A_doOrder_66 (fun M6 h7 => ?_)
    have qh7 := h7.symm
    subst qh7
    refine z_goto X 96 d_A_doOrder_69 (by decide) ?_
    refine z_iconst X (v := 0) d_A_doOrder_96 (by decide) ?_
    exact z_zret X rfl (⟨by rw [kDo, if_neg (show ¬ kOrd M i = 0 from s1_0), if_pos (show kOrd M i = 1 from s1_1)], Or.inr ⟨rfl, s1_0⟩⟩) d_A_doOrder_97
  by_cases s1_2 : (M.1 (11 + 4 * i) (kNx M i)) = 2
  · refine z_tabIn X 72 d_A_doOrder_25 (by rw [s1_2]; decide) (by rw [s1_2]; decide) (by rw [s1_2]; rfl) (by decide) ?_
    refine z_aload_n X 1 d_A_doOrder_72 rfl rfl ?_
    refine z_aload_n X 2 d_A_doOrder_73 rfl rfl ?_
    refine z_iload_n X 0 d_A_doOrder_74 rfl rfl ?_
    refine z_Vv X GG_ok cf_A_197 0 [zR (9 + 4 * i), zI (M.1 (12 + 4 * i) (kNx M i))] [] (c_A_take l D cA ad _ n w hI i hi _ (kNum M i).toNatClampNeg (kNum_lt hI hi s1_0).1 (kNum_lt hI hi s1_0).2) ⟨rfl, rfl⟩ (by decide) e_A rfl rfl rfl rfl (Nat.le_of_ble_eq_true rfl) ⟨Nat.zero_le _, Nat.zero_le _⟩ d_A_doOrder_75 (fun M9 h10 => ?_)
    have qh10 := h10.symm
    subst qh10
    refine z_goto X 96 d_A_doOrder_78 (by decide) ?_
    refine z_iconst X (v := 0) d_A_doOrder_96 (by decide) ?_
    exact z_zret X rfl (⟨by rw [kDo, if_neg (show ¬ kOrd M i = 0 from s1_0), if_neg (show ¬ kOrd M i = 1 from s1_1), if_pos (show kOrd M i = 2 from s1_2)], Or.inr ⟨rfl, s1_0⟩⟩) d_A_doOrder_97
  by_cases s1_3 : (M.1 (11 + 4 * i) (kNx M i)) = 3
  · refine z_tabIn X 81 d_A_doOrder_25 (by rw [s1_3]; decide) (by rw [s1_3]; decide) (by rw [s1_3]; rfl) (by decide) ?_
    refine z_aload_n X 1 d_A_doOrder_81 rfl rfl ?_
    refine z_aload_n X 2 d_A_doOrder_82 rfl rfl ?_
    refine z_iload_n X 0 d_A_doOrder_83 rfl rfl ?_
    refine z_Vv X GG_ok cf_A_200 0 [zR (9 + 4 * i), zI (M.1 (12 + 4 * i) (kNx M i))] [] (c_A_up l D cA ad _ n w hI i hi _ (kNum M i).toNatClampNeg (kNum_lt hI hi s1_0).1 (kNum_lt hI hi s1_0).2) ⟨rfl, rfl⟩ (by decide) e_A rfl rfl rfl rfl (Nat.le_of_ble_eq_true rfl) ⟨Nat.zero_le _, Nat.zero_le _⟩ d_A_doOrder_84 (fun M12 h13 => ?_)
    have qh13 := h13.symm
    subst qh13
    refine z_goto X 96 d_A_doOrder_87 (by decide) ?_
    refine z_iconst X (v := 0) d_A_doOrder_96 (by decide) ?_
    exact z_zret X rfl (⟨by rw [kDo, if_neg (show ¬ kOrd M i = 0 from s1_0), if_neg (show ¬ kOrd M i = 1 from s1_1), if_neg (show ¬ kOrd M i = 2 from s1_2), if_pos (show kOrd M i = 3 from s1_3)], Or.inr ⟨rfl, s1_0⟩⟩) d_A_doOrder_97
  refine z_tabOut X 90 d_A_doOrder_25 (by have q0 := lv_neT s1_0 (k := 0) (a := 0) (by decide); have q1 := lv_neT s1_1 (k := 1) (a := 1) (by decide); have q2 := lv_neT s1_2 (k := 2) (a := 2) (by decide); have q3 := lv_neT s1_3 (k := 3) (a := 3) (by decide); omega) (by decide) ?_
  refine z_aload_n X 1 d_A_doOrder_90 rfl rfl ?_
  refine z_aload_n X 2 d_A_doOrder_91 rfl rfl ?_
  refine z_iload_n X 0 d_A_doOrder_92 rfl rfl ?_
  refine z_Vv X GG_ok cf_A_203 0 [zR (9 + 4 * i), zI (M.1 (12 + 4 * i) (kNx M i))] [] (c_A_down l D cA ad _ n w hI i hi _ (kNum M i).toNatClampNeg (kNum_lt hI hi s1_0).1 (kNum_lt hI hi s1_0).2) ⟨rfl, rfl⟩ (by decide) e_A rfl rfl rfl rfl (Nat.le_of_ble_eq_true rfl) ⟨Nat.zero_le _, Nat.zero_le _⟩ d_A_doOrder_93 (fun M15 h16 => ?_)
  have qh16 := h16.symm
  subst qh16
  refine z_iconst X (v := 0) d_A_doOrder_96 (by decide) ?_
  exact z_zret X rfl (⟨by rw [kDo, if_neg (show ¬ kOrd M i = 0 from s1_0), if_neg (show ¬ kOrd M i = 1 from s1_1), if_neg (show ¬ kOrd M i = 2 from s1_2), if_neg (show ¬ kOrd M i = 3 from s1_3)], Or.inr ⟨rfl, s1_0⟩⟩) d_A_doOrder_97
end
section
set_option maxHeartbeats 4000000 in
set_option maxRecDepth 100000 in
theorem c_A_giveProcessor (l : Launch) (D : va_G) (cA : Nat → ClassId) (ad : Nat → Nat) (M : zM) (n w : Nat) (hI : kInv n w M) : Cv l D cA ad y_A_giveProcessor b_A_giveProcessor 4 none (zr 4 93) [zR 0] M (fun M' => M' = kGive n w M) := by
  refine zMv_of (plainFor_of_name (by decide)) (Nat.le_of_ble_eq_true rfl) ?_
  intro p e s m args below meth c A X
  have loop : ∀ (k i : Nat) (N : zM), i + k = 65 → kInv n w N → kGo n (kPartAt M w (M.1 0 6)) k N = kGive n w M → zW p l e (zr 4 93) s m args below meth c 0 0 (MQ below (va_Qv (fun M' => M' = kGive n w M) (fun M' t => va_P D cls (z_w cA ad M' 0 EE) t.heap) A) args s 0 0 A) A D cls cA ad EE 4 N 28 [(2, zI (nI i)), (0, zR 0), (1, zI (kPartAt M w (M.1 0 6)))] [] := by
    intro k
    induction k with
    | zero =>
      intro i N hk hN hq
      refine z_iload_n X 0 d_A_giveProcessor_28 rfl rfl ?_
      refine z_bipush X (v := 64) d_A_giveProcessor_29 (by decide) ?_
      refine z_icmp_gt X 62 d_A_giveProcessor_31 (by decide) (fun c_31 => ?_) (fun c_31 => absurd (by rw [show i = 65 by omega]; decide) c_31)
      refine z_aload_n X 1 d_A_giveProcessor_62 rfl rfl ?_
      refine z_dup X d_A_giveProcessor_63 rfl ?_
      refine z_get X fl_A_137 0 e_A rfl rfl d_A_giveProcessor_64 ?_
      refine z_iconst X (v := 1) d_A_giveProcessor_67 (by decide) ?_
      refine z_iadd X d_A_giveProcessor_68 ?_
      refine z_puti X fl_A_137 0 e_A rfl rfl rfl d_A_giveProcessor_69 ?_
      exact z_vret X hq d_A_giveProcessor_72
    | succ k ih =>
      intro i N hk hN hq
      refine z_iload_n X 0 d_A_giveProcessor_28 rfl rfl ?_
      refine z_bipush X (v := 64) d_A_giveProcessor_29 (by decide) ?_
      refine z_icmp_gt X 62 d_A_giveProcessor_31 (by decide) (fun c_31 => absurd c_31 (by rw [show (64 : Int32) = nI 64 from rfl]; exact nI_nlt (by omega) (by omega))) (fun c_31 => ?_)
      refine z_aload_n X 1 d_A_giveProcessor_34 rfl rfl ?_
      refine z_iload_n X 2 d_A_giveProcessor_35 rfl rfl ?_
      refine z_Vq X GG_ok cf_A_173 0 [zI (kPartAt M w (M.1 0 6))] [] (c_A_firstReady l D cA ad _ n w hN _) ⟨rfl, rfl⟩ (by decide) e_A rfl rfl rfl rfl (Nat.le_of_ble_eq_true rfl) ⟨Nat.zero_le _, Nat.zero_le _⟩ d_A_giveProcessor_36 (fun r1 M2 h3 => ?_)
      have qh3 := h3.1.symm
      subst qh3
      obtain ⟨-, rfl⟩ := h3
      rcases hF : kFR n (kPartAt M w (M.1 0 6)) N with _ | j
      · refine z_astore_nN X (L' := [(3, zN), (2, zI (nI i)), (0, zR 0), (1, zI (kPartAt M w (M.1 0 6)))]) d_A_giveProcessor_39 rfl (by decide) rfl ?_
        refine z_aload_nN X 0 d_A_giveProcessor_40 rfl rfl ?_
        refine z_ifnonnullN X d_A_giveProcessor_41 ?_
        refine z_goto X 62 d_A_giveProcessor_44 (by decide) ?_
        refine z_aload_n X 2 d_A_giveProcessor_62 rfl rfl ?_
        refine z_dup X d_A_giveProcessor_63 rfl ?_
        refine z_get X fl_A_137 0 e_A rfl rfl d_A_giveProcessor_64 ?_
        refine z_iconst X (v := 1) d_A_giveProcessor_67 (by decide) ?_
        refine z_iadd X d_A_giveProcessor_68 ?_
        refine z_puti X fl_A_137 0 e_A rfl rfl rfl d_A_giveProcessor_69 ?_
        exact z_vret X ((kGo_none hF).symm.trans hq) d_A_giveProcessor_72
      · have hj : j < 8 := Nat.lt_of_lt_of_le (kFR_lt hF) (kInv_n hN)
        refine z_astore_n X (L' := [(3, zR (9 + 4 * j)), (2, zI (nI i)), (0, zR 0), (1, zI (kPartAt M w (M.1 0 6)))]) d_A_giveProcessor_39 rfl (by decide) rfl ?_
        refine z_aload_n X 0 d_A_giveProcessor_40 rfl rfl ?_
        refine z_ifnonnull X 47 d_A_giveProcessor_41 (by decide) ?_
        refine z_aload_n X 2 d_A_giveProcessor_47 rfl rfl ?_
        refine z_aload_n X 0 d_A_giveProcessor_48 rfl rfl ?_
        refine z_Vi X GG_ok cf_A_177 0 [zR (9 + 4 * j)] [] (c_A_doOrder l D cA ad _ n w hN j hj) ⟨rfl, rfl⟩ (by decide) e_A rfl rfl rfl rfl (Nat.le_of_ble_eq_true rfl) ⟨Nat.zero_le _, Nat.zero_le _⟩ d_A_giveProcessor_49 (fun r4 M5 h6 => ?_)
        have qh6 := h6.1.symm
        subst qh6
        obtain ⟨-, ⟨rfl, po⟩ | ⟨rfl, po⟩⟩ := h6
        · refine z_if_eq X 56 d_A_giveProcessor_52 (by decide) (fun h => absurd h (by decide)) (fun _ => ?_)
          exact z_vret X ((kGo_work hF po).symm.trans hq) d_A_giveProcessor_55
        · refine z_if_eq X 56 d_A_giveProcessor_52 (by decide) (fun _ => ?_) (fun h => absurd h (by decide))
          refine z_iinc X 1 (v := nI (i + 1)) (L' := [(2, zI (nI (i + 1))), (3, zR (9 + 4 * j)), (0, zR 0), (1, zI (kPartAt M w (M.1 0 6)))]) d_A_giveProcessor_56 rfl (nI_1 i) (by decide) rfl ?_
          refine z_goto X 28 d_A_giveProcessor_59 (by decide) ?_
          exact z_keep (ks := [0, 2, 3]) (L' := [(2, zI (nI (i + 1))), (0, zR 0), (1, zI (kPartAt M w (M.1 0 6)))]) rfl (ih (i + 1) (kDo n j N) (by omega) (kInv_Do hN hj) ((kGo_on hF po).symm.trans hq))
  refine z_aload_n X 0 d_A_giveProcessor_0 rfl rfl ?_
  refine z_get X fl_A_10 0 e_A rfl rfl d_A_giveProcessor_1 ?_
  refine z_aload_n X 0 d_A_giveProcessor_4 rfl rfl ?_
  refine z_get X fl_A_103 0 e_A rfl rfl d_A_giveProcessor_5 ?_
  refine z_Vi X GG_ok cf_A_128 1 [zI (M.1 0 6)] [] (c_Wr_partitionAt l D cA ad _ w hI.1.2.1 hI.1.2.2.2.1 hI.1.2.2.2.2.1 _) ⟨rfl, rfl⟩ (by decide) e_Wr rfl rfl rfl rfl (Nat.le_of_ble_eq_true rfl) ⟨Nat.zero_le _, Nat.zero_le _⟩ d_A_giveProcessor_8 (fun r1 M2 h3 => ?_)
  have qh3 := h3.1.symm
  subst qh3
  obtain ⟨-, rfl⟩ := h3
  refine z_istore_n X (L' := [(1, zI (kPartAt M w (M.1 0 6))), (0, zR 0)]) d_A_giveProcessor_11 rfl (by decide) rfl ?_
  refine z_iload_n X 0 d_A_giveProcessor_12 rfl rfl ?_
  refine z_iconst X (v := (-1)) d_A_giveProcessor_13 (by decide) ?_
  refine z_icmp_eq X 25 d_A_giveProcessor_14 (by decide) (fun c_14 => ?_) (fun c_14 => ?_)
  · exact z_vret X (by rw [kGive, if_pos c_14]) d_A_giveProcessor_25
  · refine z_aload_n X 1 d_A_giveProcessor_17 rfl rfl ?_
    refine z_iload_n X 0 d_A_giveProcessor_18 rfl rfl ?_
    refine z_Vi X GG_ok cf_A_88 0 [zI (kPartAt M w (M.1 0 6))] [] (c_A_isOn l D cA ad _ _ _ (kPartAt_ok hI c_14).2 (kPartAt_ok hI c_14).1) ⟨rfl, rfl⟩ (by decide) e_A rfl rfl rfl rfl (Nat.le_of_ble_eq_true rfl) ⟨Nat.zero_le _, Nat.zero_le _⟩ d_A_giveProcessor_19 (fun r4 M5 h6 => ?_)
    have qh6 := h6.1.symm
    subst qh6
    obtain ⟨-, ⟨rfl, p7⟩ | ⟨rfl, p7⟩⟩ := h6
    · refine z_if_ne X 26 d_A_giveProcessor_22 (by decide) (fun _ => ?_) (fun h => absurd h (by decide))
      refine z_iconst X (v := 0) d_A_giveProcessor_26 (by decide) ?_
      refine z_istore_n X (L' := [(2, zI 0), (1, zI (kPartAt M w (M.1 0 6))), (0, zR 0)]) d_A_giveProcessor_27 rfl (by decide) rfl ?_
      exact z_keep (ks := [0, 2, 1]) (L' := [(2, zI 0), (0, zR 0), (1, zI (kPartAt M w (M.1 0 6)))]) rfl (loop 65 0 M (by omega) hI (by rw [kGive, if_neg c_14, if_pos p7]))
    · refine z_if_ne X 26 d_A_giveProcessor_22 (by decide) (fun h => absurd h (by decide)) (fun _ => ?_)
      exact z_vret X (by rw [kGive, if_neg c_14, if_neg p7]) d_A_giveProcessor_25

set_option maxHeartbeats 4000000 in
set_option maxRecDepth 100000 in
theorem c_A_tick (l : Launch) (D : va_G) (cA : Nat → ClassId) (ad : Nat → Nat) (M : zM) (n w : Nat) (hI : kInv n w M) : Cv l D cA ad y_A_tick b_A_tick 1 none (zr 5 116) [zR 0] M (fun M' => M' = kTick n w M) := by
  refine zMv_of (plainFor_of_name (by decide)) (Nat.le_of_ble_eq_true rfl) ?_
  intro p e s m args below meth c A X
  refine z_aload_n X 0 d_A_tick_0 rfl rfl ?_
  refine z_Vv X GG_ok cf_A_147 0 [] [] (c_A_releaseDue l D cA ad _ n w hI) ⟨rfl, rfl⟩ (by decide) e_A rfl rfl rfl rfl (Nat.le_of_ble_eq_true rfl) ⟨Nat.zero_le _, Nat.zero_le _⟩ d_A_tick_1 (fun M2 h3 => ?_)
  have qh3 := h3.symm
  subst qh3
  refine z_aload_n X 0 d_A_tick_4 rfl rfl ?_
  refine z_Vv X GG_ok cf_A_150 0 [] [] (c_A_missDue l D cA ad _ n w (kInv_For (N := n) (fun i M hi hM => kInv_RelOne i M (Nat.lt_of_lt_of_le hi (kInv_n hI)) hM) _ _ _ (by omega) hI)) ⟨rfl, rfl⟩ (by decide) e_A rfl rfl rfl rfl (Nat.le_of_ble_eq_true rfl) ⟨Nat.zero_le _, Nat.zero_le _⟩ d_A_tick_5 (fun M5 h6 => ?_)
  have qh6 := h6.symm
  subst qh6
  refine z_aload_n X 0 d_A_tick_8 rfl rfl ?_
  refine z_Vv X GG_ok cf_A_153 0 [] [] (c_A_giveProcessor l D cA ad _ n w (kInv_For (N := n) (fun i M hi hM => kInv_MissOne i M (Nat.lt_of_lt_of_le hi (kInv_n hI)) hM) _ _ _ (by omega) (kInv_For (N := n) (fun i M hi hM => kInv_RelOne i M (Nat.lt_of_lt_of_le hi (kInv_n hI)) hM) _ _ _ (by omega) hI))) ⟨rfl, rfl⟩ (by decide) e_A rfl rfl rfl rfl (Nat.le_of_ble_eq_true rfl) ⟨Nat.zero_le _, Nat.zero_le _⟩ d_A_tick_9 (fun M8 h9 => ?_)
  have qh9 := h9.symm
  subst qh9
  refine z_aload_n X 0 d_A_tick_12 rfl rfl ?_
  refine z_dup X d_A_tick_13 rfl ?_
  refine z_get X fl_A_103 0 e_A rfl rfl d_A_tick_14 ?_
  refine z_iconst X (v := 1) d_A_tick_17 (by decide) ?_
  refine z_iadd X d_A_tick_18 ?_
  refine z_puti X fl_A_103 0 e_A rfl rfl rfl d_A_tick_19 ?_
  exact z_vret X rfl d_A_tick_22

set_option maxHeartbeats 4000000 in
set_option maxRecDepth 100000 in
theorem c_A_run (l : Launch) (D : va_G) (cA : Nat → ClassId) (ad : Nat → Nat) (M : zM) (n w : Nat) (hI : kInv n w M) (d : Nat) (h1 : 1 ≤ d) (h2 : d ≤ 60) : Ci l D cA ad y_A_run b_A_run 3 (some (.int)) (zr 6 136) [zR 0, zI (nI d)] M (fun r M' => M' = kTicks n w d M ∧ r = M'.1 0 6) := by
  refine zMi_of (plainFor_of_name (by decide)) (Nat.le_of_ble_eq_true rfl) ?_
  intro p e s m args below meth c A X
  have loop : ∀ (k i : Nat) (N : zM), i + k = d → kInv n w N → kTicks n w k N = kTicks n w d M → zW p l e (zr 6 136) s m args below meth c 0 0 (MQ below (va_Qi (fun r M' => M' = kTicks n w d M ∧ r = M'.1 0 6) (fun M' t => va_P D cls (z_w cA ad M' 0 EE) t.heap) A) args s 0 0 A) A D cls cA ad EE 3 N 14 [(2, zI (nI i)), (0, zR 0), (1, zI (nI d))] [] := by
    intro k
    induction k with
    | zero =>
      intro i N hk hN hq
      refine z_iload_n X 0 d_A_run_14 rfl rfl ?_
      refine z_iload_n X 2 d_A_run_15 rfl rfl ?_
      refine z_icmp_ge X 29 d_A_run_16 (by decide) (fun c_16 => ?_) (fun c_16 => absurd (by rw [show i = d by omega]; exact nI_le (Nat.le_refl _) (by omega)) c_16)
      refine z_aload_n X 1 d_A_run_29 rfl rfl ?_
      refine z_get X fl_A_103 0 e_A rfl rfl d_A_run_30 ?_
      exact z_iret X (⟨hq, rfl⟩) d_A_run_33
    | succ k ih =>
      intro i N hk hN hq
      refine z_iload_n X 0 d_A_run_14 rfl rfl ?_
      refine z_iload_n X 2 d_A_run_15 rfl rfl ?_
      refine z_icmp_ge X 29 d_A_run_16 (by decide) (fun c_16 => absurd c_16 (nI_ge (by omega) (by omega))) (fun c_16 => ?_)
      refine z_aload_n X 1 d_A_run_19 rfl rfl ?_
      refine z_Vv X GG_ok cf_A_120 0 [] [] (c_A_tick l D cA ad _ n w hN) ⟨rfl, rfl⟩ (by decide) e_A rfl rfl rfl rfl (Nat.le_of_ble_eq_true rfl) ⟨Nat.zero_le _, Nat.zero_le _⟩ d_A_run_20 (fun M2 h3 => ?_)
      have qh3 := h3.symm
      subst qh3
      refine z_iinc X 0 (v := nI (i + 1)) (L' := [(2, zI (nI (i + 1))), (0, zR 0), (1, zI (nI d))]) d_A_run_23 rfl (nI_1 i) (by decide) rfl ?_
      refine z_goto X 14 d_A_run_26 (by decide) ?_
      exact ih (i + 1) (kTick n w N) (by omega) (kInv_Tick hN) hq
  refine z_iload_n X 1 d_A_run_0 rfl rfl ?_
  refine z_iconst X (v := 1) d_A_run_1 (by decide) ?_
  refine z_bipush X (v := 60) d_A_run_2 (by decide) ?_
  refine z_Si X GG_ok cf_A_47 [zI (nI d), zI 1, zI 60] [] (c_A_within l D cA ad _ _ _ _) ⟨rfl, rfl⟩ (by decide) rfl rfl (Nat.le_of_ble_eq_true rfl) ⟨Nat.zero_le _, Nat.zero_le _⟩ d_A_run_4 (fun r1 M2 h3 => ?_)
  have qh3 := h3.1.symm
  subst qh3
  obtain ⟨-, ⟨rfl, p4⟩ | ⟨rfl, p4⟩⟩ := h3
  · refine z_if_ne X 12 d_A_run_7 (by decide) (fun _ => ?_) (fun h => absurd h (by decide))
    refine z_iconst X (v := 0) d_A_run_12 (by decide) ?_
    refine z_istore_n X (L' := [(2, zI 0), (0, zR 0), (1, zI (nI d))]) d_A_run_13 rfl (by decide) rfl ?_
    exact loop d 0 M (by omega) hI rfl
  · refine z_if_ne X 12 d_A_run_7 (by decide) (fun h => absurd h (by decide)) (fun _ => ?_)
    refine z_iconst X (v := (-1)) d_A_run_10 (by decide) ?_
    exact z_iret X (absurd ⟨(show (1 : Int32) = nI 1 from rfl) ▸ nI_le h1 (by omega), (show (60 : Int32) = nI 60 from rfl) ▸ nI_le h2 (by omega)⟩ p4) d_A_run_11

set_option maxHeartbeats 4000000 in
set_option maxRecDepth 100000 in
theorem c_A_run_no (l : Launch) (D : va_G) (cA : Nat → ClassId) (ad : Nat → Nat) (M : zM) (x : Int32) (hx : ¬ (1 ≤ x ∧ x ≤ 60)) : Ci l D cA ad y_A_run b_A_run 3 (some (.int)) (zr 6 136) [zR 0, zI x] M (fun r M' => M' = M ∧ r = (-1)) := by
  refine zMi_of (plainFor_of_name (by decide)) (Nat.le_of_ble_eq_true rfl) ?_
  intro p e s m args below meth c A X
  refine z_iload_n X 1 d_A_run_0 rfl rfl ?_
  refine z_iconst X (v := 1) d_A_run_1 (by decide) ?_
  refine z_bipush X (v := 60) d_A_run_2 (by decide) ?_
  refine z_Si X GG_ok cf_A_47 [zI x, zI 1, zI 60] [] (c_A_within l D cA ad _ _ _ _) ⟨rfl, rfl⟩ (by decide) rfl rfl (Nat.le_of_ble_eq_true rfl) ⟨Nat.zero_le _, Nat.zero_le _⟩ d_A_run_4 (fun r1 M2 h3 => ?_)
  have qh3 := h3.1.symm
  subst qh3
  obtain ⟨-, ⟨rfl, p4⟩ | ⟨rfl, p4⟩⟩ := h3
  · refine z_if_ne X 12 d_A_run_7 (by decide) (fun _ => ?_) (fun h => absurd h (by decide))
    exact absurd p4 hx
  · refine z_if_ne X 12 d_A_run_7 (by decide) (fun h => absurd h (by decide)) (fun _ => ?_)
    refine z_iconst X (v := (-1)) d_A_run_10 (by decide) ?_
    exact z_iret X (⟨rfl, rfl⟩) d_A_run_11
end
section
/-! the class's public methods: words for their contracts -/
theorem kR_ok {a c : Int32} {N : Nat} (hc : c.toInt = N) (h : 0 ≤ a ∧ a ≤ c) : a = nI a.toNatClampNeg ∧ a.toNatClampNeg < N + 1 := by
  obtain ⟨j, hj, e⟩ := nI_of2 (x := a) hc (Int32.not_lt.mpr h.1) h.2
  have hN : (N : Int) < 2 ^ 31 := by rw [← hc]; exact Int32.toInt_lt c
  rw [e, nI_clamp (n := j) (by omega)]
  exact ⟨rfl, by omega⟩
theorem kC_ok {a : Int32} (h : 0 ≤ a ∧ a ≤ 2) : a = nI a.toNatClampNeg ∧ a.toNatClampNeg < 3 := kR_ok (c := 2) (N := 2) (by decide) h
theorem kQ_ok {a : Int32} (h : 0 ≤ a ∧ a ≤ 3) : a = nI a.toNatClampNeg ∧ a.toNatClampNeg < 4 := kR_ok (c := 3) (N := 3) (by decide) h
theorem kA_ok {n w : Nat} {M : zM} (hI : kInv n w M) {a : Int32} (h : 0 ≤ a ∧ a ≤ M.1 0 5 - 1) : a = nI a.toNatClampNeg ∧ a.toNatClampNeg < n := by
  have hn := kInv_n hI
  rw [kInv_cnt hI] at h
  rcases Nat.eq_zero_or_pos n with h0 | h0
  · subst h0
    have h1 := h.1
    have h2 := h.2
    rw [Int32.le_iff_toInt_le] at h1 h2
    have e : (nI 0 - 1).toInt = -1 := by decide
    have e0 : (0 : Int32).toInt = 0 := by decide
    omega
  · rw [nI_m1 (by omega)] at h
    have := kR_ok (c := nI (n - 1)) (N := n - 1) (nI_toInt (by omega)) h
    exact ⟨this.1, by omega⟩
theorem nI_8 {w : Nat} (h : w ≤ 8) (e : nI w = 8) : w = 8 := (nI_eq (b := 8) (by omega) (by omega)).mp e
theorem nI_n8 {w : Nat} (h : w ≤ 8) (e : ¬ nI w = 8) : w < 8 := by
  rcases Nat.lt_or_ge w 8 with q | q
  · exact q
  · exact absurd (show nI w = 8 by rw [show w = 8 by omega]; rfl) e
def kPs (M : zM) (i : Nat) : Nat := (M.1 (10 + 4 * i) 2).toNatClampNeg
theorem kPs_le {n w : Nat} {M : zM} (h : kInv n w M) {i : Nat} (hi : i < 8) : kPs M i ≤ 8 := by
  obtain ⟨z, hz, e⟩ := h.1.2.2.2.2.2.2.2.1 i hi
  unfold kPs
  rw [e, nI_clamp (n := z) (by omega)]
  exact hz
theorem kPs_eq {n w : Nat} {M : zM} (h : kInv n w M) {i : Nat} (hi : i < 8) : M.1 (10 + 4 * i) 2 = nI (kPs M i) := by
  obtain ⟨z, hz, e⟩ := h.1.2.2.2.2.2.2.2.1 i hi
  unfold kPs
  rw [e, nI_clamp (n := z) (by omega)]
def kIsOrd (b d : Int32) : Prop := (b = 0 ∧ 1 ≤ d ∧ d ≤ 20) ∨ ((b = 1 ∨ b = 2 ∨ b = 3 ∨ b = 4) ∧ 0 ≤ d ∧ d ≤ 3)
def kOkW (a x : Int32) (M : zM) : Prop := (0 ≤ a ∧ a ≤ 2) ∧ (1 ≤ x ∧ x ≤ 30) ∧ kAllOff M
def kOkP (a b d q : Int32) (M : zM) : Prop := (0 ≤ a ∧ a ≤ 2) ∧ (0 ≤ b ∧ b ≤ 9) ∧ (0 ≤ d ∧ d ≤ 60) ∧ (0 ≤ q ∧ q ≤ 60) ∧ kAllOff M
def kOkO (a b d : Int32) (M : zM) : Prop := (0 ≤ a ∧ a ≤ M.1 0 5 - 1) ∧ kIsOrd b d ∧ kAllOff M
def kProc (n : Nat) (a b d q : Int32) (M : zM) : zM := z_si (kDef n a b d q M) 0 5 (nI (n + 1))
def kOn2 (part : Int32) (i : Nat) (M : zM) : zM := if M.1 (9 + 4 * i) 2 = part then (if M.1 (9 + 4 * i) 4 ≤ 0 then M else z_si M (9 + 4 * i) 16 (M.1 0 6)) else M
theorem kInv_On2 {n w : Nat} (part : Int32) (i : Nat) (M : zM) (hi : i < 8) (h : kInv n w M) : kInv n w (kOn2 part i M) := by
  unfold kOn2
  split
  · split
    · exact h
    · exact kInv_task h hi _ (by decide) (by decide)
  · exact h
def kOn (n : Nat) (a : Int32) (M : zM) : zM := kFor (kOn2 a) n 0 (kFor (kRestOne a) n 0 (z_si M (5 + a.toNatClampNeg) 0 1))
theorem kInv_On1 {n w : Nat} {M : zM} (h : kInv n w M) {a : Int32} (ha : a.toNatClampNeg < 3) : kInv n w (kFor (kRestOne a) n 0 (z_si M (5 + a.toNatClampNeg) 0 1)) :=
  kInv_For (N := n) (fun i M hi hM => kInv_RestOne _ i M (Nat.lt_of_lt_of_le hi (kInv_n h)) hM) _ _ _ (by omega) (kInv_far h _ (by omega))
def kOkS (n : Nat) (a : Int32) (M : zM) : Prop := (0 ≤ a ∧ a ≤ M.1 0 5 - 1) ∧ ¬ 0 < M.1 (9 + 4 * a.toNatClampNeg) 4 ∧ M.1 (9 + 4 * a.toNatClampNeg) 6 = 0 ∧ M.1 (5 + kPt M a.toNatClampNeg) 0 = 1
def kCount (n w : Nat) (x : Int32) (M : zM) : Int32 :=
  if x = 0 then M.1 0 6 else if x = 1 then kPartAt M w (M.1 0 6) else if x = 2 then (if w = 0 then (-1) else kLeftAt M w (M.1 0 6)) else if x = 3 then M.1 0 7 else if x = 4 then M.1 0 8 else if x = 5 then nI n else if x = 6 then nI w else (-1)
theorem kDef_0 (i : Nat) (a b d q : Int32) (M : zM) : (kDef i a b d q M).1 0 = M.1 0 := by
  unfold kDef
  rw [z_si_row _ _ _ (by omega), z_si_row _ _ _ (by omega), z_si_row _ _ _ (by omega), z_si_row _ _ _ (by omega)]
end
section
set_option maxHeartbeats 4000000 in
set_option maxRecDepth 100000 in
theorem c_A_isOrder (l : Launch) (D : va_G) (cA : Nat → ClassId) (ad : Nat → Nat) (M : zM) (b d : Int32) : Ci l D cA ad y_A_isOrder b_A_isOrder 2 (some (.boolean)) (zr 1 22) [zI b, zI d] M (fun r M' => M' = M ∧ ((r = 1 ∧ kIsOrd b d) ∨ (r = 0 ∧ ¬ (kIsOrd b d)))) := by
  refine zMi_of (plainFor_of_name (by decide)) (Nat.le_of_ble_eq_true rfl) ?_
  intro p e s m args below meth c A X
  refine z_iload_n X 0 d_A_isOrder_0 rfl rfl ?_
  by_cases s1_0 : b = 0
  · refine z_tabIn X 36 d_A_isOrder_1 (by rw [s1_0]; decide) (by rw [s1_0]; decide) (by rw [s1_0]; rfl) (by decide) ?_
    refine z_iload_n X 1 d_A_isOrder_36 rfl rfl ?_
    refine z_iconst X (v := 1) d_A_isOrder_37 (by decide) ?_
    refine z_bipush X (v := 20) d_A_isOrder_38 (by decide) ?_
    refine z_Si X GG_ok cf_A_47 [zI d, zI 1, zI 20] [] (c_A_within l D cA ad _ _ _ _) ⟨rfl, rfl⟩ (by decide) rfl rfl (Nat.le_of_ble_eq_true rfl) ⟨Nat.zero_le _, Nat.zero_le _⟩ d_A_isOrder_40 (fun r2 M3 h4 => ?_)
    have qh4 := h4.1.symm
    subst qh4
    obtain ⟨-, ⟨rfl, p5⟩ | ⟨rfl, p5⟩⟩ := h4
    · exact z_zret X rfl (⟨rfl, Or.inl ⟨rfl, Or.inl ⟨s1_0, p5⟩⟩⟩) d_A_isOrder_43
    · exact z_zret X rfl (⟨rfl, Or.inr ⟨rfl, fun q => q.elim (fun z => p5 z.2) (fun z => by rw [s1_0] at z; exact absurd z.1 (by decide))⟩⟩) d_A_isOrder_43
  by_cases s1_1 : b = 1
  · refine z_tabIn X 44 d_A_isOrder_1 (by rw [s1_1]; decide) (by rw [s1_1]; decide) (by rw [s1_1]; rfl) (by decide) ?_
    refine z_iload_n X 1 d_A_isOrder_44 rfl rfl ?_
    refine z_iconst X (v := 0) d_A_isOrder_45 (by decide) ?_
    refine z_iconst X (v := 3) d_A_isOrder_46 (by decide) ?_
    refine z_Si X GG_ok cf_A_47 [zI d, zI 0, zI 3] [] (c_A_within l D cA ad _ _ _ _) ⟨rfl, rfl⟩ (by decide) rfl rfl (Nat.le_of_ble_eq_true rfl) ⟨Nat.zero_le _, Nat.zero_le _⟩ d_A_isOrder_47 (fun r6 M7 h8 => ?_)
    have qh8 := h8.1.symm
    subst qh8
    obtain ⟨-, ⟨rfl, p9⟩ | ⟨rfl, p9⟩⟩ := h8
    · exact z_zret X rfl (⟨rfl, Or.inl ⟨rfl, Or.inr ⟨Or.inl s1_1, p9⟩⟩⟩) d_A_isOrder_50
    · exact z_zret X rfl (⟨rfl, Or.inr ⟨rfl, fun q => q.elim (fun z => s1_0 z.1) (fun z => p9 z.2)⟩⟩) d_A_isOrder_50
  by_cases s1_2 : b = 2
  · refine z_tabIn X 44 d_A_isOrder_1 (by rw [s1_2]; decide) (by rw [s1_2]; decide) (by rw [s1_2]; rfl) (by decide) ?_
    refine z_iload_n X 1 d_A_isOrder_44 rfl rfl ?_
    refine z_iconst X (v := 0) d_A_isOrder_45 (by decide) ?_
    refine z_iconst X (v := 3) d_A_isOrder_46 (by decide) ?_
    refine z_Si X GG_ok cf_A_47 [zI d, zI 0, zI 3] [] (c_A_within l D cA ad _ _ _ _) ⟨rfl, rfl⟩ (by decide) rfl rfl (Nat.le_of_ble_eq_true rfl) ⟨Nat.zero_le _, Nat.zero_le _⟩ d_A_isOrder_47 (fun r10 M11 h12 => ?_)
    have qh12 := h12.1.symm
    subst qh12
    obtain ⟨-, ⟨rfl, p13⟩ | ⟨rfl, p13⟩⟩ := h12
    · exact z_zret X rfl (⟨rfl, Or.inl ⟨rfl, Or.inr ⟨Or.inr (Or.inl s1_2), p13⟩⟩⟩) d_A_isOrder_50
    · exact z_zret X rfl (⟨rfl, Or.inr ⟨rfl, fun q => q.elim (fun z => s1_0 z.1) (fun z => p13 z.2)⟩⟩) d_A_isOrder_50
  by_cases s1_3 : b = 3
  · refine z_tabIn X 51 d_A_isOrder_1 (by rw [s1_3]; decide) (by rw [s1_3]; decide) (by rw [s1_3]; rfl) (by decide) ?_
    refine z_iload_n X 1 d_A_isOrder_51 rfl rfl ?_
    refine z_iconst X (v := 0) d_A_isOrder_52 (by decide) ?_
    refine z_iconst X (v := 3) d_A_isOrder_53 (by decide) ?_
    refine z_Si X GG_ok cf_A_47 [zI d, zI 0, zI 3] [] (c_A_within l D cA ad _ _ _ _) ⟨rfl, rfl⟩ (by decide) rfl rfl (Nat.le_of_ble_eq_true rfl) ⟨Nat.zero_le _, Nat.zero_le _⟩ d_A_isOrder_54 (fun r14 M15 h16 => ?_)
    have qh16 := h16.1.symm
    subst qh16
    obtain ⟨-, ⟨rfl, p17⟩ | ⟨rfl, p17⟩⟩ := h16
    · exact z_zret X rfl (⟨rfl, Or.inl ⟨rfl, Or.inr ⟨Or.inr (Or.inr (Or.inl s1_3)), p17⟩⟩⟩) d_A_isOrder_57
    · exact z_zret X rfl (⟨rfl, Or.inr ⟨rfl, fun q => q.elim (fun z => s1_0 z.1) (fun z => p17 z.2)⟩⟩) d_A_isOrder_57
  by_cases s1_4 : b = 4
  · refine z_tabIn X 51 d_A_isOrder_1 (by rw [s1_4]; decide) (by rw [s1_4]; decide) (by rw [s1_4]; rfl) (by decide) ?_
    refine z_iload_n X 1 d_A_isOrder_51 rfl rfl ?_
    refine z_iconst X (v := 0) d_A_isOrder_52 (by decide) ?_
    refine z_iconst X (v := 3) d_A_isOrder_53 (by decide) ?_
    refine z_Si X GG_ok cf_A_47 [zI d, zI 0, zI 3] [] (c_A_within l D cA ad _ _ _ _) ⟨rfl, rfl⟩ (by decide) rfl rfl (Nat.le_of_ble_eq_true rfl) ⟨Nat.zero_le _, Nat.zero_le _⟩ d_A_isOrder_54 (fun r18 M19 h20 => ?_)
    have qh20 := h20.1.symm
    subst qh20
    obtain ⟨-, ⟨rfl, p21⟩ | ⟨rfl, p21⟩⟩ := h20
    · exact z_zret X rfl (⟨rfl, Or.inl ⟨rfl, Or.inr ⟨Or.inr (Or.inr (Or.inr s1_4)), p21⟩⟩⟩) d_A_isOrder_57
    · exact z_zret X rfl (⟨rfl, Or.inr ⟨rfl, fun q => q.elim (fun z => s1_0 z.1) (fun z => p21 z.2)⟩⟩) d_A_isOrder_57
  refine z_tabOut X 58 d_A_isOrder_1 (by have q0 := lv_neT s1_0 (k := 0) (a := 0) (by decide); have q1 := lv_neT s1_1 (k := 1) (a := 1) (by decide); have q2 := lv_neT s1_2 (k := 2) (a := 2) (by decide); have q3 := lv_neT s1_3 (k := 3) (a := 3) (by decide); have q4 := lv_neT s1_4 (k := 4) (a := 4) (by decide); omega) (by decide) ?_
  refine z_iconst X (v := 0) d_A_isOrder_58 (by decide) ?_
  exact z_zret X rfl (⟨rfl, Or.inr ⟨rfl, fun q => q.elim (fun z => s1_0 z.1) (fun z => z.1.elim s1_1 (fun z => z.elim s1_2 (fun z => z.elim s1_3 s1_4)))⟩⟩) d_A_isOrder_59

set_option maxHeartbeats 4000000 in
set_option maxRecDepth 100000 in
theorem c_A_window (l : Launch) (D : va_G) (cA : Nat → ClassId) (ad : Nat → Nat) (M : zM) (n w : Nat) (hI : kInv n w M) (a x : Int32) : Ci l D cA ad y_A_window b_A_window 3 (some (.int)) (zr 2 42) [zR 0, zI a, zI x] M (fun r M' => (¬ kOkW a x M ∧ M' = M ∧ r = (-1)) ∨ (kOkW a x M ∧ w = 8 ∧ M' = M ∧ r = (-2)) ∨ (kOkW a x M ∧ w < 8 ∧ M' = kWadd w a x M ∧ r = nI (w + 1))) := by
  refine zMi_of (plainFor_of_name (by decide)) (Nat.le_of_ble_eq_true rfl) ?_
  intro p e s m args below meth c A X
  refine z_iload_n X 1 d_A_window_0 rfl rfl ?_
  refine z_Si X GG_ok cf_A_43 [zI a] [] (c_A_isPartition l D cA ad _ _) ⟨rfl, rfl⟩ (by decide) rfl rfl (Nat.le_of_ble_eq_true rfl) ⟨Nat.zero_le _, Nat.zero_le _⟩ d_A_window_1 (fun r1 M2 h3 => ?_)
  have qh3 := h3.1.symm
  subst qh3
  obtain ⟨-, ⟨rfl, p4⟩ | ⟨rfl, p4⟩⟩ := h3
  · refine z_if_eq X 24 d_A_window_4 (by decide) (fun h => absurd h (by decide)) (fun _ => ?_)
    refine z_iload_n X 2 d_A_window_7 rfl rfl ?_
    refine z_iconst X (v := 1) d_A_window_8 (by decide) ?_
    refine z_bipush X (v := 30) d_A_window_9 (by decide) ?_
    refine z_Si X GG_ok cf_A_47 [zI x, zI 1, zI 30] [] (c_A_within l D cA ad _ _ _ _) ⟨rfl, rfl⟩ (by decide) rfl rfl (Nat.le_of_ble_eq_true rfl) ⟨Nat.zero_le _, Nat.zero_le _⟩ d_A_window_11 (fun r5 M6 h7 => ?_)
    have qh7 := h7.1.symm
    subst qh7
    obtain ⟨-, ⟨rfl, p8⟩ | ⟨rfl, p8⟩⟩ := h7
    · refine z_if_eq X 24 d_A_window_14 (by decide) (fun h => absurd h (by decide)) (fun _ => ?_)
      refine z_aload_n X 0 d_A_window_17 rfl rfl ?_
      refine z_Vi X GG_ok cf_A_51 0 [] [] (c_A_allOff l D cA ad _) ⟨rfl, rfl⟩ (by decide) e_A rfl rfl rfl rfl (Nat.le_of_ble_eq_true rfl) ⟨Nat.zero_le _, Nat.zero_le _⟩ d_A_window_18 (fun r9 M10 h11 => ?_)
      have qh11 := h11.1.symm
      subst qh11
      obtain ⟨-, ⟨rfl, p12⟩ | ⟨rfl, p12⟩⟩ := h11
      · refine z_if_ne X 26 d_A_window_21 (by decide) (fun _ => ?_) (fun h => absurd h (by decide))
        refine z_aload_n X 0 d_A_window_26 rfl rfl ?_
        refine z_get X fl_A_10 0 e_A rfl rfl d_A_window_27 ?_
        refine z_get X fl_A_55 1 e_Wr rfl rfl d_A_window_30 ?_
        refine z_bipush X (v := 8) d_A_window_33 (by decide) ?_
        refine z_icmp_ne X 41 d_A_window_35 (by decide) (fun c_35 => ?_) (fun c_35 => ?_)
        · have hw8 : w < 8 := nI_n8 hI.1.2.1 (hI.1.2.2.2.1 ▸ c_35)
          refine z_aload_n X 0 d_A_window_41 rfl rfl ?_
          refine z_get X fl_A_10 0 e_A rfl rfl d_A_window_42 ?_
          refine z_iload_n X 1 d_A_window_45 rfl rfl ?_
          refine z_iload_n X 2 d_A_window_46 rfl rfl ?_
          refine z_Vv X GG_ok cf_A_59 1 [zI a, zI x] [] (c_Wr_add l D cA ad _ w hw8 hI.1.2.2.2.1 _ _) ⟨rfl, rfl⟩ (by decide) e_Wr rfl rfl rfl rfl (Nat.le_of_ble_eq_true rfl) ⟨Nat.zero_le _, Nat.zero_le _⟩ d_A_window_47 (fun M14 h15 => ?_)
          have qh15 := h15.symm
          subst qh15
          refine z_aload_n X 0 d_A_window_50 rfl rfl ?_
          refine z_get X fl_A_10 0 e_A rfl rfl d_A_window_51 ?_
          refine z_get X fl_A_55 1 e_Wr rfl rfl d_A_window_54 ?_
          exact z_iret X (Or.inr (Or.inr ⟨⟨p4, p8, p12⟩, hw8, rfl, z_si_same _ _ _ _⟩)) d_A_window_57
        · refine z_bipush X (v := (-2)) d_A_window_38 (by decide) ?_
          exact z_iret X (Or.inr (Or.inl ⟨⟨p4, p8, p12⟩, nI_8 hI.1.2.1 (hI.1.2.2.2.1 ▸ c_35), rfl, rfl⟩)) d_A_window_40
      · refine z_if_ne X 26 d_A_window_21 (by decide) (fun h => absurd h (by decide)) (fun _ => ?_)
        refine z_iconst X (v := (-1)) d_A_window_24 (by decide) ?_
        exact z_iret X (Or.inl ⟨fun q => p12 q.2.2, rfl, rfl⟩) d_A_window_25
    · refine z_if_eq X 24 d_A_window_14 (by decide) (fun _ => ?_) (fun h => absurd h (by decide))
      refine z_iconst X (v := (-1)) d_A_window_24 (by decide) ?_
      exact z_iret X (Or.inl ⟨fun q => p8 q.2.1, rfl, rfl⟩) d_A_window_25
  · refine z_if_eq X 24 d_A_window_4 (by decide) (fun _ => ?_) (fun h => absurd h (by decide))
    refine z_iconst X (v := (-1)) d_A_window_24 (by decide) ?_
    exact z_iret X (Or.inl ⟨fun q => p4 q.1, rfl, rfl⟩) d_A_window_25

set_option maxHeartbeats 4000000 in
set_option maxRecDepth 100000 in
theorem c_A_process (l : Launch) (D : va_G) (cA : Nat → ClassId) (ad : Nat → Nat) (M : zM) (n w : Nat) (hI : kInv n w M) (a b d q : Int32) : Ci l D cA ad y_A_process b_A_process 5 (some (.int)) (zr 2 42) [zR 0, zI a, zI b, zI d, zI q] M (fun r M' => (¬ kOkP a b d q M ∧ M' = M ∧ r = (-1)) ∨ (kOkP a b d q M ∧ n = 8 ∧ M' = M ∧ r = (-2)) ∨ (kOkP a b d q M ∧ n < 8 ∧ M' = kProc n a b d q M ∧ r = nI n)) := by
  refine zMi_of (plainFor_of_name (by decide)) (Nat.le_of_ble_eq_true rfl) ?_
  intro p e s m args below meth c A X
  refine z_iload_n X 1 d_A_process_0 rfl rfl ?_
  refine z_Si X GG_ok cf_A_43 [zI a] [] (c_A_isPartition l D cA ad _ _) ⟨rfl, rfl⟩ (by decide) rfl rfl (Nat.le_of_ble_eq_true rfl) ⟨Nat.zero_le _, Nat.zero_le _⟩ d_A_process_1 (fun r1 M2 h3 => ?_)
  have qh3 := h3.1.symm
  subst qh3
  obtain ⟨-, ⟨rfl, p4⟩ | ⟨rfl, p4⟩⟩ := h3
  · refine z_if_eq X 17 d_A_process_4 (by decide) (fun h => absurd h (by decide)) (fun _ => ?_)
    refine z_iload_n X 2 d_A_process_7 rfl rfl ?_
    refine z_iconst X (v := 0) d_A_process_8 (by decide) ?_
    refine z_bipush X (v := 9) d_A_process_9 (by decide) ?_
    refine z_Si X GG_ok cf_A_47 [zI b, zI 0, zI 9] [] (c_A_within l D cA ad _ _ _ _) ⟨rfl, rfl⟩ (by decide) rfl rfl (Nat.le_of_ble_eq_true rfl) ⟨Nat.zero_le _, Nat.zero_le _⟩ d_A_process_11 (fun r5 M6 h7 => ?_)
    have qh7 := h7.1.symm
    subst qh7
    obtain ⟨-, ⟨rfl, p8⟩ | ⟨rfl, p8⟩⟩ := h7
    · refine z_if_ne X 19 d_A_process_14 (by decide) (fun _ => ?_) (fun h => absurd h (by decide))
      refine z_iload_n X 3 d_A_process_19 rfl rfl ?_
      refine z_iconst X (v := 0) d_A_process_20 (by decide) ?_
      refine z_bipush X (v := 60) d_A_process_21 (by decide) ?_
      refine z_Si X GG_ok cf_A_47 [zI d, zI 0, zI 60] [] (c_A_within l D cA ad _ _ _ _) ⟨rfl, rfl⟩ (by decide) rfl rfl (Nat.le_of_ble_eq_true rfl) ⟨Nat.zero_le _, Nat.zero_le _⟩ d_A_process_23 (fun r9 M10 h11 => ?_)
      have qh11 := h11.1.symm
      subst qh11
      obtain ⟨-, ⟨rfl, p12⟩ | ⟨rfl, p12⟩⟩ := h11
      · refine z_if_eq X 47 d_A_process_26 (by decide) (fun h => absurd h (by decide)) (fun _ => ?_)
        refine z_iload X 4 d_A_process_29 rfl ?_
        refine z_iconst X (v := 0) d_A_process_31 (by decide) ?_
        refine z_bipush X (v := 60) d_A_process_32 (by decide) ?_
        refine z_Si X GG_ok cf_A_47 [zI q, zI 0, zI 60] [] (c_A_within l D cA ad _ _ _ _) ⟨rfl, rfl⟩ (by decide) rfl rfl (Nat.le_of_ble_eq_true rfl) ⟨Nat.zero_le _, Nat.zero_le _⟩ d_A_process_34 (fun r13 M14 h15 => ?_)
        have qh15 := h15.1.symm
        subst qh15
        obtain ⟨-, ⟨rfl, p16⟩ | ⟨rfl, p16⟩⟩ := h15
        · refine z_if_eq X 47 d_A_process_37 (by decide) (fun h => absurd h (by decide)) (fun _ => ?_)
          refine z_aload_n X 0 d_A_process_40 rfl rfl ?_
          refine z_Vi X GG_ok cf_A_51 0 [] [] (c_A_allOff l D cA ad _) ⟨rfl, rfl⟩ (by decide) e_A rfl rfl rfl rfl (Nat.le_of_ble_eq_true rfl) ⟨Nat.zero_le _, Nat.zero_le _⟩ d_A_process_41 (fun r17 M18 h19 => ?_)
          have qh19 := h19.1.symm
          subst qh19
          obtain ⟨-, ⟨rfl, p20⟩ | ⟨rfl, p20⟩⟩ := h19
          · refine z_if_ne X 49 d_A_process_44 (by decide) (fun _ => ?_) (fun h => absurd h (by decide))
            refine z_aload_n X 0 d_A_process_49 rfl rfl ?_
            refine z_get X fl_A_63 0 e_A rfl rfl d_A_process_50 ?_
            refine z_bipush X (v := 8) d_A_process_53 (by decide) ?_
            refine z_icmp_ne X 61 d_A_process_55 (by decide) (fun c_55 => ?_) (fun c_55 => ?_)
            · have hn8 : n < 8 := nI_n8 (kInv_n hI) (kInv_cnt hI ▸ c_55)
              refine z_aload_n X 0 d_A_process_61 rfl rfl ?_
              refine z_get X fl_A_25 0 e_A rfl rfl d_A_process_62 ?_
              refine z_aload_n X 0 d_A_process_65 rfl rfl ?_
              refine z_get X fl_A_63 0 e_A rfl rfl d_A_process_66 ?_
              refine z_aald X 8 e_TA rfl n (kInv_cnt hI) hn8 (by decide) (g_TA hn8) d_A_process_69 ?_
              refine z_iload_n X 1 d_A_process_70 rfl rfl ?_
              refine z_iload_n X 2 d_A_process_71 rfl rfl ?_
              refine z_iload_n X 3 d_A_process_72 rfl rfl ?_
              refine z_iload X 4 d_A_process_73 rfl ?_
              refine z_Vv X GG_ok cf_A_66 (9 + 4 * n) [zI a, zI b, zI d, zI q] [] (c_K_define l D cA ad _ n hn8 _ _ _ _) ⟨rfl, rfl⟩ (by decide) (e_K hn8) rfl rfl rfl rfl (Nat.le_of_ble_eq_true rfl) ⟨Nat.zero_le _, Nat.zero_le _⟩ d_A_process_75 (fun M22 h23 => ?_)
              have qh23 := h23.symm
              subst qh23
              refine z_aload_n X 0 d_A_process_78 rfl rfl ?_
              refine z_dup X d_A_process_79 rfl ?_
              refine z_get X fl_A_63 0 e_A rfl rfl d_A_process_80 ?_
              refine z_iconst X (v := 1) d_A_process_83 (by decide) ?_
              refine z_iadd X d_A_process_84 ?_
              refine z_puti X fl_A_63 0 e_A rfl rfl rfl d_A_process_85 ?_
              refine z_aload_n X 0 d_A_process_88 rfl rfl ?_
              refine z_get X fl_A_63 0 e_A rfl rfl d_A_process_89 ?_
              refine z_iconst X (v := 1) d_A_process_92 (by decide) ?_
              refine z_isub X d_A_process_93 ?_
              exact z_iret X (Or.inr (Or.inr ⟨⟨p4, p8, p12, p16, p20⟩, hn8, by unfold kProc; rw [kDef_0, kInv_cnt hI, nI_1], by rw [z_si_same, kDef_0, kInv_cnt hI]; exact (congrArg (fun z => z - 1) (nI_1 n)).trans (nI_pred n)⟩)) d_A_process_94
            · refine z_bipush X (v := (-2)) d_A_process_58 (by decide) ?_
              exact z_iret X (Or.inr (Or.inl ⟨⟨p4, p8, p12, p16, p20⟩, nI_8 (kInv_n hI) (kInv_cnt hI ▸ c_55), rfl, rfl⟩)) d_A_process_60
          · refine z_if_ne X 49 d_A_process_44 (by decide) (fun h => absurd h (by decide)) (fun _ => ?_)
            refine z_iconst X (v := (-1)) d_A_process_47 (by decide) ?_
            exact z_iret X (Or.inl ⟨fun q => p20 q.2.2.2.2, rfl, rfl⟩) d_A_process_48
        · refine z_if_eq X 47 d_A_process_37 (by decide) (fun _ => ?_) (fun h => absurd h (by decide))
          refine z_iconst X (v := (-1)) d_A_process_47 (by decide) ?_
          exact z_iret X (Or.inl ⟨fun q => p16 q.2.2.2.1, rfl, rfl⟩) d_A_process_48
      · refine z_if_eq X 47 d_A_process_26 (by decide) (fun _ => ?_) (fun h => absurd h (by decide))
        refine z_iconst X (v := (-1)) d_A_process_47 (by decide) ?_
        exact z_iret X (Or.inl ⟨fun q => p12 q.2.2.1, rfl, rfl⟩) d_A_process_48
    · refine z_if_ne X 19 d_A_process_14 (by decide) (fun h => absurd h (by decide)) (fun _ => ?_)
      refine z_iconst X (v := (-1)) d_A_process_17 (by decide) ?_
      exact z_iret X (Or.inl ⟨fun q => p8 q.2.1, rfl, rfl⟩) d_A_process_18
  · refine z_if_eq X 17 d_A_process_4 (by decide) (fun _ => ?_) (fun h => absurd h (by decide))
    refine z_iconst X (v := (-1)) d_A_process_17 (by decide) ?_
    exact z_iret X (Or.inl ⟨fun q => p4 q.1, rfl, rfl⟩) d_A_process_18

set_option maxHeartbeats 4000000 in
set_option maxRecDepth 100000 in
theorem c_A_order (l : Launch) (D : va_G) (cA : Nat → ClassId) (ad : Nat → Nat) (M : zM) (n w : Nat) (hI : kInv n w M) (a b d : Int32) : Ci l D cA ad y_A_order b_A_order 5 (some (.int)) (zr 2 43) [zR 0, zI a, zI b, zI d] M (fun r M' => (¬ kOkO a b d M ∧ M' = M ∧ r = (-1)) ∨ (kOkO a b d M ∧ kPs M a.toNatClampNeg = 8 ∧ M' = M ∧ r = (-2)) ∨ (kOkO a b d M ∧ kPs M a.toNatClampNeg < 8 ∧ M' = kGadd a.toNatClampNeg (kPs M a.toNatClampNeg) b d M ∧ r = nI (kPs M a.toNatClampNeg + 1))) := by
  refine zMi_of (plainFor_of_name (by decide)) (Nat.le_of_ble_eq_true rfl) ?_
  intro p e s m args below meth c A X
  refine z_aload_n X 0 d_A_order_0 rfl rfl ?_
  refine z_iload_n X 1 d_A_order_1 rfl rfl ?_
  refine z_Vi X GG_ok cf_A_70 0 [zI a] [] (c_A_isProcess l D cA ad _ _) ⟨rfl, rfl⟩ (by decide) e_A rfl rfl rfl rfl (Nat.le_of_ble_eq_true rfl) ⟨Nat.zero_le _, Nat.zero_le _⟩ d_A_order_2 (fun r1 M2 h3 => ?_)
  have qh3 := h3.1.symm
  subst qh3
  obtain ⟨-, ⟨rfl, p4⟩ | ⟨rfl, p4⟩⟩ := h3
  · refine z_if_eq X 23 d_A_order_5 (by decide) (fun h => absurd h (by decide)) (fun _ => ?_)
    refine z_iload_n X 2 d_A_order_8 rfl rfl ?_
    refine z_iload_n X 3 d_A_order_9 rfl rfl ?_
    refine z_Si X GG_ok cf_A_73 [zI b, zI d] [] (c_A_isOrder l D cA ad _ _ _) ⟨rfl, rfl⟩ (by decide) rfl rfl (Nat.le_of_ble_eq_true rfl) ⟨Nat.zero_le _, Nat.zero_le _⟩ d_A_order_10 (fun r5 M6 h7 => ?_)
    have qh7 := h7.1.symm
    subst qh7
    obtain ⟨-, ⟨rfl, p8⟩ | ⟨rfl, p8⟩⟩ := h7
    · refine z_if_eq X 23 d_A_order_13 (by decide) (fun h => absurd h (by decide)) (fun _ => ?_)
      refine z_aload_n X 0 d_A_order_16 rfl rfl ?_
      refine z_Vi X GG_ok cf_A_51 0 [] [] (c_A_allOff l D cA ad _) ⟨rfl, rfl⟩ (by decide) e_A rfl rfl rfl rfl (Nat.le_of_ble_eq_true rfl) ⟨Nat.zero_le _, Nat.zero_le _⟩ d_A_order_17 (fun r9 M10 h11 => ?_)
      have qh11 := h11.1.symm
      subst qh11
      obtain ⟨-, ⟨rfl, p12⟩ | ⟨rfl, p12⟩⟩ := h11
      · refine z_if_ne X 25 d_A_order_20 (by decide) (fun _ => ?_) (fun h => absurd h (by decide))
        have ha := kA_ok hI p4
        have ha8 : a.toNatClampNeg < 8 := Nat.lt_of_lt_of_le ha.2 (kInv_n hI)
        refine z_aload_n X 0 d_A_order_25 rfl rfl ?_
        refine z_get X fl_A_25 0 e_A rfl rfl d_A_order_26 ?_
        refine z_iload_n X 1 d_A_order_29 rfl rfl ?_
        refine z_aald X 8 e_TA rfl a.toNatClampNeg ha.1 ha8 (by decide) (g_TA ha8) d_A_order_30 ?_
        refine z_get X fl_A_77 (9 + 4 * a.toNatClampNeg) (e_K ha8) rfl rfl d_A_order_31 ?_
        refine z_astore X (L' := [(4, zR (10 + 4 * a.toNatClampNeg)), (0, zR 0), (1, zI a), (2, zI b), (3, zI d)]) d_A_order_34 (by decide) rfl ?_
        refine z_aload X 0 d_A_order_36 rfl ?_
        refine z_get X fl_A_81 (10 + 4 * a.toNatClampNeg) (e_G ha8) rfl rfl d_A_order_38 ?_
        refine z_bipush X (v := 8) d_A_order_41 (by decide) ?_
        refine z_icmp_ne X 49 d_A_order_43 (by decide) (fun c_43 => ?_) (fun c_43 => ?_)
        · have hz8 : kPs M a.toNatClampNeg < 8 := nI_n8 (kPs_le hI ha8) (kPs_eq hI ha8 ▸ c_43)
          refine z_aload X 0 d_A_order_49 rfl ?_
          refine z_iload_n X 3 d_A_order_51 rfl rfl ?_
          refine z_iload_n X 4 d_A_order_52 rfl rfl ?_
          refine z_Vv X GG_ok cf_A_84 (10 + 4 * a.toNatClampNeg) [zI b, zI d] [] (c_G_add l D cA ad _ a.toNatClampNeg ha8 (kPs M a.toNatClampNeg) hz8 (kPs_eq hI ha8) _ _) ⟨rfl, rfl⟩ (by decide) (e_G ha8) rfl rfl rfl rfl (Nat.le_of_ble_eq_true rfl) ⟨Nat.zero_le _, Nat.zero_le _⟩ d_A_order_53 (fun M14 h15 => ?_)
          have qh15 := h15.symm
          subst qh15
          refine z_aload X 0 d_A_order_56 rfl ?_
          refine z_get X fl_A_81 (10 + 4 * a.toNatClampNeg) (e_G ha8) rfl rfl d_A_order_58 ?_
          exact z_iret X (Or.inr (Or.inr ⟨⟨p4, p8, p12⟩, hz8, rfl, z_si_same _ _ _ _⟩)) d_A_order_61
        · refine z_bipush X (v := (-2)) d_A_order_46 (by decide) ?_
          exact z_iret X (Or.inr (Or.inl ⟨⟨p4, p8, p12⟩, nI_8 (kPs_le hI ha8) (kPs_eq hI ha8 ▸ c_43), rfl, rfl⟩)) d_A_order_48
      · refine z_if_ne X 25 d_A_order_20 (by decide) (fun h => absurd h (by decide)) (fun _ => ?_)
        refine z_iconst X (v := (-1)) d_A_order_23 (by decide) ?_
        exact z_iret X (Or.inl ⟨fun q => p12 q.2.2, rfl, rfl⟩) d_A_order_24
    · refine z_if_eq X 23 d_A_order_13 (by decide) (fun _ => ?_) (fun h => absurd h (by decide))
      refine z_iconst X (v := (-1)) d_A_order_23 (by decide) ?_
      exact z_iret X (Or.inl ⟨fun q => p8 q.2.1, rfl, rfl⟩) d_A_order_24
  · refine z_if_eq X 23 d_A_order_5 (by decide) (fun _ => ?_) (fun h => absurd h (by decide))
    refine z_iconst X (v := (-1)) d_A_order_23 (by decide) ?_
    exact z_iret X (Or.inl ⟨fun q => p4 q.1, rfl, rfl⟩) d_A_order_24

set_option maxHeartbeats 4000000 in
set_option maxRecDepth 100000 in
theorem c_A_action (l : Launch) (D : va_G) (cA : Nat → ClassId) (ad : Nat → Nat) (M : zM) (a b : Int32) : Ci l D cA ad y_A_action b_A_action 3 (some (.int)) (zr 2 42) [zR 0, zI a, zI b] M (fun r M' => (¬ ((0 ≤ a ∧ a ≤ 2) ∧ (0 ≤ b ∧ b ≤ 2)) ∧ M' = M ∧ r = (-1)) ∨ (((0 ≤ a ∧ a ≤ 2) ∧ (0 ≤ b ∧ b ≤ 2)) ∧ M' = z_si M (5 + a.toNatClampNeg) 1 b ∧ r = 0)) := by
  refine zMi_of (plainFor_of_name (by decide)) (Nat.le_of_ble_eq_true rfl) ?_
  intro p e s m args below meth c A X
  refine z_iload_n X 1 d_A_action_0 rfl rfl ?_
  refine z_Si X GG_ok cf_A_43 [zI a] [] (c_A_isPartition l D cA ad _ _) ⟨rfl, rfl⟩ (by decide) rfl rfl (Nat.le_of_ble_eq_true rfl) ⟨Nat.zero_le _, Nat.zero_le _⟩ d_A_action_1 (fun r1 M2 h3 => ?_)
  have qh3 := h3.1.symm
  subst qh3
  obtain ⟨-, ⟨rfl, p4⟩ | ⟨rfl, p4⟩⟩ := h3
  · refine z_if_eq X 16 d_A_action_4 (by decide) (fun h => absurd h (by decide)) (fun _ => ?_)
    refine z_iload_n X 2 d_A_action_7 rfl rfl ?_
    refine z_iconst X (v := 0) d_A_action_8 (by decide) ?_
    refine z_iconst X (v := 2) d_A_action_9 (by decide) ?_
    refine z_Si X GG_ok cf_A_47 [zI b, zI 0, zI 2] [] (c_A_within l D cA ad _ _ _ _) ⟨rfl, rfl⟩ (by decide) rfl rfl (Nat.le_of_ble_eq_true rfl) ⟨Nat.zero_le _, Nat.zero_le _⟩ d_A_action_10 (fun r5 M6 h7 => ?_)
    have qh7 := h7.1.symm
    subst qh7
    obtain ⟨-, ⟨rfl, p8⟩ | ⟨rfl, p8⟩⟩ := h7
    · refine z_if_ne X 18 d_A_action_13 (by decide) (fun _ => ?_) (fun h => absurd h (by decide))
      have ha := kC_ok p4
      refine z_aload_n X 0 d_A_action_18 rfl rfl ?_
      refine z_get X fl_A_18 0 e_A rfl rfl d_A_action_19 ?_
      refine z_iload_n X 1 d_A_action_22 rfl rfl ?_
      refine z_aald X 4 e_PA rfl a.toNatClampNeg ha.1 ha.2 (by decide) (g_PA ha.2) d_A_action_23 ?_
      refine z_iload_n X 2 d_A_action_24 rfl rfl ?_
      refine z_puti X fl_A_85 (5 + a.toNatClampNeg) (e_P ha.2) rfl rfl rfl d_A_action_25 ?_
      refine z_iconst X (v := 0) d_A_action_28 (by decide) ?_
      exact z_iret X (Or.inr ⟨⟨p4, p8⟩, rfl, rfl⟩) d_A_action_29
    · refine z_if_ne X 18 d_A_action_13 (by decide) (fun h => absurd h (by decide)) (fun _ => ?_)
      refine z_iconst X (v := (-1)) d_A_action_16 (by decide) ?_
      exact z_iret X (Or.inl ⟨fun q => p8 q.2, rfl, rfl⟩) d_A_action_17
  · refine z_if_eq X 16 d_A_action_4 (by decide) (fun _ => ?_) (fun h => absurd h (by decide))
    refine z_iconst X (v := (-1)) d_A_action_16 (by decide) ?_
    exact z_iret X (Or.inl ⟨fun q => p4 q.1, rfl, rfl⟩) d_A_action_17

set_option maxHeartbeats 4000000 in
set_option maxRecDepth 100000 in
theorem c_A_partition (l : Launch) (D : va_G) (cA : Nat → ClassId) (ad : Nat → Nat) (M : zM) (a : Int32) : Ci l D cA ad y_A_partition b_A_partition 2 (some (.int)) (zr 2 42) [zR 0, zI a] M (fun r M' => M' = M ∧ ((¬ (0 ≤ a ∧ a ≤ 2) ∧ r = (-1)) ∨ ((0 ≤ a ∧ a ≤ 2) ∧ r = M.1 (5 + a.toNatClampNeg) 0))) := by
  refine zMi_of (plainFor_of_name (by decide)) (Nat.le_of_ble_eq_true rfl) ?_
  intro p e s m args below meth c A X
  refine z_iload_n X 1 d_A_partition_0 rfl rfl ?_
  refine z_Si X GG_ok cf_A_43 [zI a] [] (c_A_isPartition l D cA ad _ _) ⟨rfl, rfl⟩ (by decide) rfl rfl (Nat.le_of_ble_eq_true rfl) ⟨Nat.zero_le _, Nat.zero_le _⟩ d_A_partition_1 (fun r1 M2 h3 => ?_)
  have qh3 := h3.1.symm
  subst qh3
  obtain ⟨-, ⟨rfl, p4⟩ | ⟨rfl, p4⟩⟩ := h3
  · refine z_if_eq X 19 d_A_partition_4 (by decide) (fun h => absurd h (by decide)) (fun _ => ?_)
    have ha := kC_ok p4
    refine z_aload_n X 0 d_A_partition_7 rfl rfl ?_
    refine z_get X fl_A_18 0 e_A rfl rfl d_A_partition_8 ?_
    refine z_iload_n X 1 d_A_partition_11 rfl rfl ?_
    refine z_aald X 4 e_PA rfl a.toNatClampNeg ha.1 ha.2 (by decide) (g_PA ha.2) d_A_partition_12 ?_
    refine z_get X fl_A_91 (5 + a.toNatClampNeg) (e_P ha.2) rfl rfl d_A_partition_13 ?_
    refine z_goto X 20 d_A_partition_16 (by decide) ?_
    exact z_iret X (⟨rfl, Or.inr ⟨p4, rfl⟩⟩) d_A_partition_20
  · refine z_if_eq X 19 d_A_partition_4 (by decide) (fun _ => ?_) (fun h => absurd h (by decide))
    refine z_iconst X (v := (-1)) d_A_partition_19 (by decide) ?_
    exact z_iret X (⟨rfl, Or.inl ⟨p4, rfl⟩⟩) d_A_partition_20

set_option maxHeartbeats 4000000 in
set_option maxRecDepth 100000 in
theorem c_A_state (l : Launch) (D : va_G) (cA : Nat → ClassId) (ad : Nat → Nat) (M : zM) (n w : Nat) (hI : kInv n w M) (a x : Int32) : Ci l D cA ad y_A_state b_A_state 3 (some (.int)) (zr 2 43) [zR 0, zI a, zI x] M (fun r M' => M' = M ∧ ((¬ (0 ≤ a ∧ a ≤ M.1 0 5 - 1) ∧ r = (-1)) ∨ ((0 ≤ a ∧ a ≤ M.1 0 5 - 1) ∧ r = kTell M a.toNatClampNeg x))) := by
  refine zMi_of (plainFor_of_name (by decide)) (Nat.le_of_ble_eq_true rfl) ?_
  intro p e s m args below meth c A X
  refine z_aload_n X 0 d_A_state_0 rfl rfl ?_
  refine z_iload_n X 1 d_A_state_1 rfl rfl ?_
  refine z_Vi X GG_ok cf_A_70 0 [zI a] [] (c_A_isProcess l D cA ad _ _) ⟨rfl, rfl⟩ (by decide) e_A rfl rfl rfl rfl (Nat.le_of_ble_eq_true rfl) ⟨Nat.zero_le _, Nat.zero_le _⟩ d_A_state_2 (fun r1 M2 h3 => ?_)
  have qh3 := h3.1.symm
  subst qh3
  obtain ⟨-, ⟨rfl, p4⟩ | ⟨rfl, p4⟩⟩ := h3
  · refine z_if_eq X 21 d_A_state_5 (by decide) (fun h => absurd h (by decide)) (fun _ => ?_)
    have ha := kA_ok hI p4
    have ha8 : a.toNatClampNeg < 8 := Nat.lt_of_lt_of_le ha.2 (kInv_n hI)
    refine z_aload_n X 0 d_A_state_8 rfl rfl ?_
    refine z_get X fl_A_25 0 e_A rfl rfl d_A_state_9 ?_
    refine z_iload_n X 1 d_A_state_12 rfl rfl ?_
    refine z_aald X 8 e_TA rfl a.toNatClampNeg ha.1 ha8 (by decide) (g_TA ha8) d_A_state_13 ?_
    refine z_iload_n X 2 d_A_state_14 rfl rfl ?_
    refine z_Vi X GG_ok cf_A_123 (9 + 4 * a.toNatClampNeg) [zI x] [] (c_K_tell l D cA ad _ a.toNatClampNeg ha8 _) ⟨rfl, rfl⟩ (by decide) (e_K ha8) rfl rfl rfl rfl (Nat.le_of_ble_eq_true rfl) ⟨Nat.zero_le _, Nat.zero_le _⟩ d_A_state_15 (fun r5 M6 h7 => ?_)
    have qh7 := h7.1.symm
    subst qh7
    obtain ⟨-, rfl⟩ := h7
    refine z_goto X 22 d_A_state_18 (by decide) ?_
    exact z_iret X (⟨rfl, Or.inr ⟨p4, rfl⟩⟩) d_A_state_22
  · refine z_if_eq X 21 d_A_state_5 (by decide) (fun _ => ?_) (fun h => absurd h (by decide))
    refine z_iconst X (v := (-1)) d_A_state_21 (by decide) ?_
    exact z_iret X (⟨rfl, Or.inl ⟨p4, rfl⟩⟩) d_A_state_22

set_option maxHeartbeats 4000000 in
set_option maxRecDepth 100000 in
theorem c_A_port (l : Launch) (D : va_G) (cA : Nat → ClassId) (ad : Nat → Nat) (M : zM) (a : Int32) : Ci l D cA ad y_A_port b_A_port 2 (some (.int)) (zr 1 22) [zR 0, zI a] M (fun r M' => M' = M ∧ ((¬ (0 ≤ a ∧ a ≤ 3) ∧ r = (-1)) ∨ ((0 ≤ a ∧ a ≤ 3) ∧ r = M.1 (42 + 2 * a.toNatClampNeg) 1))) := by
  refine zMi_of (plainFor_of_name (by decide)) (Nat.le_of_ble_eq_true rfl) ?_
  intro p e s m args below meth c A X
  refine z_iload_n X 1 d_A_port_0 rfl rfl ?_
  refine z_iconst X (v := 0) d_A_port_1 (by decide) ?_
  refine z_iconst X (v := 3) d_A_port_2 (by decide) ?_
  refine z_Si X GG_ok cf_A_47 [zI a, zI 0, zI 3] [] (c_A_within l D cA ad _ _ _ _) ⟨rfl, rfl⟩ (by decide) rfl rfl (Nat.le_of_ble_eq_true rfl) ⟨Nat.zero_le _, Nat.zero_le _⟩ d_A_port_3 (fun r1 M2 h3 => ?_)
  have qh3 := h3.1.symm
  subst qh3
  obtain ⟨-, ⟨rfl, p4⟩ | ⟨rfl, p4⟩⟩ := h3
  · refine z_if_eq X 21 d_A_port_6 (by decide) (fun h => absurd h (by decide)) (fun _ => ?_)
    have ha := kQ_ok p4
    refine z_aload_n X 0 d_A_port_9 rfl rfl ?_
    refine z_get X fl_A_34 0 e_A rfl rfl d_A_port_10 ?_
    refine z_iload_n X 1 d_A_port_13 rfl rfl ?_
    refine z_aald X 41 e_OA rfl a.toNatClampNeg ha.1 ha.2 (by decide) (g_OA ha.2) d_A_port_14 ?_
    refine z_get X fl_A_127 (42 + 2 * a.toNatClampNeg) (e_O ha.2) rfl rfl d_A_port_15 ?_
    refine z_goto X 22 d_A_port_18 (by decide) ?_
    exact z_iret X (⟨rfl, Or.inr ⟨p4, rfl⟩⟩) d_A_port_22
  · refine z_if_eq X 21 d_A_port_6 (by decide) (fun _ => ?_) (fun h => absurd h (by decide))
    refine z_iconst X (v := (-1)) d_A_port_21 (by decide) ?_
    exact z_iret X (⟨rfl, Or.inl ⟨p4, rfl⟩⟩) d_A_port_22

set_option maxHeartbeats 4000000 in
set_option maxRecDepth 100000 in
theorem c_A_semaphore (l : Launch) (D : va_G) (cA : Nat → ClassId) (ad : Nat → Nat) (M : zM) (a : Int32) : Ci l D cA ad y_A_semaphore b_A_semaphore 2 (some (.int)) (zr 1 22) [zR 0, zI a] M (fun r M' => M' = M ∧ ((¬ (0 ≤ a ∧ a ≤ 3) ∧ r = (-1)) ∨ ((0 ≤ a ∧ a ≤ 3) ∧ r = M.1 50 a.toNatClampNeg))) := by
  refine zMi_of (plainFor_of_name (by decide)) (Nat.le_of_ble_eq_true rfl) ?_
  intro p e s m args below meth c A X
  refine z_iload_n X 1 d_A_semaphore_0 rfl rfl ?_
  refine z_iconst X (v := 0) d_A_semaphore_1 (by decide) ?_
  refine z_iconst X (v := 3) d_A_semaphore_2 (by decide) ?_
  refine z_Si X GG_ok cf_A_47 [zI a, zI 0, zI 3] [] (c_A_within l D cA ad _ _ _ _) ⟨rfl, rfl⟩ (by decide) rfl rfl (Nat.le_of_ble_eq_true rfl) ⟨Nat.zero_le _, Nat.zero_le _⟩ d_A_semaphore_3 (fun r1 M2 h3 => ?_)
  have qh3 := h3.1.symm
  subst qh3
  obtain ⟨-, ⟨rfl, p4⟩ | ⟨rfl, p4⟩⟩ := h3
  · refine z_if_eq X 18 d_A_semaphore_6 (by decide) (fun h => absurd h (by decide)) (fun _ => ?_)
    have ha := kQ_ok p4
    refine z_aload_n X 0 d_A_semaphore_9 rfl rfl ?_
    refine z_get X fl_A_39 0 e_A rfl rfl d_A_semaphore_10 ?_
    refine z_iload_n X 1 d_A_semaphore_13 rfl rfl ?_
    refine z_iald X 50 e_Se rfl a.toNatClampNeg ha.1 ha.2 (by decide) d_A_semaphore_14 ?_
    refine z_goto X 19 d_A_semaphore_15 (by decide) ?_
    exact z_iret X (⟨rfl, Or.inr ⟨p4, rfl⟩⟩) d_A_semaphore_19
  · refine z_if_eq X 18 d_A_semaphore_6 (by decide) (fun _ => ?_) (fun h => absurd h (by decide))
    refine z_iconst X (v := (-1)) d_A_semaphore_18 (by decide) ?_
    exact z_iret X (⟨rfl, Or.inl ⟨p4, rfl⟩⟩) d_A_semaphore_19

set_option maxHeartbeats 4000000 in
set_option maxRecDepth 100000 in
theorem c_A_start (l : Launch) (D : va_G) (cA : Nat → ClassId) (ad : Nat → Nat) (M : zM) (n w : Nat) (hI : kInv n w M) (a : Int32) : Ci l D cA ad y_A_start b_A_start 3 (some (.int)) (zr 3 67) [zR 0, zI a] M (fun r M' => (¬ kOkS n a M ∧ M' = M ∧ r = (-1)) ∨ (kOkS n a M ∧ M' = kRel a.toNatClampNeg (M.1 0 6) (M.2 0 9 + 1) (kTurn M) ∧ r = 0)) := by
  refine zMi_of (plainFor_of_name (by decide)) (Nat.le_of_ble_eq_true rfl) ?_
  intro p e s m args below meth c A X
  refine z_aload_n X 0 d_A_start_0 rfl rfl ?_
  refine z_iload_n X 1 d_A_start_1 rfl rfl ?_
  refine z_Vi X GG_ok cf_A_70 0 [zI a] [] (c_A_isProcess l D cA ad _ _) ⟨rfl, rfl⟩ (by decide) e_A rfl rfl rfl rfl (Nat.le_of_ble_eq_true rfl) ⟨Nat.zero_le _, Nat.zero_le _⟩ d_A_start_2 (fun r1 M2 h3 => ?_)
  have qh3 := h3.1.symm
  subst qh3
  obtain ⟨-, ⟨rfl, p4⟩ | ⟨rfl, p4⟩⟩ := h3
  · refine z_if_ne X 10 d_A_start_5 (by decide) (fun _ => ?_) (fun h => absurd h (by decide))
    have ha := kA_ok hI p4
    have ha8 : a.toNatClampNeg < 8 := Nat.lt_of_lt_of_le ha.2 (kInv_n hI)
    refine z_aload_n X 0 d_A_start_10 rfl rfl ?_
    refine z_get X fl_A_25 0 e_A rfl rfl d_A_start_11 ?_
    refine z_iload_n X 1 d_A_start_14 rfl rfl ?_
    refine z_aald X 8 e_TA rfl a.toNatClampNeg ha.1 ha8 (by decide) (g_TA ha8) d_A_start_15 ?_
    refine z_astore_n X (L' := [(2, zR (9 + 4 * a.toNatClampNeg)), (0, zR 0), (1, zI a)]) d_A_start_16 rfl (by decide) rfl ?_
    refine z_aload_n X 0 d_A_start_17 rfl rfl ?_
    refine z_get X fl_A_100 (9 + 4 * a.toNatClampNeg) (e_K ha8) rfl rfl d_A_start_18 ?_
    refine z_if_gt X 42 d_A_start_21 (by decide) (fun c_21 => ?_) (fun c_21 => ?_)
    · refine z_iconst X (v := (-1)) d_A_start_42 (by decide) ?_
      exact z_iret X (Or.inl ⟨fun q => q.2.1 c_21, rfl, rfl⟩) d_A_start_43
    · refine z_aload_n X 0 d_A_start_24 rfl rfl ?_
      refine z_get X fl_A_109 (9 + 4 * a.toNatClampNeg) (e_K ha8) rfl rfl d_A_start_25 ?_
      refine z_if_ne X 42 d_A_start_28 (by decide) (fun c_28 => ?_) (fun c_28 => ?_)
      · refine z_iconst X (v := (-1)) d_A_start_42 (by decide) ?_
        exact z_iret X (Or.inl ⟨fun q => c_28 q.2.2.1, rfl, rfl⟩) d_A_start_43
      · refine z_aload_n X 1 d_A_start_31 rfl rfl ?_
        refine z_aload_n X 0 d_A_start_32 rfl rfl ?_
        refine z_get X fl_A_97 (9 + 4 * a.toNatClampNeg) (e_K ha8) rfl rfl d_A_start_33 ?_
        refine z_Vi X GG_ok cf_A_88 0 [zI (M.1 (9 + 4 * a.toNatClampNeg) 2)] [] (c_A_isOn l D cA ad _ _ (kPt M a.toNatClampNeg) (kPt_lt hI ha8) (kPt_eq hI ha8)) ⟨rfl, rfl⟩ (by decide) e_A rfl rfl rfl rfl (Nat.le_of_ble_eq_true rfl) ⟨Nat.zero_le _, Nat.zero_le _⟩ d_A_start_36 (fun r5 M6 h7 => ?_)
        have qh7 := h7.1.symm
        subst qh7
        obtain ⟨-, ⟨rfl, p8⟩ | ⟨rfl, p8⟩⟩ := h7
        · refine z_if_ne X 44 d_A_start_39 (by decide) (fun _ => ?_) (fun h => absurd h (by decide))
          refine z_aload_n X 0 d_A_start_44 rfl rfl ?_
          refine z_aload_n X 1 d_A_start_45 rfl rfl ?_
          refine z_get X fl_A_103 0 e_A rfl rfl d_A_start_46 ?_
          refine z_aload_n X 1 d_A_start_49 rfl rfl ?_
          refine z_Vj X GG_ok cf_A_112 0 [] [zI (M.1 0 6), zR (9 + 4 * a.toNatClampNeg)] (c_A_newTurn l D cA ad _) ⟨rfl, rfl⟩ (by decide) e_A rfl rfl rfl rfl (Nat.le_of_ble_eq_true rfl) ⟨Nat.zero_le _, Nat.zero_le _⟩ d_A_start_50 (fun r9 M10 h11 => ?_)
          have qh11 := h11.1.symm
          subst qh11
          obtain ⟨-, rfl⟩ := h11
          refine z_Vv X GG_ok cf_A_116 (9 + 4 * a.toNatClampNeg) [zI (M.1 0 6), zJ (M.2 0 9 + 1)] [] (c_K_release l D cA ad _ a.toNatClampNeg ha8 _ _) ⟨rfl, rfl⟩ (by decide) (e_K ha8) rfl rfl rfl rfl (Nat.le_of_ble_eq_true rfl) ⟨Nat.zero_le _, Nat.zero_le _⟩ d_A_start_53 (fun M13 h14 => ?_)
          have qh14 := h14.symm
          subst qh14
          refine z_iconst X (v := 0) d_A_start_56 (by decide) ?_
          exact z_iret X (Or.inr ⟨⟨p4, c_21, c_28, p8⟩, rfl, rfl⟩) d_A_start_57
        · refine z_if_ne X 44 d_A_start_39 (by decide) (fun h => absurd h (by decide)) (fun _ => ?_)
          refine z_iconst X (v := (-1)) d_A_start_42 (by decide) ?_
          exact z_iret X (Or.inl ⟨fun q => p8 q.2.2.2, rfl, rfl⟩) d_A_start_43
  · refine z_if_ne X 10 d_A_start_5 (by decide) (fun h => absurd h (by decide)) (fun _ => ?_)
    refine z_iconst X (v := (-1)) d_A_start_8 (by decide) ?_
    exact z_iret X (Or.inl ⟨fun q => p4 q.1, rfl, rfl⟩) d_A_start_9

set_option maxHeartbeats 4000000 in
set_option maxRecDepth 100000 in
theorem c_A_count (l : Launch) (D : va_G) (cA : Nat → ClassId) (ad : Nat → Nat) (M : zM) (n w : Nat) (hI : kInv n w M) (x : Int32) : Ci l D cA ad y_A_count b_A_count 2 (some (.int)) (zr 3 64) [zR 0, zI x] M (fun r M' => M' = M ∧ r = kCount n w x M) := by
  refine zMi_of (plainFor_of_name (by decide)) (Nat.le_of_ble_eq_true rfl) ?_
  intro p e s m args below meth c A X
  refine z_iload_n X 1 d_A_count_0 rfl rfl ?_
  by_cases s1_0 : x = 0
  · refine z_tabIn X 44 d_A_count_1 (by rw [s1_0]; decide) (by rw [s1_0]; decide) (by rw [s1_0]; rfl) (by decide) ?_
    refine z_aload_n X 0 d_A_count_44 rfl rfl ?_
    refine z_get X fl_A_103 0 e_A rfl rfl d_A_count_45 ?_
    exact z_iret X (⟨rfl, by rw [kCount, if_pos s1_0]⟩) d_A_count_48
  by_cases s1_1 : x = 1
  · refine z_tabIn X 49 d_A_count_1 (by rw [s1_1]; decide) (by rw [s1_1]; decide) (by rw [s1_1]; rfl) (by decide) ?_
    refine z_aload_n X 0 d_A_count_49 rfl rfl ?_
    refine z_get X fl_A_10 0 e_A rfl rfl d_A_count_50 ?_
    refine z_get X fl_A_55 1 e_Wr rfl rfl d_A_count_53 ?_
    refine z_if_ne X 63 d_A_count_56 (by decide) (fun c_56 => ?_) (fun c_56 => ?_)
    · refine z_aload_n X 0 d_A_count_63 rfl rfl ?_
      refine z_get X fl_A_10 0 e_A rfl rfl d_A_count_64 ?_
      refine z_aload_n X 0 d_A_count_67 rfl rfl ?_
      refine z_get X fl_A_103 0 e_A rfl rfl d_A_count_68 ?_
      refine z_Vi X GG_ok cf_A_128 1 [zI (M.1 0 6)] [] (c_Wr_partitionAt l D cA ad _ w hI.1.2.1 hI.1.2.2.2.1 hI.1.2.2.2.2.1 _) ⟨rfl, rfl⟩ (by decide) e_Wr rfl rfl rfl rfl (Nat.le_of_ble_eq_true rfl) ⟨Nat.zero_le _, Nat.zero_le _⟩ d_A_count_71 (fun r2 M3 h4 => ?_)
      have qh4 := h4.1.symm
      subst qh4
      obtain ⟨-, rfl⟩ := h4
      exact z_iret X (⟨rfl, by rw [kCount, if_neg s1_0, if_pos s1_1]⟩) d_A_count_74
    · refine z_iconst X (v := (-1)) d_A_count_59 (by decide) ?_
      refine z_goto X 74 d_A_count_60 (by decide) ?_
      exact z_iret X (⟨rfl, by rw [kCount, if_neg s1_0, if_pos s1_1, kPartAt, if_pos (nI_z (Nat.lt_of_le_of_lt hI.1.2.1 (by decide)) (hI.1.2.2.2.1 ▸ c_56))]⟩) d_A_count_74
  by_cases s1_2 : x = 2
  · refine z_tabIn X 75 d_A_count_1 (by rw [s1_2]; decide) (by rw [s1_2]; decide) (by rw [s1_2]; rfl) (by decide) ?_
    refine z_aload_n X 0 d_A_count_75 rfl rfl ?_
    refine z_get X fl_A_10 0 e_A rfl rfl d_A_count_76 ?_
    refine z_get X fl_A_55 1 e_Wr rfl rfl d_A_count_79 ?_
    refine z_if_ne X 89 d_A_count_82 (by decide) (fun c_82 => ?_) (fun c_82 => ?_)
    · refine z_aload_n X 0 d_A_count_89 rfl rfl ?_
      refine z_get X fl_A_10 0 e_A rfl rfl d_A_count_90 ?_
      refine z_aload_n X 0 d_A_count_93 rfl rfl ?_
      refine z_get X fl_A_103 0 e_A rfl rfl d_A_count_94 ?_
      refine z_Vi X GG_ok cf_A_131 1 [zI (M.1 0 6)] [] (c_Wr_leftAt l D cA ad _ w hI.1.2.1 hI.1.2.2.2.1 hI.1.2.2.2.2.1 _) ⟨rfl, rfl⟩ (by decide) e_Wr rfl rfl rfl rfl (Nat.le_of_ble_eq_true rfl) ⟨Nat.zero_le _, Nat.zero_le _⟩ d_A_count_97 (fun r5 M6 h7 => ?_)
      have qh7 := h7.1.symm
      subst qh7
      obtain ⟨-, rfl⟩ := h7
      exact z_iret X (⟨rfl, by rw [kCount, if_neg s1_0, if_neg s1_1, if_pos s1_2, if_neg (fun q => c_82 (by rw [hI.1.2.2.2.1, q]; rfl))]⟩) d_A_count_100
    · refine z_iconst X (v := (-1)) d_A_count_85 (by decide) ?_
      refine z_goto X 100 d_A_count_86 (by decide) ?_
      exact z_iret X (⟨rfl, by rw [kCount, if_neg s1_0, if_neg s1_1, if_pos s1_2, if_pos (nI_z (Nat.lt_of_le_of_lt hI.1.2.1 (by decide)) (hI.1.2.2.2.1 ▸ c_82))]⟩) d_A_count_100
  by_cases s1_3 : x = 3
  · refine z_tabIn X 101 d_A_count_1 (by rw [s1_3]; decide) (by rw [s1_3]; decide) (by rw [s1_3]; rfl) (by decide) ?_
    refine z_aload_n X 0 d_A_count_101 rfl rfl ?_
    refine z_get X fl_A_134 0 e_A rfl rfl d_A_count_102 ?_
    exact z_iret X (⟨rfl, by rw [kCount, if_neg s1_0, if_neg s1_1, if_neg s1_2, if_pos s1_3]⟩) d_A_count_105
  by_cases s1_4 : x = 4
  · refine z_tabIn X 106 d_A_count_1 (by rw [s1_4]; decide) (by rw [s1_4]; decide) (by rw [s1_4]; rfl) (by decide) ?_
    refine z_aload_n X 0 d_A_count_106 rfl rfl ?_
    refine z_get X fl_A_137 0 e_A rfl rfl d_A_count_107 ?_
    exact z_iret X (⟨rfl, by rw [kCount, if_neg s1_0, if_neg s1_1, if_neg s1_2, if_neg s1_3, if_pos s1_4]⟩) d_A_count_110
  by_cases s1_5 : x = 5
  · refine z_tabIn X 111 d_A_count_1 (by rw [s1_5]; decide) (by rw [s1_5]; decide) (by rw [s1_5]; rfl) (by decide) ?_
    refine z_aload_n X 0 d_A_count_111 rfl rfl ?_
    refine z_get X fl_A_63 0 e_A rfl rfl d_A_count_112 ?_
    exact z_iret X (⟨rfl, by rw [kCount, if_neg s1_0, if_neg s1_1, if_neg s1_2, if_neg s1_3, if_neg s1_4, if_pos s1_5]; exact kInv_cnt hI⟩) d_A_count_115
  by_cases s1_6 : x = 6
  · refine z_tabIn X 116 d_A_count_1 (by rw [s1_6]; decide) (by rw [s1_6]; decide) (by rw [s1_6]; rfl) (by decide) ?_
    refine z_aload_n X 0 d_A_count_116 rfl rfl ?_
    refine z_get X fl_A_10 0 e_A rfl rfl d_A_count_117 ?_
    refine z_get X fl_A_55 1 e_Wr rfl rfl d_A_count_120 ?_
    exact z_iret X (⟨rfl, by rw [kCount, if_neg s1_0, if_neg s1_1, if_neg s1_2, if_neg s1_3, if_neg s1_4, if_neg s1_5, if_pos s1_6]; exact hI.1.2.2.2.1⟩) d_A_count_123
  refine z_tabOut X 124 d_A_count_1 (by have q0 := lv_neT s1_0 (k := 0) (a := 0) (by decide); have q1 := lv_neT s1_1 (k := 1) (a := 1) (by decide); have q2 := lv_neT s1_2 (k := 2) (a := 2) (by decide); have q3 := lv_neT s1_3 (k := 3) (a := 3) (by decide); have q4 := lv_neT s1_4 (k := 4) (a := 4) (by decide); have q5 := lv_neT s1_5 (k := 5) (a := 5) (by decide); have q6 := lv_neT s1_6 (k := 6) (a := 6) (by decide); omega) (by decide) ?_
  refine z_iconst X (v := (-1)) d_A_count_124 (by decide) ?_
  exact z_iret X (⟨rfl, by rw [kCount, if_neg s1_0, if_neg s1_1, if_neg s1_2, if_neg s1_3, if_neg s1_4, if_neg s1_5, if_neg s1_6]⟩) d_A_count_125
end
section
set_option maxHeartbeats 4000000 in
set_option maxRecDepth 100000 in
theorem c_A_on (l : Launch) (D : va_G) (cA : Nat → ClassId) (ad : Nat → Nat) (M : zM) (n w : Nat) (hI : kInv n w M) (a : Int32) : Ci l D cA ad y_A_on b_A_on 3 (some (.int)) (zr 2 42) [zR 0, zI a] M (fun r M' => (¬ ((0 ≤ a ∧ a ≤ 2) ∧ ¬ M.1 (5 + a.toNatClampNeg) 0 = 1) ∧ M' = M ∧ r = (-1)) ∨ (((0 ≤ a ∧ a ≤ 2) ∧ ¬ M.1 (5 + a.toNatClampNeg) 0 = 1) ∧ M' = kOn n a M ∧ r = 0)) := by
  refine zMi_of (plainFor_of_name (by decide)) (Nat.le_of_ble_eq_true rfl) ?_
  intro p e s m args below meth c A X
  have loop : ∀ (k i : Nat) (N : zM), i + k = n → kInv n w N → ((0 ≤ a ∧ a ≤ 2) ∧ ¬ M.1 (5 + a.toNatClampNeg) 0 = 1) → kFor (kOn2 a) k i N = kOn n a M → zW p l e (zr 2 42) s m args below meth c 0 0 (MQ below (va_Qi (fun r M' => (¬ ((0 ≤ a ∧ a ≤ 2) ∧ ¬ M.1 (5 + a.toNatClampNeg) 0 = 1) ∧ M' = M ∧ r = (-1)) ∨ (((0 ≤ a ∧ a ≤ 2) ∧ ¬ M.1 (5 + a.toNatClampNeg) 0 = 1) ∧ M' = kOn n a M ∧ r = 0)) (fun M' t => va_P D cls (z_w cA ad M' 0 EE) t.heap) A) args s 0 0 A) A D cls cA ad EE 3 N 34 [(2, zI (nI i)), (0, zR 0), (1, zI a)] [] := by
    intro k
    induction k with
    | zero =>
      intro i N hk hN ho hq
      have hn := kInv_n hN
      refine z_iload_n X 0 d_A_on_34 rfl rfl ?_
      refine z_aload_n X 1 d_A_on_35 rfl rfl ?_
      refine z_get X fl_A_63 0 e_A rfl rfl d_A_on_36 ?_
      refine z_icmp_ge X 86 d_A_on_39 (by decide) (fun c_39 => ?_) (fun c_39 => absurd (by rw [kInv_cnt hN, show i = n by omega]; exact nI_le (Nat.le_refl _) (by omega)) c_39)
      refine z_iconst X (v := 0) d_A_on_86 (by decide) ?_
      exact z_iret X (Or.inr ⟨ho, hq, rfl⟩) d_A_on_87
    | succ k ih =>
      intro i N hk hN ho hq
      have hn := kInv_n hN
      have hi : i < 8 := by omega
      refine z_iload_n X 0 d_A_on_34 rfl rfl ?_
      refine z_aload_n X 1 d_A_on_35 rfl rfl ?_
      refine z_get X fl_A_63 0 e_A rfl rfl d_A_on_36 ?_
      refine z_icmp_ge X 86 d_A_on_39 (by decide) (fun c_39 => absurd c_39 (by rw [kInv_cnt hN]; exact nI_ge (by omega) (by omega))) (fun c_39 => ?_)
      refine z_aload_n X 1 d_A_on_42 rfl rfl ?_
      refine z_get X fl_A_25 0 e_A rfl rfl d_A_on_43 ?_
      refine z_iload_n X 0 d_A_on_46 rfl rfl ?_
      refine z_aald X 8 e_TA rfl i rfl hi (by decide) (g_TA hi) d_A_on_47 ?_
      refine z_get X fl_A_97 (9 + 4 * i) (e_K hi) rfl rfl d_A_on_48 ?_
      refine z_iload_n X 2 d_A_on_51 rfl rfl ?_
      refine z_icmp_ne X 80 d_A_on_52 (by decide) (fun c_52 => ?_) (fun c_52 => ?_)
      · refine z_iinc X 0 (v := nI (i + 1)) (L' := [(2, zI (nI (i + 1))), (0, zR 0), (1, zI a)]) d_A_on_80 rfl (nI_1 i) (by decide) rfl ?_
        refine z_goto X 34 d_A_on_83 (by decide) ?_
        have hX1 : kOn2 a i N = N := by simp only [kOn2, c_52, if_true, if_false]
        exact ih (i + 1) N (by omega) (hX1 ▸ kInv_On2 a i N hi hN) ho (hX1 ▸ hq)
      · refine z_aload_n X 1 d_A_on_55 rfl rfl ?_
        refine z_get X fl_A_25 0 e_A rfl rfl d_A_on_56 ?_
        refine z_iload_n X 0 d_A_on_59 rfl rfl ?_
        refine z_aald X 8 e_TA rfl i rfl hi (by decide) (g_TA hi) d_A_on_60 ?_
        refine z_get X fl_A_100 (9 + 4 * i) (e_K hi) rfl rfl d_A_on_61 ?_
        refine z_if_le X 80 d_A_on_64 (by decide) (fun c_64 => ?_) (fun c_64 => ?_)
        · refine z_iinc X 0 (v := nI (i + 1)) (L' := [(2, zI (nI (i + 1))), (0, zR 0), (1, zI a)]) d_A_on_80 rfl (nI_1 i) (by decide) rfl ?_
          refine z_goto X 34 d_A_on_83 (by decide) ?_
          have hX2 : kOn2 a i N = N := by simp only [kOn2, c_52, c_64, if_true, if_false]
          exact ih (i + 1) N (by omega) (hX2 ▸ kInv_On2 a i N hi hN) ho (hX2 ▸ hq)
        · refine z_aload_n X 1 d_A_on_67 rfl rfl ?_
          refine z_get X fl_A_25 0 e_A rfl rfl d_A_on_68 ?_
          refine z_iload_n X 0 d_A_on_71 rfl rfl ?_
          refine z_aald X 8 e_TA rfl i rfl hi (by decide) (g_TA hi) d_A_on_72 ?_
          refine z_aload_n X 1 d_A_on_73 rfl rfl ?_
          refine z_get X fl_A_103 0 e_A rfl rfl d_A_on_74 ?_
          refine z_puti X fl_A_106 (9 + 4 * i) (e_K hi) rfl rfl rfl d_A_on_77 ?_
          refine z_iinc X 0 (v := nI (i + 1)) (L' := [(2, zI (nI (i + 1))), (0, zR 0), (1, zI a)]) d_A_on_80 rfl (nI_1 i) (by decide) rfl ?_
          refine z_goto X 34 d_A_on_83 (by decide) ?_
          have hX3 : kOn2 a i N = z_si N (9 + 4 * i) 16 (N.1 0 6) := by simp only [kOn2, c_52, c_64, if_true, if_false]
          exact ih (i + 1) (z_si N (9 + 4 * i) 16 (N.1 0 6)) (by omega) (hX3 ▸ kInv_On2 a i N hi hN) ho (hX3 ▸ hq)
  refine z_iload_n X 1 d_A_on_0 rfl rfl ?_
  refine z_Si X GG_ok cf_A_43 [zI a] [] (c_A_isPartition l D cA ad _ _) ⟨rfl, rfl⟩ (by decide) rfl rfl (Nat.le_of_ble_eq_true rfl) ⟨Nat.zero_le _, Nat.zero_le _⟩ d_A_on_1 (fun r1 M2 h3 => ?_)
  have qh3 := h3.1.symm
  subst qh3
  obtain ⟨-, ⟨rfl, p4⟩ | ⟨rfl, p4⟩⟩ := h3
  · refine z_if_eq X 15 d_A_on_4 (by decide) (fun h => absurd h (by decide)) (fun _ => ?_)
    have ha := kC_ok p4
    refine z_aload_n X 0 d_A_on_7 rfl rfl ?_
    refine z_iload_n X 1 d_A_on_8 rfl rfl ?_
    refine z_Vi X GG_ok cf_A_88 0 [zI a] [] (c_A_isOn l D cA ad _ _ a.toNatClampNeg ha.2 ha.1) ⟨rfl, rfl⟩ (by decide) e_A rfl rfl rfl rfl (Nat.le_of_ble_eq_true rfl) ⟨Nat.zero_le _, Nat.zero_le _⟩ d_A_on_9 (fun r5 M6 h7 => ?_)
    have qh7 := h7.1.symm
    subst qh7
    obtain ⟨-, ⟨rfl, p8⟩ | ⟨rfl, p8⟩⟩ := h7
    · refine z_if_eq X 17 d_A_on_12 (by decide) (fun h => absurd h (by decide)) (fun _ => ?_)
      refine z_iconst X (v := (-1)) d_A_on_15 (by decide) ?_
      exact z_iret X (Or.inl ⟨fun q => q.2 p8, rfl, rfl⟩) d_A_on_16
    · refine z_if_eq X 17 d_A_on_12 (by decide) (fun _ => ?_) (fun h => absurd h (by decide))
      refine z_aload_n X 0 d_A_on_17 rfl rfl ?_
      refine z_get X fl_A_18 0 e_A rfl rfl d_A_on_18 ?_
      refine z_iload_n X 1 d_A_on_21 rfl rfl ?_
      refine z_aald X 4 e_PA rfl a.toNatClampNeg ha.1 ha.2 (by decide) (g_PA ha.2) d_A_on_22 ?_
      refine z_iconst X (v := 1) d_A_on_23 (by decide) ?_
      refine z_puti X fl_A_91 (5 + a.toNatClampNeg) (e_P ha.2) rfl rfl rfl d_A_on_24 ?_
      refine z_aload_n X 0 d_A_on_27 rfl rfl ?_
      refine z_iload_n X 1 d_A_on_28 rfl rfl ?_
      refine z_Vv X GG_ok cf_A_94 0 [zI a] [] (c_A_restAll l D cA ad _ n w (kInv_far hI _ (by have := ha.2; omega)) _) ⟨rfl, rfl⟩ (by decide) e_A rfl rfl rfl rfl (Nat.le_of_ble_eq_true rfl) ⟨Nat.zero_le _, Nat.zero_le _⟩ d_A_on_29 (fun M11 h12 => ?_)
      have qh12 := h12.symm
      subst qh12
      refine z_iconst X (v := 0) d_A_on_32 (by decide) ?_
      refine z_istore_n X (L' := [(2, zI 0), (0, zR 0), (1, zI a)]) d_A_on_33 rfl (by decide) rfl ?_
      exact loop n 0 (kFor (kRestOne a) n 0 (z_si M (5 + a.toNatClampNeg) 0 1)) (by omega) (kInv_On1 hI ha.2) ⟨p4, p8⟩ rfl
  · refine z_if_eq X 15 d_A_on_4 (by decide) (fun _ => ?_) (fun h => absurd h (by decide))
    refine z_iconst X (v := (-1)) d_A_on_15 (by decide) ?_
    exact z_iret X (Or.inl ⟨fun q => p4 q.1, rfl, rfl⟩) d_A_on_16
end
section
/-! WHAT THE REFERENCE'S METHODS DO, over numbered memory. Cell 51: the object (2 windows, 5 processes, 24 clock, 28 time, 29 lost, 30 idle); 52 owner, 53 span, 54 state, 55 action, 56 partition, 57 priority, 58 period, 59 limit, 60 size, 61 order, 62 number, 63 is, 64 at, 65 worked, 66 rounds, 67 deadline, 68 missed, 69 skipped, 70 work, 71 letter, 72 next, 73 since, 74 message, 75 messages, 76 count -/
def mRest (k : Nat) (M : zM) : zM := z_si (z_si (z_si (z_si M 63 k 0) 64 k 0) 65 k 0) 67 k (-1)
def mBec1 (k : Nat) (v : Int32) (M : zM) : zM := z_si (z_si M 63 k v) 51 24 ((z_si M 63 k v).1 51 24 + 1)
def mBec (k : Nat) (v : Int32) (M : zM) : zM := z_si (mBec1 k v M) 73 k ((mBec1 k v M).1 51 24)
def mRel1 (k : Nat) (M : zM) : zM := z_si M 66 k (M.1 66 k + 1)
def mRel2 (k : Nat) (M : zM) : zM := z_si (z_si (mRel1 k M) 64 k 0) 65 k 0
def mRelD (k : Nat) (M : zM) : Int32 := if M.1 59 k ≤ 0 then (-1) else M.1 51 28 + M.1 59 k
def mRel (k : Nat) (M : zM) : zM := if (mRel1 k M).1 60 k = 0 then mRel1 k M else mBec k 1 (z_si (mRel2 k M) 67 k (mRelD k (mRel2 k M)))
def mAdv1 (k : Nat) (M : zM) : zM := z_si (z_si M 64 k (M.1 64 k + 1)) 65 k 0
def mAdv (k : Nat) (M : zM) : zM := if (mAdv1 k M).1 64 k = (mAdv1 k M).1 60 k then mRest k (mAdv1 k M) else mAdv1 k M
def mWake (k : Nat) (M : zM) : zM := mAdv k (mBec k 1 M)
def mAt (M : zM) (k : Nat) : Nat := (M.1 64 k).toNatClampNeg
def mPt (M : zM) (k : Nat) : Nat := (M.1 56 k).toNatClampNeg
def mSz (M : zM) (q : Nat) : Nat := (M.1 75 q).toNatClampNeg
def mIsReady (M : zM) (d : Int32) (k : Nat) : Prop := M.1 63 k = 1 ∧ M.1 56 k = d
def mWaits (M : zM) (a d : Int32) (k : Nat) : Prop := M.1 63 k = 2 ∧ M.1 61 (8 * k + mAt M k) = a ∧ M.1 62 (8 * k + mAt M k) = d
def mBef (M : zM) (k : Nat) : Option Nat → Prop
  | none => True
  | some j => M.1 57 j < M.1 57 k ∨ (M.1 57 k = M.1 57 j ∧ M.1 73 k < M.1 73 j)
noncomputable def mFst (P : Nat → Prop) (M : zM) : Nat → Nat → Option Nat → Option Nat
  | 0, _, b => b
  | k + 1, i, b => mFst P M k (i + 1) (@ite _ (P i ∧ mBef M i b) (Classical.propDecidable _) (some i) b)
def mEnc : Option Nat → Int32
  | none => (-1)
  | some j => nI j
noncomputable def mFR (n : Nat) (d : Int32) (M : zM) : Option Nat := mFst (mIsReady M d) M n 0 none
noncomputable def mFW (n : Nat) (a d : Int32) (M : zM) : Option Nat := mFst (mWaits M a d) M n 0 none
theorem mFst_no {P : Nat → Prop} {M : zM} {k i : Nat} {b : Option Nat} (h : ¬ (P i ∧ mBef M i b)) : mFst P M (k + 1) i b = mFst P M k (i + 1) b := by rw [mFst, if_neg h]
theorem mFst_yes {P : Nat → Prop} {M : zM} {k i : Nat} {b : Option Nat} (h : P i ∧ mBef M i b) : mFst P M (k + 1) i b = mFst P M k (i + 1) (some i) := by rw [mFst, if_pos h]
theorem mFst_lt (P : Nat → Prop) (M : zM) : ∀ (k i : Nat) (b : Option Nat), (∀ j, b = some j → j < i) → ∀ j, mFst P M k i b = some j → j < i + k
  | 0, i, b, hb, j, h => by have := hb j h; omega
  | k + 1, i, b, hb, j, h => by
    have := mFst_lt P M k (i + 1) _ (fun j h => ?_) j h
    · omega
    · split at h
      · cases h; omega
      · have := hb j h; omega
theorem mFst_P (P : Nat → Prop) (M : zM) : ∀ (k i : Nat) (b : Option Nat), (∀ j, b = some j → P j) → ∀ j, mFst P M k i b = some j → P j
  | 0, i, b, hb, j, h => hb j h
  | k + 1, i, b, hb, j, h => by
    refine mFst_P P M k (i + 1) _ (fun j h => ?_) j h
    split at h
    · rename_i q; cases h; exact q.1
    · exact hb j h
theorem mFR_lt {n : Nat} {d : Int32} {M : zM} {j : Nat} (h : mFR n d M = some j) : j < n := by
  have := mFst_lt _ M n 0 none (fun j h => by cases h) j h
  omega
theorem mFW_lt {n : Nat} {a d : Int32} {M : zM} {j : Nat} (h : mFW n a d M = some j) : j < n := by
  have := mFst_lt _ M n 0 none (fun j h => by cases h) j h
  omega
theorem mFR_P {n : Nat} {d : Int32} {M : zM} {j : Nat} (h : mFR n d M = some j) : mIsReady M d j := mFst_P _ M n 0 none (fun j h => by cases h) j h
theorem mFW_P {n : Nat} {a d : Int32} {M : zM} {j : Nat} (h : mFW n a d M = some j) : mWaits M a d j := mFst_P _ M n 0 none (fun j h => by cases h) j h
def mMsg (M : zM) (k : Nat) : Int32 := nI k + 8 * M.1 66 k
def mPut (q z : Nat) (x : Int32) (M : zM) : zM := z_si (z_si M 74 (4 * q + z) x) 75 q (nI (z + 1))
def mSend0 (k q : Nat) (M : zM) : zM := if M.1 75 q = 4 then z_si M 51 29 (M.1 51 29 + 1) else mPut q (mSz M q) (mMsg M k) M
def mSend1 (k j : Nat) (M : zM) : zM := mWake j (z_si M 71 j (mMsg M k))
noncomputable def mSend (n k q : Nat) (M : zM) : zM := match mFW n 2 (nI q) M with
  | some j => mAdv k (mSend1 k j M)
  | none => mAdv k (mSend0 k q M)
def mSh (q i : Nat) (M : zM) : zM := z_si M 74 (4 * q + i) (M.1 74 (4 * q + (i + 1)))
def mTake0 (k q : Nat) (M : zM) : zM := kFor (mSh q) 3 0 (z_si M 71 k (M.1 74 (4 * q)))
def mTakes (k q : Nat) (M : zM) : zM := if M.1 75 q = 0 then mBec k 2 M else mAdv k (z_si (mTake0 k q M) 75 q ((mTake0 k q M).1 75 q - 1))
def mUp0 (s : Nat) (M : zM) : zM := if 9 ≤ M.1 76 s then M else z_si M 76 s (M.1 76 s + 1)
noncomputable def mUp (n k s : Nat) (M : zM) : zM := match mFW n 4 (nI s) M with
  | some j => mAdv k (mWake j M)
  | none => mAdv k (mUp0 s M)
def mDown (k s : Nat) (M : zM) : zM := if M.1 76 s = 0 then mBec k 2 M else mAdv k (z_si M 76 s (M.1 76 s - 1))
def mOrd (M : zM) (k : Nat) : Int32 := M.1 61 (8 * k + mAt M k)
def mNum (M : zM) (k : Nat) : Int32 := M.1 62 (8 * k + mAt M k)
def mWork1 (k : Nat) (M : zM) : zM := z_si M 70 k (M.1 70 k + 1)
def mWork2 (k : Nat) (M : zM) : zM := z_si (mWork1 k M) 65 k ((mWork1 k M).1 65 k + 1)
def mWork (k : Nat) (x : Int32) (M : zM) : zM := if (mWork2 k M).1 65 k = x then mAdv k (mWork2 k M) else mWork2 k M
noncomputable def mDo (n k : Nat) (M : zM) : zM :=
  if mOrd M k = 0 then mWork k (mNum M k) M else if mOrd M k = 1 then mSend n k (mNum M k).toNatClampNeg M else if mOrd M k = 2 then mTakes k (mNum M k).toNatClampNeg M else if mOrd M k = 3 then mUp n k (mNum M k).toNatClampNeg M else mDown k (mNum M k).toNatClampNeg M
def mIdle (M : zM) : zM := z_si M 51 30 (M.1 51 30 + 1)
def mRelA (k : Nat) (M : zM) : zM := if M.1 63 k = 0 then mRel k M else z_si M 69 k (M.1 69 k + 1)
def mRelOne (k : Nat) (M : zM) : zM := if M.1 54 (mPt M k) = 1 then (if M.1 58 k = 0 then M else if M.1 72 k = M.1 51 28 then z_si (mRelA k M) 72 k ((mRelA k M).1 72 k + (mRelA k M).1 58 k) else M) else M
def mRestOne (d : Int32) (k : Nat) (M : zM) : zM := if M.1 56 k = d then mRest k M else M
def mMiss1 (k : Nat) (M : zM) : zM := z_si (z_si M 68 k (M.1 68 k + 1)) 67 k (-1)
def mMiss2 (k q : Nat) (M : zM) : zM := if M.1 55 q = 1 then mBec k 1 (z_si (z_si M 64 k 0) 65 k 0) else M
def mMiss3 (n q : Nat) (M : zM) : zM := if M.1 55 q = 2 then kFor (mRestOne (nI q)) n 0 (z_si M 54 q 2) else M
def mMissOne (n k : Nat) (M : zM) : zM := if M.1 54 (mPt M k) = 1 then (if M.1 63 k = 0 then M else if M.1 67 k = M.1 51 28 then mMiss3 n (mPt M k) (mMiss2 k (mPt M k) (mMiss1 k M)) else M) else M
def mOn2 (d : Int32) (k : Nat) (M : zM) : zM := if M.1 56 k = d then (if (mRest k M).1 58 k ≤ 0 then mRest k M else z_si (mRest k M) 72 k ((mRest k M).1 51 28)) else M
def mOn (n : Nat) (a : Int32) (M : zM) : zM := kFor (mOn2 a) n 0 (z_si M 54 a.toNatClampNeg 1)
def mTell (M : zM) (i : Nat) (w : Int32) : Int32 :=
  if w = 0 then M.1 63 i else if w = 1 then M.1 64 i else if w = 2 then M.1 65 i else if w = 3 then M.1 66 i else if w = 4 then M.1 67 i
  else if w = 5 then M.1 68 i else if w = 6 then M.1 69 i else if w = 7 then M.1 70 i else if w = 8 then M.1 71 i else if w = 9 then M.1 72 i else (-1)
def mAllOff (M : zM) : Prop := M.1 54 0 = 0 ∧ M.1 54 1 = 0 ∧ M.1 54 2 = 0
def mSum (M : zM) : Nat → Nat → Int32 → Int32
  | 0, _, a => a
  | k + 1, i, a => mSum M k (i + 1) (a + M.1 53 i)
/-- the windows are passed while the rest of the time reaches over them: at most k of them, from i on -/
def mIx (M : zM) : Nat → Nat → Int32 → Nat × Int32
  | 0, i, t => (i, t)
  | k + 1, i, t => if t < M.1 53 i then (i, t) else mIx M k (i + 1) (t - M.1 53 i)
def mAll (M : zM) (w : Nat) : Int32 := mSum M w 0 0
def mRem (M : zM) (w : Nat) : Int32 := M.1 51 28 - M.1 51 28 / mAll M w * mAll M w
def mHold (M : zM) (w : Nat) (left : Bool) : Int32 := if mAll M w = 0 then (-1) else if left then M.1 53 (mIx M w 0 (mRem M w)).1 - (mIx M w 0 (mRem M w)).2 else M.1 52 (mIx M w 0 (mRem M w)).1
noncomputable def mGo (n : Nat) (p : Int32) : Nat → zM → zM
  | 0, M => M
  | f + 1, M => match mFR n p M with
    | none => mIdle M
    | some j => if mOrd M j = 0 then mDo n j M else mGo n p f (mDo n j M)
def mB (n w : Nat) (M : zM) : Prop :=
  n ≤ 8 ∧ w ≤ 8 ∧ M.1 51 5 = nI n ∧ M.1 51 2 = nI w ∧ (∀ j, j < w → ∃ v, 1 ≤ v ∧ v ≤ 30 ∧ M.1 53 j = nI v) ∧ (∀ j, j < w → ∃ q, q < 3 ∧ M.1 52 j = nI q) ∧ (∀ i, i < 8 → ∃ q, q < 3 ∧ M.1 56 i = nI q) ∧ (∀ i x, i < 8 → x < 8 → M.1 61 (8 * i + x) = 0 ∨ ∃ q, q < 4 ∧ M.1 62 (8 * i + x) = nI q) ∧ (∀ q, q < 4 → ∃ z, z ≤ 4 ∧ M.1 75 q = nI z)
/-- where each process stands; what is not RESTING stands at an order -/
def mN (M : zM) : Prop := ∀ i, i < 8 → ∃ x z, x < 8 ∧ z ≤ 8 ∧ M.1 64 i = nI x ∧ M.1 60 i = nI z ∧ (¬ M.1 63 i = 0 → x < z)
def mInv (n w : Nat) (M : zM) : Prop := mB n w M ∧ mN M
theorem mB_si {n w : Nat} {M : zM} (h : mB n w M) {c k : Nat} (x : Int32) (hc : (c = 51 ∧ k ≠ 5 ∧ k ≠ 2) ∨ c < 51 ∨ c = 54 ∨ c = 55 ∨ (57 ≤ c ∧ c < 61) ∨ (63 ≤ c ∧ c < 75) ∨ c = 76) : mB n w (z_si M c k x) := by
  obtain ⟨h1, h2, h3, h4, h5, h6, h7, h9, h10⟩ := h
  refine ⟨h1, h2, ?_, ?_, ?_, ?_, ?_, ?_, ?_⟩
  · rw [z_si_other _ _ (by omega)]; exact h3
  · rw [z_si_other _ _ (by omega)]; exact h4
  · intro j hj; rw [z_si_other _ _ (by omega)]; exact h5 j hj
  · intro j hj; rw [z_si_other _ _ (by omega)]; exact h6 j hj
  · intro j hj; rw [z_si_other _ _ (by omega)]; exact h7 j hj
  · intro j y hj hy; rw [z_si_other _ _ (by omega), z_si_other _ _ (by omega)]; exact h9 j y hj hy
  · intro j hj; rw [z_si_other _ _ (by omega)]; exact h10 j hj
theorem mB_port {n w : Nat} {M : zM} (h : mB n w M) (q : Nat) {z : Nat} (hz : z ≤ 4) : mB n w (z_si M 75 q (nI z)) := by
  obtain ⟨h1, h2, h3, h4, h5, h6, h7, h9, h10⟩ := h
  refine ⟨h1, h2, ?_, ?_, ?_, ?_, ?_, ?_, ?_⟩
  · rw [z_si_other _ _ (by omega)]; exact h3
  · rw [z_si_other _ _ (by omega)]; exact h4
  · intro j hj; rw [z_si_other _ _ (by omega)]; exact h5 j hj
  · intro j hj; rw [z_si_other _ _ (by omega)]; exact h6 j hj
  · intro j hj; rw [z_si_other _ _ (by omega)]; exact h7 j hj
  · intro j y hj hy; rw [z_si_other _ _ (by omega), z_si_other _ _ (by omega)]; exact h9 j y hj hy
  · intro j hj
    by_cases hjq : j = q
    · subst hjq
      exact ⟨z, hz, z_si_same _ _ _ _⟩
    · rw [z_si_other _ _ (by omega)]; exact h10 j hj
theorem mN_si {M : zM} (h : mN M) {c k : Nat} (x : Int32) (hc : c ≠ 64 ∧ c ≠ 60 ∧ c ≠ 63) : mN (z_si M c k x) := by
  intro j hj
  rw [z_si_other _ _ (by omega), z_si_other _ _ (by omega), z_si_other _ _ (by omega)]
  exact h j hj
theorem mInv_si {n w : Nat} {M : zM} (h : mInv n w M) {c k : Nat} (x : Int32) (hc : (c = 51 ∧ k ≠ 5 ∧ k ≠ 2) ∨ c < 51 ∨ c = 54 ∨ c = 55 ∨ (57 ≤ c ∧ c < 60) ∨ (65 ≤ c ∧ c < 75) ∨ c = 76) : mInv n w (z_si M c k x) := ⟨mB_si h.1 x (by omega), mN_si h.2 x (by omega)⟩
theorem mInv_n {n w : Nat} {M : zM} (h : mInv n w M) : n ≤ 8 := h.1.1
theorem mInv_cnt {n w : Nat} {M : zM} (h : mInv n w M) : M.1 51 5 = nI n := h.1.2.2.1
theorem mPt_lt {n w : Nat} {M : zM} (h : mInv n w M) {i : Nat} (hi : i < 8) : mPt M i < 3 := by
  obtain ⟨q, hq, e⟩ := h.1.2.2.2.2.2.2.1 i hi
  unfold mPt
  rw [e, nI_clamp (n := q) (by omega)]
  exact hq
theorem mPt_eq {n w : Nat} {M : zM} (h : mInv n w M) {i : Nat} (hi : i < 8) : M.1 56 i = nI (mPt M i) := by
  obtain ⟨q, hq, e⟩ := h.1.2.2.2.2.2.2.1 i hi
  unfold mPt
  rw [e, nI_clamp (n := q) (by omega)]
theorem mAt_lt {n w : Nat} {M : zM} (h : mInv n w M) {i : Nat} (hi : i < 8) : mAt M i < 8 := by
  obtain ⟨x, z, hx, -, e, -⟩ := h.2 i hi
  unfold mAt
  rw [e, nI_clamp (n := x) (by omega)]
  exact hx
theorem mAt_eq {n w : Nat} {M : zM} (h : mInv n w M) {i : Nat} (hi : i < 8) : M.1 64 i = nI (mAt M i) := by
  obtain ⟨x, z, hx, -, e, -⟩ := h.2 i hi
  unfold mAt
  rw [e, nI_clamp (n := x) (by omega)]
theorem mIx_eq {n w : Nat} {M : zM} (h : mInv n w M) {i : Nat} (hi : i < 8) : 8 * nI i + M.1 64 i = nI (8 * i + mAt M i) := by
  rw [mAt_eq h hi, show (8 : Int32) = nI 8 from rfl, pk_mul, nI_add]
theorem mIx_lt {n w : Nat} {M : zM} (h : mInv n w M) {i : Nat} (hi : i < 8) : 8 * i + mAt M i < 64 := by have := mAt_lt h hi; omega
theorem mSz_le {n w : Nat} {M : zM} (h : mInv n w M) {q : Nat} (hq : q < 4) : mSz M q ≤ 4 := by
  obtain ⟨z, hz, e⟩ := h.1.2.2.2.2.2.2.2.2 q hq
  unfold mSz
  rw [e, nI_clamp (n := z) (by omega)]
  exact hz
theorem mSz_eq {n w : Nat} {M : zM} (h : mInv n w M) {q : Nat} (hq : q < 4) : M.1 75 q = nI (mSz M q) := by
  obtain ⟨z, hz, e⟩ := h.1.2.2.2.2.2.2.2.2 q hq
  unfold mSz
  rw [e, nI_clamp (n := z) (by omega)]
theorem mSz_lt {n w : Nat} {M : zM} (h : mInv n w M) {q : Nat} (hq : q < 4) (h4 : ¬ M.1 75 q = 4) : mSz M q < 4 := by
  have h1 := mSz_le h hq
  have h2 := mSz_eq h hq
  rcases Nat.lt_or_ge (mSz M q) 4 with h3 | h3
  · exact h3
  · exact absurd (by rw [h2, show mSz M q = 4 by omega]; rfl) h4
theorem mNum_lt {n w : Nat} {M : zM} (h : mInv n w M) {i : Nat} (hi : i < 8) (h0 : ¬ mOrd M i = 0) : (mNum M i).toNatClampNeg < 4 ∧ mNum M i = nI (mNum M i).toNatClampNeg := by
  rcases h.1.2.2.2.2.2.2.2.1 i (mAt M i) hi (mAt_lt h hi) with h1 | ⟨q, hq, e⟩
  · exact absurd h1 h0
  · have e2 : mNum M i = nI q := e
    rw [e2, nI_clamp (n := q) (by omega)]
    exact ⟨hq, rfl⟩
end
section
set_option maxHeartbeats 4000000 in
set_option maxRecDepth 100000 in
theorem c_B_in (l : Launch) (D : va_G) (cA : Nat → ClassId) (ad : Nat → Nat) (M : zM) (a b d : Int32) : Ci l D cA ad y_B_in b_B_in 3 (some (.boolean)) (zr 0 0) [zI a, zI b, zI d] M (fun r M' => M' = M ∧ ((r = 1 ∧ b ≤ a ∧ a ≤ d) ∨ (r = 0 ∧ ¬ (b ≤ a ∧ a ≤ d)))) := by
  refine zMi_of (plainFor_of_name (by decide)) (Nat.le_of_ble_eq_true rfl) ?_
  intro p e s m args below meth c A X
  refine z_iload_n X 0 d_B_in_0 rfl rfl ?_
  refine z_iload_n X 1 d_B_in_1 rfl rfl ?_
  refine z_icmp_lt X 14 d_B_in_2 (by decide) (fun c_2 => ?_) (fun c_2 => ?_)
  · refine z_iconst X (v := 0) d_B_in_14 (by decide) ?_
    exact z_zret X rfl (⟨rfl, Or.inr ⟨rfl, fun q => absurd q.1 (Int32.not_le.mpr c_2)⟩⟩) d_B_in_15
  · refine z_iload_n X 0 d_B_in_5 rfl rfl ?_
    refine z_iload_n X 2 d_B_in_6 rfl rfl ?_
    refine z_icmp_gt X 14 d_B_in_7 (by decide) (fun c_7 => ?_) (fun c_7 => ?_)
    · refine z_iconst X (v := 0) d_B_in_14 (by decide) ?_
      exact z_zret X rfl (⟨rfl, Or.inr ⟨rfl, fun q => absurd q.2 (Int32.not_le.mpr c_7)⟩⟩) d_B_in_15
    · refine z_iconst X (v := 1) d_B_in_10 (by decide) ?_
      refine z_goto X 15 d_B_in_11 (by decide) ?_
      exact z_zret X rfl (⟨rfl, Or.inl ⟨rfl, ⟨Int32.not_lt.mp c_2, Int32.not_lt.mp c_7⟩⟩⟩) d_B_in_15

set_option maxHeartbeats 4000000 in
set_option maxRecDepth 100000 in
theorem c_B_allOff (l : Launch) (D : va_G) (cA : Nat → ClassId) (ad : Nat → Nat) (M : zM)  : Ci l D cA ad y_B_allOff b_B_allOff 1 (some (.boolean)) (zr 0 0) [zR 51] M (fun r M' => M' = M ∧ ((r = 1 ∧ mAllOff M) ∨ (r = 0 ∧ ¬ (mAllOff M)))) := by
  refine zMi_of (plainFor_of_name (by decide)) (Nat.le_of_ble_eq_true rfl) ?_
  intro p e s m args below meth c A X
  refine z_aload_n X 0 d_B_allOff_0 rfl rfl ?_
  refine z_get X fl_B_16 51 e_B rfl rfl d_B_allOff_1 ?_
  refine z_iconst X (v := 0) d_B_allOff_4 (by decide) ?_
  refine z_iald X 54 e_B_state rfl 0 rfl (by decide) (by decide) d_B_allOff_5 ?_
  refine z_if_ne X 31 d_B_allOff_6 (by decide) (fun c_6 => ?_) (fun c_6 => ?_)
  · refine z_iconst X (v := 0) d_B_allOff_31 (by decide) ?_
    exact z_zret X rfl (⟨rfl, Or.inr ⟨rfl, by simp only [mAllOff, c_6, and_true, and_false, true_and, false_and, not_true, not_false_eq_true, and_self]⟩⟩) d_B_allOff_32
  · refine z_aload_n X 0 d_B_allOff_9 rfl rfl ?_
    refine z_get X fl_B_16 51 e_B rfl rfl d_B_allOff_10 ?_
    refine z_iconst X (v := 1) d_B_allOff_13 (by decide) ?_
    refine z_iald X 54 e_B_state rfl 1 rfl (by decide) (by decide) d_B_allOff_14 ?_
    refine z_if_ne X 31 d_B_allOff_15 (by decide) (fun c_15 => ?_) (fun c_15 => ?_)
    · refine z_iconst X (v := 0) d_B_allOff_31 (by decide) ?_
      exact z_zret X rfl (⟨rfl, Or.inr ⟨rfl, by simp only [mAllOff, c_6, c_15, and_true, and_false, true_and, false_and, not_true, not_false_eq_true, and_self]⟩⟩) d_B_allOff_32
    · refine z_aload_n X 0 d_B_allOff_18 rfl rfl ?_
      refine z_get X fl_B_16 51 e_B rfl rfl d_B_allOff_19 ?_
      refine z_iconst X (v := 2) d_B_allOff_22 (by decide) ?_
      refine z_iald X 54 e_B_state rfl 2 rfl (by decide) (by decide) d_B_allOff_23 ?_
      refine z_if_ne X 31 d_B_allOff_24 (by decide) (fun c_24 => ?_) (fun c_24 => ?_)
      · refine z_iconst X (v := 0) d_B_allOff_31 (by decide) ?_
        exact z_zret X rfl (⟨rfl, Or.inr ⟨rfl, by simp only [mAllOff, c_6, c_15, c_24, and_true, and_false, true_and, false_and, not_true, not_false_eq_true, and_self]⟩⟩) d_B_allOff_32
      · refine z_iconst X (v := 1) d_B_allOff_27 (by decide) ?_
        refine z_goto X 32 d_B_allOff_28 (by decide) ?_
        exact z_zret X rfl (⟨rfl, Or.inl ⟨rfl, by simp only [mAllOff, c_6, c_15, c_24, and_true, and_false, true_and, false_and, not_true, not_false_eq_true, and_self]⟩⟩) d_B_allOff_32

set_option maxHeartbeats 4000000 in
set_option maxRecDepth 100000 in
theorem c_B_rest (l : Launch) (D : va_G) (cA : Nat → ClassId) (ad : Nat → Nat) (M : zM) (x : Int32) (k : Nat) (hk : k < 8) (ex : x = nI k) : Cv l D cA ad y_B_rest b_B_rest 2 none (zr 0 0) [zR 51, zI x] M (fun M' => M' = mRest k M) := by
  refine zMv_of (plainFor_of_name (by decide)) (Nat.le_of_ble_eq_true rfl) ?_
  intro p e s m args below meth c A X
  subst ex
  refine z_aload_n X 0 d_B_rest_0 rfl rfl ?_
  refine z_get X fl_B_43 51 e_B rfl rfl d_B_rest_1 ?_
  refine z_iload_n X 1 d_B_rest_4 rfl rfl ?_
  refine z_iconst X (v := 0) d_B_rest_5 (by decide) ?_
  refine z_iast X 63 e_B_is rfl k rfl hk (by decide) d_B_rest_6 ?_
  refine z_aload_n X 0 d_B_rest_7 rfl rfl ?_
  refine z_get X fl_B_46 51 e_B rfl rfl d_B_rest_8 ?_
  refine z_iload_n X 1 d_B_rest_11 rfl rfl ?_
  refine z_iconst X (v := 0) d_B_rest_12 (by decide) ?_
  refine z_iast X 64 e_B_at rfl k rfl hk (by decide) d_B_rest_13 ?_
  refine z_aload_n X 0 d_B_rest_14 rfl rfl ?_
  refine z_get X fl_B_49 51 e_B rfl rfl d_B_rest_15 ?_
  refine z_iload_n X 1 d_B_rest_18 rfl rfl ?_
  refine z_iconst X (v := 0) d_B_rest_19 (by decide) ?_
  refine z_iast X 65 e_B_worked rfl k rfl hk (by decide) d_B_rest_20 ?_
  refine z_aload_n X 0 d_B_rest_21 rfl rfl ?_
  refine z_get X fl_B_55 51 e_B rfl rfl d_B_rest_22 ?_
  refine z_iload_n X 1 d_B_rest_25 rfl rfl ?_
  refine z_iconst X (v := (-1)) d_B_rest_26 (by decide) ?_
  refine z_iast X 67 e_B_deadline rfl k rfl hk (by decide) d_B_rest_27 ?_
  exact z_vret X rfl d_B_rest_28

set_option maxHeartbeats 4000000 in
set_option maxRecDepth 100000 in
theorem c_B_become (l : Launch) (D : va_G) (cA : Nat → ClassId) (ad : Nat → Nat) (M : zM) (x : Int32) (k : Nat) (hk : k < 8) (ex : x = nI k) (v : Int32) : Cv l D cA ad y_B_become b_B_become 3 none (zr 0 0) [zR 51, zI x, zI v] M (fun M' => M' = mBec k v M) := by
  refine zMv_of (plainFor_of_name (by decide)) (Nat.le_of_ble_eq_true rfl) ?_
  intro p e s m args below meth c A X
  subst ex
  refine z_aload_n X 0 d_B_become_0 rfl rfl ?_
  refine z_get X fl_B_43 51 e_B rfl rfl d_B_become_1 ?_
  refine z_iload_n X 1 d_B_become_4 rfl rfl ?_
  refine z_iload_n X 2 d_B_become_5 rfl rfl ?_
  refine z_iast X 63 e_B_is rfl k rfl hk (by decide) d_B_become_6 ?_
  refine z_aload_n X 0 d_B_become_7 rfl rfl ?_
  refine z_dup X d_B_become_8 rfl ?_
  refine z_get X fl_B_107 51 e_B rfl rfl d_B_become_9 ?_
  refine z_iconst X (v := 1) d_B_become_12 (by decide) ?_
  refine z_iadd X d_B_become_13 ?_
  refine z_puti X fl_B_107 51 e_B rfl rfl rfl d_B_become_14 ?_
  refine z_aload_n X 0 d_B_become_17 rfl rfl ?_
  refine z_get X fl_B_73 51 e_B rfl rfl d_B_become_18 ?_
  refine z_iload_n X 1 d_B_become_21 rfl rfl ?_
  refine z_aload_n X 0 d_B_become_22 rfl rfl ?_
  refine z_get X fl_B_107 51 e_B rfl rfl d_B_become_23 ?_
  refine z_iast X 73 e_B_since rfl k rfl hk (by decide) d_B_become_26 ?_
  exact z_vret X rfl d_B_become_27

set_option maxHeartbeats 4000000 in
set_option maxRecDepth 100000 in
theorem c_B_release (l : Launch) (D : va_G) (cA : Nat → ClassId) (ad : Nat → Nat) (M : zM) (x : Int32) (k : Nat) (hk : k < 8) (ex : x = nI k) : Cv l D cA ad y_B_release b_B_release 2 none (zr 1 22) [zR 51, zI x] M (fun M' => M' = mRel k M) := by
  refine zMv_of (plainFor_of_name (by decide)) (Nat.le_of_ble_eq_true rfl) ?_
  intro p e s m args below meth c A X
  subst ex
  refine z_aload_n X 0 d_B_release_0 rfl rfl ?_
  refine z_get X fl_B_52 51 e_B rfl rfl d_B_release_1 ?_
  refine z_iload_n X 1 d_B_release_4 rfl rfl ?_
  refine z_dup2 X d_B_release_5 rfl rfl ?_
  refine z_iald X 66 e_B_rounds rfl k rfl hk (by decide) d_B_release_6 ?_
  refine z_iconst X (v := 1) d_B_release_7 (by decide) ?_
  refine z_iadd X d_B_release_8 ?_
  refine z_iast X 66 e_B_rounds rfl k rfl hk (by decide) d_B_release_9 ?_
  refine z_aload_n X 0 d_B_release_10 rfl rfl ?_
  refine z_get X fl_B_34 51 e_B rfl rfl d_B_release_11 ?_
  refine z_iload_n X 1 d_B_release_14 rfl rfl ?_
  refine z_iald X 60 e_B_size rfl k rfl hk (by decide) d_B_release_15 ?_
  refine z_if_ne X 20 d_B_release_16 (by decide) (fun c_16 => ?_) (fun c_16 => ?_)
  · refine z_aload_n X 0 d_B_release_20 rfl rfl ?_
    refine z_get X fl_B_46 51 e_B rfl rfl d_B_release_21 ?_
    refine z_iload_n X 1 d_B_release_24 rfl rfl ?_
    refine z_iconst X (v := 0) d_B_release_25 (by decide) ?_
    refine z_iast X 64 e_B_at rfl k rfl hk (by decide) d_B_release_26 ?_
    refine z_aload_n X 0 d_B_release_27 rfl rfl ?_
    refine z_get X fl_B_49 51 e_B rfl rfl d_B_release_28 ?_
    refine z_iload_n X 1 d_B_release_31 rfl rfl ?_
    refine z_iconst X (v := 0) d_B_release_32 (by decide) ?_
    refine z_iast X 65 e_B_worked rfl k rfl hk (by decide) d_B_release_33 ?_
    refine z_aload_n X 0 d_B_release_34 rfl rfl ?_
    refine z_get X fl_B_55 51 e_B rfl rfl d_B_release_35 ?_
    refine z_iload_n X 1 d_B_release_38 rfl rfl ?_
    refine z_aload_n X 0 d_B_release_39 rfl rfl ?_
    refine z_get X fl_B_31 51 e_B rfl rfl d_B_release_40 ?_
    refine z_iload_n X 1 d_B_release_43 rfl rfl ?_
    refine z_iald X 59 e_B_limit rfl k rfl hk (by decide) d_B_release_44 ?_
    refine z_if_le X 62 d_B_release_45 (by decide) (fun c_45 => ?_) (fun c_45 => ?_)
    · refine z_iconst X (v := (-1)) d_B_release_62 (by decide) ?_
      refine z_iast X 67 e_B_deadline rfl k rfl hk (by decide) d_B_release_63 ?_
      refine z_aload_n X 0 d_B_release_64 rfl rfl ?_
      refine z_iload_n X 1 d_B_release_65 rfl rfl ?_
      refine z_iconst X (v := 1) d_B_release_66 (by decide) ?_
      refine z_Vv X GG_ok cf_B_110 51 [zI (nI k), zI 1] [] (c_B_become l D cA ad _ _ k hk rfl _) ⟨rfl, rfl⟩ (by decide) e_B rfl rfl rfl rfl (Nat.le_of_ble_eq_true rfl) ⟨Nat.zero_le _, Nat.zero_le _⟩ d_B_release_67 (fun M2 h3 => ?_)
      have qh3 := h3.symm
      subst qh3
      exact z_vret X (by simp only [mRel, mRel2, mRel1, mRelD, c_16, c_45, if_true, if_false]) d_B_release_70
    · refine z_aload_n X 0 d_B_release_48 rfl rfl ?_
      refine z_get X fl_B_104 51 e_B rfl rfl d_B_release_49 ?_
      refine z_aload_n X 0 d_B_release_52 rfl rfl ?_
      refine z_get X fl_B_31 51 e_B rfl rfl d_B_release_53 ?_
      refine z_iload_n X 1 d_B_release_56 rfl rfl ?_
      refine z_iald X 59 e_B_limit rfl k rfl hk (by decide) d_B_release_57 ?_
      refine z_iadd X d_B_release_58 ?_
      refine z_goto X 63 d_B_release_59 (by decide) ?_
      refine z_iast X 67 e_B_deadline rfl k rfl hk (by decide) d_B_release_63 ?_
      refine z_aload_n X 0 d_B_release_64 rfl rfl ?_
      refine z_iload_n X 1 d_B_release_65 rfl rfl ?_
      refine z_iconst X (v := 1) d_B_release_66 (by decide) ?_
      refine z_Vv X GG_ok cf_B_110 51 [zI (nI k), zI 1] [] (c_B_become l D cA ad _ _ k hk rfl _) ⟨rfl, rfl⟩ (by decide) e_B rfl rfl rfl rfl (Nat.le_of_ble_eq_true rfl) ⟨Nat.zero_le _, Nat.zero_le _⟩ d_B_release_67 (fun M5 h6 => ?_)
      have qh6 := h6.symm
      subst qh6
      exact z_vret X (by simp only [mRel, mRel2, mRel1, mRelD, c_16, c_45, if_true, if_false]) d_B_release_70
  · exact z_vret X (by simp only [mRel, mRel2, mRel1, mRelD, c_16, if_true, if_false]) d_B_release_19

set_option maxHeartbeats 4000000 in
set_option maxRecDepth 100000 in
theorem c_B_advance (l : Launch) (D : va_G) (cA : Nat → ClassId) (ad : Nat → Nat) (M : zM) (x : Int32) (k : Nat) (hk : k < 8) (ex : x = nI k) : Cv l D cA ad y_B_advance b_B_advance 2 none (zr 1 21) [zR 51, zI x] M (fun M' => M' = mAdv k M) := by
  refine zMv_of (plainFor_of_name (by decide)) (Nat.le_of_ble_eq_true rfl) ?_
  intro p e s m args below meth c A X
  subst ex
  refine z_aload_n X 0 d_B_advance_0 rfl rfl ?_
  refine z_get X fl_B_46 51 e_B rfl rfl d_B_advance_1 ?_
  refine z_iload_n X 1 d_B_advance_4 rfl rfl ?_
  refine z_dup2 X d_B_advance_5 rfl rfl ?_
  refine z_iald X 64 e_B_at rfl k rfl hk (by decide) d_B_advance_6 ?_
  refine z_iconst X (v := 1) d_B_advance_7 (by decide) ?_
  refine z_iadd X d_B_advance_8 ?_
  refine z_iast X 64 e_B_at rfl k rfl hk (by decide) d_B_advance_9 ?_
  refine z_aload_n X 0 d_B_advance_10 rfl rfl ?_
  refine z_get X fl_B_49 51 e_B rfl rfl d_B_advance_11 ?_
  refine z_iload_n X 1 d_B_advance_14 rfl rfl ?_
  refine z_iconst X (v := 0) d_B_advance_15 (by decide) ?_
  refine z_iast X 65 e_B_worked rfl k rfl hk (by decide) d_B_advance_16 ?_
  refine z_aload_n X 0 d_B_advance_17 rfl rfl ?_
  refine z_get X fl_B_46 51 e_B rfl rfl d_B_advance_18 ?_
  refine z_iload_n X 1 d_B_advance_21 rfl rfl ?_
  refine z_iald X 64 e_B_at rfl k rfl hk (by decide) d_B_advance_22 ?_
  refine z_aload_n X 0 d_B_advance_23 rfl rfl ?_
  refine z_get X fl_B_34 51 e_B rfl rfl d_B_advance_24 ?_
  refine z_iload_n X 1 d_B_advance_27 rfl rfl ?_
  refine z_iald X 60 e_B_size rfl k rfl hk (by decide) d_B_advance_28 ?_
  refine z_icmp_ne X 37 d_B_advance_29 (by decide) (fun c_29 => ?_) (fun c_29 => ?_)
  · exact z_vret X (by simp only [mAdv, mAdv1, c_29, if_true, if_false]) d_B_advance_37
  · refine z_aload_n X 0 d_B_advance_32 rfl rfl ?_
    refine z_iload_n X 1 d_B_advance_33 rfl rfl ?_
    refine z_Vv X GG_ok cf_B_100 51 [zI (nI k)] [] (c_B_rest l D cA ad _ _ k hk rfl ) ⟨rfl, rfl⟩ (by decide) e_B rfl rfl rfl rfl (Nat.le_of_ble_eq_true rfl) ⟨Nat.zero_le _, Nat.zero_le _⟩ d_B_advance_34 (fun M2 h3 => ?_)
    have qh3 := h3.symm
    subst qh3
    exact z_vret X (by simp only [mAdv, mAdv1, c_29, if_true, if_false]) d_B_advance_37

set_option maxHeartbeats 4000000 in
set_option maxRecDepth 100000 in
theorem c_B_wake (l : Launch) (D : va_G) (cA : Nat → ClassId) (ad : Nat → Nat) (M : zM) (x : Int32) (k : Nat) (hk : k < 8) (ex : x = nI k) : Cv l D cA ad y_B_wake b_B_wake 2 none (zr 2 42) [zR 51, zI x] M (fun M' => M' = mWake k M) := by
  refine zMv_of (plainFor_of_name (by decide)) (Nat.le_of_ble_eq_true rfl) ?_
  intro p e s m args below meth c A X
  subst ex
  refine z_aload_n X 0 d_B_wake_0 rfl rfl ?_
  refine z_iload_n X 1 d_B_wake_1 rfl rfl ?_
  refine z_iconst X (v := 1) d_B_wake_2 (by decide) ?_
  refine z_Vv X GG_ok cf_B_110 51 [zI (nI k), zI 1] [] (c_B_become l D cA ad _ _ k hk rfl _) ⟨rfl, rfl⟩ (by decide) e_B rfl rfl rfl rfl (Nat.le_of_ble_eq_true rfl) ⟨Nat.zero_le _, Nat.zero_le _⟩ d_B_wake_3 (fun M2 h3 => ?_)
  have qh3 := h3.symm
  subst qh3
  refine z_aload_n X 0 d_B_wake_6 rfl rfl ?_
  refine z_iload_n X 1 d_B_wake_7 rfl rfl ?_
  refine z_Vv X GG_ok cf_B_117 51 [zI (nI k)] [] (c_B_advance l D cA ad _ _ k hk rfl ) ⟨rfl, rfl⟩ (by decide) e_B rfl rfl rfl rfl (Nat.le_of_ble_eq_true rfl) ⟨Nat.zero_le _, Nat.zero_le _⟩ d_B_wake_8 (fun M5 h6 => ?_)
  have qh6 := h6.symm
  subst qh6
  exact z_vret X rfl d_B_wake_11
end
section
set_option maxHeartbeats 4000000 in
set_option maxRecDepth 100000 in
theorem c_B_first_R (l : Launch) (D : va_G) (cA : Nat → ClassId) (ad : Nat → Nat) (M : zM) (n w : Nat) (hI : mInv n w M) (d : Int32) : Ci l D cA ad y_B_first b_B_first 6 (some (.int)) (zr 0 0) [zR 51, zI 0, zI d] M (fun r M' => M' = M ∧ r = mEnc (mFR n d M)) := by
  refine zMi_of (plainFor_of_name (by decide)) (Nat.le_of_ble_eq_true rfl) ?_
  intro p e s m args below meth c A X
  have hn := mInv_n hI
  have loop : ∀ (k i : Nat) (b : Option Nat), i + k = n → (∀ j, b = some j → j < i) → mFst (mIsReady M d) M k i b = mFR n d M → zW p l e (zr 0 0) s m args below meth c 0 0 (MQ below (va_Qi (fun r M' => M' = M ∧ r = mEnc (mFR n d M)) (fun M' t => va_P D cls (z_w cA ad M' 0 EE) t.heap) A) args s 0 0 A) A D cls cA ad EE 6 M 5 [(4, zI (nI i)), (3, zI (mEnc b)), (0, zR 51), (1, zI 0), (2, zI d)] [] := by
    intro k
    induction k with
    | zero =>
      intro i b hk hb hq
      refine z_iload X 0 d_B_first_5 rfl ?_
      refine z_aload_n X 2 d_B_first_7 rfl rfl ?_
      refine z_get X fl_B_97 51 e_B rfl rfl d_B_first_8 ?_
      refine z_icmp_ge X 179 d_B_first_11 (by decide) (fun c_11 => ?_) (fun c_11 => absurd (by rw [mInv_cnt hI, show i = n by omega]; exact nI_le (Nat.le_refl _) (by omega)) c_11)
      refine z_iload_n X 1 d_B_first_179 rfl rfl ?_
      exact z_iret X (⟨rfl, by rw [← hq]; rfl⟩) d_B_first_180
    | succ k ih =>
      intro i b hk hb hq
      have hi : i < 8 := by omega
      cases b with
      | none =>
        refine z_iload X 0 d_B_first_5 rfl ?_
        refine z_aload_n X 2 d_B_first_7 rfl rfl ?_
        refine z_get X fl_B_97 51 e_B rfl rfl d_B_first_8 ?_
        refine z_icmp_ge X 179 d_B_first_11 (by decide) (fun c_11 => absurd c_11 (by rw [mInv_cnt hI]; exact nI_ge (by omega) (by omega))) (fun c_11 => ?_)
        refine z_iload_n X 3 d_B_first_14 rfl rfl ?_
        refine z_if_ne X 48 d_B_first_15 (by decide) (fun h => absurd h (by decide)) (fun _ => ?_)
        refine z_aload_n X 2 d_B_first_18 rfl rfl ?_
        refine z_get X fl_B_43 51 e_B rfl rfl d_B_first_19 ?_
        refine z_iload X 0 d_B_first_22 rfl ?_
        refine z_iald X 63 e_B_is rfl i rfl hi (by decide) d_B_first_24 ?_
        refine z_iconst X (v := 1) d_B_first_25 (by decide) ?_
        refine z_icmp_ne X 44 d_B_first_26 (by decide) (fun c_26 => ?_) (fun c_26 => ?_)
        · refine z_iconst X (v := 0) d_B_first_44 (by decide) ?_
          refine z_goto X 108 d_B_first_45 (by decide) ?_
          refine z_istore X (L' := [(5, zI 0), (4, zI (nI i)), (3, zI (-1)), (0, zR 51), (1, zI 0), (2, zI d)]) d_B_first_108 (by decide) rfl ?_
          refine z_iload X 0 d_B_first_110 rfl ?_
          refine z_if_ne X 118 d_B_first_112 (by decide) (fun h => absurd h (by decide)) (fun _ => ?_)
          refine z_goto X 173 d_B_first_115 (by decide) ?_
          refine z_iinc X 1 (v := nI (i + 1)) (L' := [(4, zI (nI (i + 1))), (5, zI 0), (3, zI (-1)), (0, zR 51), (1, zI 0), (2, zI d)]) d_B_first_173 rfl (nI_1 i) (by decide) rfl ?_
          refine z_goto X 5 d_B_first_176 (by decide) ?_
          exact z_keep (ks := [0, 2, 3, 4, 5]) (L' := [(4, zI (nI (i + 1))), (3, zI (-1)), (0, zR 51), (1, zI 0), (2, zI d)]) rfl (ih (i + 1) none (by omega) (fun j h => by cases h) ((mFst_no (P := mIsReady M d) (M := M) (i := i) (b := none) (fun q => c_26 q.1.1)).symm.trans hq))
        · refine z_aload_n X 2 d_B_first_29 rfl rfl ?_
          refine z_get X fl_B_22 51 e_B rfl rfl d_B_first_30 ?_
          refine z_iload X 0 d_B_first_33 rfl ?_
          refine z_iald X 56 e_B_partition rfl i rfl hi (by decide) d_B_first_35 ?_
          refine z_iload_n X 4 d_B_first_36 rfl rfl ?_
          refine z_icmp_ne X 44 d_B_first_37 (by decide) (fun c_37 => ?_) (fun c_37 => ?_)
          · refine z_iconst X (v := 0) d_B_first_44 (by decide) ?_
            refine z_goto X 108 d_B_first_45 (by decide) ?_
            refine z_istore X (L' := [(5, zI 0), (4, zI (nI i)), (3, zI (-1)), (0, zR 51), (1, zI 0), (2, zI d)]) d_B_first_108 (by decide) rfl ?_
            refine z_iload X 0 d_B_first_110 rfl ?_
            refine z_if_ne X 118 d_B_first_112 (by decide) (fun h => absurd h (by decide)) (fun _ => ?_)
            refine z_goto X 173 d_B_first_115 (by decide) ?_
            refine z_iinc X 1 (v := nI (i + 1)) (L' := [(4, zI (nI (i + 1))), (5, zI 0), (3, zI (-1)), (0, zR 51), (1, zI 0), (2, zI d)]) d_B_first_173 rfl (nI_1 i) (by decide) rfl ?_
            refine z_goto X 5 d_B_first_176 (by decide) ?_
            exact z_keep (ks := [0, 2, 3, 4, 5]) (L' := [(4, zI (nI (i + 1))), (3, zI (-1)), (0, zR 51), (1, zI 0), (2, zI d)]) rfl (ih (i + 1) none (by omega) (fun j h => by cases h) ((mFst_no (P := mIsReady M d) (M := M) (i := i) (b := none) (fun q => c_37 q.1.2)).symm.trans hq))
          · refine z_iconst X (v := 1) d_B_first_40 (by decide) ?_
            refine z_goto X 108 d_B_first_41 (by decide) ?_
            refine z_istore X (L' := [(5, zI 1), (4, zI (nI i)), (3, zI (-1)), (0, zR 51), (1, zI 0), (2, zI d)]) d_B_first_108 (by decide) rfl ?_
            refine z_iload X 0 d_B_first_110 rfl ?_
            refine z_if_ne X 118 d_B_first_112 (by decide) (fun _ => ?_) (fun h => absurd h (by decide))
            refine z_iload_n X 2 d_B_first_118 rfl rfl ?_
            refine z_if_lt X 170 d_B_first_119 (by decide) (fun _ => ?_) (fun h => absurd h (by decide))
            refine z_iload X 1 d_B_first_170 rfl ?_
            refine z_istore_n X (L' := [(3, zI (nI i)), (5, zI 1), (4, zI (nI i)), (0, zR 51), (1, zI 0), (2, zI d)]) d_B_first_172 rfl (by decide) rfl ?_
            refine z_iinc X 2 (v := nI (i + 1)) (L' := [(4, zI (nI (i + 1))), (3, zI (nI i)), (5, zI 1), (0, zR 51), (1, zI 0), (2, zI d)]) d_B_first_173 rfl (nI_1 i) (by decide) rfl ?_
            refine z_goto X 5 d_B_first_176 (by decide) ?_
            exact z_keep (ks := [0, 1, 3, 4, 5]) (L' := [(4, zI (nI (i + 1))), (3, zI (nI i)), (0, zR 51), (1, zI 0), (2, zI d)]) rfl (ih (i + 1) (some i) (by omega) (fun j h => by cases h; omega) ((mFst_yes (P := mIsReady M d) (M := M) (i := i) (b := none) ⟨⟨c_26, c_37⟩, trivial⟩).symm.trans hq))
      | some j =>
        have hj : j < 8 := by have := hb j rfl; omega
        refine z_iload X 0 d_B_first_5 rfl ?_
        refine z_aload_n X 2 d_B_first_7 rfl rfl ?_
        refine z_get X fl_B_97 51 e_B rfl rfl d_B_first_8 ?_
        refine z_icmp_ge X 179 d_B_first_11 (by decide) (fun c_11 => absurd c_11 (by rw [mInv_cnt hI]; exact nI_ge (by omega) (by omega))) (fun c_11 => ?_)
        refine z_iload_n X 3 d_B_first_14 rfl rfl ?_
        refine z_if_ne X 48 d_B_first_15 (by decide) (fun h => absurd h (by decide)) (fun _ => ?_)
        refine z_aload_n X 2 d_B_first_18 rfl rfl ?_
        refine z_get X fl_B_43 51 e_B rfl rfl d_B_first_19 ?_
        refine z_iload X 0 d_B_first_22 rfl ?_
        refine z_iald X 63 e_B_is rfl i rfl hi (by decide) d_B_first_24 ?_
        refine z_iconst X (v := 1) d_B_first_25 (by decide) ?_
        refine z_icmp_ne X 44 d_B_first_26 (by decide) (fun c_26 => ?_) (fun c_26 => ?_)
        · refine z_iconst X (v := 0) d_B_first_44 (by decide) ?_
          refine z_goto X 108 d_B_first_45 (by decide) ?_
          refine z_istore X (L' := [(5, zI 0), (4, zI (nI i)), (3, zI (nI j)), (0, zR 51), (1, zI 0), (2, zI d)]) d_B_first_108 (by decide) rfl ?_
          refine z_iload X 0 d_B_first_110 rfl ?_
          refine z_if_ne X 118 d_B_first_112 (by decide) (fun h => absurd h (by decide)) (fun _ => ?_)
          refine z_goto X 173 d_B_first_115 (by decide) ?_
          refine z_iinc X 1 (v := nI (i + 1)) (L' := [(4, zI (nI (i + 1))), (5, zI 0), (3, zI (nI j)), (0, zR 51), (1, zI 0), (2, zI d)]) d_B_first_173 rfl (nI_1 i) (by decide) rfl ?_
          refine z_goto X 5 d_B_first_176 (by decide) ?_
          exact z_keep (ks := [0, 2, 3, 4, 5]) (L' := [(4, zI (nI (i + 1))), (3, zI (nI j)), (0, zR 51), (1, zI 0), (2, zI d)]) rfl (ih (i + 1) (some j) (by omega) (fun j h => by have := hb j h; omega) ((mFst_no (P := mIsReady M d) (M := M) (i := i) (b := some j) (fun q => c_26 q.1.1)).symm.trans hq))
        · refine z_aload_n X 2 d_B_first_29 rfl rfl ?_
          refine z_get X fl_B_22 51 e_B rfl rfl d_B_first_30 ?_
          refine z_iload X 0 d_B_first_33 rfl ?_
          refine z_iald X 56 e_B_partition rfl i rfl hi (by decide) d_B_first_35 ?_
          refine z_iload_n X 4 d_B_first_36 rfl rfl ?_
          refine z_icmp_ne X 44 d_B_first_37 (by decide) (fun c_37 => ?_) (fun c_37 => ?_)
          · refine z_iconst X (v := 0) d_B_first_44 (by decide) ?_
            refine z_goto X 108 d_B_first_45 (by decide) ?_
            refine z_istore X (L' := [(5, zI 0), (4, zI (nI i)), (3, zI (nI j)), (0, zR 51), (1, zI 0), (2, zI d)]) d_B_first_108 (by decide) rfl ?_
            refine z_iload X 0 d_B_first_110 rfl ?_
            refine z_if_ne X 118 d_B_first_112 (by decide) (fun h => absurd h (by decide)) (fun _ => ?_)
            refine z_goto X 173 d_B_first_115 (by decide) ?_
            refine z_iinc X 1 (v := nI (i + 1)) (L' := [(4, zI (nI (i + 1))), (5, zI 0), (3, zI (nI j)), (0, zR 51), (1, zI 0), (2, zI d)]) d_B_first_173 rfl (nI_1 i) (by decide) rfl ?_
            refine z_goto X 5 d_B_first_176 (by decide) ?_
            exact z_keep (ks := [0, 2, 3, 4, 5]) (L' := [(4, zI (nI (i + 1))), (3, zI (nI j)), (0, zR 51), (1, zI 0), (2, zI d)]) rfl (ih (i + 1) (some j) (by omega) (fun j h => by have := hb j h; omega) ((mFst_no (P := mIsReady M d) (M := M) (i := i) (b := some j) (fun q => c_37 q.1.2)).symm.trans hq))
          · refine z_iconst X (v := 1) d_B_first_40 (by decide) ?_
            refine z_goto X 108 d_B_first_41 (by decide) ?_
            refine z_istore X (L' := [(5, zI 1), (4, zI (nI i)), (3, zI (nI j)), (0, zR 51), (1, zI 0), (2, zI d)]) d_B_first_108 (by decide) rfl ?_
            refine z_iload X 0 d_B_first_110 rfl ?_
            refine z_if_ne X 118 d_B_first_112 (by decide) (fun _ => ?_) (fun h => absurd h (by decide))
            refine z_iload_n X 2 d_B_first_118 rfl rfl ?_
            refine z_if_lt X 170 d_B_first_119 (by decide) (fun c_119 => absurd c_119 (nI_pos (by omega))) (fun c_119 => ?_)
            refine z_aload_n X 3 d_B_first_122 rfl rfl ?_
            refine z_get X fl_B_25 51 e_B rfl rfl d_B_first_123 ?_
            refine z_iload X 1 d_B_first_126 rfl ?_
            refine z_iald X 57 e_B_priority rfl i rfl hi (by decide) d_B_first_128 ?_
            refine z_aload_n X 3 d_B_first_129 rfl rfl ?_
            refine z_get X fl_B_25 51 e_B rfl rfl d_B_first_130 ?_
            refine z_iload_n X 2 d_B_first_133 rfl rfl ?_
            refine z_iald X 57 e_B_priority rfl j rfl hj (by decide) d_B_first_134 ?_
            refine z_icmp_gt X 170 d_B_first_135 (by decide) (fun c_135 => ?_) (fun c_135 => ?_)
            · refine z_iload X 1 d_B_first_170 rfl ?_
              refine z_istore_n X (L' := [(3, zI (nI i)), (5, zI 1), (4, zI (nI i)), (0, zR 51), (1, zI 0), (2, zI d)]) d_B_first_172 rfl (by decide) rfl ?_
              refine z_iinc X 2 (v := nI (i + 1)) (L' := [(4, zI (nI (i + 1))), (3, zI (nI i)), (5, zI 1), (0, zR 51), (1, zI 0), (2, zI d)]) d_B_first_173 rfl (nI_1 i) (by decide) rfl ?_
              refine z_goto X 5 d_B_first_176 (by decide) ?_
              exact z_keep (ks := [0, 1, 3, 4, 5]) (L' := [(4, zI (nI (i + 1))), (3, zI (nI i)), (0, zR 51), (1, zI 0), (2, zI d)]) rfl (ih (i + 1) (some i) (by omega) (fun j h => by cases h; omega) ((mFst_yes (P := mIsReady M d) (M := M) (i := i) (b := some j) ⟨⟨c_26, c_37⟩, Or.inl c_135⟩).symm.trans hq))
            · refine z_aload_n X 3 d_B_first_138 rfl rfl ?_
              refine z_get X fl_B_25 51 e_B rfl rfl d_B_first_139 ?_
              refine z_iload X 1 d_B_first_142 rfl ?_
              refine z_iald X 57 e_B_priority rfl i rfl hi (by decide) d_B_first_144 ?_
              refine z_aload_n X 3 d_B_first_145 rfl rfl ?_
              refine z_get X fl_B_25 51 e_B rfl rfl d_B_first_146 ?_
              refine z_iload_n X 2 d_B_first_149 rfl rfl ?_
              refine z_iald X 57 e_B_priority rfl j rfl hj (by decide) d_B_first_150 ?_
              refine z_icmp_ne X 173 d_B_first_151 (by decide) (fun c_151 => ?_) (fun c_151 => ?_)
              · refine z_iinc X 1 (v := nI (i + 1)) (L' := [(4, zI (nI (i + 1))), (5, zI 1), (3, zI (nI j)), (0, zR 51), (1, zI 0), (2, zI d)]) d_B_first_173 rfl (nI_1 i) (by decide) rfl ?_
                refine z_goto X 5 d_B_first_176 (by decide) ?_
                exact z_keep (ks := [0, 2, 3, 4, 5]) (L' := [(4, zI (nI (i + 1))), (3, zI (nI j)), (0, zR 51), (1, zI 0), (2, zI d)]) rfl (ih (i + 1) (some j) (by omega) (fun j h => by have := hb j h; omega) ((mFst_no (P := mIsReady M d) (M := M) (i := i) (b := some j) (fun q => q.2.elim c_135 (fun z => c_151 z.1))).symm.trans hq))
              · refine z_aload_n X 3 d_B_first_154 rfl rfl ?_
                refine z_get X fl_B_73 51 e_B rfl rfl d_B_first_155 ?_
                refine z_iload X 1 d_B_first_158 rfl ?_
                refine z_iald X 73 e_B_since rfl i rfl hi (by decide) d_B_first_160 ?_
                refine z_aload_n X 3 d_B_first_161 rfl rfl ?_
                refine z_get X fl_B_73 51 e_B rfl rfl d_B_first_162 ?_
                refine z_iload_n X 2 d_B_first_165 rfl rfl ?_
                refine z_iald X 73 e_B_since rfl j rfl hj (by decide) d_B_first_166 ?_
                refine z_icmp_ge X 173 d_B_first_167 (by decide) (fun c_167 => ?_) (fun c_167 => ?_)
                · refine z_iinc X 1 (v := nI (i + 1)) (L' := [(4, zI (nI (i + 1))), (5, zI 1), (3, zI (nI j)), (0, zR 51), (1, zI 0), (2, zI d)]) d_B_first_173 rfl (nI_1 i) (by decide) rfl ?_
                  refine z_goto X 5 d_B_first_176 (by decide) ?_
                  exact z_keep (ks := [0, 2, 3, 4, 5]) (L' := [(4, zI (nI (i + 1))), (3, zI (nI j)), (0, zR 51), (1, zI 0), (2, zI d)]) rfl (ih (i + 1) (some j) (by omega) (fun j h => by have := hb j h; omega) ((mFst_no (P := mIsReady M d) (M := M) (i := i) (b := some j) (fun q => q.2.elim c_135 (fun z => absurd z.2 (Int32.not_lt.mpr c_167)))).symm.trans hq))
                · refine z_iload X 1 d_B_first_170 rfl ?_
                  refine z_istore_n X (L' := [(3, zI (nI i)), (5, zI 1), (4, zI (nI i)), (0, zR 51), (1, zI 0), (2, zI d)]) d_B_first_172 rfl (by decide) rfl ?_
                  refine z_iinc X 2 (v := nI (i + 1)) (L' := [(4, zI (nI (i + 1))), (3, zI (nI i)), (5, zI 1), (0, zR 51), (1, zI 0), (2, zI d)]) d_B_first_173 rfl (nI_1 i) (by decide) rfl ?_
                  refine z_goto X 5 d_B_first_176 (by decide) ?_
                  exact z_keep (ks := [0, 1, 3, 4, 5]) (L' := [(4, zI (nI (i + 1))), (3, zI (nI i)), (0, zR 51), (1, zI 0), (2, zI d)]) rfl (ih (i + 1) (some i) (by omega) (fun j h => by cases h; omega) ((mFst_yes (P := mIsReady M d) (M := M) (i := i) (b := some j) ⟨⟨c_26, c_37⟩, Or.inr ⟨c_151, Int32.not_le.mp c_167⟩⟩).symm.trans hq))
  refine z_iconst X (v := (-1)) d_B_first_0 (by decide) ?_
  refine z_istore_n X (L' := [(3, zI (-1)), (0, zR 51), (1, zI 0), (2, zI d)]) d_B_first_1 rfl (by decide) rfl ?_
  refine z_iconst X (v := 0) d_B_first_2 (by decide) ?_
  refine z_istore X (L' := [(4, zI 0), (3, zI (-1)), (0, zR 51), (1, zI 0), (2, zI d)]) d_B_first_3 (by decide) rfl ?_
  exact loop n 0 none (by omega) (fun j h => by cases h) rfl

set_option maxHeartbeats 4000000 in
set_option maxRecDepth 100000 in
theorem c_B_first_W (l : Launch) (D : va_G) (cA : Nat → ClassId) (ad : Nat → Nat) (M : zM) (n w : Nat) (hI : mInv n w M) (a : Int32) (ha0 : ¬ a = 0) (d : Int32) : Ci l D cA ad y_B_first b_B_first 6 (some (.int)) (zr 0 0) [zR 51, zI a, zI d] M (fun r M' => M' = M ∧ r = mEnc (mFW n a d M)) := by
  refine zMi_of (plainFor_of_name (by decide)) (Nat.le_of_ble_eq_true rfl) ?_
  intro p e s m args below meth c A X
  have hn := mInv_n hI
  have loop : ∀ (k i : Nat) (b : Option Nat), i + k = n → (∀ j, b = some j → j < i) → mFst (mWaits M a d) M k i b = mFW n a d M → zW p l e (zr 0 0) s m args below meth c 0 0 (MQ below (va_Qi (fun r M' => M' = M ∧ r = mEnc (mFW n a d M)) (fun M' t => va_P D cls (z_w cA ad M' 0 EE) t.heap) A) args s 0 0 A) A D cls cA ad EE 6 M 5 [(4, zI (nI i)), (3, zI (mEnc b)), (0, zR 51), (1, zI a), (2, zI d)] [] := by
    intro k
    induction k with
    | zero =>
      intro i b hk hb hq
      refine z_iload X 0 d_B_first_5 rfl ?_
      refine z_aload_n X 2 d_B_first_7 rfl rfl ?_
      refine z_get X fl_B_97 51 e_B rfl rfl d_B_first_8 ?_
      refine z_icmp_ge X 179 d_B_first_11 (by decide) (fun c_11 => ?_) (fun c_11 => absurd (by rw [mInv_cnt hI, show i = n by omega]; exact nI_le (Nat.le_refl _) (by omega)) c_11)
      refine z_iload_n X 1 d_B_first_179 rfl rfl ?_
      exact z_iret X (⟨rfl, by rw [← hq]; rfl⟩) d_B_first_180
    | succ k ih =>
      intro i b hk hb hq
      have hi : i < 8 := by omega
      cases b with
      | none =>
        refine z_iload X 0 d_B_first_5 rfl ?_
        refine z_aload_n X 2 d_B_first_7 rfl rfl ?_
        refine z_get X fl_B_97 51 e_B rfl rfl d_B_first_8 ?_
        refine z_icmp_ge X 179 d_B_first_11 (by decide) (fun c_11 => absurd c_11 (by rw [mInv_cnt hI]; exact nI_ge (by omega) (by omega))) (fun c_11 => ?_)
        refine z_iload_n X 3 d_B_first_14 rfl rfl ?_
        refine z_if_ne X 48 d_B_first_15 (by decide) (fun c_15 => ?_) (fun c_15 => absurd c_15 (ha0))
        refine z_aload_n X 2 d_B_first_48 rfl rfl ?_
        refine z_get X fl_B_43 51 e_B rfl rfl d_B_first_49 ?_
        refine z_iload X 0 d_B_first_52 rfl ?_
        refine z_iald X 63 e_B_is rfl i rfl hi (by decide) d_B_first_54 ?_
        refine z_iconst X (v := 2) d_B_first_55 (by decide) ?_
        refine z_icmp_ne X 107 d_B_first_56 (by decide) (fun c_56 => ?_) (fun c_56 => ?_)
        · refine z_iconst X (v := 0) d_B_first_107 (by decide) ?_
          refine z_istore X (L' := [(5, zI 0), (4, zI (nI i)), (3, zI (-1)), (0, zR 51), (1, zI a), (2, zI d)]) d_B_first_108 (by decide) rfl ?_
          refine z_iload X 0 d_B_first_110 rfl ?_
          refine z_if_ne X 118 d_B_first_112 (by decide) (fun h => absurd h (by decide)) (fun _ => ?_)
          refine z_goto X 173 d_B_first_115 (by decide) ?_
          refine z_iinc X 1 (v := nI (i + 1)) (L' := [(4, zI (nI (i + 1))), (5, zI 0), (3, zI (-1)), (0, zR 51), (1, zI a), (2, zI d)]) d_B_first_173 rfl (nI_1 i) (by decide) rfl ?_
          refine z_goto X 5 d_B_first_176 (by decide) ?_
          exact z_keep (ks := [0, 2, 3, 4, 5]) (L' := [(4, zI (nI (i + 1))), (3, zI (-1)), (0, zR 51), (1, zI a), (2, zI d)]) rfl (ih (i + 1) none (by omega) (fun j h => by cases h) ((mFst_no (P := mWaits M a d) (M := M) (i := i) (b := none) (fun q => c_56 q.1.1)).symm.trans hq))
        · refine z_aload_n X 2 d_B_first_59 rfl rfl ?_
          refine z_get X fl_B_37 51 e_B rfl rfl d_B_first_60 ?_
          refine z_bipush X (v := 8) d_B_first_63 (by decide) ?_
          refine z_iload X 0 d_B_first_65 rfl ?_
          refine z_imul X d_B_first_67 ?_
          refine z_aload_n X 2 d_B_first_68 rfl rfl ?_
          refine z_get X fl_B_46 51 e_B rfl rfl d_B_first_69 ?_
          refine z_iload X 0 d_B_first_72 rfl ?_
          refine z_iald X 64 e_B_at rfl i rfl hi (by decide) d_B_first_74 ?_
          refine z_iadd X d_B_first_75 ?_
          refine z_iald X 61 e_B_order rfl (8 * i + mAt M i) (mIx_eq hI hi) (mIx_lt hI hi) (by decide) d_B_first_76 ?_
          refine z_iload_n X 3 d_B_first_77 rfl rfl ?_
          refine z_icmp_ne X 107 d_B_first_78 (by decide) (fun c_78 => ?_) (fun c_78 => ?_)
          · refine z_iconst X (v := 0) d_B_first_107 (by decide) ?_
            refine z_istore X (L' := [(5, zI 0), (4, zI (nI i)), (3, zI (-1)), (0, zR 51), (1, zI a), (2, zI d)]) d_B_first_108 (by decide) rfl ?_
            refine z_iload X 0 d_B_first_110 rfl ?_
            refine z_if_ne X 118 d_B_first_112 (by decide) (fun h => absurd h (by decide)) (fun _ => ?_)
            refine z_goto X 173 d_B_first_115 (by decide) ?_
            refine z_iinc X 1 (v := nI (i + 1)) (L' := [(4, zI (nI (i + 1))), (5, zI 0), (3, zI (-1)), (0, zR 51), (1, zI a), (2, zI d)]) d_B_first_173 rfl (nI_1 i) (by decide) rfl ?_
            refine z_goto X 5 d_B_first_176 (by decide) ?_
            exact z_keep (ks := [0, 2, 3, 4, 5]) (L' := [(4, zI (nI (i + 1))), (3, zI (-1)), (0, zR 51), (1, zI a), (2, zI d)]) rfl (ih (i + 1) none (by omega) (fun j h => by cases h) ((mFst_no (P := mWaits M a d) (M := M) (i := i) (b := none) (fun q => c_78 q.1.2.1)).symm.trans hq))
          · refine z_aload_n X 2 d_B_first_81 rfl rfl ?_
            refine z_get X fl_B_40 51 e_B rfl rfl d_B_first_82 ?_
            refine z_bipush X (v := 8) d_B_first_85 (by decide) ?_
            refine z_iload X 0 d_B_first_87 rfl ?_
            refine z_imul X d_B_first_89 ?_
            refine z_aload_n X 2 d_B_first_90 rfl rfl ?_
            refine z_get X fl_B_46 51 e_B rfl rfl d_B_first_91 ?_
            refine z_iload X 0 d_B_first_94 rfl ?_
            refine z_iald X 64 e_B_at rfl i rfl hi (by decide) d_B_first_96 ?_
            refine z_iadd X d_B_first_97 ?_
            refine z_iald X 62 e_B_number rfl (8 * i + mAt M i) (mIx_eq hI hi) (mIx_lt hI hi) (by decide) d_B_first_98 ?_
            refine z_iload_n X 4 d_B_first_99 rfl rfl ?_
            refine z_icmp_ne X 107 d_B_first_100 (by decide) (fun c_100 => ?_) (fun c_100 => ?_)
            · refine z_iconst X (v := 0) d_B_first_107 (by decide) ?_
              refine z_istore X (L' := [(5, zI 0), (4, zI (nI i)), (3, zI (-1)), (0, zR 51), (1, zI a), (2, zI d)]) d_B_first_108 (by decide) rfl ?_
              refine z_iload X 0 d_B_first_110 rfl ?_
              refine z_if_ne X 118 d_B_first_112 (by decide) (fun h => absurd h (by decide)) (fun _ => ?_)
              refine z_goto X 173 d_B_first_115 (by decide) ?_
              refine z_iinc X 1 (v := nI (i + 1)) (L' := [(4, zI (nI (i + 1))), (5, zI 0), (3, zI (-1)), (0, zR 51), (1, zI a), (2, zI d)]) d_B_first_173 rfl (nI_1 i) (by decide) rfl ?_
              refine z_goto X 5 d_B_first_176 (by decide) ?_
              exact z_keep (ks := [0, 2, 3, 4, 5]) (L' := [(4, zI (nI (i + 1))), (3, zI (-1)), (0, zR 51), (1, zI a), (2, zI d)]) rfl (ih (i + 1) none (by omega) (fun j h => by cases h) ((mFst_no (P := mWaits M a d) (M := M) (i := i) (b := none) (fun q => c_100 q.1.2.2)).symm.trans hq))
            · refine z_iconst X (v := 1) d_B_first_103 (by decide) ?_
              refine z_goto X 108 d_B_first_104 (by decide) ?_
              refine z_istore X (L' := [(5, zI 1), (4, zI (nI i)), (3, zI (-1)), (0, zR 51), (1, zI a), (2, zI d)]) d_B_first_108 (by decide) rfl ?_
              refine z_iload X 0 d_B_first_110 rfl ?_
              refine z_if_ne X 118 d_B_first_112 (by decide) (fun _ => ?_) (fun h => absurd h (by decide))
              refine z_iload_n X 2 d_B_first_118 rfl rfl ?_
              refine z_if_lt X 170 d_B_first_119 (by decide) (fun _ => ?_) (fun h => absurd h (by decide))
              refine z_iload X 1 d_B_first_170 rfl ?_
              refine z_istore_n X (L' := [(3, zI (nI i)), (5, zI 1), (4, zI (nI i)), (0, zR 51), (1, zI a), (2, zI d)]) d_B_first_172 rfl (by decide) rfl ?_
              refine z_iinc X 2 (v := nI (i + 1)) (L' := [(4, zI (nI (i + 1))), (3, zI (nI i)), (5, zI 1), (0, zR 51), (1, zI a), (2, zI d)]) d_B_first_173 rfl (nI_1 i) (by decide) rfl ?_
              refine z_goto X 5 d_B_first_176 (by decide) ?_
              exact z_keep (ks := [0, 1, 3, 4, 5]) (L' := [(4, zI (nI (i + 1))), (3, zI (nI i)), (0, zR 51), (1, zI a), (2, zI d)]) rfl (ih (i + 1) (some i) (by omega) (fun j h => by cases h; omega) ((mFst_yes (P := mWaits M a d) (M := M) (i := i) (b := none) ⟨⟨c_56, c_78, c_100⟩, trivial⟩).symm.trans hq))
      | some j =>
        have hj : j < 8 := by have := hb j rfl; omega
        refine z_iload X 0 d_B_first_5 rfl ?_
        refine z_aload_n X 2 d_B_first_7 rfl rfl ?_
        refine z_get X fl_B_97 51 e_B rfl rfl d_B_first_8 ?_
        refine z_icmp_ge X 179 d_B_first_11 (by decide) (fun c_11 => absurd c_11 (by rw [mInv_cnt hI]; exact nI_ge (by omega) (by omega))) (fun c_11 => ?_)
        refine z_iload_n X 3 d_B_first_14 rfl rfl ?_
        refine z_if_ne X 48 d_B_first_15 (by decide) (fun c_15 => ?_) (fun c_15 => absurd c_15 (ha0))
        refine z_aload_n X 2 d_B_first_48 rfl rfl ?_
        refine z_get X fl_B_43 51 e_B rfl rfl d_B_first_49 ?_
        refine z_iload X 0 d_B_first_52 rfl ?_
        refine z_iald X 63 e_B_is rfl i rfl hi (by decide) d_B_first_54 ?_
        refine z_iconst X (v := 2) d_B_first_55 (by decide) ?_
        refine z_icmp_ne X 107 d_B_first_56 (by decide) (fun c_56 => ?_) (fun c_56 => ?_)
        · refine z_iconst X (v := 0) d_B_first_107 (by decide) ?_
          refine z_istore X (L' := [(5, zI 0), (4, zI (nI i)), (3, zI (nI j)), (0, zR 51), (1, zI a), (2, zI d)]) d_B_first_108 (by decide) rfl ?_
          refine z_iload X 0 d_B_first_110 rfl ?_
          refine z_if_ne X 118 d_B_first_112 (by decide) (fun h => absurd h (by decide)) (fun _ => ?_)
          refine z_goto X 173 d_B_first_115 (by decide) ?_
          refine z_iinc X 1 (v := nI (i + 1)) (L' := [(4, zI (nI (i + 1))), (5, zI 0), (3, zI (nI j)), (0, zR 51), (1, zI a), (2, zI d)]) d_B_first_173 rfl (nI_1 i) (by decide) rfl ?_
          refine z_goto X 5 d_B_first_176 (by decide) ?_
          exact z_keep (ks := [0, 2, 3, 4, 5]) (L' := [(4, zI (nI (i + 1))), (3, zI (nI j)), (0, zR 51), (1, zI a), (2, zI d)]) rfl (ih (i + 1) (some j) (by omega) (fun j h => by have := hb j h; omega) ((mFst_no (P := mWaits M a d) (M := M) (i := i) (b := some j) (fun q => c_56 q.1.1)).symm.trans hq))
        · refine z_aload_n X 2 d_B_first_59 rfl rfl ?_
          refine z_get X fl_B_37 51 e_B rfl rfl d_B_first_60 ?_
          refine z_bipush X (v := 8) d_B_first_63 (by decide) ?_
          refine z_iload X 0 d_B_first_65 rfl ?_
          refine z_imul X d_B_first_67 ?_
          refine z_aload_n X 2 d_B_first_68 rfl rfl ?_
          refine z_get X fl_B_46 51 e_B rfl rfl d_B_first_69 ?_
          refine z_iload X 0 d_B_first_72 rfl ?_
          refine z_iald X 64 e_B_at rfl i rfl hi (by decide) d_B_first_74 ?_
          refine z_iadd X d_B_first_75 ?_
          refine z_iald X 61 e_B_order rfl (8 * i + mAt M i) (mIx_eq hI hi) (mIx_lt hI hi) (by decide) d_B_first_76 ?_
          refine z_iload_n X 3 d_B_first_77 rfl rfl ?_
          refine z_icmp_ne X 107 d_B_first_78 (by decide) (fun c_78 => ?_) (fun c_78 => ?_)
          · refine z_iconst X (v := 0) d_B_first_107 (by decide) ?_
            refine z_istore X (L' := [(5, zI 0), (4, zI (nI i)), (3, zI (nI j)), (0, zR 51), (1, zI a), (2, zI d)]) d_B_first_108 (by decide) rfl ?_
            refine z_iload X 0 d_B_first_110 rfl ?_
            refine z_if_ne X 118 d_B_first_112 (by decide) (fun h => absurd h (by decide)) (fun _ => ?_)
            refine z_goto X 173 d_B_first_115 (by decide) ?_
            refine z_iinc X 1 (v := nI (i + 1)) (L' := [(4, zI (nI (i + 1))), (5, zI 0), (3, zI (nI j)), (0, zR 51), (1, zI a), (2, zI d)]) d_B_first_173 rfl (nI_1 i) (by decide) rfl ?_
            refine z_goto X 5 d_B_first_176 (by decide) ?_
            exact z_keep (ks := [0, 2, 3, 4, 5]) (L' := [(4, zI (nI (i + 1))), (3, zI (nI j)), (0, zR 51), (1, zI a), (2, zI d)]) rfl (ih (i + 1) (some j) (by omega) (fun j h => by have := hb j h; omega) ((mFst_no (P := mWaits M a d) (M := M) (i := i) (b := some j) (fun q => c_78 q.1.2.1)).symm.trans hq))
          · refine z_aload_n X 2 d_B_first_81 rfl rfl ?_
            refine z_get X fl_B_40 51 e_B rfl rfl d_B_first_82 ?_
            refine z_bipush X (v := 8) d_B_first_85 (by decide) ?_
            refine z_iload X 0 d_B_first_87 rfl ?_
            refine z_imul X d_B_first_89 ?_
            refine z_aload_n X 2 d_B_first_90 rfl rfl ?_
            refine z_get X fl_B_46 51 e_B rfl rfl d_B_first_91 ?_
            refine z_iload X 0 d_B_first_94 rfl ?_
            refine z_iald X 64 e_B_at rfl i rfl hi (by decide) d_B_first_96 ?_
            refine z_iadd X d_B_first_97 ?_
            refine z_iald X 62 e_B_number rfl (8 * i + mAt M i) (mIx_eq hI hi) (mIx_lt hI hi) (by decide) d_B_first_98 ?_
            refine z_iload_n X 4 d_B_first_99 rfl rfl ?_
            refine z_icmp_ne X 107 d_B_first_100 (by decide) (fun c_100 => ?_) (fun c_100 => ?_)
            · refine z_iconst X (v := 0) d_B_first_107 (by decide) ?_
              refine z_istore X (L' := [(5, zI 0), (4, zI (nI i)), (3, zI (nI j)), (0, zR 51), (1, zI a), (2, zI d)]) d_B_first_108 (by decide) rfl ?_
              refine z_iload X 0 d_B_first_110 rfl ?_
              refine z_if_ne X 118 d_B_first_112 (by decide) (fun h => absurd h (by decide)) (fun _ => ?_)
              refine z_goto X 173 d_B_first_115 (by decide) ?_
              refine z_iinc X 1 (v := nI (i + 1)) (L' := [(4, zI (nI (i + 1))), (5, zI 0), (3, zI (nI j)), (0, zR 51), (1, zI a), (2, zI d)]) d_B_first_173 rfl (nI_1 i) (by decide) rfl ?_
              refine z_goto X 5 d_B_first_176 (by decide) ?_
              exact z_keep (ks := [0, 2, 3, 4, 5]) (L' := [(4, zI (nI (i + 1))), (3, zI (nI j)), (0, zR 51), (1, zI a), (2, zI d)]) rfl (ih (i + 1) (some j) (by omega) (fun j h => by have := hb j h; omega) ((mFst_no (P := mWaits M a d) (M := M) (i := i) (b := some j) (fun q => c_100 q.1.2.2)).symm.trans hq))
            · refine z_iconst X (v := 1) d_B_first_103 (by decide) ?_
              refine z_goto X 108 d_B_first_104 (by decide) ?_
              refine z_istore X (L' := [(5, zI 1), (4, zI (nI i)), (3, zI (nI j)), (0, zR 51), (1, zI a), (2, zI d)]) d_B_first_108 (by decide) rfl ?_
              refine z_iload X 0 d_B_first_110 rfl ?_
              refine z_if_ne X 118 d_B_first_112 (by decide) (fun _ => ?_) (fun h => absurd h (by decide))
              refine z_iload_n X 2 d_B_first_118 rfl rfl ?_
              refine z_if_lt X 170 d_B_first_119 (by decide) (fun c_119 => absurd c_119 (nI_pos (by omega))) (fun c_119 => ?_)
              refine z_aload_n X 3 d_B_first_122 rfl rfl ?_
              refine z_get X fl_B_25 51 e_B rfl rfl d_B_first_123 ?_
              refine z_iload X 1 d_B_first_126 rfl ?_
              refine z_iald X 57 e_B_priority rfl i rfl hi (by decide) d_B_first_128 ?_
              refine z_aload_n X 3 d_B_first_129 rfl rfl ?_
              refine z_get X fl_B_25 51 e_B rfl rfl d_B_first_130 ?_
              refine z_iload_n X 2 d_B_first_133 rfl rfl ?_
              refine z_iald X 57 e_B_priority rfl j rfl hj (by decide) d_B_first_134 ?_
              refine z_icmp_gt X 170 d_B_first_135 (by decide) (fun c_135 => ?_) (fun c_135 => ?_)
              · refine z_iload X 1 d_B_first_170 rfl ?_
                refine z_istore_n X (L' := [(3, zI (nI i)), (5, zI 1), (4, zI (nI i)), (0, zR 51), (1, zI a), (2, zI d)]) d_B_first_172 rfl (by decide) rfl ?_
                refine z_iinc X 2 (v := nI (i + 1)) (L' := [(4, zI (nI (i + 1))), (3, zI (nI i)), (5, zI 1), (0, zR 51), (1, zI a), (2, zI d)]) d_B_first_173 rfl (nI_1 i) (by decide) rfl ?_
                refine z_goto X 5 d_B_first_176 (by decide) ?_
                exact z_keep (ks := [0, 1, 3, 4, 5]) (L' := [(4, zI (nI (i + 1))), (3, zI (nI i)), (0, zR 51), (1, zI a), (2, zI d)]) rfl (ih (i + 1) (some i) (by omega) (fun j h => by cases h; omega) ((mFst_yes (P := mWaits M a d) (M := M) (i := i) (b := some j) ⟨⟨c_56, c_78, c_100⟩, Or.inl c_135⟩).symm.trans hq))
              · refine z_aload_n X 3 d_B_first_138 rfl rfl ?_
                refine z_get X fl_B_25 51 e_B rfl rfl d_B_first_139 ?_
                refine z_iload X 1 d_B_first_142 rfl ?_
                refine z_iald X 57 e_B_priority rfl i rfl hi (by decide) d_B_first_144 ?_
                refine z_aload_n X 3 d_B_first_145 rfl rfl ?_
                refine z_get X fl_B_25 51 e_B rfl rfl d_B_first_146 ?_
                refine z_iload_n X 2 d_B_first_149 rfl rfl ?_
                refine z_iald X 57 e_B_priority rfl j rfl hj (by decide) d_B_first_150 ?_
                refine z_icmp_ne X 173 d_B_first_151 (by decide) (fun c_151 => ?_) (fun c_151 => ?_)
                · refine z_iinc X 1 (v := nI (i + 1)) (L' := [(4, zI (nI (i + 1))), (5, zI 1), (3, zI (nI j)), (0, zR 51), (1, zI a), (2, zI d)]) d_B_first_173 rfl (nI_1 i) (by decide) rfl ?_
                  refine z_goto X 5 d_B_first_176 (by decide) ?_
                  exact z_keep (ks := [0, 2, 3, 4, 5]) (L' := [(4, zI (nI (i + 1))), (3, zI (nI j)), (0, zR 51), (1, zI a), (2, zI d)]) rfl (ih (i + 1) (some j) (by omega) (fun j h => by have := hb j h; omega) ((mFst_no (P := mWaits M a d) (M := M) (i := i) (b := some j) (fun q => q.2.elim c_135 (fun z => c_151 z.1))).symm.trans hq))
                · refine z_aload_n X 3 d_B_first_154 rfl rfl ?_
                  refine z_get X fl_B_73 51 e_B rfl rfl d_B_first_155 ?_
                  refine z_iload X 1 d_B_first_158 rfl ?_
                  refine z_iald X 73 e_B_since rfl i rfl hi (by decide) d_B_first_160 ?_
                  refine z_aload_n X 3 d_B_first_161 rfl rfl ?_
                  refine z_get X fl_B_73 51 e_B rfl rfl d_B_first_162 ?_
                  refine z_iload_n X 2 d_B_first_165 rfl rfl ?_
                  refine z_iald X 73 e_B_since rfl j rfl hj (by decide) d_B_first_166 ?_
                  refine z_icmp_ge X 173 d_B_first_167 (by decide) (fun c_167 => ?_) (fun c_167 => ?_)
                  · refine z_iinc X 1 (v := nI (i + 1)) (L' := [(4, zI (nI (i + 1))), (5, zI 1), (3, zI (nI j)), (0, zR 51), (1, zI a), (2, zI d)]) d_B_first_173 rfl (nI_1 i) (by decide) rfl ?_
                    refine z_goto X 5 d_B_first_176 (by decide) ?_
                    exact z_keep (ks := [0, 2, 3, 4, 5]) (L' := [(4, zI (nI (i + 1))), (3, zI (nI j)), (0, zR 51), (1, zI a), (2, zI d)]) rfl (ih (i + 1) (some j) (by omega) (fun j h => by have := hb j h; omega) ((mFst_no (P := mWaits M a d) (M := M) (i := i) (b := some j) (fun q => q.2.elim c_135 (fun z => absurd z.2 (Int32.not_lt.mpr c_167)))).symm.trans hq))
                  · refine z_iload X 1 d_B_first_170 rfl ?_
                    refine z_istore_n X (L' := [(3, zI (nI i)), (5, zI 1), (4, zI (nI i)), (0, zR 51), (1, zI a), (2, zI d)]) d_B_first_172 rfl (by decide) rfl ?_
                    refine z_iinc X 2 (v := nI (i + 1)) (L' := [(4, zI (nI (i + 1))), (3, zI (nI i)), (5, zI 1), (0, zR 51), (1, zI a), (2, zI d)]) d_B_first_173 rfl (nI_1 i) (by decide) rfl ?_
                    refine z_goto X 5 d_B_first_176 (by decide) ?_
                    exact z_keep (ks := [0, 1, 3, 4, 5]) (L' := [(4, zI (nI (i + 1))), (3, zI (nI i)), (0, zR 51), (1, zI a), (2, zI d)]) rfl (ih (i + 1) (some i) (by omega) (fun j h => by cases h; omega) ((mFst_yes (P := mWaits M a d) (M := M) (i := i) (b := some j) ⟨⟨c_56, c_78, c_100⟩, Or.inr ⟨c_151, Int32.not_le.mp c_167⟩⟩).symm.trans hq))
  refine z_iconst X (v := (-1)) d_B_first_0 (by decide) ?_
  refine z_istore_n X (L' := [(3, zI (-1)), (0, zR 51), (1, zI a), (2, zI d)]) d_B_first_1 rfl (by decide) rfl ?_
  refine z_iconst X (v := 0) d_B_first_2 (by decide) ?_
  refine z_istore X (L' := [(4, zI 0), (3, zI (-1)), (0, zR 51), (1, zI a), (2, zI d)]) d_B_first_3 (by decide) rfl ?_
  exact loop n 0 none (by omega) (fun j h => by cases h) rfl

set_option maxHeartbeats 4000000 in
set_option maxRecDepth 100000 in
theorem c_B_send (l : Launch) (D : va_G) (cA : Nat → ClassId) (ad : Nat → Nat) (M : zM) (n w : Nat) (hI : mInv n w M) (x : Int32) (k : Nat) (hk : k < 8) (ex : x = nI k) (y : Int32) (q : Nat) (hq : q < 4) (ey : y = nI q) : Cv l D cA ad y_B_send b_B_send 5 none (zr 3 63) [zR 51, zI x, zI y] M (fun M' => M' = mSend n k q M) := by
  refine zMv_of (plainFor_of_name (by decide)) (Nat.le_of_ble_eq_true rfl) ?_
  intro p e s m args below meth c A X
  subst ex
  subst ey
  refine z_iload_n X 1 d_B_send_0 rfl rfl ?_
  refine z_bipush X (v := 8) d_B_send_1 (by decide) ?_
  refine z_aload_n X 0 d_B_send_3 rfl rfl ?_
  refine z_get X fl_B_52 51 e_B rfl rfl d_B_send_4 ?_
  refine z_iload_n X 1 d_B_send_7 rfl rfl ?_
  refine z_iald X 66 e_B_rounds rfl k rfl hk (by decide) d_B_send_8 ?_
  refine z_imul X d_B_send_9 ?_
  refine z_iadd X d_B_send_10 ?_
  refine z_istore_n X (L' := [(3, zI ((nI k) + (8 * (M.1 66 k)))), (0, zR 51), (1, zI (nI k)), (2, zI (nI q))]) d_B_send_11 rfl (by decide) rfl ?_
  refine z_aload_n X 1 d_B_send_12 rfl rfl ?_
  refine z_iconst X (v := 2) d_B_send_13 (by decide) ?_
  refine z_iload_n X 3 d_B_send_14 rfl rfl ?_
  refine z_Vi X GG_ok cf_B_120 51 [zI 2, zI (nI q)] [] (c_B_first_W l D cA ad _ n w hI _ (by decide) _) ⟨rfl, rfl⟩ (by decide) e_B rfl rfl rfl rfl (Nat.le_of_ble_eq_true rfl) ⟨Nat.zero_le _, Nat.zero_le _⟩ d_B_send_15 (fun r1 M2 h3 => ?_)
  have qh3 := h3.1.symm
  subst qh3
  obtain ⟨-, rfl⟩ := h3
  rcases hF : mFW n 2 (nI q) M with _ | j
  · refine z_istore X (L' := [(4, zI (-1)), (3, zI ((nI k) + (8 * (M.1 66 k)))), (0, zR 51), (1, zI (nI k)), (2, zI (nI q))]) d_B_send_18 (by decide) rfl ?_
    refine z_iload X 0 d_B_send_20 rfl ?_
    refine z_if_lt X 42 d_B_send_22 (by decide) (fun _ => ?_) (fun h => absurd h (by decide))
    refine z_aload_n X 2 d_B_send_42 rfl rfl ?_
    refine z_get X fl_B_79 51 e_B rfl rfl d_B_send_43 ?_
    refine z_iload_n X 4 d_B_send_46 rfl rfl ?_
    refine z_iald X 75 e_B_messages rfl q rfl hq (by decide) d_B_send_47 ?_
    refine z_iconst X (v := 4) d_B_send_48 (by decide) ?_
    refine z_icmp_ne X 65 d_B_send_49 (by decide) (fun c_49 => ?_) (fun c_49 => ?_)
    · refine z_aload_n X 2 d_B_send_65 rfl rfl ?_
      refine z_get X fl_B_76 51 e_B rfl rfl d_B_send_66 ?_
      refine z_iconst X (v := 4) d_B_send_69 (by decide) ?_
      refine z_iload_n X 4 d_B_send_70 rfl rfl ?_
      refine z_imul X d_B_send_71 ?_
      refine z_aload_n X 2 d_B_send_72 rfl rfl ?_
      refine z_get X fl_B_79 51 e_B rfl rfl d_B_send_73 ?_
      refine z_iload_n X 4 d_B_send_76 rfl rfl ?_
      refine z_iald X 75 e_B_messages rfl q rfl hq (by decide) d_B_send_77 ?_
      refine z_iadd X d_B_send_78 ?_
      refine z_iload_n X 1 d_B_send_79 rfl rfl ?_
      refine z_iast X 74 e_B_message rfl (4 * q + mSz M q) (by rw [mSz_eq hI hq, show (4 : Int32) = nI 4 from rfl, pk_mul, nI_add]) (by have := mSz_lt hI hq c_49; omega) (by decide) d_B_send_80 ?_
      refine z_aload_n X 2 d_B_send_81 rfl rfl ?_
      refine z_get X fl_B_79 51 e_B rfl rfl d_B_send_82 ?_
      refine z_iload_n X 4 d_B_send_85 rfl rfl ?_
      refine z_dup2 X d_B_send_86 rfl rfl ?_
      refine z_iald X 75 e_B_messages rfl q rfl hq (by decide) d_B_send_87 ?_
      refine z_iconst X (v := 1) d_B_send_88 (by decide) ?_
      refine z_iadd X d_B_send_89 ?_
      refine z_iast X 75 e_B_messages rfl q rfl hq (by decide) d_B_send_90 ?_
      refine z_aload_n X 2 d_B_send_91 rfl rfl ?_
      refine z_iload_n X 3 d_B_send_92 rfl rfl ?_
      refine z_Vv X GG_ok cf_B_117 51 [zI (nI k)] [] (c_B_advance l D cA ad _ _ k hk rfl ) ⟨rfl, rfl⟩ (by decide) e_B rfl rfl rfl rfl (Nat.le_of_ble_eq_true rfl) ⟨Nat.zero_le _, Nat.zero_le _⟩ d_B_send_93 (fun M5 h6 => ?_)
      have qh6 := h6.symm
      subst qh6
      exact z_vret X (by unfold mSend mSend0; rw [hF]; simp only [c_49, if_true, if_false]; try unfold mPut mMsg; try rw [z_si_row _ _ _ (show (75 : Nat) ≠ 74 by decide), mSz_eq hI hq, nI_1]) d_B_send_96
    · refine z_aload_n X 2 d_B_send_52 rfl rfl ?_
      refine z_dup X d_B_send_53 rfl ?_
      refine z_get X fl_B_127 51 e_B rfl rfl d_B_send_54 ?_
      refine z_iconst X (v := 1) d_B_send_57 (by decide) ?_
      refine z_iadd X d_B_send_58 ?_
      refine z_puti X fl_B_127 51 e_B rfl rfl rfl d_B_send_59 ?_
      refine z_goto X 91 d_B_send_62 (by decide) ?_
      refine z_aload_n X 2 d_B_send_91 rfl rfl ?_
      refine z_iload_n X 3 d_B_send_92 rfl rfl ?_
      refine z_Vv X GG_ok cf_B_117 51 [zI (nI k)] [] (c_B_advance l D cA ad _ _ k hk rfl ) ⟨rfl, rfl⟩ (by decide) e_B rfl rfl rfl rfl (Nat.le_of_ble_eq_true rfl) ⟨Nat.zero_le _, Nat.zero_le _⟩ d_B_send_93 (fun M8 h9 => ?_)
      have qh9 := h9.symm
      subst qh9
      exact z_vret X (by unfold mSend mSend0; rw [hF]; simp only [c_49, if_true, if_false]; try unfold mPut mMsg; try rw [z_si_row _ _ _ (show (75 : Nat) ≠ 74 by decide), mSz_eq hI hq, nI_1]) d_B_send_96
  · have hj : j < 8 := Nat.lt_of_lt_of_le (mFW_lt hF) (mInv_n hI)
    refine z_istore X (L' := [(4, zI (nI j)), (3, zI ((nI k) + (8 * (M.1 66 k)))), (0, zR 51), (1, zI (nI k)), (2, zI (nI q))]) d_B_send_18 (by decide) rfl ?_
    refine z_iload X 0 d_B_send_20 rfl ?_
    refine z_if_lt X 42 d_B_send_22 (by decide) (fun c_22_10 => absurd c_22_10 (nI_pos (by omega))) (fun c_22_10 => ?_)
    refine z_aload_n X 2 d_B_send_25 rfl rfl ?_
    refine z_get X fl_B_67 51 e_B rfl rfl d_B_send_26 ?_
    refine z_iload X 0 d_B_send_29 rfl ?_
    refine z_iload_n X 1 d_B_send_31 rfl rfl ?_
    refine z_iast X 71 e_B_letter rfl j rfl hj (by decide) d_B_send_32 ?_
    refine z_aload_n X 2 d_B_send_33 rfl rfl ?_
    refine z_iload X 0 d_B_send_34 rfl ?_
    refine z_Vv X GG_ok cf_B_124 51 [zI (nI j)] [] (c_B_wake l D cA ad _ _ j hj rfl ) ⟨rfl, rfl⟩ (by decide) e_B rfl rfl rfl rfl (Nat.le_of_ble_eq_true rfl) ⟨Nat.zero_le _, Nat.zero_le _⟩ d_B_send_36 (fun M12 h13 => ?_)
    have qh13 := h13.symm
    subst qh13
    refine z_goto X 91 d_B_send_39 (by decide) ?_
    refine z_aload_n X 2 d_B_send_91 rfl rfl ?_
    refine z_iload_n X 3 d_B_send_92 rfl rfl ?_
    refine z_Vv X GG_ok cf_B_117 51 [zI (nI k)] [] (c_B_advance l D cA ad _ _ k hk rfl ) ⟨rfl, rfl⟩ (by decide) e_B rfl rfl rfl rfl (Nat.le_of_ble_eq_true rfl) ⟨Nat.zero_le _, Nat.zero_le _⟩ d_B_send_93 (fun M15 h16 => ?_)
    have qh16 := h16.symm
    subst qh16
    exact z_vret X (by unfold mSend; rw [hF]; try rfl) d_B_send_96

set_option maxHeartbeats 4000000 in
set_option maxRecDepth 100000 in
theorem c_B_up (l : Launch) (D : va_G) (cA : Nat → ClassId) (ad : Nat → Nat) (M : zM) (n w : Nat) (hI : mInv n w M) (x : Int32) (k : Nat) (hk : k < 8) (ex : x = nI k) (y : Int32) (q : Nat) (hq : q < 4) (ey : y = nI q) : Cv l D cA ad y_B_up b_B_up 4 none (zr 3 63) [zR 51, zI x, zI y] M (fun M' => M' = mUp n k q M) := by
  refine zMv_of (plainFor_of_name (by decide)) (Nat.le_of_ble_eq_true rfl) ?_
  intro p e s m args below meth c A X
  subst ex
  subst ey
  refine z_aload_n X 0 d_B_up_0 rfl rfl ?_
  refine z_iconst X (v := 4) d_B_up_1 (by decide) ?_
  refine z_iload_n X 2 d_B_up_2 rfl rfl ?_
  refine z_Vi X GG_ok cf_B_120 51 [zI 4, zI (nI q)] [] (c_B_first_W l D cA ad _ n w hI _ (by decide) _) ⟨rfl, rfl⟩ (by decide) e_B rfl rfl rfl rfl (Nat.le_of_ble_eq_true rfl) ⟨Nat.zero_le _, Nat.zero_le _⟩ d_B_up_3 (fun r1 M2 h3 => ?_)
  have qh3 := h3.1.symm
  subst qh3
  obtain ⟨-, rfl⟩ := h3
  rcases hF : mFW n 4 (nI q) M with _ | j
  · refine z_istore_n X (L' := [(3, zI (-1)), (0, zR 51), (1, zI (nI k)), (2, zI (nI q))]) d_B_up_6 rfl (by decide) rfl ?_
    refine z_iload_n X 0 d_B_up_7 rfl rfl ?_
    refine z_if_lt X 19 d_B_up_8 (by decide) (fun _ => ?_) (fun h => absurd h (by decide))
    refine z_aload_n X 1 d_B_up_19 rfl rfl ?_
    refine z_get X fl_B_82 51 e_B rfl rfl d_B_up_20 ?_
    refine z_iload_n X 3 d_B_up_23 rfl rfl ?_
    refine z_iald X 76 e_B_count rfl q rfl hq (by decide) d_B_up_24 ?_
    refine z_bipush X (v := 9) d_B_up_25 (by decide) ?_
    refine z_icmp_ge X 40 d_B_up_27 (by decide) (fun c_27 => ?_) (fun c_27 => ?_)
    · refine z_aload_n X 1 d_B_up_40 rfl rfl ?_
      refine z_iload_n X 2 d_B_up_41 rfl rfl ?_
      refine z_Vv X GG_ok cf_B_117 51 [zI (nI k)] [] (c_B_advance l D cA ad _ _ k hk rfl ) ⟨rfl, rfl⟩ (by decide) e_B rfl rfl rfl rfl (Nat.le_of_ble_eq_true rfl) ⟨Nat.zero_le _, Nat.zero_le _⟩ d_B_up_42 (fun M5 h6 => ?_)
      have qh6 := h6.symm
      subst qh6
      exact z_vret X (by unfold mUp mUp0; rw [hF]; simp only [c_27, if_true, if_false]) d_B_up_45
    · refine z_aload_n X 1 d_B_up_30 rfl rfl ?_
      refine z_get X fl_B_82 51 e_B rfl rfl d_B_up_31 ?_
      refine z_iload_n X 3 d_B_up_34 rfl rfl ?_
      refine z_dup2 X d_B_up_35 rfl rfl ?_
      refine z_iald X 76 e_B_count rfl q rfl hq (by decide) d_B_up_36 ?_
      refine z_iconst X (v := 1) d_B_up_37 (by decide) ?_
      refine z_iadd X d_B_up_38 ?_
      refine z_iast X 76 e_B_count rfl q rfl hq (by decide) d_B_up_39 ?_
      refine z_aload_n X 1 d_B_up_40 rfl rfl ?_
      refine z_iload_n X 2 d_B_up_41 rfl rfl ?_
      refine z_Vv X GG_ok cf_B_117 51 [zI (nI k)] [] (c_B_advance l D cA ad _ _ k hk rfl ) ⟨rfl, rfl⟩ (by decide) e_B rfl rfl rfl rfl (Nat.le_of_ble_eq_true rfl) ⟨Nat.zero_le _, Nat.zero_le _⟩ d_B_up_42 (fun M8 h9 => ?_)
      have qh9 := h9.symm
      subst qh9
      exact z_vret X (by unfold mUp mUp0; rw [hF]; simp only [c_27, if_true, if_false]) d_B_up_45
  · have hj : j < 8 := Nat.lt_of_lt_of_le (mFW_lt hF) (mInv_n hI)
    refine z_istore_n X (L' := [(3, zI (nI j)), (0, zR 51), (1, zI (nI k)), (2, zI (nI q))]) d_B_up_6 rfl (by decide) rfl ?_
    refine z_iload_n X 0 d_B_up_7 rfl rfl ?_
    refine z_if_lt X 19 d_B_up_8 (by decide) (fun c_8_10 => absurd c_8_10 (nI_pos (by omega))) (fun c_8_10 => ?_)
    refine z_aload_n X 1 d_B_up_11 rfl rfl ?_
    refine z_iload_n X 0 d_B_up_12 rfl rfl ?_
    refine z_Vv X GG_ok cf_B_124 51 [zI (nI j)] [] (c_B_wake l D cA ad _ _ j hj rfl ) ⟨rfl, rfl⟩ (by decide) e_B rfl rfl rfl rfl (Nat.le_of_ble_eq_true rfl) ⟨Nat.zero_le _, Nat.zero_le _⟩ d_B_up_13 (fun M12 h13 => ?_)
    have qh13 := h13.symm
    subst qh13
    refine z_goto X 40 d_B_up_16 (by decide) ?_
    refine z_aload_n X 1 d_B_up_40 rfl rfl ?_
    refine z_iload_n X 2 d_B_up_41 rfl rfl ?_
    refine z_Vv X GG_ok cf_B_117 51 [zI (nI k)] [] (c_B_advance l D cA ad _ _ k hk rfl ) ⟨rfl, rfl⟩ (by decide) e_B rfl rfl rfl rfl (Nat.le_of_ble_eq_true rfl) ⟨Nat.zero_le _, Nat.zero_le _⟩ d_B_up_42 (fun M15 h16 => ?_)
    have qh16 := h16.symm
    subst qh16
    exact z_vret X (by unfold mUp; rw [hF]; try rfl) d_B_up_45

set_option maxHeartbeats 4000000 in
set_option maxRecDepth 100000 in
theorem c_B_down (l : Launch) (D : va_G) (cA : Nat → ClassId) (ad : Nat → Nat) (M : zM) (n w : Nat) (hI : mInv n w M) (x : Int32) (k : Nat) (hk : k < 8) (ex : x = nI k) (y : Int32) (q : Nat) (hq : q < 4) (ey : y = nI q) : Cv l D cA ad y_B_down b_B_down 3 none (zr 2 42) [zR 51, zI x, zI y] M (fun M' => M' = mDown k q M) := by
  refine zMv_of (plainFor_of_name (by decide)) (Nat.le_of_ble_eq_true rfl) ?_
  intro p e s m args below meth c A X
  subst ex
  subst ey
  refine z_aload_n X 0 d_B_down_0 rfl rfl ?_
  refine z_get X fl_B_82 51 e_B rfl rfl d_B_down_1 ?_
  refine z_iload_n X 2 d_B_down_4 rfl rfl ?_
  refine z_iald X 76 e_B_count rfl q rfl hq (by decide) d_B_down_5 ?_
  refine z_if_ne X 16 d_B_down_6 (by decide) (fun c_6 => ?_) (fun c_6 => ?_)
  · refine z_aload_n X 0 d_B_down_16 rfl rfl ?_
    refine z_get X fl_B_82 51 e_B rfl rfl d_B_down_17 ?_
    refine z_iload_n X 2 d_B_down_20 rfl rfl ?_
    refine z_dup2 X d_B_down_21 rfl rfl ?_
    refine z_iald X 76 e_B_count rfl q rfl hq (by decide) d_B_down_22 ?_
    refine z_iconst X (v := 1) d_B_down_23 (by decide) ?_
    refine z_isub X d_B_down_24 ?_
    refine z_iast X 76 e_B_count rfl q rfl hq (by decide) d_B_down_25 ?_
    refine z_aload_n X 0 d_B_down_26 rfl rfl ?_
    refine z_iload_n X 1 d_B_down_27 rfl rfl ?_
    refine z_Vv X GG_ok cf_B_117 51 [zI (nI k)] [] (c_B_advance l D cA ad _ _ k hk rfl ) ⟨rfl, rfl⟩ (by decide) e_B rfl rfl rfl rfl (Nat.le_of_ble_eq_true rfl) ⟨Nat.zero_le _, Nat.zero_le _⟩ d_B_down_28 (fun M2 h3 => ?_)
    have qh3 := h3.symm
    subst qh3
    exact z_vret X (by simp only [mDown, c_6, if_true, if_false]) d_B_down_31
  · refine z_aload_n X 0 d_B_down_9 rfl rfl ?_
    refine z_iload_n X 1 d_B_down_10 rfl rfl ?_
    refine z_iconst X (v := 2) d_B_down_11 (by decide) ?_
    refine z_Vv X GG_ok cf_B_110 51 [zI (nI k), zI 2] [] (c_B_become l D cA ad _ _ k hk rfl _) ⟨rfl, rfl⟩ (by decide) e_B rfl rfl rfl rfl (Nat.le_of_ble_eq_true rfl) ⟨Nat.zero_le _, Nat.zero_le _⟩ d_B_down_12 (fun M5 h6 => ?_)
    have qh6 := h6.symm
    subst qh6
    exact z_vret X (by simp only [mDown, c_6, if_true, if_false]) d_B_down_15

set_option maxHeartbeats 4000000 in
set_option maxRecDepth 100000 in
theorem c_B_take (l : Launch) (D : va_G) (cA : Nat → ClassId) (ad : Nat → Nat) (M : zM) (n w : Nat) (hI : mInv n w M) (x : Int32) (k : Nat) (hk : k < 8) (ex : x = nI k) (y : Int32) (q : Nat) (hq : q < 4) (ey : y = nI q) : Cv l D cA ad y_B_take b_B_take 4 none (zr 2 42) [zR 51, zI x, zI y] M (fun M' => M' = mTakes k q M) := by
  refine zMv_of (plainFor_of_name (by decide)) (Nat.le_of_ble_eq_true rfl) ?_
  intro p e s m args below meth c A X
  subst ex
  subst ey
  refine z_aload_n X 0 d_B_take_0 rfl rfl ?_
  refine z_get X fl_B_79 51 e_B rfl rfl d_B_take_1 ?_
  refine z_iload_n X 2 d_B_take_4 rfl rfl ?_
  refine z_iald X 75 e_B_messages rfl q rfl hq (by decide) d_B_take_5 ?_
  refine z_if_ne X 16 d_B_take_6 (by decide) (fun c_6 => ?_) (fun c_6 => ?_)
  · refine z_aload_n X 0 d_B_take_16 rfl rfl ?_
    refine z_get X fl_B_67 51 e_B rfl rfl d_B_take_17 ?_
    refine z_iload_n X 1 d_B_take_20 rfl rfl ?_
    refine z_aload_n X 0 d_B_take_21 rfl rfl ?_
    refine z_get X fl_B_76 51 e_B rfl rfl d_B_take_22 ?_
    refine z_iconst X (v := 4) d_B_take_25 (by decide) ?_
    refine z_iload_n X 2 d_B_take_26 rfl rfl ?_
    refine z_imul X d_B_take_27 ?_
    refine z_iald X 74 e_B_message rfl (4 * q) (by rw [show (4 : Int32) = nI 4 from rfl, pk_mul]) (by omega) (by decide) d_B_take_28 ?_
    refine z_iast X 71 e_B_letter rfl k rfl hk (by decide) d_B_take_29 ?_
    refine z_iconst X (v := 1) d_B_take_30 (by decide) ?_
    refine z_istore_n X (L' := [(3, zI 1), (0, zR 51), (1, zI (nI k)), (2, zI (nI q))]) d_B_take_31 rfl (by decide) rfl ?_
    refine z_iload_n X 0 d_B_take_32 rfl rfl ?_
    refine z_iconst X (v := 4) d_B_take_33 (by decide) ?_
    refine z_icmp_ge X 65 d_B_take_34 (by decide) (fun h => absurd h (by decide)) (fun _ => ?_)
    refine z_aload_n X 1 d_B_take_37 rfl rfl ?_
    refine z_get X fl_B_76 51 e_B rfl rfl d_B_take_38 ?_
    refine z_iconst X (v := 4) d_B_take_41 (by decide) ?_
    refine z_iload_n X 3 d_B_take_42 rfl rfl ?_
    refine z_imul X d_B_take_43 ?_
    refine z_iload_n X 0 d_B_take_44 rfl rfl ?_
    refine z_iadd X d_B_take_45 ?_
    refine z_iconst X (v := 1) d_B_take_46 (by decide) ?_
    refine z_isub X d_B_take_47 ?_
    refine z_aload_n X 1 d_B_take_48 rfl rfl ?_
    refine z_get X fl_B_76 51 e_B rfl rfl d_B_take_49 ?_
    refine z_iconst X (v := 4) d_B_take_52 (by decide) ?_
    refine z_iload_n X 3 d_B_take_53 rfl rfl ?_
    refine z_imul X d_B_take_54 ?_
    refine z_iload_n X 0 d_B_take_55 rfl rfl ?_
    refine z_iadd X d_B_take_56 ?_
    refine z_iald X 74 e_B_message rfl (4 * q + 1) (by rw [show (4 : Int32) = nI 4 from rfl, show (1 : Int32) = nI 1 from rfl, pk_mul, nI_add]) (by omega) (by decide) d_B_take_57 ?_
    refine z_iast X 74 e_B_message rfl (4 * q + 0) (by rw [show (4 : Int32) = nI 4 from rfl, show (1 : Int32) = nI 1 from rfl, pk_mul, nI_add]; exact nI_pred _) (by omega) (by decide) d_B_take_58 ?_
    refine z_iinc X 0 (v := 2) (L' := [(3, zI 2), (0, zR 51), (1, zI (nI k)), (2, zI (nI q))]) d_B_take_59 rfl rfl (by decide) rfl ?_
    refine z_goto X 32 d_B_take_62 (by decide) ?_
    refine z_iload_n X 0 d_B_take_32 rfl rfl ?_
    refine z_iconst X (v := 4) d_B_take_33 (by decide) ?_
    refine z_icmp_ge X 65 d_B_take_34 (by decide) (fun h => absurd h (by decide)) (fun _ => ?_)
    refine z_aload_n X 1 d_B_take_37 rfl rfl ?_
    refine z_get X fl_B_76 51 e_B rfl rfl d_B_take_38 ?_
    refine z_iconst X (v := 4) d_B_take_41 (by decide) ?_
    refine z_iload_n X 3 d_B_take_42 rfl rfl ?_
    refine z_imul X d_B_take_43 ?_
    refine z_iload_n X 0 d_B_take_44 rfl rfl ?_
    refine z_iadd X d_B_take_45 ?_
    refine z_iconst X (v := 1) d_B_take_46 (by decide) ?_
    refine z_isub X d_B_take_47 ?_
    refine z_aload_n X 1 d_B_take_48 rfl rfl ?_
    refine z_get X fl_B_76 51 e_B rfl rfl d_B_take_49 ?_
    refine z_iconst X (v := 4) d_B_take_52 (by decide) ?_
    refine z_iload_n X 3 d_B_take_53 rfl rfl ?_
    refine z_imul X d_B_take_54 ?_
    refine z_iload_n X 0 d_B_take_55 rfl rfl ?_
    refine z_iadd X d_B_take_56 ?_
    refine z_iald X 74 e_B_message rfl (4 * q + 2) (by rw [show (4 : Int32) = nI 4 from rfl, show (2 : Int32) = nI 2 from rfl, pk_mul, nI_add]) (by omega) (by decide) d_B_take_57 ?_
    refine z_iast X 74 e_B_message rfl (4 * q + 1) (by rw [show (4 : Int32) = nI 4 from rfl, show (2 : Int32) = nI 2 from rfl, pk_mul, nI_add]; exact nI_pred _) (by omega) (by decide) d_B_take_58 ?_
    refine z_iinc X 0 (v := 3) (L' := [(3, zI 3), (0, zR 51), (1, zI (nI k)), (2, zI (nI q))]) d_B_take_59 rfl rfl (by decide) rfl ?_
    refine z_goto X 32 d_B_take_62 (by decide) ?_
    refine z_iload_n X 0 d_B_take_32 rfl rfl ?_
    refine z_iconst X (v := 4) d_B_take_33 (by decide) ?_
    refine z_icmp_ge X 65 d_B_take_34 (by decide) (fun h => absurd h (by decide)) (fun _ => ?_)
    refine z_aload_n X 1 d_B_take_37 rfl rfl ?_
    refine z_get X fl_B_76 51 e_B rfl rfl d_B_take_38 ?_
    refine z_iconst X (v := 4) d_B_take_41 (by decide) ?_
    refine z_iload_n X 3 d_B_take_42 rfl rfl ?_
    refine z_imul X d_B_take_43 ?_
    refine z_iload_n X 0 d_B_take_44 rfl rfl ?_
    refine z_iadd X d_B_take_45 ?_
    refine z_iconst X (v := 1) d_B_take_46 (by decide) ?_
    refine z_isub X d_B_take_47 ?_
    refine z_aload_n X 1 d_B_take_48 rfl rfl ?_
    refine z_get X fl_B_76 51 e_B rfl rfl d_B_take_49 ?_
    refine z_iconst X (v := 4) d_B_take_52 (by decide) ?_
    refine z_iload_n X 3 d_B_take_53 rfl rfl ?_
    refine z_imul X d_B_take_54 ?_
    refine z_iload_n X 0 d_B_take_55 rfl rfl ?_
    refine z_iadd X d_B_take_56 ?_
    refine z_iald X 74 e_B_message rfl (4 * q + 3) (by rw [show (4 : Int32) = nI 4 from rfl, show (3 : Int32) = nI 3 from rfl, pk_mul, nI_add]) (by omega) (by decide) d_B_take_57 ?_
    refine z_iast X 74 e_B_message rfl (4 * q + 2) (by rw [show (4 : Int32) = nI 4 from rfl, show (3 : Int32) = nI 3 from rfl, pk_mul, nI_add]; exact nI_pred _) (by omega) (by decide) d_B_take_58 ?_
    refine z_iinc X 0 (v := 4) (L' := [(3, zI 4), (0, zR 51), (1, zI (nI k)), (2, zI (nI q))]) d_B_take_59 rfl rfl (by decide) rfl ?_
    refine z_goto X 32 d_B_take_62 (by decide) ?_
    refine z_iload_n X 0 d_B_take_32 rfl rfl ?_
    refine z_iconst X (v := 4) d_B_take_33 (by decide) ?_
    refine z_icmp_ge X 65 d_B_take_34 (by decide) (fun _ => ?_) (fun h => absurd h (by decide))
    refine z_aload_n X 1 d_B_take_65 rfl rfl ?_
    refine z_get X fl_B_79 51 e_B rfl rfl d_B_take_66 ?_
    refine z_iload_n X 3 d_B_take_69 rfl rfl ?_
    refine z_dup2 X d_B_take_70 rfl rfl ?_
    refine z_iald X 75 e_B_messages rfl q rfl hq (by decide) d_B_take_71 ?_
    refine z_iconst X (v := 1) d_B_take_72 (by decide) ?_
    refine z_isub X d_B_take_73 ?_
    refine z_iast X 75 e_B_messages rfl q rfl hq (by decide) d_B_take_74 ?_
    refine z_aload_n X 1 d_B_take_75 rfl rfl ?_
    refine z_iload_n X 2 d_B_take_76 rfl rfl ?_
    refine z_Vv X GG_ok cf_B_117 51 [zI (nI k)] [] (c_B_advance l D cA ad _ _ k hk rfl ) ⟨rfl, rfl⟩ (by decide) e_B rfl rfl rfl rfl (Nat.le_of_ble_eq_true rfl) ⟨Nat.zero_le _, Nat.zero_le _⟩ d_B_take_77 (fun M5 h6 => ?_)
    have qh6 := h6.symm
    subst qh6
    exact z_vret X (by simp only [mTakes, c_6, if_true, if_false]; try rfl) d_B_take_80
  · refine z_aload_n X 0 d_B_take_9 rfl rfl ?_
    refine z_iload_n X 1 d_B_take_10 rfl rfl ?_
    refine z_iconst X (v := 2) d_B_take_11 (by decide) ?_
    refine z_Vv X GG_ok cf_B_110 51 [zI (nI k), zI 2] [] (c_B_become l D cA ad _ _ k hk rfl _) ⟨rfl, rfl⟩ (by decide) e_B rfl rfl rfl rfl (Nat.le_of_ble_eq_true rfl) ⟨Nat.zero_le _, Nat.zero_le _⟩ d_B_take_12 (fun M8 h9 => ?_)
    have qh9 := h9.symm
    subst qh9
    exact z_vret X (by simp only [mTakes, c_6, if_true, if_false]; try rfl) d_B_take_15
end
section
/-! the reference's invariant, step by step -/
def mPs (M : zM) (k : Nat) : Nat := (M.1 60 k).toNatClampNeg
theorem mPs_le {n w : Nat} {M : zM} (h : mInv n w M) {i : Nat} (hi : i < 8) : mPs M i ≤ 8 := by
  obtain ⟨x, z, -, hz, -, e, -⟩ := h.2 i hi
  unfold mPs
  rw [e, nI_clamp (n := z) (by omega)]
  exact hz
theorem mPs_eq {n w : Nat} {M : zM} (h : mInv n w M) {i : Nat} (hi : i < 8) : M.1 60 i = nI (mPs M i) := by
  obtain ⟨x, z, -, hz, -, e, -⟩ := h.2 i hi
  unfold mPs
  rw [e, nI_clamp (n := z) (by omega)]
theorem mN_lt {n w : Nat} {M : zM} (h : mInv n w M) {i : Nat} (hi : i < 8) (h0 : ¬ M.1 63 i = 0) : mAt M i < mPs M i := by
  obtain ⟨x, z, hx, hz, e1, e2, h3⟩ := h.2 i hi
  unfold mAt mPs
  rw [e1, e2, nI_clamp (n := x) (by omega), nI_clamp (n := z) (by omega)]
  exact h3 h0
/-- a memory that differs from one that holds at the process k alone, as far as its place goes -/
theorem mN_of {M M' : zM} (h : mN M) {k : Nat} (h1 : ∀ j, j ≠ k → M'.1 64 j = M.1 64 j ∧ M'.1 60 j = M.1 60 j ∧ M'.1 63 j = M.1 63 j) {x z : Nat} (hx : x < 8) (hz : z ≤ 8) (e1 : M'.1 64 k = nI x) (e2 : M'.1 60 k = nI z) (e3 : ¬ M'.1 63 k = 0 → x < z) : mN M' := by
  intro j hj
  by_cases hjk : j = k
  · subst hjk
    exact ⟨x, z, hx, hz, e1, e2, e3⟩
  · obtain ⟨a, b, c⟩ := h1 j hjk
    rw [a, b, c]
    exact h j hj
theorem mB_Rest {n w : Nat} {M : zM} (h : mB n w M) (k : Nat) : mB n w (mRest k M) := mB_si (mB_si (mB_si (mB_si h _ (by omega)) _ (by omega)) _ (by omega)) _ (by omega)
theorem mRest_64 (k : Nat) (M : zM) : (mRest k M).1 64 k = 0 := by
  unfold mRest
  rw [z_si_other _ _ (by omega), z_si_other _ _ (by omega), z_si_same]
theorem mRest_63 (k : Nat) (M : zM) : (mRest k M).1 63 k = 0 := by
  unfold mRest
  rw [z_si_other _ _ (by omega), z_si_other _ _ (by omega), z_si_other _ _ (by omega), z_si_same]
theorem mRest_far (k : Nat) (M : zM) {c j : Nat} (h : j ≠ k ∨ (c ≠ 63 ∧ c ≠ 64 ∧ c ≠ 65 ∧ c ≠ 67)) : (mRest k M).1 c j = M.1 c j := by
  unfold mRest
  rw [z_si_other _ _ (by omega), z_si_other _ _ (by omega), z_si_other _ _ (by omega), z_si_other _ _ (by omega)]
theorem mInv_Rest' {n w : Nat} {M M0 : zM} (hb : mB n w M) (h : mN M0) {k : Nat} (hk : k < 8) (h1 : ∀ j, j ≠ k → M.1 64 j = M0.1 64 j ∧ M.1 60 j = M0.1 60 j ∧ M.1 63 j = M0.1 63 j) (h2 : M.1 60 k = M0.1 60 k) : mInv n w (mRest k M) := by
  obtain ⟨x, z, hx, hz, e1, e2, e3⟩ := h k hk
  refine ⟨mB_Rest hb k, mN_of h (k := k) (x := 0) (z := z) (fun j hj => ?_) (by omega) hz (mRest_64 k M) ?_ (fun q => absurd (mRest_63 k M) q)⟩
  · rw [mRest_far k M (Or.inl hj), mRest_far k M (Or.inl hj), mRest_far k M (Or.inl hj)]
    exact h1 j hj
  · rw [mRest_far k M (Or.inr (by omega)), h2]
    exact e2
theorem mInv_Rest {n w : Nat} {M : zM} (h : mInv n w M) {k : Nat} (hk : k < 8) : mInv n w (mRest k M) := mInv_Rest' h.1 h.2 hk (fun _ _ => ⟨rfl, rfl, rfl⟩) rfl
theorem mBec_far (k : Nat) (v : Int32) (M : zM) {c j : Nat} (h : (c ≠ 63 ∧ c ≠ 73 ∧ (c ≠ 51 ∨ j ≠ 24)) ∨ (c ≠ 51 ∧ j ≠ k)) : (mBec k v M).1 c j = M.1 c j := by
  unfold mBec mBec1
  rw [z_si_other _ _ (by omega), z_si_other _ _ (by omega), z_si_other _ _ (by omega)]
theorem mBec_63 (k : Nat) (v : Int32) (M : zM) : (mBec k v M).1 63 k = v := by
  unfold mBec mBec1
  rw [z_si_other _ _ (by omega), z_si_other _ _ (by omega), z_si_same]
theorem mInv_Bec {n w : Nat} {M : zM} (h : mInv n w M) {k : Nat} (hk : k < 8) (v : Int32) (hlt : mAt M k < mPs M k) : mInv n w (mBec k v M) := by
  refine ⟨mB_si (mB_si (mB_si h.1 _ (by omega)) _ (by omega)) _ (by omega), mN_of h.2 (k := k) (x := mAt M k) (z := mPs M k) (fun j hj => ?_) (mAt_lt h hk) (mPs_le h hk) ?_ ?_ (fun _ => hlt)⟩
  · rw [mBec_far k v M (Or.inr ⟨by omega, hj⟩), mBec_far k v M (Or.inr ⟨by omega, hj⟩), mBec_far k v M (Or.inr ⟨by omega, hj⟩)]
    exact ⟨rfl, rfl, rfl⟩
  · rw [mBec_far k v M (Or.inl (by omega))]; exact mAt_eq h hk
  · rw [mBec_far k v M (Or.inl (by omega))]; exact mPs_eq h hk
theorem mInv_at0 {n w : Nat} {M : zM} (h : mInv n w M) {k : Nat} (hk : k < 8) : mInv n w (z_si M 64 k 0) := by
  obtain ⟨x, z, hx, hz, e1, e2, e3⟩ := h.2 k hk
  refine ⟨mB_si h.1 _ (by omega), mN_of h.2 (k := k) (x := 0) (z := z) (fun j hj => ?_) (by omega) hz (z_si_same _ _ _ _) ?_ (fun q => ?_)⟩
  · rw [z_si_other _ _ (by omega), z_si_other _ _ (by omega), z_si_other _ _ (by omega)]
    exact ⟨rfl, rfl, rfl⟩
  · rw [z_si_other _ _ (by omega)]; exact e2
  · rw [z_si_other _ _ (by omega)] at q
    have := e3 q
    omega
theorem mAt_0 {M : zM} {k : Nat} (h : M.1 64 k = 0) : mAt M k = 0 := by
  unfold mAt
  rw [h]
  rfl
theorem mInv_Rel {n w : Nat} {M : zM} (h : mInv n w M) {k : Nat} (hk : k < 8) : mInv n w (mRel k M) := by
  have h1 : mInv n w (mRel1 k M) := mInv_si h _ (by omega)
  have h2 : mInv n w (mRel2 k M) := mInv_si (mInv_at0 h1 hk) _ (by omega)
  unfold mRel
  split
  · exact h1
  · rename_i h0
    have h3 : mInv n w (z_si (mRel2 k M) 67 k (mRelD k (mRel2 k M))) := mInv_si h2 _ (by omega)
    refine mInv_Bec h3 hk _ ?_
    have a0 : mAt (z_si (mRel2 k M) 67 k (mRelD k (mRel2 k M))) k = 0 := mAt_0 (by
      unfold mRel2
      rw [z_si_other _ _ (by omega), z_si_other _ _ (by omega), z_si_same])
    rw [a0]
    have e := mPs_eq h3 hk
    rcases Nat.eq_zero_or_pos (mPs (z_si (mRel2 k M) 67 k (mRelD k (mRel2 k M))) k) with q | q
    · rw [q] at e
      unfold mRel2 at e
      rw [z_si_other _ _ (by omega), z_si_other _ _ (by omega), z_si_other _ _ (by omega)] at e
      exact absurd e h0
    · exact q
theorem mAdv1_far (k : Nat) (M : zM) {c j : Nat} (h : j ≠ k ∨ (c ≠ 64 ∧ c ≠ 65)) : (mAdv1 k M).1 c j = M.1 c j := by
  unfold mAdv1
  rw [z_si_other _ _ (by omega), z_si_other _ _ (by omega)]
theorem mAdv1_64 (k : Nat) (M : zM) : (mAdv1 k M).1 64 k = M.1 64 k + 1 := by
  unfold mAdv1
  rw [z_si_other _ _ (by omega), z_si_same]
theorem mInv_Adv {n w : Nat} {M : zM} (h : mInv n w M) {k : Nat} (hk : k < 8) (h0 : ¬ M.1 63 k = 0) : mInv n w (mAdv k M) := by
  have hlt := mN_lt h hk h0
  have hz := mPs_le h hk
  have hb : mB n w (mAdv1 k M) := mB_si (mB_si h.1 _ (by omega)) _ (by omega)
  have e1 : (mAdv1 k M).1 64 k = nI (mAt M k + 1) := by rw [mAdv1_64, mAt_eq h hk, nI_1]
  have e2 : (mAdv1 k M).1 60 k = nI (mPs M k) := by rw [mAdv1_far k M (Or.inr (by omega))]; exact mPs_eq h hk
  unfold mAdv
  split
  · exact mInv_Rest' hb h.2 hk (fun j hj => ⟨mAdv1_far k M (Or.inl hj), mAdv1_far k M (Or.inl hj), mAdv1_far k M (Or.inl hj)⟩) (mAdv1_far k M (Or.inr (by omega)))
  · rename_i hne
    rw [e1, e2, nI_eq (by omega) (by omega)] at hne
    exact ⟨hb, mN_of h.2 (k := k) (x := mAt M k + 1) (z := mPs M k) (fun j hj => ⟨mAdv1_far k M (Or.inl hj), mAdv1_far k M (Or.inl hj), mAdv1_far k M (Or.inl hj)⟩) (by omega) hz e1 e2 (fun _ => by omega)⟩
theorem mAdv_far (k : Nat) (M : zM) {c j : Nat} (h : j ≠ k ∨ (c ≠ 63 ∧ c ≠ 64 ∧ c ≠ 65 ∧ c ≠ 67)) : (mAdv k M).1 c j = M.1 c j := by
  unfold mAdv
  split
  · rw [mRest_far k _ h, mAdv1_far k M (by omega)]
  · exact mAdv1_far k M (by omega)
theorem mWake_far (k : Nat) (M : zM) {c j : Nat} (h : c ≠ 51 ∧ j ≠ k) : (mWake k M).1 c j = M.1 c j := by
  unfold mWake
  rw [mAdv_far k _ (Or.inl h.2), mBec_far k _ M (Or.inr h)]
theorem h1ne0 {x : Int32} (h : x = 1) : ¬ x = 0 := fun q => absurd (h.symm.trans q) (by decide)
theorem h2ne0 {x : Int32} (h : x = 2) : ¬ x = 0 := fun q => absurd (h.symm.trans q) (by decide)
theorem mInv_Wake {n w : Nat} {M : zM} (h : mInv n w M) {k : Nat} (hk : k < 8) (h0 : ¬ M.1 63 k = 0) : mInv n w (mWake k M) :=
  mInv_Adv (mInv_Bec h hk 1 (mN_lt h hk h0)) hk (h1ne0 (mBec_63 k 1 M))
theorem mInv_port {n w : Nat} {M : zM} (h : mInv n w M) (q : Nat) {z : Nat} (hz : z ≤ 4) : mInv n w (z_si M 75 q (nI z)) := ⟨mB_port h.1 q hz, mN_si h.2 _ (by omega)⟩
theorem mInv_Send0 {n w : Nat} {M : zM} (h : mInv n w M) (k : Nat) {q : Nat} (hq : q < 4) : mInv n w (mSend0 k q M) := by
  unfold mSend0
  split
  · exact mInv_si h _ (by omega)
  · rename_i h4
    have := mSz_lt h hq h4
    exact mInv_port (mInv_si h _ (by omega)) q (by omega)
theorem mSend0_63 (k q : Nat) (M : zM) (j : Nat) : (mSend0 k q M).1 63 j = M.1 63 j := by
  unfold mSend0 mPut
  split
  · rw [z_si_other _ _ (by omega)]
  · rw [z_si_other _ _ (by omega), z_si_other _ _ (by omega)]
theorem mInv_Send {n w : Nat} {M : zM} (h : mInv n w M) {k q : Nat} (hk : k < 8) (hq : q < 4) (hr : M.1 63 k = 1) : mInv n w (mSend n k q M) := by
  unfold mSend
  split
  · rename_i j hj
    have hj8 : j < 8 := Nat.lt_of_lt_of_le (mFW_lt hj) (mInv_n h)
    have hw := (mFW_P hj).1
    have hjk : k ≠ j := fun e => by rw [← e, hr] at hw; exact absurd hw (by decide)
    have h1 : mInv n w (z_si M 71 j (mMsg M k)) := mInv_si h _ (by omega)
    refine mInv_Adv (mInv_Wake h1 hj8 (h2ne0 (by rw [z_si_other _ _ (by omega)]; exact hw))) hk (h1ne0 ?_)
    rw [mWake_far j _ ⟨by omega, hjk⟩, z_si_other _ _ (by omega)]
    exact hr
  · exact mInv_Adv (mInv_Send0 h k hq) hk (h1ne0 (by rw [mSend0_63]; exact hr))
theorem mTake0_far (k q : Nat) (M : zM) {c j : Nat} (h : c ≠ 71 ∧ c ≠ 74) : (mTake0 k q M).1 c j = M.1 c j := by
  unfold mTake0
  show (mSh q 2 (mSh q 1 (mSh q 0 _))).1 c j = _
  unfold mSh
  rw [z_si_other _ _ (by omega), z_si_other _ _ (by omega), z_si_other _ _ (by omega), z_si_other _ _ (by omega)]
theorem mInv_Take0 {n w : Nat} {M : zM} (h : mInv n w M) (k q : Nat) : mInv n w (mTake0 k q M) := mInv_si (mInv_si (mInv_si (mInv_si h _ (by omega)) _ (by omega)) _ (by omega)) _ (by omega)
theorem mInv_Takes {n w : Nat} {M : zM} (h : mInv n w M) {k q : Nat} (hk : k < 8) (hq : q < 4) (hr : M.1 63 k = 1) : mInv n w (mTakes k q M) := by
  unfold mTakes
  split
  · exact mInv_Bec h hk _ (mN_lt h hk (h1ne0 hr))
  · rename_i h0
    have e := mSz_eq h hq
    have hz := mSz_le h hq
    have hp : mSz M q ≠ 0 := fun z => h0 (by rw [e, z]; rfl)
    rw [mTake0_far k q M (by omega), e, nI_m1 hp]
    exact mInv_Adv (mInv_port (mInv_Take0 h k q) q (by omega)) hk (h1ne0 (by rw [z_si_other _ _ (by omega), mTake0_far k q M (by omega)]; exact hr))
theorem mInv_Up {n w : Nat} {M : zM} (h : mInv n w M) {k q : Nat} (hk : k < 8) (hr : M.1 63 k = 1) : mInv n w (mUp n k q M) := by
  unfold mUp
  split
  · rename_i j hj
    have hj8 : j < 8 := Nat.lt_of_lt_of_le (mFW_lt hj) (mInv_n h)
    have hw := (mFW_P hj).1
    have hjk : k ≠ j := fun e => by rw [← e, hr] at hw; exact absurd hw (by decide)
    exact mInv_Adv (mInv_Wake h hj8 (h2ne0 hw)) hk (h1ne0 (by rw [mWake_far j _ ⟨by omega, hjk⟩]; exact hr))
  · unfold mUp0
    split
    · exact mInv_Adv h hk (h1ne0 hr)
    · exact mInv_Adv (mInv_si h _ (by omega)) hk (h1ne0 (by rw [z_si_other _ _ (by omega)]; exact hr))
theorem mInv_Down {n w : Nat} {M : zM} (h : mInv n w M) {k q : Nat} (hk : k < 8) (hr : M.1 63 k = 1) : mInv n w (mDown k q M) := by
  unfold mDown
  split
  · exact mInv_Bec h hk _ (mN_lt h hk (h1ne0 hr))
  · exact mInv_Adv (mInv_si h _ (by omega)) hk (h1ne0 (by rw [z_si_other _ _ (by omega)]; exact hr))
theorem mInv_Work {n w : Nat} {M : zM} (h : mInv n w M) {k : Nat} (hk : k < 8) (x : Int32) (hr : M.1 63 k = 1) : mInv n w (mWork k x M) := by
  have h2 : mInv n w (mWork2 k M) := mInv_si (mInv_si h _ (by omega)) _ (by omega)
  unfold mWork
  split
  · refine mInv_Adv h2 hk (h1ne0 ?_)
    unfold mWork2 mWork1
    rw [z_si_other _ _ (by omega), z_si_other _ _ (by omega)]
    exact hr
  · exact h2
theorem mInv_Do {n w : Nat} {M : zM} (h : mInv n w M) {k : Nat} (hk : k < 8) (hr : M.1 63 k = 1) : mInv n w (mDo n k M) := by
  unfold mDo
  split
  · exact mInv_Work h hk _ hr
  · rename_i h0
    have hn := (mNum_lt h hk h0).1
    split
    · exact mInv_Send h hk hn hr
    · split
      · exact mInv_Takes h hk hn hr
      · split
        · exact mInv_Up h hk hr
        · exact mInv_Down h hk hr
theorem mInv_Idle {n w : Nat} {M : zM} (h : mInv n w M) : mInv n w (mIdle M) := mInv_si h _ (by omega)
theorem mInv_Go {n w : Nat} (p : Int32) : ∀ (f : Nat) (M : zM), mInv n w M → mInv n w (mGo n p f M)
  | 0, M, h => h
  | f + 1, M, h => by
    unfold mGo
    split
    · exact mInv_Idle h
    · rename_i j hj
      have hj8 : j < 8 := Nat.lt_of_lt_of_le (mFR_lt hj) (mInv_n h)
      split
      · exact mInv_Do h hj8 (mFR_P hj).1
      · exact mInv_Go p f _ (mInv_Do h hj8 (mFR_P hj).1)
theorem mInv_For {n w : Nat} {f : Nat → zM → zM} {N : Nat} (hf : ∀ i M, i < N → mInv n w M → mInv n w (f i M)) : ∀ (k i : Nat) (M : zM), i + k ≤ N → mInv n w M → mInv n w (kFor f k i M)
  | 0, _, _, _, h => h
  | k + 1, i, M, hk, h => mInv_For hf k (i + 1) (f i M) (by omega) (hf i M (by omega) h)
theorem mInv_RelOne {n w : Nat} (k : Nat) (M : zM) (hk : k < 8) (h : mInv n w M) : mInv n w (mRelOne k M) := by
  unfold mRelOne
  split
  · split
    · exact h
    · split
      · refine mInv_si ?_ _ (by omega)
        unfold mRelA
        split
        · exact mInv_Rel h hk
        · exact mInv_si h _ (by omega)
      · exact h
  · exact h
theorem mInv_RestOne {n w : Nat} (d : Int32) (k : Nat) (M : zM) (hk : k < 8) (h : mInv n w M) : mInv n w (mRestOne d k M) := by
  unfold mRestOne
  split
  · exact mInv_Rest h hk
  · exact h
theorem mInv_Miss1 {n w : Nat} {k : Nat} {M : zM} (h : mInv n w M) : mInv n w (mMiss1 k M) := mInv_si (mInv_si h _ (by omega)) _ (by omega)
theorem mMiss1_far (k : Nat) (M : zM) {c j : Nat} (h : c ≠ 68 ∧ c ≠ 67) : (mMiss1 k M).1 c j = M.1 c j := by
  unfold mMiss1
  rw [z_si_other _ _ (by omega), z_si_other _ _ (by omega)]
theorem mInv_Miss2 {n w : Nat} {k q : Nat} {M : zM} (h : mInv n w M) (hk : k < 8) (h0 : ¬ M.1 63 k = 0) : mInv n w (mMiss2 k q M) := by
  have hlt := mN_lt h hk h0
  unfold mMiss2
  split
  · have h2 : mInv n w (z_si (z_si M 64 k 0) 65 k 0) := mInv_si (mInv_at0 h hk) _ (by omega)
    refine mInv_Bec h2 hk _ ?_
    rw [mAt_0 (by rw [z_si_other _ _ (by omega), z_si_same])]
    have e : mPs (z_si (z_si M 64 k 0) 65 k 0) k = mPs M k := by
      unfold mPs
      rw [z_si_other _ _ (by omega), z_si_other _ _ (by omega)]
    omega
  · exact h
theorem mInv_Miss3 {n w : Nat} {q : Nat} {M : zM} (h : mInv n w M) : mInv n w (mMiss3 n q M) := by
  unfold mMiss3
  split
  · exact mInv_For (N := n) (fun i M hi hM => mInv_RestOne _ i M (Nat.lt_of_lt_of_le hi (mInv_n h)) hM) _ _ _ (by omega) (mInv_si h _ (by omega))
  · exact h
theorem mInv_MissOne {n w : Nat} (k : Nat) (M : zM) (hk : k < 8) (h : mInv n w M) : mInv n w (mMissOne n k M) := by
  unfold mMissOne
  split
  · split
    · exact h
    · rename_i h0
      split
      · exact mInv_Miss3 (mInv_Miss2 (mInv_Miss1 h) hk (by rw [mMiss1_far k M (by omega)]; exact h0))
      · exact h
  · exact h
theorem mInv_On2 {n w : Nat} (d : Int32) (k : Nat) (M : zM) (hk : k < 8) (h : mInv n w M) : mInv n w (mOn2 d k M) := by
  unfold mOn2
  split
  · split
    · exact mInv_Rest h hk
    · exact mInv_si (mInv_Rest h hk) _ (by omega)
  · exact h
end
section
/-! how many orders can still be done: it falls with each that is no WORK -/
def mC (M : zM) (i : Nat) : Nat := if M.1 63 i = 1 then mPs M i - mAt M i else if M.1 63 i = 2 then mPs M i - mAt M i - 1 else 0
def mNu (M : zM) : Nat → Nat
  | 0 => 0
  | i + 1 => mNu M i + mC M i
theorem mC_eq {M M' : zM} {i : Nat} (h1 : M'.1 63 i = M.1 63 i) (h2 : M'.1 64 i = M.1 64 i) (h3 : M'.1 60 i = M.1 60 i) : mC M' i = mC M i := by
  unfold mC mPs mAt
  rw [h1, h2, h3]
theorem mNu_same {M M' : zM} : ∀ N, (∀ j, j < N → mC M' j = mC M j) → mNu M' N = mNu M N
  | 0, _ => rfl
  | N + 1, h => by
    show mNu M' N + mC M' N = mNu M N + mC M N
    rw [mNu_same N (fun j hj => h j (by omega)), h N (by omega)]
theorem mNu_upd {M M' : zM} {k : Nat} : ∀ N, k < N → (∀ j, j ≠ k → mC M' j = mC M j) → mNu M' N + mC M k = mNu M N + mC M' k
  | 0, hk, _ => absurd hk (by omega)
  | N + 1, hk, h => by
    show mNu M' N + mC M' N + mC M k = mNu M N + mC M N + mC M' k
    by_cases e : k = N
    · subst e
      rw [mNu_same k (fun j hj => h j (by omega))]
      omega
    · have := mNu_upd N (by omega) h
      rw [h N (fun q => e q.symm)]
      omega
theorem mC_le {n w : Nat} {M : zM} (h : mInv n w M) {i : Nat} (hi : i < 8) : mC M i ≤ 8 := by
  have := mPs_le h hi
  unfold mC
  split
  · omega
  · split <;> omega
theorem mNu_le {n w : Nat} {M : zM} (h : mInv n w M) : ∀ N, N ≤ 8 → mNu M N ≤ 8 * N
  | 0, _ => by show 0 ≤ _; omega
  | N + 1, hN => by
    have h1 := mNu_le h N (by omega)
    have h2 := mC_le h (i := N) (by omega)
    show mNu M N + mC M N ≤ _
    omega
theorem mC_1 {M : zM} {i : Nat} (h : M.1 63 i = 1) : mC M i = mPs M i - mAt M i := by
  unfold mC
  rw [if_pos h]
theorem mC_2 {M : zM} {i : Nat} (h : M.1 63 i = 2) : mC M i = mPs M i - mAt M i - 1 := by
  unfold mC
  rw [h, if_neg (by decide), if_pos rfl]
theorem mC_0 {M : zM} {i : Nat} (h : M.1 63 i = 0) : mC M i = 0 := by
  unfold mC
  rw [h, if_neg (by decide), if_neg (by decide)]
theorem mC_Adv {n w : Nat} {M : zM} (h : mInv n w M) {k : Nat} (hk : k < 8) (hr : M.1 63 k = 1) : mC (mAdv k M) k = mPs M k - mAt M k - 1 := by
  have hlt := mN_lt h hk (h1ne0 hr)
  have hz := mPs_le h hk
  have e1 : (mAdv1 k M).1 64 k = nI (mAt M k + 1) := by rw [mAdv1_64, mAt_eq h hk, nI_1]
  have e2 : (mAdv1 k M).1 60 k = nI (mPs M k) := by rw [mAdv1_far k M (Or.inr (by omega))]; exact mPs_eq h hk
  unfold mAdv
  split
  · rename_i he
    rw [e1, e2, nI_eq (by omega) (by omega)] at he
    rw [mC_0 (mRest_63 k _)]
    omega
  · have e3 : (mAdv1 k M).1 63 k = 1 := by rw [mAdv1_far k M (Or.inr (by omega))]; exact hr
    rw [mC_1 e3]
    unfold mPs mAt at *
    rw [e1, e2, nI_clamp (by omega), nI_clamp (by omega)]
    omega
theorem mNu_Adv {n w : Nat} {M : zM} (h : mInv n w M) {k : Nat} (hk : k < 8) (hr : M.1 63 k = 1) : mNu (mAdv k M) 8 + 1 = mNu M 8 := by
  have hlt := mN_lt h hk (h1ne0 hr)
  have h1 := mNu_upd (M := M) (M' := mAdv k M) 8 hk (fun j hj => mC_eq (mAdv_far k M (Or.inl hj)) (mAdv_far k M (Or.inl hj)) (mAdv_far k M (Or.inl hj)))
  rw [mC_Adv h hk hr, mC_1 hr] at h1
  omega
theorem mNu_Wake {n w : Nat} {M : zM} (h : mInv n w M) {k : Nat} (hk : k < 8) (hr : M.1 63 k = 2) : mNu (mWake k M) 8 = mNu M 8 := by
  have hlt := mN_lt h hk (h2ne0 hr)
  have h1 := mNu_upd (M := M) (M' := mWake k M) 8 hk (fun j hj => mC_eq (mWake_far k M ⟨by omega, hj⟩) (mWake_far k M ⟨by omega, hj⟩) (mWake_far k M ⟨by omega, hj⟩))
  have hb := mInv_Bec h hk 1 hlt
  have e : mC (mWake k M) k = mPs (mBec k 1 M) k - mAt (mBec k 1 M) k - 1 := mC_Adv hb hk (mBec_63 k 1 M)
  have e1 : mPs (mBec k 1 M) k = mPs M k := by unfold mPs; rw [mBec_far k 1 M (Or.inl (by omega))]
  have e2 : mAt (mBec k 1 M) k = mAt M k := by unfold mAt; rw [mBec_far k 1 M (Or.inl (by omega))]
  rw [e, e1, e2, mC_2 hr] at h1
  omega
theorem mNu_Bec {n w : Nat} {M : zM} (h : mInv n w M) {k : Nat} (hk : k < 8) (hr : M.1 63 k = 1) : mNu (mBec k 2 M) 8 + 1 = mNu M 8 := by
  have hlt := mN_lt h hk (h1ne0 hr)
  have h1 := mNu_upd (M := M) (M' := mBec k 2 M) 8 hk (fun j hj => mC_eq (mBec_far k 2 M (Or.inr ⟨by omega, hj⟩)) (mBec_far k 2 M (Or.inr ⟨by omega, hj⟩)) (mBec_far k 2 M (Or.inr ⟨by omega, hj⟩)))
  have e1 : mPs (mBec k 2 M) k = mPs M k := by unfold mPs; rw [mBec_far k 2 M (Or.inl (by omega))]
  have e2 : mAt (mBec k 2 M) k = mAt M k := by unfold mAt; rw [mBec_far k 2 M (Or.inl (by omega))]
  rw [mC_2 (mBec_63 k 2 M), mC_1 hr, e1, e2] at h1
  omega
theorem mNu_si {M : zM} {c k : Nat} (x : Int32) (hc : c ≠ 60 ∧ c ≠ 63 ∧ c ≠ 64) : mNu (z_si M c k x) 8 = mNu M 8 :=
  mNu_same 8 (fun j _ => mC_eq (by rw [z_si_other _ _ (by omega)]) (by rw [z_si_other _ _ (by omega)]) (by rw [z_si_other _ _ (by omega)]))
theorem mNu_Do {n w : Nat} {M : zM} (h : mInv n w M) {k : Nat} (hk : k < 8) (hr : M.1 63 k = 1) (h0 : ¬ mOrd M k = 0) : mNu (mDo n k M) 8 + 1 = mNu M 8 := by
  have hn := (mNum_lt h hk h0).1
  unfold mDo
  rw [if_neg h0]
  split
  · unfold mSend
    split
    · rename_i j hj
      have hj8 : j < 8 := Nat.lt_of_lt_of_le (mFW_lt hj) (mInv_n h)
      have hw := (mFW_P hj).1
      have hjk : k ≠ j := fun e => by rw [← e, hr] at hw; exact absurd hw (by decide)
      have h1 : mInv n w (z_si M 71 j (mMsg M k)) := mInv_si h _ (by omega)
      have hw1 : (z_si M 71 j (mMsg M k)).1 63 j = 2 := by rw [z_si_other _ _ (by omega)]; exact hw
      have h2 : mInv n w (mSend1 k j M) := mInv_Wake h1 hj8 (h2ne0 hw1)
      have e := mNu_Adv h2 hk (by unfold mSend1; rw [mWake_far j _ ⟨by omega, hjk⟩, z_si_other _ _ (by omega)]; exact hr)
      have e2 : mNu (mSend1 k j M) 8 = _ := mNu_Wake h1 hj8 hw1
      rw [e2, mNu_si _ (by omega)] at e
      exact e
    · have e := mNu_Adv (mInv_Send0 h k hn) hk (by rw [mSend0_63]; exact hr)
      have e2 : mNu (mSend0 k (mNum M k).toNatClampNeg M) 8 = mNu M 8 := by
        unfold mSend0
        split
        · exact mNu_si _ (by omega)
        · unfold mPut
          rw [mNu_si _ (by omega), mNu_si _ (by omega)]
      rw [e2] at e
      exact e
  · split
    · unfold mTakes
      split
      · exact mNu_Bec h hk hr
      · rename_i hz0
        have e := mSz_eq h hn
        have hz := mSz_le h hn
        have hp : mSz M (mNum M k).toNatClampNeg ≠ 0 := fun z => hz0 (by rw [e, z]; rfl)
        rw [mTake0_far k _ M (by omega), e, nI_m1 hp]
        have e1 := mNu_Adv (mInv_port (mInv_Take0 h k (mNum M k).toNatClampNeg) (mNum M k).toNatClampNeg (z := mSz M (mNum M k).toNatClampNeg - 1) (by omega)) hk (by rw [z_si_other _ _ (by omega), mTake0_far k _ M (by omega)]; exact hr)
        rw [e1, mNu_si _ (by omega)]
        exact mNu_same 8 (fun j _ => mC_eq (mTake0_far k _ M (by omega)) (mTake0_far k _ M (by omega)) (mTake0_far k _ M (by omega)))
    · split
      · unfold mUp
        split
        · rename_i j hj
          have hj8 : j < 8 := Nat.lt_of_lt_of_le (mFW_lt hj) (mInv_n h)
          have hw := (mFW_P hj).1
          have hjk : k ≠ j := fun e => by rw [← e, hr] at hw; exact absurd hw (by decide)
          have e := mNu_Adv (mInv_Wake h hj8 (h2ne0 hw)) hk (by rw [mWake_far j _ ⟨by omega, hjk⟩]; exact hr)
          rw [mNu_Wake h hj8 hw] at e
          exact e
        · unfold mUp0
          split
          · exact mNu_Adv h hk hr
          · have e := mNu_Adv (mInv_si (c := 76) (k := (mNum M k).toNatClampNeg) h (M.1 76 (mNum M k).toNatClampNeg + 1) (by omega)) hk (by rw [z_si_other _ _ (by omega)]; exact hr)
            rw [mNu_si _ (by omega)] at e
            exact e
      · unfold mDown
        split
        · exact mNu_Bec h hk hr
        · have e := mNu_Adv (mInv_si (c := 76) (k := (mNum M k).toNatClampNeg) h (M.1 76 (mNum M k).toNatClampNeg - 1) (by omega)) hk (by rw [z_si_other _ _ (by omega)]; exact hr)
          rw [mNu_si _ (by omega)] at e
          exact e
theorem mNu_pos {n w : Nat} {M : zM} (h : mInv n w M) {k : Nat} (hk : k < 8) (hr : M.1 63 k = 1) (h0 : ¬ mOrd M k = 0) : 0 < mNu M 8 := by
  have := mNu_Do h hk hr h0
  omega
/-! the windows, in numbers -/
def mSp (M : zM) (j : Nat) : Nat := (M.1 53 j).toNatClampNeg
def mTl (M : zM) : Nat → Nat → Nat
  | 0, _ => 0
  | k + 1, i => mSp M i + mTl M k (i + 1)
theorem mSp_ok {n w : Nat} {M : zM} (h : mInv n w M) {j : Nat} (hj : j < w) : M.1 53 j = nI (mSp M j) ∧ 1 ≤ mSp M j ∧ mSp M j ≤ 30 := by
  obtain ⟨v, h1, h2, e⟩ := h.1.2.2.2.2.1 j hj
  unfold mSp
  rw [e, nI_clamp (n := v) (by omega)]
  exact ⟨rfl, h1, h2⟩
theorem mTl_le {n w : Nat} {M : zM} (h : mInv n w M) : ∀ k i, i + k ≤ w → k ≤ mTl M k i ∧ mTl M k i ≤ 30 * k
  | 0, i, _ => by show 0 ≤ 0 ∧ 0 ≤ _; omega
  | k + 1, i, hk => by
    have h1 := mTl_le h k (i + 1) (by omega)
    have h2 := (mSp_ok h (j := i) (by omega)).2
    show k + 1 ≤ mSp M i + mTl M k (i + 1) ∧ mSp M i + mTl M k (i + 1) ≤ _
    omega
theorem mSum_eq {n w : Nat} {M : zM} (h : mInv n w M) : ∀ k i a, i + k ≤ w → mSum M k i (nI a) = nI (a + mTl M k i)
  | 0, i, a, _ => rfl
  | k + 1, i, a, hk => by
    show mSum M k (i + 1) (nI a + M.1 53 i) = nI (a + (mSp M i + mTl M k (i + 1)))
    rw [(mSp_ok h (j := i) (by omega)).1, nI_add, mSum_eq h k (i + 1) _ (by omega), Nat.add_assoc]
theorem mAll_eq {n w : Nat} {M : zM} (h : mInv n w M) : mAll M w = nI (mTl M w 0) := by
  have := mSum_eq h w 0 0 (by omega)
  rw [Nat.zero_add] at this
  exact this
theorem mRem_eq {n w : Nat} {M : zM} (h : mInv n w M) {t : Nat} (ht : t < 2 ^ 31) (et : M.1 51 28 = nI t) (hw : w ≠ 0) : mRem M w = nI (t % mTl M w 0) ∧ t % mTl M w 0 < mTl M w 0 := by
  have h1 := mTl_le h w 0 (by omega)
  have h8 : w ≤ 8 := h.1.2.1
  unfold mRem
  rw [et, mAll_eq h, pk_rem ht (by omega) (by omega)]
  exact ⟨rfl, Nat.mod_lt _ (by omega)⟩
theorem mAll_0 {n w : Nat} {M : zM} (h : mInv n w M) : mAll M w = 0 ↔ w = 0 := by
  have h1 := mTl_le h w 0 (by omega)
  have h8 : w ≤ 8 := h.1.2.1
  rw [mAll_eq h]
  constructor
  · intro q
    have := nI_z (by omega) q
    omega
  · intro q
    subst q
    rfl
theorem mIx_le (M : zM) : ∀ k i t, (mIx M k i t).1 ≤ i + k
  | 0, i, t => by show i ≤ i + 0; omega
  | k + 1, i, t => by
    have h := mIx_le M k (i + 1) (t - M.1 53 i)
    unfold mIx
    split
    · show i ≤ _; omega
    · omega
def mGive (n w : Nat) (M : zM) : zM → Prop := fun _ => True
noncomputable def mGiv (n w : Nat) (M : zM) : zM := if mHold M w false < 0 then M else if M.1 54 (mHold M w false).toNatClampNeg = 1 then mGo n (mHold M w false) 65 M else M
noncomputable def mTick1 (n : Nat) (M : zM) : zM := kFor (mMissOne n) n 0 (kFor mRelOne n 0 M)
noncomputable def mTick (n w : Nat) (M : zM) : zM := z_si (mGiv n w (mTick1 n M)) 51 28 ((mGiv n w (mTick1 n M)).1 51 28 + 1)
noncomputable def mTicks (n w : Nat) : Nat → zM → zM
  | 0, M => M
  | k + 1, M => mTicks n w k (mTick n w M)
theorem mInv_Tick1 {n w : Nat} {M : zM} (h : mInv n w M) : mInv n w (mTick1 n M) := by
  have hn := mInv_n h
  exact mInv_For (N := n) (fun i M hi hM => mInv_MissOne i M (by omega) hM) _ _ _ (by omega) (mInv_For (N := n) (fun i M hi hM => mInv_RelOne i M (by omega) hM) _ _ _ (by omega) h)
theorem mInv_Giv {n w : Nat} {M : zM} (h : mInv n w M) : mInv n w (mGiv n w M) := by
  unfold mGiv
  split
  · exact h
  · split
    · exact mInv_Go _ _ _ h
    · exact h
theorem mInv_Tick {n w : Nat} {M : zM} (h : mInv n w M) : mInv n w (mTick n w M) := mInv_si (mInv_Giv (mInv_Tick1 h)) _ (by omega)
end
section
/-! the reference's time stays in all of a tick but its end -/
theorem mAdv_t (k : Nat) (M : zM) : (mAdv k M).1 51 28 = M.1 51 28 := mAdv_far k M (Or.inr (by omega))
theorem mBec_t (k : Nat) (v : Int32) (M : zM) : (mBec k v M).1 51 28 = M.1 51 28 := mBec_far k v M (Or.inl (by omega))
theorem mWake_t (k : Nat) (M : zM) : (mWake k M).1 51 28 = M.1 51 28 := by unfold mWake; rw [mAdv_t, mBec_t]
theorem mRel_t (k : Nat) (M : zM) : (mRel k M).1 51 28 = M.1 51 28 := by
  unfold mRel mRel2 mRel1
  split
  · rw [z_si_other _ _ (by omega)]
  · rw [mBec_t, z_si_other _ _ (by omega), z_si_other _ _ (by omega), z_si_other _ _ (by omega), z_si_other _ _ (by omega)]
theorem mSend_t (n k q : Nat) (M : zM) : (mSend n k q M).1 51 28 = M.1 51 28 := by
  unfold mSend
  split
  · unfold mSend1
    rw [mAdv_t, mWake_t, z_si_other _ _ (by omega)]
  · rw [mAdv_t]
    unfold mSend0 mPut
    split
    · rw [z_si_other _ _ (by omega)]
    · rw [z_si_other _ _ (by omega), z_si_other _ _ (by omega)]
theorem mTakes_t (k q : Nat) (M : zM) : (mTakes k q M).1 51 28 = M.1 51 28 := by
  unfold mTakes
  split
  · rw [mBec_t]
  · rw [mAdv_t, z_si_other _ _ (by omega), mTake0_far k q M (by omega)]
theorem mUp_t (n k q : Nat) (M : zM) : (mUp n k q M).1 51 28 = M.1 51 28 := by
  unfold mUp
  split
  · rw [mAdv_t, mWake_t]
  · rw [mAdv_t]
    unfold mUp0
    split
    · rfl
    · rw [z_si_other _ _ (by omega)]
theorem mDown_t (k q : Nat) (M : zM) : (mDown k q M).1 51 28 = M.1 51 28 := by
  unfold mDown
  split
  · rw [mBec_t]
  · rw [mAdv_t, z_si_other _ _ (by omega)]
theorem mWork_t (k : Nat) (x : Int32) (M : zM) : (mWork k x M).1 51 28 = M.1 51 28 := by
  unfold mWork mWork2 mWork1
  split
  · rw [mAdv_t, z_si_other _ _ (by omega), z_si_other _ _ (by omega)]
  · rw [z_si_other _ _ (by omega), z_si_other _ _ (by omega)]
theorem mDo_t (n k : Nat) (M : zM) : (mDo n k M).1 51 28 = M.1 51 28 := by
  unfold mDo
  split
  · rw [mWork_t]
  · split
    · rw [mSend_t]
    · split
      · rw [mTakes_t]
      · split
        · rw [mUp_t]
        · rw [mDown_t]
theorem mGo_t (n : Nat) (p : Int32) : ∀ (f : Nat) (M : zM), (mGo n p f M).1 51 28 = M.1 51 28
  | 0, M => rfl
  | f + 1, M => by
    unfold mGo
    split
    · unfold mIdle; rw [z_si_other _ _ (by omega)]
    · split
      · rw [mDo_t]
      · rw [mGo_t n p f, mDo_t]
theorem kFor_t {f : Nat → zM → zM} (hf : ∀ i M, (f i M).1 51 28 = M.1 51 28) : ∀ (k i : Nat) (M : zM), (kFor f k i M).1 51 28 = M.1 51 28
  | 0, _, _ => rfl
  | k + 1, i, M => by
    show (kFor f k (i + 1) (f i M)).1 51 28 = _
    rw [kFor_t hf k (i + 1), hf]
theorem mRelOne_t (k : Nat) (M : zM) : (mRelOne k M).1 51 28 = M.1 51 28 := by
  unfold mRelOne
  split
  · split
    · rfl
    · split
      · rw [z_si_other _ _ (by omega)]
        unfold mRelA
        split
        · rw [mRel_t]
        · rw [z_si_other _ _ (by omega)]
      · rfl
  · rfl
theorem mRestOne_t (d : Int32) (k : Nat) (M : zM) : (mRestOne d k M).1 51 28 = M.1 51 28 := by
  unfold mRestOne
  split
  · exact mRest_far k M (Or.inr (by omega))
  · rfl
theorem mMissOne_t (n k : Nat) (M : zM) : (mMissOne n k M).1 51 28 = M.1 51 28 := by
  unfold mMissOne
  split
  · split
    · rfl
    · split
      · have e1 : (mMiss1 k M).1 51 28 = M.1 51 28 := mMiss1_far k M (by omega)
        have e2 : (mMiss2 k (mPt M k) (mMiss1 k M)).1 51 28 = M.1 51 28 := by
          unfold mMiss2
          split
          · rw [mBec_t, z_si_other _ _ (by omega), z_si_other _ _ (by omega), e1]
          · exact e1
        unfold mMiss3
        split
        · rw [kFor_t (fun i M => mRestOne_t _ i M), z_si_other _ _ (by omega), e2]
        · exact e2
      · rfl
  · rfl
theorem mTick1_t (n : Nat) (M : zM) : (mTick1 n M).1 51 28 = M.1 51 28 := by
  unfold mTick1
  rw [kFor_t (fun i M => mMissOne_t n i M), kFor_t (fun i M => mRelOne_t i M)]
theorem mGiv_t (n w : Nat) (M : zM) : (mGiv n w M).1 51 28 = M.1 51 28 := by
  unfold mGiv
  split
  · rfl
  · split
    · rw [mGo_t]
    · rfl
theorem mTick_t {n w t : Nat} {M : zM} (h : M.1 51 28 = nI t) : (mTick n w M).1 51 28 = nI (t + 1) := by
  unfold mTick
  rw [z_si_same, mGiv_t, mTick1_t, h, nI_1]
theorem mGo_none {n : Nat} {p : Int32} {f : Nat} {M : zM} (h : mFR n p M = none) : mGo n p (f + 1) M = mIdle M := by rw [mGo, h]
theorem mGo_work {n : Nat} {p : Int32} {f : Nat} {M : zM} {j : Nat} (h : mFR n p M = some j) (h0 : mOrd M j = 0) : mGo n p (f + 1) M = mDo n j M := by
  rw [mGo, h]
  exact if_pos h0
theorem mGo_on {n : Nat} {p : Int32} {f : Nat} {M : zM} {j : Nat} (h : mFR n p M = some j) (h0 : ¬ mOrd M j = 0) : mGo n p (f + 1) M = mGo n p f (mDo n j M) := by
  rw [mGo, h]
  exact if_neg h0
theorem mHold_ok {n w : Nat} {M : zM} (h : mInv n w M) {t : Nat} (ht : t < 2 ^ 31) (et : M.1 51 28 = nI t) (h1 : ¬ mHold M w false < 0) : mHold M w false = nI (mHold M w false).toNatClampNeg ∧ (mHold M w false).toNatClampNeg < 3 := by
  unfold mHold at h1 ⊢
  split
  · rename_i h0
    rw [if_pos h0] at h1
    exact absurd (by decide) h1
  · rename_i h0
    have hw : w ≠ 0 := fun q => h0 ((mAll_0 h).mpr q)
    have hr := mRem_eq h ht et hw
    have key : ∀ k i t, i + k = w → (∃ r, t = nI r ∧ r < mTl M k i) → (mIx M k i t).1 < w := by
      intro k
      induction k with
      | zero =>
        intro i t hk hP
        obtain ⟨r, -, hr⟩ := hP
        exact absurd hr (by show ¬ r < 0; omega)
      | succ k ih =>
        intro i t hk hP
        obtain ⟨r, er, hr⟩ := hP
        unfold mIx
        split
        · show i < w; omega
        · rename_i hlt
          have hs := mSp_ok h (j := i) (by omega)
          have hT := mTl_le h (k + 1) i (by omega)
          have h8 : w ≤ 8 := h.1.2.1
          have hr2 : r < mSp M i + mTl M k (i + 1) := hr
          rw [er, hs.1, nI_ltI (by omega) (by omega)] at hlt
          exact ih (i + 1) _ (by omega) ⟨r - mSp M i, by rw [er, hs.1, pk_sub (by omega)], by omega⟩
    have hlt := key w 0 (mRem M w) (by omega) ⟨_, hr.1, hr.2⟩
    obtain ⟨q, hq, e⟩ := h.1.2.2.2.2.2.1 _ hlt
    show (if false = true then _ else M.1 52 _) = _ ∧ _
    simp only [Bool.false_eq_true, if_false]
    rw [e, nI_clamp (n := q) (by omega)]
    exact ⟨rfl, hq⟩
end
section
set_option maxHeartbeats 4000000 in
set_option maxRecDepth 100000 in
theorem c_B_one (l : Launch) (D : va_G) (cA : Nat → ClassId) (ad : Nat → Nat) (M : zM) (n w : Nat) (hI : mInv n w M) (x : Int32) (k : Nat) (hk : k < 8) (ex : x = nI k) : Ci l D cA ad y_B_one b_B_one 4 (some (.boolean)) (zr 4 87) [zR 51, zI x] M (fun r M' => M' = mDo n k M ∧ ((r = 1 ∧ mOrd M k = 0) ∨ (r = 0 ∧ ¬ mOrd M k = 0))) := by
  refine zMi_of (plainFor_of_name (by decide)) (Nat.le_of_ble_eq_true rfl) ?_
  intro p e s m args below meth c A X
  subst ex
  refine z_bipush X (v := 8) d_B_one_0 (by decide) ?_
  refine z_iload_n X 1 d_B_one_2 rfl rfl ?_
  refine z_imul X d_B_one_3 ?_
  refine z_aload_n X 0 d_B_one_4 rfl rfl ?_
  refine z_get X fl_B_46 51 e_B rfl rfl d_B_one_5 ?_
  refine z_iload_n X 1 d_B_one_8 rfl rfl ?_
  refine z_iald X 64 e_B_at rfl k rfl hk (by decide) d_B_one_9 ?_
  refine z_iadd X d_B_one_10 ?_
  refine z_istore_n X (L' := [(2, zI ((8 * (nI k)) + (M.1 64 k))), (0, zR 51), (1, zI (nI k))]) d_B_one_11 rfl (by decide) rfl ?_
  refine z_aload_n X 1 d_B_one_12 rfl rfl ?_
  refine z_get X fl_B_40 51 e_B rfl rfl d_B_one_13 ?_
  refine z_iload_n X 0 d_B_one_16 rfl rfl ?_
  refine z_iald X 62 e_B_number rfl (8 * k + mAt M k) (mIx_eq hI hk) (mIx_lt hI hk) (by decide) d_B_one_17 ?_
  refine z_istore_n X (L' := [(3, zI (M.1 62 (8 * k + mAt M k))), (2, zI ((8 * (nI k)) + (M.1 64 k))), (0, zR 51), (1, zI (nI k))]) d_B_one_18 rfl (by decide) rfl ?_
  refine z_aload_n X 2 d_B_one_19 rfl rfl ?_
  refine z_get X fl_B_37 51 e_B rfl rfl d_B_one_20 ?_
  refine z_iload_n X 1 d_B_one_23 rfl rfl ?_
  refine z_iald X 61 e_B_order rfl (8 * k + mAt M k) (mIx_eq hI hk) (mIx_lt hI hk) (by decide) d_B_one_24 ?_
  refine z_if_ne X 65 d_B_one_25 (by decide) (fun c_25 => ?_) (fun c_25 => ?_)
  · refine z_aload_n X 2 d_B_one_65 rfl rfl ?_
    refine z_get X fl_B_37 51 e_B rfl rfl d_B_one_66 ?_
    refine z_iload_n X 1 d_B_one_69 rfl rfl ?_
    refine z_iald X 61 e_B_order rfl (8 * k + mAt M k) (mIx_eq hI hk) (mIx_lt hI hk) (by decide) d_B_one_70 ?_
    refine z_iconst X (v := 1) d_B_one_71 (by decide) ?_
    refine z_icmp_ne X 84 d_B_one_72 (by decide) (fun c_72 => ?_) (fun c_72 => ?_)
    · refine z_aload_n X 2 d_B_one_84 rfl rfl ?_
      refine z_get X fl_B_37 51 e_B rfl rfl d_B_one_85 ?_
      refine z_iload_n X 1 d_B_one_88 rfl rfl ?_
      refine z_iald X 61 e_B_order rfl (8 * k + mAt M k) (mIx_eq hI hk) (mIx_lt hI hk) (by decide) d_B_one_89 ?_
      refine z_iconst X (v := 2) d_B_one_90 (by decide) ?_
      refine z_icmp_ne X 103 d_B_one_91 (by decide) (fun c_91 => ?_) (fun c_91 => ?_)
      · refine z_aload_n X 2 d_B_one_103 rfl rfl ?_
        refine z_get X fl_B_37 51 e_B rfl rfl d_B_one_104 ?_
        refine z_iload_n X 1 d_B_one_107 rfl rfl ?_
        refine z_iald X 61 e_B_order rfl (8 * k + mAt M k) (mIx_eq hI hk) (mIx_lt hI hk) (by decide) d_B_one_108 ?_
        refine z_iconst X (v := 3) d_B_one_109 (by decide) ?_
        refine z_icmp_ne X 122 d_B_one_110 (by decide) (fun c_110 => ?_) (fun c_110 => ?_)
        · refine z_aload_n X 2 d_B_one_122 rfl rfl ?_
          refine z_iload_n X 3 d_B_one_123 rfl rfl ?_
          refine z_iload_n X 0 d_B_one_124 rfl rfl ?_
          refine z_Vv X GG_ok cf_B_139 51 [zI (nI k), zI (M.1 62 (8 * k + mAt M k))] [] (c_B_down l D cA ad _ n w hI _ k hk rfl _ (mNum M k).toNatClampNeg (mNum_lt hI hk c_25).1 (mNum_lt hI hk c_25).2) ⟨rfl, rfl⟩ (by decide) e_B rfl rfl rfl rfl (Nat.le_of_ble_eq_true rfl) ⟨Nat.zero_le _, Nat.zero_le _⟩ d_B_one_125 (fun M2 h3 => ?_)
          have qh3 := h3.symm
          subst qh3
          refine z_iconst X (v := 0) d_B_one_128 (by decide) ?_
          exact z_zret X rfl (⟨by rw [mDo, if_neg (show ¬ mOrd M k = 0 from c_25), if_neg (show ¬ mOrd M k = 1 from c_72), if_neg (show ¬ mOrd M k = 2 from c_91), if_neg (show ¬ mOrd M k = 3 from c_110)], Or.inr ⟨rfl, c_25⟩⟩) d_B_one_129
        · refine z_aload_n X 2 d_B_one_113 rfl rfl ?_
          refine z_iload_n X 3 d_B_one_114 rfl rfl ?_
          refine z_iload_n X 0 d_B_one_115 rfl rfl ?_
          refine z_Vv X GG_ok cf_B_136 51 [zI (nI k), zI (M.1 62 (8 * k + mAt M k))] [] (c_B_up l D cA ad _ n w hI _ k hk rfl _ (mNum M k).toNatClampNeg (mNum_lt hI hk c_25).1 (mNum_lt hI hk c_25).2) ⟨rfl, rfl⟩ (by decide) e_B rfl rfl rfl rfl (Nat.le_of_ble_eq_true rfl) ⟨Nat.zero_le _, Nat.zero_le _⟩ d_B_one_116 (fun M5 h6 => ?_)
          have qh6 := h6.symm
          subst qh6
          refine z_goto X 128 d_B_one_119 (by decide) ?_
          refine z_iconst X (v := 0) d_B_one_128 (by decide) ?_
          exact z_zret X rfl (⟨by rw [mDo, if_neg (show ¬ mOrd M k = 0 from c_25), if_neg (show ¬ mOrd M k = 1 from c_72), if_neg (show ¬ mOrd M k = 2 from c_91), if_pos (show mOrd M k = 3 from c_110)], Or.inr ⟨rfl, c_25⟩⟩) d_B_one_129
      · refine z_aload_n X 2 d_B_one_94 rfl rfl ?_
        refine z_iload_n X 3 d_B_one_95 rfl rfl ?_
        refine z_iload_n X 0 d_B_one_96 rfl rfl ?_
        refine z_Vv X GG_ok cf_B_133 51 [zI (nI k), zI (M.1 62 (8 * k + mAt M k))] [] (c_B_take l D cA ad _ n w hI _ k hk rfl _ (mNum M k).toNatClampNeg (mNum_lt hI hk c_25).1 (mNum_lt hI hk c_25).2) ⟨rfl, rfl⟩ (by decide) e_B rfl rfl rfl rfl (Nat.le_of_ble_eq_true rfl) ⟨Nat.zero_le _, Nat.zero_le _⟩ d_B_one_97 (fun M8 h9 => ?_)
        have qh9 := h9.symm
        subst qh9
        refine z_goto X 128 d_B_one_100 (by decide) ?_
        refine z_iconst X (v := 0) d_B_one_128 (by decide) ?_
        exact z_zret X rfl (⟨by rw [mDo, if_neg (show ¬ mOrd M k = 0 from c_25), if_neg (show ¬ mOrd M k = 1 from c_72), if_pos (show mOrd M k = 2 from c_91)], Or.inr ⟨rfl, c_25⟩⟩) d_B_one_129
    · refine z_aload_n X 2 d_B_one_75 rfl rfl ?_
      refine z_iload_n X 3 d_B_one_76 rfl rfl ?_
      refine z_iload_n X 0 d_B_one_77 rfl rfl ?_
      refine z_Vv X GG_ok cf_B_130 51 [zI (nI k), zI (M.1 62 (8 * k + mAt M k))] [] (c_B_send l D cA ad _ n w hI _ k hk rfl _ (mNum M k).toNatClampNeg (mNum_lt hI hk c_25).1 (mNum_lt hI hk c_25).2) ⟨rfl, rfl⟩ (by decide) e_B rfl rfl rfl rfl (Nat.le_of_ble_eq_true rfl) ⟨Nat.zero_le _, Nat.zero_le _⟩ d_B_one_78 (fun M11 h12 => ?_)
      have qh12 := h12.symm
      subst qh12
      refine z_goto X 128 d_B_one_81 (by decide) ?_
      refine z_iconst X (v := 0) d_B_one_128 (by decide) ?_
      exact z_zret X rfl (⟨by rw [mDo, if_neg (show ¬ mOrd M k = 0 from c_25), if_pos (show mOrd M k = 1 from c_72)], Or.inr ⟨rfl, c_25⟩⟩) d_B_one_129
  · refine z_aload_n X 2 d_B_one_28 rfl rfl ?_
    refine z_get X fl_B_64 51 e_B rfl rfl d_B_one_29 ?_
    refine z_iload_n X 3 d_B_one_32 rfl rfl ?_
    refine z_dup2 X d_B_one_33 rfl rfl ?_
    refine z_iald X 70 e_B_work rfl k rfl hk (by decide) d_B_one_34 ?_
    refine z_iconst X (v := 1) d_B_one_35 (by decide) ?_
    refine z_iadd X d_B_one_36 ?_
    refine z_iast X 70 e_B_work rfl k rfl hk (by decide) d_B_one_37 ?_
    refine z_aload_n X 2 d_B_one_38 rfl rfl ?_
    refine z_get X fl_B_49 51 e_B rfl rfl d_B_one_39 ?_
    refine z_iload_n X 3 d_B_one_42 rfl rfl ?_
    refine z_dup2 X d_B_one_43 rfl rfl ?_
    refine z_iald X 65 e_B_worked rfl k rfl hk (by decide) d_B_one_44 ?_
    refine z_iconst X (v := 1) d_B_one_45 (by decide) ?_
    refine z_iadd X d_B_one_46 ?_
    refine z_iast X 65 e_B_worked rfl k rfl hk (by decide) d_B_one_47 ?_
    refine z_aload_n X 2 d_B_one_48 rfl rfl ?_
    refine z_get X fl_B_49 51 e_B rfl rfl d_B_one_49 ?_
    refine z_iload_n X 3 d_B_one_52 rfl rfl ?_
    refine z_iald X 65 e_B_worked rfl k rfl hk (by decide) d_B_one_53 ?_
    refine z_iload_n X 0 d_B_one_54 rfl rfl ?_
    refine z_icmp_ne X 63 d_B_one_55 (by decide) (fun c_55 => ?_) (fun c_55 => ?_)
    · refine z_iconst X (v := 1) d_B_one_63 (by decide) ?_
      exact z_zret X rfl (⟨by rw [mDo, if_pos (show mOrd M k = 0 from c_25)]; unfold mWork; first | (rw [if_pos (show (mWork2 k M).1 65 k = mNum M k from c_55)]; rfl) | (rw [if_neg (show ¬ (mWork2 k M).1 65 k = mNum M k from c_55)]; rfl), Or.inl ⟨rfl, c_25⟩⟩) d_B_one_64
    · refine z_aload_n X 2 d_B_one_58 rfl rfl ?_
      refine z_iload_n X 3 d_B_one_59 rfl rfl ?_
      refine z_Vv X GG_ok cf_B_117 51 [zI (nI k)] [] (c_B_advance l D cA ad _ _ k hk rfl ) ⟨rfl, rfl⟩ (by decide) e_B rfl rfl rfl rfl (Nat.le_of_ble_eq_true rfl) ⟨Nat.zero_le _, Nat.zero_le _⟩ d_B_one_60 (fun M14 h15 => ?_)
      have qh15 := h15.symm
      subst qh15
      refine z_iconst X (v := 1) d_B_one_63 (by decide) ?_
      exact z_zret X rfl (⟨by rw [mDo, if_pos (show mOrd M k = 0 from c_25)]; unfold mWork; first | (rw [if_pos (show (mWork2 k M).1 65 k = mNum M k from c_55)]; rfl) | (rw [if_neg (show ¬ (mWork2 k M).1 65 k = mNum M k from c_55)]; rfl), Or.inl ⟨rfl, c_25⟩⟩) d_B_one_64

set_option maxHeartbeats 4000000 in
set_option maxRecDepth 100000 in
theorem c_B_releases (l : Launch) (D : va_G) (cA : Nat → ClassId) (ad : Nat → Nat) (M : zM) (n w : Nat) (hI : mInv n w M) : Cv l D cA ad y_B_releases b_B_releases 2 none (zr 2 43) [zR 51] M (fun M' => M' = kFor mRelOne n 0 M) := by
  refine zMv_of (plainFor_of_name (by decide)) (Nat.le_of_ble_eq_true rfl) ?_
  intro p e s m args below meth c A X
  have loop : ∀ (k i : Nat) (N : zM), i + k = n → mInv n w N → kFor mRelOne k i N = kFor mRelOne n 0 M → zW p l e (zr 2 43) s m args below meth c 0 0 (MQ below (va_Qv (fun M' => M' = kFor mRelOne n 0 M) (fun M' t => va_P D cls (z_w cA ad M' 0 EE) t.heap) A) args s 0 0 A) A D cls cA ad EE 2 N 2 [(1, zI (nI i)), (0, zR 51)] [] := by
    intro k
    induction k with
    | zero =>
      intro i N hk hN hq
      have hn := mInv_n hN
      refine z_iload_n X 0 d_B_releases_2 rfl rfl ?_
      refine z_aload_n X 1 d_B_releases_3 rfl rfl ?_
      refine z_get X fl_B_97 51 e_B rfl rfl d_B_releases_4 ?_
      refine z_icmp_ge X 98 d_B_releases_7 (by decide) (fun c_7 => ?_) (fun c_7 => absurd (by rw [mInv_cnt hN, show i = n by omega]; exact nI_le (Nat.le_refl _) (by omega)) c_7)
      exact z_vret X hq d_B_releases_98
    | succ k ih =>
      intro i N hk hN hq
      have hn := mInv_n hN
      have hi : i < 8 := by omega
      refine z_iload_n X 0 d_B_releases_2 rfl rfl ?_
      refine z_aload_n X 1 d_B_releases_3 rfl rfl ?_
      refine z_get X fl_B_97 51 e_B rfl rfl d_B_releases_4 ?_
      refine z_icmp_ge X 98 d_B_releases_7 (by decide) (fun c_7 => absurd c_7 (by rw [mInv_cnt hN]; exact nI_ge (by omega) (by omega))) (fun c_7 => ?_)
      refine z_aload_n X 1 d_B_releases_10 rfl rfl ?_
      refine z_get X fl_B_16 51 e_B rfl rfl d_B_releases_11 ?_
      refine z_aload_n X 1 d_B_releases_14 rfl rfl ?_
      refine z_get X fl_B_22 51 e_B rfl rfl d_B_releases_15 ?_
      refine z_iload_n X 0 d_B_releases_18 rfl rfl ?_
      refine z_iald X 56 e_B_partition rfl i rfl hi (by decide) d_B_releases_19 ?_
      refine z_iald X 54 e_B_state rfl (mPt N i) (mPt_eq hN hi) (mPt_lt hN hi) (by decide) d_B_releases_20 ?_
      refine z_iconst X (v := 1) d_B_releases_21 (by decide) ?_
      refine z_icmp_ne X 92 d_B_releases_22 (by decide) (fun c_22 => ?_) (fun c_22 => ?_)
      · refine z_iinc X 0 (v := nI (i + 1)) (L' := [(1, zI (nI (i + 1))), (0, zR 51)]) d_B_releases_92 rfl (nI_1 i) (by decide) rfl ?_
        refine z_goto X 2 d_B_releases_95 (by decide) ?_
        have hX1 : mRelOne i N = N := by simp only [mRelOne, mRelA, c_22, if_true, if_false]
        exact ih (i + 1) N (by omega) (hX1 ▸ mInv_RelOne i N hi hN) (hX1 ▸ hq)
      · refine z_aload_n X 1 d_B_releases_25 rfl rfl ?_
        refine z_get X fl_B_28 51 e_B rfl rfl d_B_releases_26 ?_
        refine z_iload_n X 0 d_B_releases_29 rfl rfl ?_
        refine z_iald X 58 e_B_period rfl i rfl hi (by decide) d_B_releases_30 ?_
        refine z_if_eq X 92 d_B_releases_31 (by decide) (fun c_31 => ?_) (fun c_31 => ?_)
        · refine z_iinc X 0 (v := nI (i + 1)) (L' := [(1, zI (nI (i + 1))), (0, zR 51)]) d_B_releases_92 rfl (nI_1 i) (by decide) rfl ?_
          refine z_goto X 2 d_B_releases_95 (by decide) ?_
          have hX2 : mRelOne i N = N := by simp only [mRelOne, mRelA, c_22, c_31, if_true, if_false]
          exact ih (i + 1) N (by omega) (hX2 ▸ mInv_RelOne i N hi hN) (hX2 ▸ hq)
        · refine z_aload_n X 1 d_B_releases_34 rfl rfl ?_
          refine z_get X fl_B_70 51 e_B rfl rfl d_B_releases_35 ?_
          refine z_iload_n X 0 d_B_releases_38 rfl rfl ?_
          refine z_iald X 72 e_B_next rfl i rfl hi (by decide) d_B_releases_39 ?_
          refine z_aload_n X 1 d_B_releases_40 rfl rfl ?_
          refine z_get X fl_B_104 51 e_B rfl rfl d_B_releases_41 ?_
          refine z_icmp_eq X 50 d_B_releases_44 (by decide) (fun c_44 => ?_) (fun c_44 => ?_)
          · refine z_aload_n X 1 d_B_releases_50 rfl rfl ?_
            refine z_get X fl_B_43 51 e_B rfl rfl d_B_releases_51 ?_
            refine z_iload_n X 0 d_B_releases_54 rfl rfl ?_
            refine z_iald X 63 e_B_is rfl i rfl hi (by decide) d_B_releases_55 ?_
            refine z_if_ne X 67 d_B_releases_56 (by decide) (fun c_56 => ?_) (fun c_56 => ?_)
            · refine z_aload_n X 1 d_B_releases_67 rfl rfl ?_
              refine z_get X fl_B_61 51 e_B rfl rfl d_B_releases_68 ?_
              refine z_iload_n X 0 d_B_releases_71 rfl rfl ?_
              refine z_dup2 X d_B_releases_72 rfl rfl ?_
              refine z_iald X 69 e_B_skipped rfl i rfl hi (by decide) d_B_releases_73 ?_
              refine z_iconst X (v := 1) d_B_releases_74 (by decide) ?_
              refine z_iadd X d_B_releases_75 ?_
              refine z_iast X 69 e_B_skipped rfl i rfl hi (by decide) d_B_releases_76 ?_
              refine z_aload_n X 1 d_B_releases_77 rfl rfl ?_
              refine z_get X fl_B_70 51 e_B rfl rfl d_B_releases_78 ?_
              refine z_iload_n X 0 d_B_releases_81 rfl rfl ?_
              refine z_dup2 X d_B_releases_82 rfl rfl ?_
              refine z_iald X 72 e_B_next rfl i rfl hi (by decide) d_B_releases_83 ?_
              refine z_aload_n X 1 d_B_releases_84 rfl rfl ?_
              refine z_get X fl_B_28 51 e_B rfl rfl d_B_releases_85 ?_
              refine z_iload_n X 0 d_B_releases_88 rfl rfl ?_
              refine z_iald X 58 e_B_period rfl i rfl hi (by decide) d_B_releases_89 ?_
              refine z_iadd X d_B_releases_90 ?_
              refine z_iast X 72 e_B_next rfl i rfl hi (by decide) d_B_releases_91 ?_
              refine z_iinc X 0 (v := nI (i + 1)) (L' := [(1, zI (nI (i + 1))), (0, zR 51)]) d_B_releases_92 rfl (nI_1 i) (by decide) rfl ?_
              refine z_goto X 2 d_B_releases_95 (by decide) ?_
              have hX3 : mRelOne i N = z_si (z_si N 69 i ((N.1 69 i) + 1)) 72 i (((z_si N 69 i ((N.1 69 i) + 1)).1 72 i) + ((z_si N 69 i ((N.1 69 i) + 1)).1 58 i)) := by simp only [mRelOne, mRelA, c_22, c_31, c_44, c_56, if_true, if_false]
              exact ih (i + 1) (z_si (z_si N 69 i ((N.1 69 i) + 1)) 72 i (((z_si N 69 i ((N.1 69 i) + 1)).1 72 i) + ((z_si N 69 i ((N.1 69 i) + 1)).1 58 i))) (by omega) (hX3 ▸ mInv_RelOne i N hi hN) (hX3 ▸ hq)
            · refine z_aload_n X 1 d_B_releases_59 rfl rfl ?_
              refine z_iload_n X 0 d_B_releases_60 rfl rfl ?_
              refine z_Vv X GG_ok cf_B_114 51 [zI (nI i)] [] (c_B_release l D cA ad _ _ i hi rfl ) ⟨rfl, rfl⟩ (by decide) e_B rfl rfl rfl rfl (Nat.le_of_ble_eq_true rfl) ⟨Nat.zero_le _, Nat.zero_le _⟩ d_B_releases_61 (fun M5 h6 => ?_)
              have qh6 := h6.symm
              subst qh6
              refine z_goto X 77 d_B_releases_64 (by decide) ?_
              refine z_aload_n X 1 d_B_releases_77 rfl rfl ?_
              refine z_get X fl_B_70 51 e_B rfl rfl d_B_releases_78 ?_
              refine z_iload_n X 0 d_B_releases_81 rfl rfl ?_
              refine z_dup2 X d_B_releases_82 rfl rfl ?_
              refine z_iald X 72 e_B_next rfl i rfl hi (by decide) d_B_releases_83 ?_
              refine z_aload_n X 1 d_B_releases_84 rfl rfl ?_
              refine z_get X fl_B_28 51 e_B rfl rfl d_B_releases_85 ?_
              refine z_iload_n X 0 d_B_releases_88 rfl rfl ?_
              refine z_iald X 58 e_B_period rfl i rfl hi (by decide) d_B_releases_89 ?_
              refine z_iadd X d_B_releases_90 ?_
              refine z_iast X 72 e_B_next rfl i rfl hi (by decide) d_B_releases_91 ?_
              refine z_iinc X 0 (v := nI (i + 1)) (L' := [(1, zI (nI (i + 1))), (0, zR 51)]) d_B_releases_92 rfl (nI_1 i) (by decide) rfl ?_
              refine z_goto X 2 d_B_releases_95 (by decide) ?_
              have hX7 : mRelOne i N = z_si (mRel i  N) 72 i (((mRel i  N).1 72 i) + ((mRel i  N).1 58 i)) := by simp only [mRelOne, mRelA, c_22, c_31, c_44, c_56, if_true, if_false]
              exact ih (i + 1) (z_si (mRel i  N) 72 i (((mRel i  N).1 72 i) + ((mRel i  N).1 58 i))) (by omega) (hX7 ▸ mInv_RelOne i N hi hN) (hX7 ▸ hq)
          · refine z_goto X 92 d_B_releases_47 (by decide) ?_
            refine z_iinc X 0 (v := nI (i + 1)) (L' := [(1, zI (nI (i + 1))), (0, zR 51)]) d_B_releases_92 rfl (nI_1 i) (by decide) rfl ?_
            refine z_goto X 2 d_B_releases_95 (by decide) ?_
            have hX8 : mRelOne i N = N := by simp only [mRelOne, mRelA, c_22, c_31, c_44, if_true, if_false]
            exact ih (i + 1) N (by omega) (hX8 ▸ mInv_RelOne i N hi hN) (hX8 ▸ hq)
  refine z_iconst X (v := 0) d_B_releases_0 (by decide) ?_
  refine z_istore_n X (L' := [(1, zI 0), (0, zR 51)]) d_B_releases_1 rfl (by decide) rfl ?_
  exact loop n 0 M (by omega) hI rfl

set_option maxHeartbeats 4000000 in
set_option maxRecDepth 100000 in
theorem c_B_on (l : Launch) (D : va_G) (cA : Nat → ClassId) (ad : Nat → Nat) (M : zM) (n w : Nat) (hI : mInv n w M) (a : Int32) : Ci l D cA ad y_B_on b_B_on 3 (some (.int)) (zr 1 22) [zR 51, zI a] M (fun r M' => (¬ ((0 ≤ a ∧ a ≤ 2) ∧ ¬ M.1 54 a.toNatClampNeg = 1) ∧ M' = M ∧ r = (-1)) ∨ (((0 ≤ a ∧ a ≤ 2) ∧ ¬ M.1 54 a.toNatClampNeg = 1) ∧ M' = mOn n a M ∧ r = 0)) := by
  refine zMi_of (plainFor_of_name (by decide)) (Nat.le_of_ble_eq_true rfl) ?_
  intro p e s m args below meth c A X
  have loop : ∀ (k i : Nat) (N : zM), i + k = n → mInv n w N → ((0 ≤ a ∧ a ≤ 2) ∧ ¬ M.1 54 a.toNatClampNeg = 1) → kFor (mOn2 a) k i N = mOn n a M → zW p l e (zr 1 22) s m args below meth c 0 0 (MQ below (va_Qi (fun r M' => (¬ ((0 ≤ a ∧ a ≤ 2) ∧ ¬ M.1 54 a.toNatClampNeg = 1) ∧ M' = M ∧ r = (-1)) ∨ (((0 ≤ a ∧ a ≤ 2) ∧ ¬ M.1 54 a.toNatClampNeg = 1) ∧ M' = mOn n a M ∧ r = 0)) (fun M' t => va_P D cls (z_w cA ad M' 0 EE) t.heap) A) args s 0 0 A) A D cls cA ad EE 3 N 30 [(2, zI (nI i)), (0, zR 51), (1, zI a)] [] := by
    intro k
    induction k with
    | zero =>
      intro i N hk hN ho hq
      have hn := mInv_n hN
      refine z_iload_n X 0 d_B_on_30 rfl rfl ?_
      refine z_aload_n X 1 d_B_on_31 rfl rfl ?_
      refine z_get X fl_B_97 51 e_B rfl rfl d_B_on_32 ?_
      refine z_icmp_ge X 81 d_B_on_35 (by decide) (fun c_35 => ?_) (fun c_35 => absurd (by rw [mInv_cnt hN, show i = n by omega]; exact nI_le (Nat.le_refl _) (by omega)) c_35)
      refine z_iconst X (v := 0) d_B_on_81 (by decide) ?_
      exact z_iret X (Or.inr ⟨ho, hq, rfl⟩) d_B_on_82
    | succ k ih =>
      intro i N hk hN ho hq
      have hn := mInv_n hN
      have hi : i < 8 := by omega
      refine z_iload_n X 0 d_B_on_30 rfl rfl ?_
      refine z_aload_n X 1 d_B_on_31 rfl rfl ?_
      refine z_get X fl_B_97 51 e_B rfl rfl d_B_on_32 ?_
      refine z_icmp_ge X 81 d_B_on_35 (by decide) (fun c_35 => absurd c_35 (by rw [mInv_cnt hN]; exact nI_ge (by omega) (by omega))) (fun c_35 => ?_)
      refine z_aload_n X 1 d_B_on_38 rfl rfl ?_
      refine z_get X fl_B_22 51 e_B rfl rfl d_B_on_39 ?_
      refine z_iload_n X 0 d_B_on_42 rfl rfl ?_
      refine z_iald X 56 e_B_partition rfl i rfl hi (by decide) d_B_on_43 ?_
      refine z_iload_n X 2 d_B_on_44 rfl rfl ?_
      refine z_icmp_eq X 51 d_B_on_45 (by decide) (fun c_45 => ?_) (fun c_45 => ?_)
      · refine z_aload_n X 1 d_B_on_51 rfl rfl ?_
        refine z_iload_n X 0 d_B_on_52 rfl rfl ?_
        refine z_Vv X GG_ok cf_B_100 51 [zI (nI i)] [] (c_B_rest l D cA ad _ _ i hi rfl ) ⟨rfl, rfl⟩ (by decide) e_B rfl rfl rfl rfl (Nat.le_of_ble_eq_true rfl) ⟨Nat.zero_le _, Nat.zero_le _⟩ d_B_on_53 (fun M2 h3 => ?_)
        have qh3 := h3.symm
        subst qh3
        refine z_aload_n X 1 d_B_on_56 rfl rfl ?_
        refine z_get X fl_B_28 51 e_B rfl rfl d_B_on_57 ?_
        refine z_iload_n X 0 d_B_on_60 rfl rfl ?_
        refine z_iald X 58 e_B_period rfl i rfl hi (by decide) d_B_on_61 ?_
        refine z_if_le X 75 d_B_on_62 (by decide) (fun c_62 => ?_) (fun c_62 => ?_)
        · refine z_iinc X 0 (v := nI (i + 1)) (L' := [(2, zI (nI (i + 1))), (0, zR 51), (1, zI a)]) d_B_on_75 rfl (nI_1 i) (by decide) rfl ?_
          refine z_goto X 30 d_B_on_78 (by decide) ?_
          have hX4 : mOn2 a i N = mRest i  N := by simp only [mOn2, c_45, c_62, if_true, if_false]
          exact ih (i + 1) (mRest i  N) (by omega) (hX4 ▸ mInv_On2 a i N hi hN) ho (hX4 ▸ hq)
        · refine z_aload_n X 1 d_B_on_65 rfl rfl ?_
          refine z_get X fl_B_70 51 e_B rfl rfl d_B_on_66 ?_
          refine z_iload_n X 0 d_B_on_69 rfl rfl ?_
          refine z_aload_n X 1 d_B_on_70 rfl rfl ?_
          refine z_get X fl_B_104 51 e_B rfl rfl d_B_on_71 ?_
          refine z_iast X 72 e_B_next rfl i rfl hi (by decide) d_B_on_74 ?_
          refine z_iinc X 0 (v := nI (i + 1)) (L' := [(2, zI (nI (i + 1))), (0, zR 51), (1, zI a)]) d_B_on_75 rfl (nI_1 i) (by decide) rfl ?_
          refine z_goto X 30 d_B_on_78 (by decide) ?_
          have hX5 : mOn2 a i N = z_si (mRest i  N) 72 i ((mRest i  N).1 51 28) := by simp only [mOn2, c_45, c_62, if_true, if_false]
          exact ih (i + 1) (z_si (mRest i  N) 72 i ((mRest i  N).1 51 28)) (by omega) (hX5 ▸ mInv_On2 a i N hi hN) ho (hX5 ▸ hq)
      · refine z_goto X 75 d_B_on_48 (by decide) ?_
        refine z_iinc X 0 (v := nI (i + 1)) (L' := [(2, zI (nI (i + 1))), (0, zR 51), (1, zI a)]) d_B_on_75 rfl (nI_1 i) (by decide) rfl ?_
        refine z_goto X 30 d_B_on_78 (by decide) ?_
        have hX6 : mOn2 a i N = N := by simp only [mOn2, c_45, if_true, if_false]
        exact ih (i + 1) N (by omega) (hX6 ▸ mInv_On2 a i N hi hN) ho (hX6 ▸ hq)
  refine z_iload_n X 1 d_B_on_0 rfl rfl ?_
  refine z_iconst X (v := 0) d_B_on_1 (by decide) ?_
  refine z_iconst X (v := 2) d_B_on_2 (by decide) ?_
  refine z_Si X GG_ok cf_B_85 [zI a, zI 0, zI 2] [] (c_B_in l D cA ad _ _ _ _) ⟨rfl, rfl⟩ (by decide) rfl rfl (Nat.le_of_ble_eq_true rfl) ⟨Nat.zero_le _, Nat.zero_le _⟩ d_B_on_3 (fun r1 M2 h3 => ?_)
  have qh3 := h3.1.symm
  subst qh3
  obtain ⟨-, ⟨rfl, p4⟩ | ⟨rfl, p4⟩⟩ := h3
  · refine z_if_eq X 19 d_B_on_6 (by decide) (fun h => absurd h (by decide)) (fun _ => ?_)
    have ha := kC_ok p4
    refine z_aload_n X 0 d_B_on_9 rfl rfl ?_
    refine z_get X fl_B_16 51 e_B rfl rfl d_B_on_10 ?_
    refine z_iload_n X 1 d_B_on_13 rfl rfl ?_
    refine z_iald X 54 e_B_state rfl a.toNatClampNeg ha.1 ha.2 (by decide) d_B_on_14 ?_
    refine z_iconst X (v := 1) d_B_on_15 (by decide) ?_
    refine z_icmp_ne X 21 d_B_on_16 (by decide) (fun c_16 => ?_) (fun c_16 => ?_)
    · refine z_aload_n X 0 d_B_on_21 rfl rfl ?_
      refine z_get X fl_B_16 51 e_B rfl rfl d_B_on_22 ?_
      refine z_iload_n X 1 d_B_on_25 rfl rfl ?_
      refine z_iconst X (v := 1) d_B_on_26 (by decide) ?_
      refine z_iast X 54 e_B_state rfl a.toNatClampNeg ha.1 ha.2 (by decide) d_B_on_27 ?_
      refine z_iconst X (v := 0) d_B_on_28 (by decide) ?_
      refine z_istore_n X (L' := [(2, zI 0), (0, zR 51), (1, zI a)]) d_B_on_29 rfl (by decide) rfl ?_
      exact loop n 0 (z_si M 54 a.toNatClampNeg 1) (by omega) (mInv_si hI _ (by omega)) ⟨p4, c_16⟩ rfl
    · refine z_iconst X (v := (-1)) d_B_on_19 (by decide) ?_
      exact z_iret X (Or.inl ⟨fun q => q.2 c_16, rfl, rfl⟩) d_B_on_20
  · refine z_if_eq X 19 d_B_on_6 (by decide) (fun _ => ?_) (fun h => absurd h (by decide))
    refine z_iconst X (v := (-1)) d_B_on_19 (by decide) ?_
    exact z_iret X (Or.inl ⟨fun q => p4 q.1, rfl, rfl⟩) d_B_on_20
end
section
theorem h21 : ((2 : Int32) = 1) = False := eq_false (by decide)
theorem h12 : ((1 : Int32) = 2) = False := eq_false (by decide)
def mWadd (w : Nat) (a x : Int32) (M : zM) : zM := z_si (z_si (z_si M 52 w a) 53 w x) 51 2 (nI (w + 1))
def mProc (n : Nat) (a b d q : Int32) (M : zM) : zM := z_si (z_si (z_si (z_si (z_si (z_si (z_si M 56 n a) 57 n b) 58 n d) 59 n q) 67 n (-1)) 72 n (-1)) 51 5 (nI (n + 1))
def mOadd (k z : Nat) (b d : Int32) (M : zM) : zM := z_si (z_si (z_si M 61 (8 * k + z) b) 62 (8 * k + z) d) 60 k (nI (z + 1))
def mOkW (a x : Int32) (M : zM) : Prop := (0 ≤ a ∧ a ≤ 2) ∧ (1 ≤ x ∧ x ≤ 30) ∧ mAllOff M
def mOkP (a b d q : Int32) (M : zM) : Prop := (0 ≤ a ∧ a ≤ 2) ∧ (0 ≤ b ∧ b ≤ 9) ∧ (0 ≤ d ∧ d ≤ 60) ∧ (0 ≤ q ∧ q ≤ 60) ∧ mAllOff M
def mNumOk (b d : Int32) : Prop := (b = 0 → 1 ≤ d ∧ d ≤ 20) ∧ (¬ b = 0 → 0 ≤ d ∧ d ≤ 3)
def mOkO (a b d : Int32) (M : zM) : Prop := (0 ≤ a ∧ a ≤ M.1 51 5 - 1) ∧ (0 ≤ b ∧ b ≤ 4) ∧ mAllOff M ∧ mNumOk b d
def mOkS (a : Int32) (M : zM) : Prop := (0 ≤ a ∧ a ≤ M.1 51 5 - 1) ∧ ¬ 0 < M.1 58 a.toNatClampNeg ∧ M.1 63 a.toNatClampNeg = 0 ∧ M.1 54 (mPt M a.toNatClampNeg) = 1
def mCount (n w : Nat) (x : Int32) (M : zM) : Int32 :=
  if x = 0 then M.1 51 28 else if x = 1 then mHold M w false else if x = 2 then mHold M w true else if x = 3 then M.1 51 29 else if x = 4 then M.1 51 30 else if x = 5 then nI n else if x = 6 then nI w else (-1)
theorem mA_ok {n w : Nat} {M : zM} (hI : mInv n w M) {a : Int32} (h : 0 ≤ a ∧ a ≤ M.1 51 5 - 1) : a = nI a.toNatClampNeg ∧ a.toNatClampNeg < n := by
  have hn := mInv_n hI
  rw [mInv_cnt hI] at h
  rcases Nat.eq_zero_or_pos n with h0 | h0
  · subst h0
    have h1 := h.1
    have h2 := h.2
    rw [Int32.le_iff_toInt_le] at h1 h2
    have e : (nI 0 - 1).toInt = -1 := by decide
    have e0 : (0 : Int32).toInt = 0 := by decide
    omega
  · rw [nI_m1 (by omega)] at h
    have := kR_ok (c := nI (n - 1)) (N := n - 1) (nI_toInt (by omega)) h
    exact ⟨this.1, by omega⟩
theorem mHold_t {M : zM} {w : Nat} {i : Nat} {t : Int32} (h0 : ¬ mAll M w = 0) (hz : mIx M w 0 (mRem M w) = (i, t)) : mHold M w true = M.1 53 i - t := by
  unfold mHold
  rw [if_neg h0, hz]
  rfl
theorem mHold_f {M : zM} {w : Nat} {i : Nat} {t : Int32} (h0 : ¬ mAll M w = 0) (hz : mIx M w 0 (mRem M w) = (i, t)) : mHold M w false = M.1 52 i := by
  unfold mHold
  rw [if_neg h0, hz]
  rfl
theorem mIx_yes {M : zM} {k i : Nat} {t : Int32} (h : t < M.1 53 i) : mIx M (k + 1) i t = (i, t) := by rw [mIx, if_pos h]
theorem mIx_no {M : zM} {k i : Nat} {t : Int32} (h : ¬ t < M.1 53 i) : mIx M (k + 1) i t = mIx M k (i + 1) (t - M.1 53 i) := by rw [mIx, if_neg h]
theorem mP_no {n w : Nat} {M : zM} (hI : mInv n w M) {k i : Nat} {t : Int32} (hk : i + (k + 1) = w) (hP : ∃ r, t = nI r ∧ r < mTl M (k + 1) i) (h : ¬ t < M.1 53 i) : ∃ r, t - M.1 53 i = nI r ∧ r < mTl M k (i + 1) := by
  obtain ⟨r, er, hr⟩ := hP
  have hs := mSp_ok hI (j := i) (by omega)
  have hT := mTl_le hI (k + 1) i (by omega)
  have h8 : w ≤ 8 := hI.1.2.1
  have hr2 : r < mSp M i + mTl M k (i + 1) := hr
  rw [er, hs.1, nI_ltI (by omega) (by omega)] at h
  exact ⟨r - mSp M i, by rw [er, hs.1, pk_sub (by omega)], by omega⟩
end
section
set_option maxHeartbeats 4000000 in
set_option maxRecDepth 100000 in
theorem c_B_monitor (l : Launch) (D : va_G) (cA : Nat → ClassId) (ad : Nat → Nat) (M : zM) (n w : Nat) (hI : mInv n w M) : Cv l D cA ad y_B_monitor b_B_monitor 4 none (zr 1 22) [zR 51] M (fun M' => M' = kFor (mMissOne n) n 0 M) := by
  refine zMv_of (plainFor_of_name (by decide)) (Nat.le_of_ble_eq_true rfl) ?_
  intro p e s m args below meth c A X
  have inner : ∀ (i : Nat) (d : Int32) (R : zM), zW p l e (zr 1 22) s m args below meth c 0 0 (MQ below (va_Qv (fun M' => M' = kFor (mMissOne n) n 0 M) (fun M' t => va_P D cls (z_w cA ad M' 0 EE) t.heap) A) args s 0 0 A) A D cls cA ad EE 4 R 147 [(1, zI (nI i)), (2, zI d), (0, zR 51)] [] → ∀ (k j : Nat) (N : zM), j + k = n → mInv n w N → kFor (mRestOne d) k j N = R → zW p l e (zr 1 22) s m args below meth c 0 0 (MQ below (va_Qv (fun M' => M' = kFor (mMissOne n) n 0 M) (fun M' t => va_P D cls (z_w cA ad M' 0 EE) t.heap) A) args s 0 0 A) A D cls cA ad EE 4 N 118 [(3, zI (nI j)), (1, zI (nI i)), (2, zI d), (0, zR 51)] [] := by
    intro i d R hR k
    induction k with
    | zero =>
      intro j N hk hN hq
      have hn := mInv_n hN
      have hq : N = R := hq
      subst hq
      refine z_iload_n X 0 d_B_monitor_118 rfl rfl ?_
      refine z_aload_n X 3 d_B_monitor_119 rfl rfl ?_
      refine z_get X fl_B_97 51 e_B rfl rfl d_B_monitor_120 ?_
      refine z_icmp_ge X 147 d_B_monitor_123 (by decide) (fun c_123 => ?_) (fun c_123 => absurd (by rw [mInv_cnt hN, show j = n by omega]; exact nI_le (Nat.le_refl _) (by omega)) c_123)
      exact z_keep (ks := [1, 2, 3]) (L' := [(1, zI (nI i)), (2, zI d), (0, zR 51)]) rfl (hR)
    | succ k ih =>
      intro j N hk hN hq
      have hn := mInv_n hN
      have hj : j < 8 := by omega
      refine z_iload_n X 0 d_B_monitor_118 rfl rfl ?_
      refine z_aload_n X 3 d_B_monitor_119 rfl rfl ?_
      refine z_get X fl_B_97 51 e_B rfl rfl d_B_monitor_120 ?_
      refine z_icmp_ge X 147 d_B_monitor_123 (by decide) (fun c_123 => absurd c_123 (by rw [mInv_cnt hN]; exact nI_ge (by omega) (by omega))) (fun c_123 => ?_)
      refine z_aload_n X 3 d_B_monitor_126 rfl rfl ?_
      refine z_get X fl_B_22 51 e_B rfl rfl d_B_monitor_127 ?_
      refine z_iload_n X 0 d_B_monitor_130 rfl rfl ?_
      refine z_iald X 56 e_B_partition rfl j rfl hj (by decide) d_B_monitor_131 ?_
      refine z_iload_n X 2 d_B_monitor_132 rfl rfl ?_
      refine z_icmp_ne X 141 d_B_monitor_133 (by decide) (fun c_133 => ?_) (fun c_133 => ?_)
      · refine z_iinc X 0 (v := nI (j + 1)) (L' := [(3, zI (nI (j + 1))), (1, zI (nI i)), (2, zI d), (0, zR 51)]) d_B_monitor_141 rfl (nI_1 j) (by decide) rfl ?_
        refine z_goto X 118 d_B_monitor_144 (by decide) ?_
        have hX1 : mRestOne d j N = N := by simp only [mRestOne, c_133, if_true, if_false]
        exact ih (j + 1) N (by omega) (hX1 ▸ mInv_RestOne d j N hj hN) (hX1 ▸ hq)
      · refine z_aload_n X 3 d_B_monitor_136 rfl rfl ?_
        refine z_iload_n X 0 d_B_monitor_137 rfl rfl ?_
        refine z_Vv X GG_ok cf_B_100 51 [zI (nI j)] [] (c_B_rest l D cA ad _ _ j hj rfl ) ⟨rfl, rfl⟩ (by decide) e_B rfl rfl rfl rfl (Nat.le_of_ble_eq_true rfl) ⟨Nat.zero_le _, Nat.zero_le _⟩ d_B_monitor_138 (fun M3 h4 => ?_)
        have qh4 := h4.symm
        subst qh4
        refine z_iinc X 0 (v := nI (j + 1)) (L' := [(3, zI (nI (j + 1))), (1, zI (nI i)), (2, zI d), (0, zR 51)]) d_B_monitor_141 rfl (nI_1 j) (by decide) rfl ?_
        refine z_goto X 118 d_B_monitor_144 (by decide) ?_
        have hX5 : mRestOne d j N = mRest j  N := by simp only [mRestOne, c_133, if_true, if_false]
        exact ih (j + 1) (mRest j  N) (by omega) (hX5 ▸ mInv_RestOne d j N hj hN) (hX5 ▸ hq)
  have loop : ∀ (k i : Nat) (N : zM), i + k = n → mInv n w N → kFor (mMissOne n) k i N = kFor (mMissOne n) n 0 M → zW p l e (zr 1 22) s m args below meth c 0 0 (MQ below (va_Qv (fun M' => M' = kFor (mMissOne n) n 0 M) (fun M' t => va_P D cls (z_w cA ad M' 0 EE) t.heap) A) args s 0 0 A) A D cls cA ad EE 4 N 2 [(1, zI (nI i)), (0, zR 51)] [] := by
    intro k
    induction k with
    | zero =>
      intro i N hk hN hq
      have hn := mInv_n hN
      refine z_iload_n X 0 d_B_monitor_2 rfl rfl ?_
      refine z_aload_n X 1 d_B_monitor_3 rfl rfl ?_
      refine z_get X fl_B_97 51 e_B rfl rfl d_B_monitor_4 ?_
      refine z_icmp_ge X 153 d_B_monitor_7 (by decide) (fun c_7 => ?_) (fun c_7 => absurd (by rw [mInv_cnt hN, show i = n by omega]; exact nI_le (Nat.le_refl _) (by omega)) c_7)
      exact z_vret X hq d_B_monitor_153
    | succ k ih =>
      intro i N hk hN hq
      have hn := mInv_n hN
      have hi : i < 8 := by omega
      refine z_iload_n X 0 d_B_monitor_2 rfl rfl ?_
      refine z_aload_n X 1 d_B_monitor_3 rfl rfl ?_
      refine z_get X fl_B_97 51 e_B rfl rfl d_B_monitor_4 ?_
      refine z_icmp_ge X 153 d_B_monitor_7 (by decide) (fun c_7 => absurd c_7 (by rw [mInv_cnt hN]; exact nI_ge (by omega) (by omega))) (fun c_7 => ?_)
      refine z_aload_n X 1 d_B_monitor_10 rfl rfl ?_
      refine z_get X fl_B_22 51 e_B rfl rfl d_B_monitor_11 ?_
      refine z_iload_n X 0 d_B_monitor_14 rfl rfl ?_
      refine z_iald X 56 e_B_partition rfl i rfl hi (by decide) d_B_monitor_15 ?_
      refine z_istore_n X (L' := [(2, zI (N.1 56 i)), (1, zI (nI i)), (0, zR 51)]) d_B_monitor_16 rfl (by decide) rfl ?_
      refine z_aload_n X 2 d_B_monitor_17 rfl rfl ?_
      refine z_get X fl_B_16 51 e_B rfl rfl d_B_monitor_18 ?_
      refine z_iload_n X 0 d_B_monitor_21 rfl rfl ?_
      refine z_iald X 54 e_B_state rfl (mPt N i) (mPt_eq hN hi) (mPt_lt hN hi) (by decide) d_B_monitor_22 ?_
      refine z_iconst X (v := 1) d_B_monitor_23 (by decide) ?_
      refine z_icmp_ne X 147 d_B_monitor_24 (by decide) (fun c_24 => ?_) (fun c_24 => ?_)
      · refine z_iinc X 1 (v := nI (i + 1)) (L' := [(1, zI (nI (i + 1))), (2, zI (N.1 56 i)), (0, zR 51)]) d_B_monitor_147 rfl (nI_1 i) (by decide) rfl ?_
        refine z_goto X 2 d_B_monitor_150 (by decide) ?_
        have hX1 : mMissOne n i N = N := by simp only [mMissOne, mMiss3, mMiss2, mMiss1, c_24, h21, h12, if_true, if_false]
        exact z_keep (ks := [0, 2]) (L' := [(1, zI (nI (i + 1))), (0, zR 51)]) rfl (ih (i + 1) N (by omega) (hX1 ▸ mInv_MissOne i N hi hN) (hX1 ▸ hq))
      · refine z_aload_n X 2 d_B_monitor_27 rfl rfl ?_
        refine z_get X fl_B_43 51 e_B rfl rfl d_B_monitor_28 ?_
        refine z_iload_n X 1 d_B_monitor_31 rfl rfl ?_
        refine z_iald X 63 e_B_is rfl i rfl hi (by decide) d_B_monitor_32 ?_
        refine z_if_eq X 147 d_B_monitor_33 (by decide) (fun c_33 => ?_) (fun c_33 => ?_)
        · refine z_iinc X 1 (v := nI (i + 1)) (L' := [(1, zI (nI (i + 1))), (2, zI (N.1 56 i)), (0, zR 51)]) d_B_monitor_147 rfl (nI_1 i) (by decide) rfl ?_
          refine z_goto X 2 d_B_monitor_150 (by decide) ?_
          have hX2 : mMissOne n i N = N := by simp only [mMissOne, mMiss3, mMiss2, mMiss1, c_24, c_33, h21, h12, if_true, if_false]
          exact z_keep (ks := [0, 2]) (L' := [(1, zI (nI (i + 1))), (0, zR 51)]) rfl (ih (i + 1) N (by omega) (hX2 ▸ mInv_MissOne i N hi hN) (hX2 ▸ hq))
        · refine z_aload_n X 2 d_B_monitor_36 rfl rfl ?_
          refine z_get X fl_B_55 51 e_B rfl rfl d_B_monitor_37 ?_
          refine z_iload_n X 1 d_B_monitor_40 rfl rfl ?_
          refine z_iald X 67 e_B_deadline rfl i rfl hi (by decide) d_B_monitor_41 ?_
          refine z_aload_n X 2 d_B_monitor_42 rfl rfl ?_
          refine z_get X fl_B_104 51 e_B rfl rfl d_B_monitor_43 ?_
          refine z_icmp_eq X 52 d_B_monitor_46 (by decide) (fun c_46 => ?_) (fun c_46 => ?_)
          · refine z_aload_n X 2 d_B_monitor_52 rfl rfl ?_
            refine z_get X fl_B_58 51 e_B rfl rfl d_B_monitor_53 ?_
            refine z_iload_n X 1 d_B_monitor_56 rfl rfl ?_
            refine z_dup2 X d_B_monitor_57 rfl rfl ?_
            refine z_iald X 68 e_B_missed rfl i rfl hi (by decide) d_B_monitor_58 ?_
            refine z_iconst X (v := 1) d_B_monitor_59 (by decide) ?_
            refine z_iadd X d_B_monitor_60 ?_
            refine z_iast X 68 e_B_missed rfl i rfl hi (by decide) d_B_monitor_61 ?_
            refine z_aload_n X 2 d_B_monitor_62 rfl rfl ?_
            refine z_get X fl_B_55 51 e_B rfl rfl d_B_monitor_63 ?_
            refine z_iload_n X 1 d_B_monitor_66 rfl rfl ?_
            refine z_iconst X (v := (-1)) d_B_monitor_67 (by decide) ?_
            refine z_iast X 67 e_B_deadline rfl i rfl hi (by decide) d_B_monitor_68 ?_
            refine z_aload_n X 2 d_B_monitor_69 rfl rfl ?_
            refine z_get X fl_B_19 51 e_B rfl rfl d_B_monitor_70 ?_
            refine z_iload_n X 0 d_B_monitor_73 rfl rfl ?_
            refine z_iald X 55 e_B_action rfl (mPt N i) (mPt_eq hN hi) (mPt_lt hN hi) (by decide) d_B_monitor_74 ?_
            refine z_iconst X (v := 1) d_B_monitor_75 (by decide) ?_
            refine z_icmp_ne X 99 d_B_monitor_76 (by decide) (fun c_76 => ?_) (fun c_76 => ?_)
            · refine z_aload_n X 2 d_B_monitor_99 rfl rfl ?_
              refine z_get X fl_B_19 51 e_B rfl rfl d_B_monitor_100 ?_
              refine z_iload_n X 0 d_B_monitor_103 rfl rfl ?_
              refine z_iald X 55 e_B_action rfl (mPt N i) (mPt_eq hN hi) (mPt_lt hN hi) (by decide) d_B_monitor_104 ?_
              refine z_iconst X (v := 2) d_B_monitor_105 (by decide) ?_
              refine z_icmp_ne X 147 d_B_monitor_106 (by decide) (fun c_106 => ?_) (fun c_106 => ?_)
              · refine z_iinc X 1 (v := nI (i + 1)) (L' := [(1, zI (nI (i + 1))), (2, zI (N.1 56 i)), (0, zR 51)]) d_B_monitor_147 rfl (nI_1 i) (by decide) rfl ?_
                refine z_goto X 2 d_B_monitor_150 (by decide) ?_
                have hX3 : mMissOne n i N = z_si (z_si N 68 i ((N.1 68 i) + 1)) 67 i (-1) := by simp only [mMissOne, mMiss3, mMiss2, mMiss1, c_24, c_33, c_46, c_76, c_106, h21, h12, if_true, if_false]
                exact z_keep (ks := [0, 2]) (L' := [(1, zI (nI (i + 1))), (0, zR 51)]) rfl (ih (i + 1) (z_si (z_si N 68 i ((N.1 68 i) + 1)) 67 i (-1)) (by omega) (hX3 ▸ mInv_MissOne i N hi hN) (hX3 ▸ hq))
              · refine z_aload_n X 2 d_B_monitor_109 rfl rfl ?_
                refine z_get X fl_B_16 51 e_B rfl rfl d_B_monitor_110 ?_
                refine z_iload_n X 0 d_B_monitor_113 rfl rfl ?_
                refine z_iconst X (v := 2) d_B_monitor_114 (by decide) ?_
                refine z_iast X 54 e_B_state rfl (mPt N i) (mPt_eq hN hi) (mPt_lt hN hi) (by decide) d_B_monitor_115 ?_
                refine z_iconst X (v := 0) d_B_monitor_116 (by decide) ?_
                refine z_istore_n X (L' := [(3, zI 0), (2, zI (N.1 56 i)), (1, zI (nI i)), (0, zR 51)]) d_B_monitor_117 rfl (by decide) rfl ?_
                refine z_keep (ks := [0, 2, 1, 3]) (L' := [(3, zI 0), (1, zI (nI i)), (2, zI (N.1 56 i)), (0, zR 51)]) rfl (inner i (N.1 56 i) (kFor (mRestOne (N.1 56 i)) n 0 (z_si (z_si (z_si N 68 i ((N.1 68 i) + 1)) 67 i (-1)) 54 (mPt N i) 2)) ?_ n 0 _ (by omega) (mInv_si (mInv_Miss1 (k := i) hN) _ (by have := mPt_lt hN hi; omega)) rfl)
                refine z_iinc X 0 (v := nI (i + 1)) (L' := [(1, zI (nI (i + 1))), (2, zI (N.1 56 i)), (0, zR 51)]) d_B_monitor_147 rfl (nI_1 i) (by decide) rfl ?_
                refine z_goto X 2 d_B_monitor_150 (by decide) ?_
                have hX4 : mMissOne n i N = kFor (mRestOne (N.1 56 i)) n 0 (z_si (z_si (z_si N 68 i ((N.1 68 i) + 1)) 67 i (-1)) 54 (mPt N i) 2) := by simp only [mMissOne, mMiss3, mMiss2, mMiss1, c_24, c_33, c_46, c_76, c_106, h21, h12, if_true, if_false]; try rw [mPt_eq hN hi]
                exact z_keep (ks := [0, 2]) (L' := [(1, zI (nI (i + 1))), (0, zR 51)]) rfl (ih (i + 1) (kFor (mRestOne (N.1 56 i)) n 0 (z_si (z_si (z_si N 68 i ((N.1 68 i) + 1)) 67 i (-1)) 54 (mPt N i) 2)) (by omega) (hX4 ▸ mInv_MissOne i N hi hN) (hX4 ▸ hq))
            · have hps : 0 < mPs (z_si (z_si (z_si (z_si N 68 i ((N.1 68 i) + 1)) 67 i (-1)) 64 i 0) 65 i 0) i := by have := mN_lt hN hi c_33; unfold mPs at this ⊢; rw [z_si_other _ _ (by omega), z_si_other _ _ (by omega), z_si_other _ _ (by omega), z_si_other _ _ (by omega)]; omega
              refine z_aload_n X 2 d_B_monitor_79 rfl rfl ?_
              refine z_get X fl_B_46 51 e_B rfl rfl d_B_monitor_80 ?_
              refine z_iload_n X 1 d_B_monitor_83 rfl rfl ?_
              refine z_iconst X (v := 0) d_B_monitor_84 (by decide) ?_
              refine z_iast X 64 e_B_at rfl i rfl hi (by decide) d_B_monitor_85 ?_
              refine z_aload_n X 2 d_B_monitor_86 rfl rfl ?_
              refine z_get X fl_B_49 51 e_B rfl rfl d_B_monitor_87 ?_
              refine z_iload_n X 1 d_B_monitor_90 rfl rfl ?_
              refine z_iconst X (v := 0) d_B_monitor_91 (by decide) ?_
              refine z_iast X 65 e_B_worked rfl i rfl hi (by decide) d_B_monitor_92 ?_
              refine z_aload_n X 2 d_B_monitor_93 rfl rfl ?_
              refine z_iload_n X 1 d_B_monitor_94 rfl rfl ?_
              refine z_iconst X (v := 1) d_B_monitor_95 (by decide) ?_
              refine z_Vv X GG_ok cf_B_110 51 [zI (nI i), zI 1] [] (c_B_become l D cA ad _ _ i hi rfl _) ⟨rfl, rfl⟩ (by decide) e_B rfl rfl rfl rfl (Nat.le_of_ble_eq_true rfl) ⟨Nat.zero_le _, Nat.zero_le _⟩ d_B_monitor_96 (fun M6 h7 => ?_)
              have qh7 := h7.symm
              subst qh7
              refine z_aload_n X 2 d_B_monitor_99 rfl rfl ?_
              refine z_get X fl_B_19 51 e_B rfl rfl d_B_monitor_100 ?_
              refine z_iload_n X 0 d_B_monitor_103 rfl rfl ?_
              refine z_iald X 55 e_B_action rfl (mPt N i) (mPt_eq hN hi) (mPt_lt hN hi) (by decide) d_B_monitor_104 ?_
              refine z_iconst X (v := 2) d_B_monitor_105 (by decide) ?_
              refine z_icmp_ne X 147 d_B_monitor_106 (by decide) (fun c_106_8 => ?_) (fun c_106_8 => ?_)
              · refine z_iinc X 1 (v := nI (i + 1)) (L' := [(1, zI (nI (i + 1))), (2, zI (N.1 56 i)), (0, zR 51)]) d_B_monitor_147 rfl (nI_1 i) (by decide) rfl ?_
                refine z_goto X 2 d_B_monitor_150 (by decide) ?_
                have hX9 : mMissOne n i N = mBec i 1 (z_si (z_si (z_si (z_si N 68 i ((N.1 68 i) + 1)) 67 i (-1)) 64 i 0) 65 i 0) := by simp only [mMissOne, mMiss3, mMiss2, mMiss1, c_24, c_33, c_46, c_76, c_106_8, h21, h12, if_true, if_false]
                exact z_keep (ks := [0, 2]) (L' := [(1, zI (nI (i + 1))), (0, zR 51)]) rfl (ih (i + 1) (mBec i 1 (z_si (z_si (z_si (z_si N 68 i ((N.1 68 i) + 1)) 67 i (-1)) 64 i 0) 65 i 0)) (by omega) (hX9 ▸ mInv_MissOne i N hi hN) (hX9 ▸ hq))
              · refine z_aload_n X 2 d_B_monitor_109 rfl rfl ?_
                refine z_get X fl_B_16 51 e_B rfl rfl d_B_monitor_110 ?_
                refine z_iload_n X 0 d_B_monitor_113 rfl rfl ?_
                refine z_iconst X (v := 2) d_B_monitor_114 (by decide) ?_
                refine z_iast X 54 e_B_state rfl (mPt N i) (mPt_eq hN hi) (mPt_lt hN hi) (by decide) d_B_monitor_115 ?_
                refine z_iconst X (v := 0) d_B_monitor_116 (by decide) ?_
                refine z_istore_n X (L' := [(3, zI 0), (2, zI (N.1 56 i)), (1, zI (nI i)), (0, zR 51)]) d_B_monitor_117 rfl (by decide) rfl ?_
                refine z_keep (ks := [0, 2, 1, 3]) (L' := [(3, zI 0), (1, zI (nI i)), (2, zI (N.1 56 i)), (0, zR 51)]) rfl (inner i (N.1 56 i) (kFor (mRestOne (N.1 56 i)) n 0 (z_si (mBec i 1 (z_si (z_si (z_si (z_si N 68 i ((N.1 68 i) + 1)) 67 i (-1)) 64 i 0) 65 i 0)) 54 (mPt N i) 2)) ?_ n 0 _ (by omega) (mInv_si (mInv_Bec (mInv_si (mInv_at0 (mInv_Miss1 (k := i) hN) hi) _ (by omega)) hi _ (by rw [mAt_0 (by rw [z_si_other _ _ (by omega), z_si_same])]; exact hps)) _ (by have := mPt_lt hN hi; omega)) rfl)
                refine z_iinc X 0 (v := nI (i + 1)) (L' := [(1, zI (nI (i + 1))), (2, zI (N.1 56 i)), (0, zR 51)]) d_B_monitor_147 rfl (nI_1 i) (by decide) rfl ?_
                refine z_goto X 2 d_B_monitor_150 (by decide) ?_
                have hX10 : mMissOne n i N = kFor (mRestOne (N.1 56 i)) n 0 (z_si (mBec i 1 (z_si (z_si (z_si (z_si N 68 i ((N.1 68 i) + 1)) 67 i (-1)) 64 i 0) 65 i 0)) 54 (mPt N i) 2) := by simp only [mMissOne, mMiss3, mMiss2, mMiss1, c_24, c_33, c_46, c_76, c_106_8, h21, h12, if_true, if_false]; try rw [mPt_eq hN hi]
                exact z_keep (ks := [0, 2]) (L' := [(1, zI (nI (i + 1))), (0, zR 51)]) rfl (ih (i + 1) (kFor (mRestOne (N.1 56 i)) n 0 (z_si (mBec i 1 (z_si (z_si (z_si (z_si N 68 i ((N.1 68 i) + 1)) 67 i (-1)) 64 i 0) 65 i 0)) 54 (mPt N i) 2)) (by omega) (hX10 ▸ mInv_MissOne i N hi hN) (hX10 ▸ hq))
          · refine z_goto X 147 d_B_monitor_49 (by decide) ?_
            refine z_iinc X 1 (v := nI (i + 1)) (L' := [(1, zI (nI (i + 1))), (2, zI (N.1 56 i)), (0, zR 51)]) d_B_monitor_147 rfl (nI_1 i) (by decide) rfl ?_
            refine z_goto X 2 d_B_monitor_150 (by decide) ?_
            have hX11 : mMissOne n i N = N := by simp only [mMissOne, mMiss3, mMiss2, mMiss1, c_24, c_33, c_46, h21, h12, if_true, if_false]
            exact z_keep (ks := [0, 2]) (L' := [(1, zI (nI (i + 1))), (0, zR 51)]) rfl (ih (i + 1) N (by omega) (hX11 ▸ mInv_MissOne i N hi hN) (hX11 ▸ hq))
  refine z_iconst X (v := 0) d_B_monitor_0 (by decide) ?_
  refine z_istore_n X (L' := [(1, zI 0), (0, zR 51)]) d_B_monitor_1 rfl (by decide) rfl ?_
  exact loop n 0 M (by omega) hI rfl
end
section
set_option maxHeartbeats 4000000 in
set_option maxRecDepth 100000 in
theorem c_B_holder_0 (l : Launch) (D : va_G) (cA : Nat → ClassId) (ad : Nat → Nat) (M : zM) (n w : Nat) (hI : mInv n w M) (tm : Nat) (ht : tm < 2 ^ 31) (et : M.1 51 28 = nI tm) : Ci l D cA ad y_B_holder b_B_holder 5 (some (.int)) (zr 0 0) [zR 51, zI 0] M (fun r M' => M' = M ∧ r = mHold M w false) := by
  refine zMi_of (plainFor_of_name (by decide)) (Nat.le_of_ble_eq_true rfl) ?_
  intro p e s m args below meth c A X
  have h8 : w ≤ 8 := hI.1.2.1
  have loop2 : ¬ mAll M w = 0 → ∀ (k i : Nat) (t : Int32), i + k = w → (∃ r, t = nI r ∧ r < mTl M k i) → mIx M k i t = mIx M w 0 (mRem M w) → zW p l e (zr 0 0) s m args below meth c 0 0 (MQ below (va_Qi (fun r M' => M' = M ∧ r = mHold M w false) (fun M' t => va_P D cls (z_w cA ad M' 0 EE) t.heap) A) args s 0 0 A) A D cls cA ad EE 5 M 43 [(4, zI (nI i)), (3, zI t), (0, zR 51), (1, zI 0), (2, zI (mAll M w))] [] := by
    intro h0 k
    induction k with
    | zero =>
      intro i t hk hP hq
      obtain ⟨r, -, hr⟩ := hP
      exact absurd hr (by show ¬ r < 0; omega)
    | succ k ih =>
      intro i t hk hP hq
      have hi : i < 8 := by omega
      refine z_iload_n X 1 d_B_holder_43 rfl rfl ?_
      refine z_aload_n X 2 d_B_holder_44 rfl rfl ?_
      refine z_get X fl_B_13 51 e_B rfl rfl d_B_holder_45 ?_
      refine z_iload X 0 d_B_holder_48 rfl ?_
      refine z_iald X 53 e_B_span rfl i rfl hi (by decide) d_B_holder_50 ?_
      refine z_icmp_lt X 70 d_B_holder_51 (by decide) (fun c_51 => ?_) (fun c_51 => ?_)
      · refine z_iload_n X 3 d_B_holder_70 rfl rfl ?_
        refine z_if_eq X 86 d_B_holder_71 (by decide) (fun _ => ?_) (fun h => absurd h (by decide))
        refine z_aload_n X 2 d_B_holder_86 rfl rfl ?_
        refine z_get X fl_B_7 51 e_B rfl rfl d_B_holder_87 ?_
        refine z_iload X 0 d_B_holder_90 rfl ?_
        refine z_iald X 52 e_B_owner rfl i rfl hi (by decide) d_B_holder_92 ?_
        exact z_iret X (⟨rfl, (mHold_f h0 (hq.symm.trans (mIx_yes c_51))).symm⟩) d_B_holder_93
      · refine z_iload_n X 1 d_B_holder_54 rfl rfl ?_
        refine z_aload_n X 2 d_B_holder_55 rfl rfl ?_
        refine z_get X fl_B_13 51 e_B rfl rfl d_B_holder_56 ?_
        refine z_iload X 0 d_B_holder_59 rfl ?_
        refine z_iald X 53 e_B_span rfl i rfl hi (by decide) d_B_holder_61 ?_
        refine z_isub X d_B_holder_62 ?_
        refine z_istore_n X (L' := [(3, zI (t - (M.1 53 i))), (4, zI (nI i)), (0, zR 51), (1, zI 0), (2, zI (mAll M w))]) d_B_holder_63 rfl (by decide) rfl ?_
        refine z_iinc X 1 (v := nI (i + 1)) (L' := [(4, zI (nI (i + 1))), (3, zI (t - (M.1 53 i))), (0, zR 51), (1, zI 0), (2, zI (mAll M w))]) d_B_holder_64 rfl (nI_1 i) (by decide) rfl ?_
        refine z_goto X 43 d_B_holder_67 (by decide) ?_
        exact ih (i + 1) (t - M.1 53 i) (by omega) (mP_no hI hk hP c_51) ((mIx_no c_51).symm.trans hq)
  have loop : ∀ (k i : Nat) (a : Int32), i + k = w → mSum M k i a = mAll M w → zW p l e (zr 0 0) s m args below meth c 0 0 (MQ below (va_Qi (fun r M' => M' = M ∧ r = mHold M w false) (fun M' t => va_P D cls (z_w cA ad M' 0 EE) t.heap) A) args s 0 0 A) A D cls cA ad EE 5 M 4 [(3, zI (nI i)), (2, zI a), (0, zR 51), (1, zI 0)] [] := by
    intro k
    induction k with
    | zero =>
      intro i a hk hq
      have hq : a = mAll M w := hq
      subst hq
      refine z_iload_n X 0 d_B_holder_4 rfl rfl ?_
      refine z_aload_n X 2 d_B_holder_5 rfl rfl ?_
      refine z_get X fl_B_93 51 e_B rfl rfl d_B_holder_6 ?_
      refine z_icmp_ge X 27 d_B_holder_9 (by decide) (fun c_9 => ?_) (fun c_9 => absurd (by rw [hI.1.2.2.2.1, show i = w by omega]; exact nI_le (Nat.le_refl _) (by omega)) c_9)
      refine z_iload_n X 1 d_B_holder_27 rfl rfl ?_
      refine z_if_ne X 33 d_B_holder_28 (by decide) (fun c_28 => ?_) (fun c_28 => ?_)
      · refine z_aload_n X 2 d_B_holder_33 rfl rfl ?_
        refine z_get X fl_B_104 51 e_B rfl rfl d_B_holder_34 ?_
        refine z_iload_n X 1 d_B_holder_37 rfl rfl ?_
        refine z_irem X d_B_holder_38 c_28 ?_
        refine z_istore_n X (L' := [(3, zI ((M.1 51 28) - (M.1 51 28) / (mAll M w) * (mAll M w))), (2, zI (mAll M w)), (0, zR 51), (1, zI 0)]) d_B_holder_39 rfl (by decide) rfl ?_
        refine z_iconst X (v := 0) d_B_holder_40 (by decide) ?_
        refine z_istore X (L' := [(4, zI 0), (3, zI ((M.1 51 28) - (M.1 51 28) / (mAll M w) * (mAll M w))), (2, zI (mAll M w)), (0, zR 51), (1, zI 0)]) d_B_holder_41 (by decide) rfl ?_
        exact z_keep (ks := [0, 1, 3, 4, 2]) (L' := [(4, zI 0), (3, zI ((M.1 51 28) - (M.1 51 28) / (mAll M w) * (mAll M w))), (0, zR 51), (1, zI 0), (2, zI (mAll M w))]) rfl (loop2 c_28 w 0 (mRem M w) (by omega) (by have hr := mRem_eq hI ht et (fun q => c_28 ((mAll_0 hI).mpr q)); exact ⟨_, hr.1, hr.2⟩) rfl)
      · refine z_iconst X (v := (-1)) d_B_holder_31 (by decide) ?_
        exact z_iret X (⟨rfl, by rw [mHold, if_pos c_28]⟩) d_B_holder_32
    | succ k ih =>
      intro i a hk hq
      have hi : i < 8 := by omega
      refine z_iload_n X 0 d_B_holder_4 rfl rfl ?_
      refine z_aload_n X 2 d_B_holder_5 rfl rfl ?_
      refine z_get X fl_B_93 51 e_B rfl rfl d_B_holder_6 ?_
      refine z_icmp_ge X 27 d_B_holder_9 (by decide) (fun c_9 => absurd c_9 (by rw [hI.1.2.2.2.1]; exact nI_ge (by omega) (by omega))) (fun c_9 => ?_)
      refine z_iload_n X 1 d_B_holder_12 rfl rfl ?_
      refine z_aload_n X 2 d_B_holder_13 rfl rfl ?_
      refine z_get X fl_B_13 51 e_B rfl rfl d_B_holder_14 ?_
      refine z_iload_n X 0 d_B_holder_17 rfl rfl ?_
      refine z_iald X 53 e_B_span rfl i rfl hi (by decide) d_B_holder_18 ?_
      refine z_iadd X d_B_holder_19 ?_
      refine z_istore_n X (L' := [(2, zI (a + (M.1 53 i))), (3, zI (nI i)), (0, zR 51), (1, zI 0)]) d_B_holder_20 rfl (by decide) rfl ?_
      refine z_iinc X 1 (v := nI (i + 1)) (L' := [(3, zI (nI (i + 1))), (2, zI (a + (M.1 53 i))), (0, zR 51), (1, zI 0)]) d_B_holder_21 rfl (nI_1 i) (by decide) rfl ?_
      refine z_goto X 4 d_B_holder_24 (by decide) ?_
      exact ih (i + 1) (a + M.1 53 i) (by omega) hq
  refine z_iconst X (v := 0) d_B_holder_0 (by decide) ?_
  refine z_istore_n X (L' := [(2, zI 0), (0, zR 51), (1, zI 0)]) d_B_holder_1 rfl (by decide) rfl ?_
  refine z_iconst X (v := 0) d_B_holder_2 (by decide) ?_
  refine z_istore_n X (L' := [(3, zI 0), (2, zI 0), (0, zR 51), (1, zI 0)]) d_B_holder_3 rfl (by decide) rfl ?_
  exact loop w 0 0 (by omega) rfl

set_option maxHeartbeats 4000000 in
set_option maxRecDepth 100000 in
theorem c_B_holder_1 (l : Launch) (D : va_G) (cA : Nat → ClassId) (ad : Nat → Nat) (M : zM) (n w : Nat) (hI : mInv n w M) (tm : Nat) (ht : tm < 2 ^ 31) (et : M.1 51 28 = nI tm) : Ci l D cA ad y_B_holder b_B_holder 5 (some (.int)) (zr 0 0) [zR 51, zI 1] M (fun r M' => M' = M ∧ r = mHold M w true) := by
  refine zMi_of (plainFor_of_name (by decide)) (Nat.le_of_ble_eq_true rfl) ?_
  intro p e s m args below meth c A X
  have h8 : w ≤ 8 := hI.1.2.1
  have loop2 : ¬ mAll M w = 0 → ∀ (k i : Nat) (t : Int32), i + k = w → (∃ r, t = nI r ∧ r < mTl M k i) → mIx M k i t = mIx M w 0 (mRem M w) → zW p l e (zr 0 0) s m args below meth c 0 0 (MQ below (va_Qi (fun r M' => M' = M ∧ r = mHold M w true) (fun M' t => va_P D cls (z_w cA ad M' 0 EE) t.heap) A) args s 0 0 A) A D cls cA ad EE 5 M 43 [(4, zI (nI i)), (3, zI t), (0, zR 51), (1, zI 1), (2, zI (mAll M w))] [] := by
    intro h0 k
    induction k with
    | zero =>
      intro i t hk hP hq
      obtain ⟨r, -, hr⟩ := hP
      exact absurd hr (by show ¬ r < 0; omega)
    | succ k ih =>
      intro i t hk hP hq
      have hi : i < 8 := by omega
      refine z_iload_n X 1 d_B_holder_43 rfl rfl ?_
      refine z_aload_n X 2 d_B_holder_44 rfl rfl ?_
      refine z_get X fl_B_13 51 e_B rfl rfl d_B_holder_45 ?_
      refine z_iload X 0 d_B_holder_48 rfl ?_
      refine z_iald X 53 e_B_span rfl i rfl hi (by decide) d_B_holder_50 ?_
      refine z_icmp_lt X 70 d_B_holder_51 (by decide) (fun c_51 => ?_) (fun c_51 => ?_)
      · refine z_iload_n X 3 d_B_holder_70 rfl rfl ?_
        refine z_if_eq X 86 d_B_holder_71 (by decide) (fun h => absurd h (by decide)) (fun _ => ?_)
        refine z_aload_n X 2 d_B_holder_74 rfl rfl ?_
        refine z_get X fl_B_13 51 e_B rfl rfl d_B_holder_75 ?_
        refine z_iload X 0 d_B_holder_78 rfl ?_
        refine z_iald X 53 e_B_span rfl i rfl hi (by decide) d_B_holder_80 ?_
        refine z_iload_n X 1 d_B_holder_81 rfl rfl ?_
        refine z_isub X d_B_holder_82 ?_
        refine z_goto X 93 d_B_holder_83 (by decide) ?_
        exact z_iret X (⟨rfl, (mHold_t h0 (hq.symm.trans (mIx_yes c_51))).symm⟩) d_B_holder_93
      · refine z_iload_n X 1 d_B_holder_54 rfl rfl ?_
        refine z_aload_n X 2 d_B_holder_55 rfl rfl ?_
        refine z_get X fl_B_13 51 e_B rfl rfl d_B_holder_56 ?_
        refine z_iload X 0 d_B_holder_59 rfl ?_
        refine z_iald X 53 e_B_span rfl i rfl hi (by decide) d_B_holder_61 ?_
        refine z_isub X d_B_holder_62 ?_
        refine z_istore_n X (L' := [(3, zI (t - (M.1 53 i))), (4, zI (nI i)), (0, zR 51), (1, zI 1), (2, zI (mAll M w))]) d_B_holder_63 rfl (by decide) rfl ?_
        refine z_iinc X 1 (v := nI (i + 1)) (L' := [(4, zI (nI (i + 1))), (3, zI (t - (M.1 53 i))), (0, zR 51), (1, zI 1), (2, zI (mAll M w))]) d_B_holder_64 rfl (nI_1 i) (by decide) rfl ?_
        refine z_goto X 43 d_B_holder_67 (by decide) ?_
        exact ih (i + 1) (t - M.1 53 i) (by omega) (mP_no hI hk hP c_51) ((mIx_no c_51).symm.trans hq)
  have loop : ∀ (k i : Nat) (a : Int32), i + k = w → mSum M k i a = mAll M w → zW p l e (zr 0 0) s m args below meth c 0 0 (MQ below (va_Qi (fun r M' => M' = M ∧ r = mHold M w true) (fun M' t => va_P D cls (z_w cA ad M' 0 EE) t.heap) A) args s 0 0 A) A D cls cA ad EE 5 M 4 [(3, zI (nI i)), (2, zI a), (0, zR 51), (1, zI 1)] [] := by
    intro k
    induction k with
    | zero =>
      intro i a hk hq
      have hq : a = mAll M w := hq
      subst hq
      refine z_iload_n X 0 d_B_holder_4 rfl rfl ?_
      refine z_aload_n X 2 d_B_holder_5 rfl rfl ?_
      refine z_get X fl_B_93 51 e_B rfl rfl d_B_holder_6 ?_
      refine z_icmp_ge X 27 d_B_holder_9 (by decide) (fun c_9 => ?_) (fun c_9 => absurd (by rw [hI.1.2.2.2.1, show i = w by omega]; exact nI_le (Nat.le_refl _) (by omega)) c_9)
      refine z_iload_n X 1 d_B_holder_27 rfl rfl ?_
      refine z_if_ne X 33 d_B_holder_28 (by decide) (fun c_28 => ?_) (fun c_28 => ?_)
      · refine z_aload_n X 2 d_B_holder_33 rfl rfl ?_
        refine z_get X fl_B_104 51 e_B rfl rfl d_B_holder_34 ?_
        refine z_iload_n X 1 d_B_holder_37 rfl rfl ?_
        refine z_irem X d_B_holder_38 c_28 ?_
        refine z_istore_n X (L' := [(3, zI ((M.1 51 28) - (M.1 51 28) / (mAll M w) * (mAll M w))), (2, zI (mAll M w)), (0, zR 51), (1, zI 1)]) d_B_holder_39 rfl (by decide) rfl ?_
        refine z_iconst X (v := 0) d_B_holder_40 (by decide) ?_
        refine z_istore X (L' := [(4, zI 0), (3, zI ((M.1 51 28) - (M.1 51 28) / (mAll M w) * (mAll M w))), (2, zI (mAll M w)), (0, zR 51), (1, zI 1)]) d_B_holder_41 (by decide) rfl ?_
        exact z_keep (ks := [0, 1, 3, 4, 2]) (L' := [(4, zI 0), (3, zI ((M.1 51 28) - (M.1 51 28) / (mAll M w) * (mAll M w))), (0, zR 51), (1, zI 1), (2, zI (mAll M w))]) rfl (loop2 c_28 w 0 (mRem M w) (by omega) (by have hr := mRem_eq hI ht et (fun q => c_28 ((mAll_0 hI).mpr q)); exact ⟨_, hr.1, hr.2⟩) rfl)
      · refine z_iconst X (v := (-1)) d_B_holder_31 (by decide) ?_
        exact z_iret X (⟨rfl, by rw [mHold, if_pos c_28]⟩) d_B_holder_32
    | succ k ih =>
      intro i a hk hq
      have hi : i < 8 := by omega
      refine z_iload_n X 0 d_B_holder_4 rfl rfl ?_
      refine z_aload_n X 2 d_B_holder_5 rfl rfl ?_
      refine z_get X fl_B_93 51 e_B rfl rfl d_B_holder_6 ?_
      refine z_icmp_ge X 27 d_B_holder_9 (by decide) (fun c_9 => absurd c_9 (by rw [hI.1.2.2.2.1]; exact nI_ge (by omega) (by omega))) (fun c_9 => ?_)
      refine z_iload_n X 1 d_B_holder_12 rfl rfl ?_
      refine z_aload_n X 2 d_B_holder_13 rfl rfl ?_
      refine z_get X fl_B_13 51 e_B rfl rfl d_B_holder_14 ?_
      refine z_iload_n X 0 d_B_holder_17 rfl rfl ?_
      refine z_iald X 53 e_B_span rfl i rfl hi (by decide) d_B_holder_18 ?_
      refine z_iadd X d_B_holder_19 ?_
      refine z_istore_n X (L' := [(2, zI (a + (M.1 53 i))), (3, zI (nI i)), (0, zR 51), (1, zI 1)]) d_B_holder_20 rfl (by decide) rfl ?_
      refine z_iinc X 1 (v := nI (i + 1)) (L' := [(3, zI (nI (i + 1))), (2, zI (a + (M.1 53 i))), (0, zR 51), (1, zI 1)]) d_B_holder_21 rfl (nI_1 i) (by decide) rfl ?_
      refine z_goto X 4 d_B_holder_24 (by decide) ?_
      exact ih (i + 1) (a + M.1 53 i) (by omega) hq
  refine z_iconst X (v := 0) d_B_holder_0 (by decide) ?_
  refine z_istore_n X (L' := [(2, zI 0), (0, zR 51), (1, zI 1)]) d_B_holder_1 rfl (by decide) rfl ?_
  refine z_iconst X (v := 0) d_B_holder_2 (by decide) ?_
  refine z_istore_n X (L' := [(3, zI 0), (2, zI 0), (0, zR 51), (1, zI 1)]) d_B_holder_3 rfl (by decide) rfl ?_
  exact loop w 0 0 (by omega) rfl
end
section
set_option maxHeartbeats 4000000 in
set_option maxRecDepth 100000 in
theorem c_B_run (l : Launch) (D : va_G) (cA : Nat → ClassId) (ad : Nat → Nat) (M : zM) (n w : Nat) (hI : mInv n w M) (tm : Nat) (ht : tm + 60 < 2 ^ 31) (et : M.1 51 28 = nI tm) (d : Nat) (h1 : 1 ≤ d) (h2 : d ≤ 60) : Ci l D cA ad y_B_run b_B_run 6 (some (.int)) (zr 5 110) [zR 51, zI (nI d)] M (fun r M' => M' = mTicks n w d M ∧ r = M'.1 51 28) := by
  refine zMi_of (plainFor_of_name (by decide)) (Nat.le_of_ble_eq_true rfl) ?_
  intro p e s m args below meth c A X
  have inner : ∀ (i : Nat) (pp : Int32) (R : zM), zW p l e (zr 5 110) s m args below meth c 0 0 (MQ below (va_Qi (fun r M' => M' = mTicks n w d M ∧ r = M'.1 51 28) (fun M' t => va_P D cls (z_w cA ad M' 0 EE) t.heap) A) args s 0 0 A) A D cls cA ad EE 6 R 107 [(3, zI pp), (2, zI (nI i)), (0, zR 51), (1, zI (nI d))] [] → ∀ (f : Nat) (N : zM), mInv n w N → mNu N 8 < f → mGo n pp f N = R → zW p l e (zr 5 110) s m args below meth c 0 0 (MQ below (va_Qi (fun r M' => M' = mTicks n w d M ∧ r = M'.1 51 28) (fun M' t => va_P D cls (z_w cA ad M' 0 EE) t.heap) A) args s 0 0 A) A D cls cA ad EE 6 N 58 [(5, zI (mEnc (mFR n pp N))), (4, zI 0), (3, zI pp), (2, zI (nI i)), (0, zR 51), (1, zI (nI d))] [] := by
    intro i pp R hR f
    induction f with
    | zero =>
      intro N hN hf
      exact absurd hf (by omega)
    | succ f ih =>
      intro N hN hf hq
      rcases hF : mFR n pp N with _ | j
      · refine z_iload X 1 d_B_run_58 rfl ?_
        refine z_if_ne X 92 d_B_run_60 (by decide) (fun h => absurd h (by decide)) (fun _ => ?_)
        refine z_iload X 0 d_B_run_63 rfl ?_
        refine z_if_lt X 92 d_B_run_65 (by decide) (fun _ => ?_) (fun h => absurd h (by decide))
        refine z_iload X 1 d_B_run_92 rfl ?_
        refine z_if_ne X 107 d_B_run_94 (by decide) (fun h => absurd h (by decide)) (fun _ => ?_)
        refine z_aload_n X 4 d_B_run_97 rfl rfl ?_
        refine z_dup X d_B_run_98 rfl ?_
        refine z_get X fl_B_156 51 e_B rfl rfl d_B_run_99 ?_
        refine z_iconst X (v := 1) d_B_run_102 (by decide) ?_
        refine z_iadd X d_B_run_103 ?_
        refine z_puti X fl_B_156 51 e_B rfl rfl rfl d_B_run_104 ?_
        have hE : z_si N 51 30 ((N.1 51 30) + 1) = R := (mGo_none hF).symm.trans hq
        rw [hE]
        exact z_keep (ks := [2, 3, 4, 5]) (L' := [(3, zI pp), (2, zI (nI i)), (0, zR 51), (1, zI (nI d))]) rfl (hR)
      · have hj : j < 8 := Nat.lt_of_lt_of_le (mFR_lt hF) (mInv_n hN)
        refine z_iload X 1 d_B_run_58 rfl ?_
        refine z_if_ne X 92 d_B_run_60 (by decide) (fun h => absurd h (by decide)) (fun _ => ?_)
        refine z_iload X 0 d_B_run_63 rfl ?_
        refine z_if_lt X 92 d_B_run_65 (by decide) (fun c_65 => absurd c_65 (nI_pos (by omega))) (fun c_65 => ?_)
        refine z_aload_n X 4 d_B_run_68 rfl rfl ?_
        refine z_iload X 0 d_B_run_69 rfl ?_
        refine z_Vi X GG_ok cf_B_152 51 [zI (nI j)] [] (c_B_one l D cA ad _ n w hN _ j hj rfl) ⟨rfl, rfl⟩ (by decide) e_B rfl rfl rfl rfl (Nat.le_of_ble_eq_true rfl) ⟨Nat.zero_le _, Nat.zero_le _⟩ d_B_run_71 (fun r1 M2 h3 => ?_)
        have qh3 := h3.1.symm
        subst qh3
        obtain ⟨-, ⟨rfl, po⟩ | ⟨rfl, po⟩⟩ := h3
        · refine z_istore X (L' := [(4, zI 1), (5, zI (nI j)), (3, zI pp), (2, zI (nI i)), (0, zR 51), (1, zI (nI d))]) d_B_run_74 (by decide) rfl ?_
          refine z_iload X 0 d_B_run_76 rfl ?_
          refine z_if_ne X 58 d_B_run_78 (by decide) (fun _ => ?_) (fun h => absurd h (by decide))
          refine z_iload X 0 d_B_run_58 rfl ?_
          refine z_if_ne X 92 d_B_run_60 (by decide) (fun _ => ?_) (fun h => absurd h (by decide))
          refine z_iload X 0 d_B_run_92 rfl ?_
          refine z_if_ne X 107 d_B_run_94 (by decide) (fun _ => ?_) (fun h => absurd h (by decide))
          have hE : mDo n j N = R := (mGo_work hF po).symm.trans hq
          rw [hE]
          exact z_keep (ks := [2, 3, 4, 5]) (L' := [(3, zI pp), (2, zI (nI i)), (0, zR 51), (1, zI (nI d))]) rfl (hR)
        · refine z_istore X (L' := [(4, zI 0), (5, zI (nI j)), (3, zI pp), (2, zI (nI i)), (0, zR 51), (1, zI (nI d))]) d_B_run_74 (by decide) rfl ?_
          refine z_iload X 0 d_B_run_76 rfl ?_
          refine z_if_ne X 58 d_B_run_78 (by decide) (fun h => absurd h (by decide)) (fun _ => ?_)
          refine z_aload_n X 4 d_B_run_81 rfl rfl ?_
          refine z_iconst X (v := 0) d_B_run_82 (by decide) ?_
          refine z_iload_n X 2 d_B_run_83 rfl rfl ?_
          refine z_Vi X GG_ok cf_B_120 51 [zI 0, zI pp] [] (c_B_first_R l D cA ad _ n w (mInv_Do hN hj (mFR_P hF).1) _) ⟨rfl, rfl⟩ (by decide) e_B rfl rfl rfl rfl (Nat.le_of_ble_eq_true rfl) ⟨Nat.zero_le _, Nat.zero_le _⟩ d_B_run_84 (fun r6 M7 h8 => ?_)
          have qh8 := h8.1.symm
          subst qh8
          obtain ⟨-, rfl⟩ := h8
          refine z_istore X (L' := [(5, zI (mEnc (mFR n pp (mDo n j N)))), (4, zI 0), (3, zI pp), (2, zI (nI i)), (0, zR 51), (1, zI (nI d))]) d_B_run_87 (by decide) rfl ?_
          refine z_goto X 58 d_B_run_89 (by decide) ?_
          exact ih (mDo n j N) (mInv_Do hN hj (mFR_P hF).1) (by have := mNu_Do hN hj (mFR_P hF).1 po; omega) ((mGo_on hF po).symm.trans hq)
  have loop : ∀ (k i : Nat) (N : zM), i + k = d → mInv n w N → N.1 51 28 = nI (tm + i) → mTicks n w k N = mTicks n w d M → zW p l e (zr 5 110) s m args below meth c 0 0 (MQ below (va_Qi (fun r M' => M' = mTicks n w d M ∧ r = M'.1 51 28) (fun M' t => va_P D cls (z_w cA ad M' 0 EE) t.heap) A) args s 0 0 A) A D cls cA ad EE 6 N 14 [(2, zI (nI i)), (0, zR 51), (1, zI (nI d))] [] := by
    intro k
    induction k with
    | zero =>
      intro i N hk hN hT hq
      refine z_iload_n X 0 d_B_run_14 rfl rfl ?_
      refine z_iload_n X 2 d_B_run_15 rfl rfl ?_
      refine z_icmp_ge X 123 d_B_run_16 (by decide) (fun c_16 => ?_) (fun c_16 => absurd (by rw [show i = d by omega]; exact nI_le (Nat.le_refl _) (by omega)) c_16)
      refine z_aload_n X 1 d_B_run_123 rfl rfl ?_
      refine z_get X fl_B_104 51 e_B rfl rfl d_B_run_124 ?_
      exact z_iret X (⟨hq, rfl⟩) d_B_run_127
    | succ k ih =>
      intro i N hk hN hT hq
      have hA : mInv n w (kFor (mMissOne n) n 0 (kFor mRelOne n 0 N)) := mInv_Tick1 hN
      have hR : mInv n w (kFor mRelOne n 0 N) := mInv_For (N := n) (fun i M hi hM => mInv_RelOne i M (Nat.lt_of_lt_of_le hi (mInv_n hN)) hM) _ _ _ (by omega) hN
      have hAt : (kFor (mMissOne n) n 0 (kFor mRelOne n 0 N)).1 51 28 = nI (tm + i) := (mTick1_t n N).trans hT
      refine z_iload_n X 0 d_B_run_14 rfl rfl ?_
      refine z_iload_n X 2 d_B_run_15 rfl rfl ?_
      refine z_icmp_ge X 123 d_B_run_16 (by decide) (fun c_16 => absurd c_16 (nI_ge (by omega) (by omega))) (fun c_16 => ?_)
      refine z_aload_n X 1 d_B_run_19 rfl rfl ?_
      refine z_Vv X GG_ok cf_B_142 51 [] [] (c_B_releases l D cA ad _ n w hN) ⟨rfl, rfl⟩ (by decide) e_B rfl rfl rfl rfl (Nat.le_of_ble_eq_true rfl) ⟨Nat.zero_le _, Nat.zero_le _⟩ d_B_run_20 (fun M2 h3 => ?_)
      have qh3 := h3.symm
      subst qh3
      refine z_aload_n X 1 d_B_run_23 rfl rfl ?_
      refine z_Vv X GG_ok cf_B_145 51 [] [] (c_B_monitor l D cA ad _ n w hR) ⟨rfl, rfl⟩ (by decide) e_B rfl rfl rfl rfl (Nat.le_of_ble_eq_true rfl) ⟨Nat.zero_le _, Nat.zero_le _⟩ d_B_run_24 (fun M5 h6 => ?_)
      have qh6 := h6.symm
      subst qh6
      refine z_aload_n X 1 d_B_run_27 rfl rfl ?_
      refine z_iconst X (v := 0) d_B_run_28 (by decide) ?_
      refine z_Vi X GG_ok cf_B_148 51 [zI 0] [] (c_B_holder_0 l D cA ad _ n w hA (tm + i) (by omega) hAt) ⟨rfl, rfl⟩ (by decide) e_B rfl rfl rfl rfl (Nat.le_of_ble_eq_true rfl) ⟨Nat.zero_le _, Nat.zero_le _⟩ d_B_run_29 (fun r7 M8 h9 => ?_)
      have qh9 := h9.1.symm
      subst qh9
      obtain ⟨-, rfl⟩ := h9
      refine z_istore_n X (L' := [(3, zI (mHold (kFor (mMissOne n) n 0 (kFor mRelOne n 0 N)) w false)), (2, zI (nI i)), (0, zR 51), (1, zI (nI d))]) d_B_run_32 rfl (by decide) rfl ?_
      refine z_iload_n X 0 d_B_run_33 rfl rfl ?_
      refine z_if_lt X 107 d_B_run_34 (by decide) (fun c_34 => ?_) (fun c_34 => ?_)
      · refine z_aload_n X 2 d_B_run_107 rfl rfl ?_
        refine z_dup X d_B_run_108 rfl ?_
        refine z_get X fl_B_104 51 e_B rfl rfl d_B_run_109 ?_
        refine z_iconst X (v := 1) d_B_run_112 (by decide) ?_
        refine z_iadd X d_B_run_113 ?_
        refine z_puti X fl_B_104 51 e_B rfl rfl rfl d_B_run_114 ?_
        refine z_iinc X 1 (v := nI (i + 1)) (L' := [(2, zI (nI (i + 1))), (3, zI (mHold (kFor (mMissOne n) n 0 (kFor mRelOne n 0 N)) w false)), (0, zR 51), (1, zI (nI d))]) d_B_run_117 rfl (nI_1 i) (by decide) rfl ?_
        refine z_goto X 14 d_B_run_120 (by decide) ?_
        have hX10 : mTick n w N = z_si (kFor (mMissOne n) n 0 (kFor mRelOne n 0 N)) 51 28 (((kFor (mMissOne n) n 0 (kFor mRelOne n 0 N)).1 51 28) + 1) := by unfold mTick mGiv mTick1; rw [if_pos c_34]
        exact z_keep (ks := [0, 2, 3]) (L' := [(2, zI (nI (i + 1))), (0, zR 51), (1, zI (nI d))]) rfl (ih (i + 1) (z_si (kFor (mMissOne n) n 0 (kFor mRelOne n 0 N)) 51 28 (((kFor (mMissOne n) n 0 (kFor mRelOne n 0 N)).1 51 28) + 1)) (by omega) (hX10 ▸ mInv_Tick hN) (hX10 ▸ mTick_t hT) (hX10 ▸ hq))
      · refine z_aload_n X 2 d_B_run_37 rfl rfl ?_
        refine z_get X fl_B_16 51 e_B rfl rfl d_B_run_38 ?_
        refine z_iload_n X 0 d_B_run_41 rfl rfl ?_
        refine z_iald X 54 e_B_state rfl ((mHold (kFor (mMissOne n) n 0 (kFor mRelOne n 0 N)) w false).toNatClampNeg) ((mHold_ok hA (t := tm + i) (by omega) hAt c_34).1) ((mHold_ok hA (t := tm + i) (by omega) hAt c_34).2) (by decide) d_B_run_42 ?_
        refine z_iconst X (v := 1) d_B_run_43 (by decide) ?_
        refine z_icmp_ne X 107 d_B_run_44 (by decide) (fun c_44 => ?_) (fun c_44 => ?_)
        · refine z_aload_n X 2 d_B_run_107 rfl rfl ?_
          refine z_dup X d_B_run_108 rfl ?_
          refine z_get X fl_B_104 51 e_B rfl rfl d_B_run_109 ?_
          refine z_iconst X (v := 1) d_B_run_112 (by decide) ?_
          refine z_iadd X d_B_run_113 ?_
          refine z_puti X fl_B_104 51 e_B rfl rfl rfl d_B_run_114 ?_
          refine z_iinc X 1 (v := nI (i + 1)) (L' := [(2, zI (nI (i + 1))), (3, zI (mHold (kFor (mMissOne n) n 0 (kFor mRelOne n 0 N)) w false)), (0, zR 51), (1, zI (nI d))]) d_B_run_117 rfl (nI_1 i) (by decide) rfl ?_
          refine z_goto X 14 d_B_run_120 (by decide) ?_
          have hX11 : mTick n w N = z_si (kFor (mMissOne n) n 0 (kFor mRelOne n 0 N)) 51 28 (((kFor (mMissOne n) n 0 (kFor mRelOne n 0 N)).1 51 28) + 1) := by unfold mTick mGiv mTick1; rw [if_neg c_34, if_neg c_44]
          exact z_keep (ks := [0, 2, 3]) (L' := [(2, zI (nI (i + 1))), (0, zR 51), (1, zI (nI d))]) rfl (ih (i + 1) (z_si (kFor (mMissOne n) n 0 (kFor mRelOne n 0 N)) 51 28 (((kFor (mMissOne n) n 0 (kFor mRelOne n 0 N)).1 51 28) + 1)) (by omega) (hX11 ▸ mInv_Tick hN) (hX11 ▸ mTick_t hT) (hX11 ▸ hq))
        · refine z_iconst X (v := 0) d_B_run_47 (by decide) ?_
          refine z_istore X (L' := [(4, zI 0), (3, zI (mHold (kFor (mMissOne n) n 0 (kFor mRelOne n 0 N)) w false)), (2, zI (nI i)), (0, zR 51), (1, zI (nI d))]) d_B_run_48 (by decide) rfl ?_
          refine z_aload_n X 3 d_B_run_50 rfl rfl ?_
          refine z_iconst X (v := 0) d_B_run_51 (by decide) ?_
          refine z_iload_n X 1 d_B_run_52 rfl rfl ?_
          refine z_Vi X GG_ok cf_B_120 51 [zI 0, zI (mHold (kFor (mMissOne n) n 0 (kFor mRelOne n 0 N)) w false)] [] (c_B_first_R l D cA ad _ n w hA _) ⟨rfl, rfl⟩ (by decide) e_B rfl rfl rfl rfl (Nat.le_of_ble_eq_true rfl) ⟨Nat.zero_le _, Nat.zero_le _⟩ d_B_run_53 (fun r12 M13 h14 => ?_)
          have qh14 := h14.1.symm
          subst qh14
          obtain ⟨-, rfl⟩ := h14
          refine z_istore X (L' := [(5, zI (mEnc (mFR n (mHold (kFor (mMissOne n) n 0 (kFor mRelOne n 0 N)) w false) (kFor (mMissOne n) n 0 (kFor mRelOne n 0 N))))), (4, zI 0), (3, zI (mHold (kFor (mMissOne n) n 0 (kFor mRelOne n 0 N)) w false)), (2, zI (nI i)), (0, zR 51), (1, zI (nI d))]) d_B_run_56 (by decide) rfl ?_
          refine z_keep (ks := [0, 1, 2, 3, 4, 5]) (L' := [(5, zI (mEnc (mFR n (mHold (kFor (mMissOne n) n 0 (kFor mRelOne n 0 N)) w false) (kFor (mMissOne n) n 0 (kFor mRelOne n 0 N))))), (4, zI 0), (3, zI (mHold (kFor (mMissOne n) n 0 (kFor mRelOne n 0 N)) w false)), (2, zI (nI i)), (0, zR 51), (1, zI (nI d))]) rfl (inner i (mHold (kFor (mMissOne n) n 0 (kFor mRelOne n 0 N)) w false) (mGo n (mHold (kFor (mMissOne n) n 0 (kFor mRelOne n 0 N)) w false) 65 (kFor (mMissOne n) n 0 (kFor mRelOne n 0 N))) ?_ 65 _ hA (by have := mNu_le hA 8 (by omega); omega) rfl)
          refine z_aload_n X 2 d_B_run_107 rfl rfl ?_
          refine z_dup X d_B_run_108 rfl ?_
          refine z_get X fl_B_104 51 e_B rfl rfl d_B_run_109 ?_
          refine z_iconst X (v := 1) d_B_run_112 (by decide) ?_
          refine z_iadd X d_B_run_113 ?_
          refine z_puti X fl_B_104 51 e_B rfl rfl rfl d_B_run_114 ?_
          refine z_iinc X 1 (v := nI (i + 1)) (L' := [(2, zI (nI (i + 1))), (3, zI (mHold (kFor (mMissOne n) n 0 (kFor mRelOne n 0 N)) w false)), (0, zR 51), (1, zI (nI d))]) d_B_run_117 rfl (nI_1 i) (by decide) rfl ?_
          refine z_goto X 14 d_B_run_120 (by decide) ?_
          have hX15 : mTick n w N = z_si (mGo n (mHold (kFor (mMissOne n) n 0 (kFor mRelOne n 0 N)) w false) 65 (kFor (mMissOne n) n 0 (kFor mRelOne n 0 N))) 51 28 (((mGo n (mHold (kFor (mMissOne n) n 0 (kFor mRelOne n 0 N)) w false) 65 (kFor (mMissOne n) n 0 (kFor mRelOne n 0 N))).1 51 28) + 1) := by unfold mTick mGiv mTick1; rw [if_neg c_34, if_pos c_44]
          exact z_keep (ks := [0, 2, 3]) (L' := [(2, zI (nI (i + 1))), (0, zR 51), (1, zI (nI d))]) rfl (ih (i + 1) (z_si (mGo n (mHold (kFor (mMissOne n) n 0 (kFor mRelOne n 0 N)) w false) 65 (kFor (mMissOne n) n 0 (kFor mRelOne n 0 N))) 51 28 (((mGo n (mHold (kFor (mMissOne n) n 0 (kFor mRelOne n 0 N)) w false) 65 (kFor (mMissOne n) n 0 (kFor mRelOne n 0 N))).1 51 28) + 1)) (by omega) (hX15 ▸ mInv_Tick hN) (hX15 ▸ mTick_t hT) (hX15 ▸ hq))
  refine z_iload_n X 1 d_B_run_0 rfl rfl ?_
  refine z_iconst X (v := 1) d_B_run_1 (by decide) ?_
  refine z_bipush X (v := 60) d_B_run_2 (by decide) ?_
  refine z_Si X GG_ok cf_B_85 [zI (nI d), zI 1, zI 60] [] (c_B_in l D cA ad _ _ _ _) ⟨rfl, rfl⟩ (by decide) rfl rfl (Nat.le_of_ble_eq_true rfl) ⟨Nat.zero_le _, Nat.zero_le _⟩ d_B_run_4 (fun r1 M2 h3 => ?_)
  have qh3 := h3.1.symm
  subst qh3
  obtain ⟨-, ⟨rfl, p4⟩ | ⟨rfl, p4⟩⟩ := h3
  · refine z_if_ne X 12 d_B_run_7 (by decide) (fun _ => ?_) (fun h => absurd h (by decide))
    refine z_iconst X (v := 0) d_B_run_12 (by decide) ?_
    refine z_istore_n X (L' := [(2, zI 0), (0, zR 51), (1, zI (nI d))]) d_B_run_13 rfl (by decide) rfl ?_
    exact loop d 0 M (by omega) hI et rfl
  · refine z_if_ne X 12 d_B_run_7 (by decide) (fun h => absurd h (by decide)) (fun _ => ?_)
    refine z_iconst X (v := (-1)) d_B_run_10 (by decide) ?_
    exact z_iret X (absurd ⟨(show (1 : Int32) = nI 1 from rfl) ▸ nI_le h1 (by omega), (show (60 : Int32) = nI 60 from rfl) ▸ nI_le h2 (by omega)⟩ p4) d_B_run_11

set_option maxHeartbeats 4000000 in
set_option maxRecDepth 100000 in
theorem c_B_run_no (l : Launch) (D : va_G) (cA : Nat → ClassId) (ad : Nat → Nat) (M : zM) (x : Int32) (hx : ¬ (1 ≤ x ∧ x ≤ 60)) : Ci l D cA ad y_B_run b_B_run 6 (some (.int)) (zr 5 110) [zR 51, zI x] M (fun r M' => M' = M ∧ r = (-1)) := by
  refine zMi_of (plainFor_of_name (by decide)) (Nat.le_of_ble_eq_true rfl) ?_
  intro p e s m args below meth c A X
  refine z_iload_n X 1 d_B_run_0 rfl rfl ?_
  refine z_iconst X (v := 1) d_B_run_1 (by decide) ?_
  refine z_bipush X (v := 60) d_B_run_2 (by decide) ?_
  refine z_Si X GG_ok cf_B_85 [zI x, zI 1, zI 60] [] (c_B_in l D cA ad _ _ _ _) ⟨rfl, rfl⟩ (by decide) rfl rfl (Nat.le_of_ble_eq_true rfl) ⟨Nat.zero_le _, Nat.zero_le _⟩ d_B_run_4 (fun r1 M2 h3 => ?_)
  have qh3 := h3.1.symm
  subst qh3
  obtain ⟨-, ⟨rfl, p4⟩ | ⟨rfl, p4⟩⟩ := h3
  · refine z_if_ne X 12 d_B_run_7 (by decide) (fun _ => ?_) (fun h => absurd h (by decide))
    exact absurd p4 hx
  · refine z_if_ne X 12 d_B_run_7 (by decide) (fun h => absurd h (by decide)) (fun _ => ?_)
    refine z_iconst X (v := (-1)) d_B_run_10 (by decide) ?_
    exact z_iret X (⟨rfl, rfl⟩) d_B_run_11
end
section
set_option maxHeartbeats 4000000 in
set_option maxRecDepth 100000 in
theorem c_B_window (l : Launch) (D : va_G) (cA : Nat → ClassId) (ad : Nat → Nat) (M : zM) (n w : Nat) (hI : mInv n w M) (a x : Int32) : Ci l D cA ad y_B_window b_B_window 3 (some (.int)) (zr 1 22) [zR 51, zI a, zI x] M (fun r M' => (¬ mOkW a x M ∧ M' = M ∧ r = (-1)) ∨ (mOkW a x M ∧ w = 8 ∧ M' = M ∧ r = (-2)) ∨ (mOkW a x M ∧ w < 8 ∧ M' = mWadd w a x M ∧ r = nI (w + 1))) := by
  refine zMi_of (plainFor_of_name (by decide)) (Nat.le_of_ble_eq_true rfl) ?_
  intro p e s m args below meth c A X
  refine z_iload_n X 1 d_B_window_0 rfl rfl ?_
  refine z_iconst X (v := 0) d_B_window_1 (by decide) ?_
  refine z_iconst X (v := 2) d_B_window_2 (by decide) ?_
  refine z_Si X GG_ok cf_B_85 [zI a, zI 0, zI 2] [] (c_B_in l D cA ad _ _ _ _) ⟨rfl, rfl⟩ (by decide) rfl rfl (Nat.le_of_ble_eq_true rfl) ⟨Nat.zero_le _, Nat.zero_le _⟩ d_B_window_3 (fun r1 M2 h3 => ?_)
  have qh3 := h3.1.symm
  subst qh3
  obtain ⟨-, ⟨rfl, p4⟩ | ⟨rfl, p4⟩⟩ := h3
  · refine z_if_eq X 26 d_B_window_6 (by decide) (fun h => absurd h (by decide)) (fun _ => ?_)
    refine z_iload_n X 2 d_B_window_9 rfl rfl ?_
    refine z_iconst X (v := 1) d_B_window_10 (by decide) ?_
    refine z_bipush X (v := 30) d_B_window_11 (by decide) ?_
    refine z_Si X GG_ok cf_B_85 [zI x, zI 1, zI 30] [] (c_B_in l D cA ad _ _ _ _) ⟨rfl, rfl⟩ (by decide) rfl rfl (Nat.le_of_ble_eq_true rfl) ⟨Nat.zero_le _, Nat.zero_le _⟩ d_B_window_13 (fun r5 M6 h7 => ?_)
    have qh7 := h7.1.symm
    subst qh7
    obtain ⟨-, ⟨rfl, p8⟩ | ⟨rfl, p8⟩⟩ := h7
    · refine z_if_eq X 26 d_B_window_16 (by decide) (fun h => absurd h (by decide)) (fun _ => ?_)
      refine z_aload_n X 0 d_B_window_19 rfl rfl ?_
      refine z_Vi X GG_ok cf_B_89 51 [] [] (c_B_allOff l D cA ad _) ⟨rfl, rfl⟩ (by decide) e_B rfl rfl rfl rfl (Nat.le_of_ble_eq_true rfl) ⟨Nat.zero_le _, Nat.zero_le _⟩ d_B_window_20 (fun r9 M10 h11 => ?_)
      have qh11 := h11.1.symm
      subst qh11
      obtain ⟨-, ⟨rfl, p12⟩ | ⟨rfl, p12⟩⟩ := h11
      · refine z_if_ne X 28 d_B_window_23 (by decide) (fun _ => ?_) (fun h => absurd h (by decide))
        refine z_aload_n X 0 d_B_window_28 rfl rfl ?_
        refine z_get X fl_B_93 51 e_B rfl rfl d_B_window_29 ?_
        refine z_bipush X (v := 8) d_B_window_32 (by decide) ?_
        refine z_icmp_ne X 40 d_B_window_34 (by decide) (fun c_34 => ?_) (fun c_34 => ?_)
        · have hw8 : w < 8 := nI_n8 hI.1.2.1 (hI.1.2.2.2.1 ▸ c_34)
          refine z_aload_n X 0 d_B_window_40 rfl rfl ?_
          refine z_get X fl_B_7 51 e_B rfl rfl d_B_window_41 ?_
          refine z_aload_n X 0 d_B_window_44 rfl rfl ?_
          refine z_get X fl_B_93 51 e_B rfl rfl d_B_window_45 ?_
          refine z_iload_n X 1 d_B_window_48 rfl rfl ?_
          refine z_iast X 52 e_B_owner rfl w hI.1.2.2.2.1 hw8 (by decide) d_B_window_49 ?_
          refine z_aload_n X 0 d_B_window_50 rfl rfl ?_
          refine z_get X fl_B_13 51 e_B rfl rfl d_B_window_51 ?_
          refine z_aload_n X 0 d_B_window_54 rfl rfl ?_
          refine z_get X fl_B_93 51 e_B rfl rfl d_B_window_55 ?_
          refine z_iload_n X 2 d_B_window_58 rfl rfl ?_
          refine z_iast X 53 e_B_span rfl w (by rw [z_si_other _ _ (by omega)]; exact hI.1.2.2.2.1) hw8 (by decide) d_B_window_59 ?_
          refine z_aload_n X 0 d_B_window_60 rfl rfl ?_
          refine z_dup X d_B_window_61 rfl ?_
          refine z_get X fl_B_93 51 e_B rfl rfl d_B_window_62 ?_
          refine z_iconst X (v := 1) d_B_window_65 (by decide) ?_
          refine z_iadd X d_B_window_66 ?_
          refine z_puti X fl_B_93 51 e_B rfl rfl rfl d_B_window_67 ?_
          refine z_aload_n X 0 d_B_window_70 rfl rfl ?_
          refine z_get X fl_B_93 51 e_B rfl rfl d_B_window_71 ?_
          exact z_iret X (Or.inr (Or.inr ⟨⟨p4, p8, p12⟩, hw8, by unfold mWadd; rw [z_si_other (c := 53) (c' := 51) _ _ (by omega), z_si_other (c := 52) (c' := 51) _ _ (by omega), hI.1.2.2.2.1, nI_1], by rw [z_si_same, z_si_other _ _ (by omega), z_si_other _ _ (by omega), hI.1.2.2.2.1, nI_1]⟩)) d_B_window_74
        · refine z_bipush X (v := (-2)) d_B_window_37 (by decide) ?_
          exact z_iret X (Or.inr (Or.inl ⟨⟨p4, p8, p12⟩, nI_8 hI.1.2.1 (hI.1.2.2.2.1 ▸ c_34), rfl, rfl⟩)) d_B_window_39
      · refine z_if_ne X 28 d_B_window_23 (by decide) (fun h => absurd h (by decide)) (fun _ => ?_)
        refine z_iconst X (v := (-1)) d_B_window_26 (by decide) ?_
        exact z_iret X (Or.inl ⟨fun q => p12 q.2.2, rfl, rfl⟩) d_B_window_27
    · refine z_if_eq X 26 d_B_window_16 (by decide) (fun _ => ?_) (fun h => absurd h (by decide))
      refine z_iconst X (v := (-1)) d_B_window_26 (by decide) ?_
      exact z_iret X (Or.inl ⟨fun q => p8 q.2.1, rfl, rfl⟩) d_B_window_27
  · refine z_if_eq X 26 d_B_window_6 (by decide) (fun _ => ?_) (fun h => absurd h (by decide))
    refine z_iconst X (v := (-1)) d_B_window_26 (by decide) ?_
    exact z_iret X (Or.inl ⟨fun q => p4 q.1, rfl, rfl⟩) d_B_window_27

set_option maxHeartbeats 4000000 in
set_option maxRecDepth 100000 in
theorem c_B_process (l : Launch) (D : va_G) (cA : Nat → ClassId) (ad : Nat → Nat) (M : zM) (n w : Nat) (hI : mInv n w M) (a b d q : Int32) : Ci l D cA ad y_B_process b_B_process 6 (some (.int)) (zr 1 22) [zR 51, zI a, zI b, zI d, zI q] M (fun r M' => (¬ mOkP a b d q M ∧ M' = M ∧ r = (-1)) ∨ (mOkP a b d q M ∧ n = 8 ∧ M' = M ∧ r = (-2)) ∨ (mOkP a b d q M ∧ n < 8 ∧ M' = mProc n a b d q M ∧ r = nI n)) := by
  refine zMi_of (plainFor_of_name (by decide)) (Nat.le_of_ble_eq_true rfl) ?_
  intro p e s m args below meth c A X
  refine z_iload_n X 1 d_B_process_0 rfl rfl ?_
  refine z_iconst X (v := 0) d_B_process_1 (by decide) ?_
  refine z_iconst X (v := 2) d_B_process_2 (by decide) ?_
  refine z_Si X GG_ok cf_B_85 [zI a, zI 0, zI 2] [] (c_B_in l D cA ad _ _ _ _) ⟨rfl, rfl⟩ (by decide) rfl rfl (Nat.le_of_ble_eq_true rfl) ⟨Nat.zero_le _, Nat.zero_le _⟩ d_B_process_3 (fun r1 M2 h3 => ?_)
  have qh3 := h3.1.symm
  subst qh3
  obtain ⟨-, ⟨rfl, p4⟩ | ⟨rfl, p4⟩⟩ := h3
  · refine z_if_eq X 47 d_B_process_6 (by decide) (fun h => absurd h (by decide)) (fun _ => ?_)
    refine z_iload_n X 2 d_B_process_9 rfl rfl ?_
    refine z_iconst X (v := 0) d_B_process_10 (by decide) ?_
    refine z_bipush X (v := 9) d_B_process_11 (by decide) ?_
    refine z_Si X GG_ok cf_B_85 [zI b, zI 0, zI 9] [] (c_B_in l D cA ad _ _ _ _) ⟨rfl, rfl⟩ (by decide) rfl rfl (Nat.le_of_ble_eq_true rfl) ⟨Nat.zero_le _, Nat.zero_le _⟩ d_B_process_13 (fun r5 M6 h7 => ?_)
    have qh7 := h7.1.symm
    subst qh7
    obtain ⟨-, ⟨rfl, p8⟩ | ⟨rfl, p8⟩⟩ := h7
    · refine z_if_eq X 47 d_B_process_16 (by decide) (fun h => absurd h (by decide)) (fun _ => ?_)
      refine z_iload_n X 3 d_B_process_19 rfl rfl ?_
      refine z_iconst X (v := 0) d_B_process_20 (by decide) ?_
      refine z_bipush X (v := 60) d_B_process_21 (by decide) ?_
      refine z_Si X GG_ok cf_B_85 [zI d, zI 0, zI 60] [] (c_B_in l D cA ad _ _ _ _) ⟨rfl, rfl⟩ (by decide) rfl rfl (Nat.le_of_ble_eq_true rfl) ⟨Nat.zero_le _, Nat.zero_le _⟩ d_B_process_23 (fun r9 M10 h11 => ?_)
      have qh11 := h11.1.symm
      subst qh11
      obtain ⟨-, ⟨rfl, p12⟩ | ⟨rfl, p12⟩⟩ := h11
      · refine z_if_eq X 47 d_B_process_26 (by decide) (fun h => absurd h (by decide)) (fun _ => ?_)
        refine z_iload X 4 d_B_process_29 rfl ?_
        refine z_iconst X (v := 0) d_B_process_31 (by decide) ?_
        refine z_bipush X (v := 60) d_B_process_32 (by decide) ?_
        refine z_Si X GG_ok cf_B_85 [zI q, zI 0, zI 60] [] (c_B_in l D cA ad _ _ _ _) ⟨rfl, rfl⟩ (by decide) rfl rfl (Nat.le_of_ble_eq_true rfl) ⟨Nat.zero_le _, Nat.zero_le _⟩ d_B_process_34 (fun r13 M14 h15 => ?_)
        have qh15 := h15.1.symm
        subst qh15
        obtain ⟨-, ⟨rfl, p16⟩ | ⟨rfl, p16⟩⟩ := h15
        · refine z_if_eq X 47 d_B_process_37 (by decide) (fun h => absurd h (by decide)) (fun _ => ?_)
          refine z_aload_n X 0 d_B_process_40 rfl rfl ?_
          refine z_Vi X GG_ok cf_B_89 51 [] [] (c_B_allOff l D cA ad _) ⟨rfl, rfl⟩ (by decide) e_B rfl rfl rfl rfl (Nat.le_of_ble_eq_true rfl) ⟨Nat.zero_le _, Nat.zero_le _⟩ d_B_process_41 (fun r17 M18 h19 => ?_)
          have qh19 := h19.1.symm
          subst qh19
          obtain ⟨-, ⟨rfl, p20⟩ | ⟨rfl, p20⟩⟩ := h19
          · refine z_if_ne X 49 d_B_process_44 (by decide) (fun _ => ?_) (fun h => absurd h (by decide))
            refine z_aload_n X 0 d_B_process_49 rfl rfl ?_
            refine z_get X fl_B_97 51 e_B rfl rfl d_B_process_50 ?_
            refine z_bipush X (v := 8) d_B_process_53 (by decide) ?_
            refine z_icmp_ne X 61 d_B_process_55 (by decide) (fun c_55 => ?_) (fun c_55 => ?_)
            · have hn8 : n < 8 := nI_n8 (mInv_n hI) (mInv_cnt hI ▸ c_55)
              refine z_aload_n X 0 d_B_process_61 rfl rfl ?_
              refine z_get X fl_B_97 51 e_B rfl rfl d_B_process_62 ?_
              refine z_istore X (L' := [(5, zI (M.1 51 5)), (0, zR 51), (1, zI a), (2, zI b), (3, zI d), (4, zI q)]) d_B_process_65 (by decide) rfl ?_
              refine z_aload_n X 1 d_B_process_67 rfl rfl ?_
              refine z_get X fl_B_22 51 e_B rfl rfl d_B_process_68 ?_
              refine z_iload X 0 d_B_process_71 rfl ?_
              refine z_iload_n X 2 d_B_process_73 rfl rfl ?_
              refine z_iast X 56 e_B_partition rfl n (mInv_cnt hI) hn8 (by decide) d_B_process_74 ?_
              refine z_aload_n X 1 d_B_process_75 rfl rfl ?_
              refine z_get X fl_B_25 51 e_B rfl rfl d_B_process_76 ?_
              refine z_iload X 0 d_B_process_79 rfl ?_
              refine z_iload_n X 3 d_B_process_81 rfl rfl ?_
              refine z_iast X 57 e_B_priority rfl n (mInv_cnt hI) hn8 (by decide) d_B_process_82 ?_
              refine z_aload_n X 1 d_B_process_83 rfl rfl ?_
              refine z_get X fl_B_28 51 e_B rfl rfl d_B_process_84 ?_
              refine z_iload X 0 d_B_process_87 rfl ?_
              refine z_iload_n X 4 d_B_process_89 rfl rfl ?_
              refine z_iast X 58 e_B_period rfl n (mInv_cnt hI) hn8 (by decide) d_B_process_90 ?_
              refine z_aload_n X 1 d_B_process_91 rfl rfl ?_
              refine z_get X fl_B_31 51 e_B rfl rfl d_B_process_92 ?_
              refine z_iload X 0 d_B_process_95 rfl ?_
              refine z_iload X 5 d_B_process_97 rfl ?_
              refine z_iast X 59 e_B_limit rfl n (mInv_cnt hI) hn8 (by decide) d_B_process_99 ?_
              refine z_aload_n X 1 d_B_process_100 rfl rfl ?_
              refine z_get X fl_B_55 51 e_B rfl rfl d_B_process_101 ?_
              refine z_iload X 0 d_B_process_104 rfl ?_
              refine z_iconst X (v := (-1)) d_B_process_106 (by decide) ?_
              refine z_iast X 67 e_B_deadline rfl n (mInv_cnt hI) hn8 (by decide) d_B_process_107 ?_
              refine z_aload_n X 1 d_B_process_108 rfl rfl ?_
              refine z_get X fl_B_70 51 e_B rfl rfl d_B_process_109 ?_
              refine z_iload X 0 d_B_process_112 rfl ?_
              refine z_iconst X (v := (-1)) d_B_process_114 (by decide) ?_
              refine z_iast X 72 e_B_next rfl n (mInv_cnt hI) hn8 (by decide) d_B_process_115 ?_
              refine z_aload_n X 1 d_B_process_116 rfl rfl ?_
              refine z_dup X d_B_process_117 rfl ?_
              refine z_get X fl_B_97 51 e_B rfl rfl d_B_process_118 ?_
              refine z_iconst X (v := 1) d_B_process_121 (by decide) ?_
              refine z_iadd X d_B_process_122 ?_
              refine z_puti X fl_B_97 51 e_B rfl rfl rfl d_B_process_123 ?_
              refine z_iload X 0 d_B_process_126 rfl ?_
              exact z_iret X (Or.inr (Or.inr ⟨⟨p4, p8, p12, p16, p20⟩, hn8, by unfold mProc; rw [z_si_row (c := 72) (c' := 51) _ _ _ (by omega), z_si_row (c := 67) (c' := 51) _ _ _ (by omega), z_si_row (c := 59) (c' := 51) _ _ _ (by omega), z_si_row (c := 58) (c' := 51) _ _ _ (by omega), z_si_row (c := 57) (c' := 51) _ _ _ (by omega), z_si_row (c := 56) (c' := 51) _ _ _ (by omega), mInv_cnt hI, nI_1], mInv_cnt hI⟩)) d_B_process_128
            · refine z_bipush X (v := (-2)) d_B_process_58 (by decide) ?_
              exact z_iret X (Or.inr (Or.inl ⟨⟨p4, p8, p12, p16, p20⟩, nI_8 (mInv_n hI) (mInv_cnt hI ▸ c_55), rfl, rfl⟩)) d_B_process_60
          · refine z_if_ne X 49 d_B_process_44 (by decide) (fun h => absurd h (by decide)) (fun _ => ?_)
            refine z_iconst X (v := (-1)) d_B_process_47 (by decide) ?_
            exact z_iret X (Or.inl ⟨fun q => p20 q.2.2.2.2, rfl, rfl⟩) d_B_process_48
        · refine z_if_eq X 47 d_B_process_37 (by decide) (fun _ => ?_) (fun h => absurd h (by decide))
          refine z_iconst X (v := (-1)) d_B_process_47 (by decide) ?_
          exact z_iret X (Or.inl ⟨fun q => p16 q.2.2.2.1, rfl, rfl⟩) d_B_process_48
      · refine z_if_eq X 47 d_B_process_26 (by decide) (fun _ => ?_) (fun h => absurd h (by decide))
        refine z_iconst X (v := (-1)) d_B_process_47 (by decide) ?_
        exact z_iret X (Or.inl ⟨fun q => p12 q.2.2.1, rfl, rfl⟩) d_B_process_48
    · refine z_if_eq X 47 d_B_process_16 (by decide) (fun _ => ?_) (fun h => absurd h (by decide))
      refine z_iconst X (v := (-1)) d_B_process_47 (by decide) ?_
      exact z_iret X (Or.inl ⟨fun q => p8 q.2.1, rfl, rfl⟩) d_B_process_48
  · refine z_if_eq X 47 d_B_process_6 (by decide) (fun _ => ?_) (fun h => absurd h (by decide))
    refine z_iconst X (v := (-1)) d_B_process_47 (by decide) ?_
    exact z_iret X (Or.inl ⟨fun q => p4 q.1, rfl, rfl⟩) d_B_process_48

set_option maxHeartbeats 4000000 in
set_option maxRecDepth 100000 in
theorem c_B_order (l : Launch) (D : va_G) (cA : Nat → ClassId) (ad : Nat → Nat) (M : zM) (n w : Nat) (hI : mInv n w M) (a b d : Int32) : Ci l D cA ad y_B_order b_B_order 4 (some (.int)) (zr 1 22) [zR 51, zI a, zI b, zI d] M (fun r M' => (¬ mOkO a b d M ∧ M' = M ∧ r = (-1)) ∨ (mOkO a b d M ∧ mPs M a.toNatClampNeg = 8 ∧ M' = M ∧ r = (-2)) ∨ (mOkO a b d M ∧ mPs M a.toNatClampNeg < 8 ∧ M' = mOadd a.toNatClampNeg (mPs M a.toNatClampNeg) b d M ∧ r = nI (mPs M a.toNatClampNeg + 1))) := by
  refine zMi_of (plainFor_of_name (by decide)) (Nat.le_of_ble_eq_true rfl) ?_
  intro p e s m args below meth c A X
  refine z_iload_n X 1 d_B_order_0 rfl rfl ?_
  refine z_iconst X (v := 0) d_B_order_1 (by decide) ?_
  refine z_aload_n X 0 d_B_order_2 rfl rfl ?_
  refine z_get X fl_B_97 51 e_B rfl rfl d_B_order_3 ?_
  refine z_iconst X (v := 1) d_B_order_6 (by decide) ?_
  refine z_isub X d_B_order_7 ?_
  refine z_Si X GG_ok cf_B_85 [zI a, zI 0, zI ((M.1 51 5) - 1)] [] (c_B_in l D cA ad _ _ _ _) ⟨rfl, rfl⟩ (by decide) rfl rfl (Nat.le_of_ble_eq_true rfl) ⟨Nat.zero_le _, Nat.zero_le _⟩ d_B_order_8 (fun r1 M2 h3 => ?_)
  have qh3 := h3.1.symm
  subst qh3
  obtain ⟨-, ⟨rfl, p4⟩ | ⟨rfl, p4⟩⟩ := h3
  · refine z_if_eq X 30 d_B_order_11 (by decide) (fun h => absurd h (by decide)) (fun _ => ?_)
    refine z_iload_n X 2 d_B_order_14 rfl rfl ?_
    refine z_iconst X (v := 0) d_B_order_15 (by decide) ?_
    refine z_iconst X (v := 4) d_B_order_16 (by decide) ?_
    refine z_Si X GG_ok cf_B_85 [zI b, zI 0, zI 4] [] (c_B_in l D cA ad _ _ _ _) ⟨rfl, rfl⟩ (by decide) rfl rfl (Nat.le_of_ble_eq_true rfl) ⟨Nat.zero_le _, Nat.zero_le _⟩ d_B_order_17 (fun r5 M6 h7 => ?_)
    have qh7 := h7.1.symm
    subst qh7
    obtain ⟨-, ⟨rfl, p8⟩ | ⟨rfl, p8⟩⟩ := h7
    · refine z_if_eq X 30 d_B_order_20 (by decide) (fun h => absurd h (by decide)) (fun _ => ?_)
      refine z_aload_n X 0 d_B_order_23 rfl rfl ?_
      refine z_Vi X GG_ok cf_B_89 51 [] [] (c_B_allOff l D cA ad _) ⟨rfl, rfl⟩ (by decide) e_B rfl rfl rfl rfl (Nat.le_of_ble_eq_true rfl) ⟨Nat.zero_le _, Nat.zero_le _⟩ d_B_order_24 (fun r9 M10 h11 => ?_)
      have qh11 := h11.1.symm
      subst qh11
      obtain ⟨-, ⟨rfl, p12⟩ | ⟨rfl, p12⟩⟩ := h11
      · refine z_if_ne X 32 d_B_order_27 (by decide) (fun _ => ?_) (fun h => absurd h (by decide))
        refine z_iload_n X 2 d_B_order_32 rfl rfl ?_
        refine z_if_ne X 49 d_B_order_33 (by decide) (fun c_33 => ?_) (fun c_33 => ?_)
        · refine z_iload_n X 3 d_B_order_49 rfl rfl ?_
          refine z_iconst X (v := 0) d_B_order_50 (by decide) ?_
          refine z_iconst X (v := 3) d_B_order_51 (by decide) ?_
          refine z_Si X GG_ok cf_B_85 [zI d, zI 0, zI 3] [] (c_B_in l D cA ad _ _ _ _) ⟨rfl, rfl⟩ (by decide) rfl rfl (Nat.le_of_ble_eq_true rfl) ⟨Nat.zero_le _, Nat.zero_le _⟩ d_B_order_52 (fun r13 M14 h15 => ?_)
          have qh15 := h15.1.symm
          subst qh15
          obtain ⟨-, ⟨rfl, p16⟩ | ⟨rfl, p16⟩⟩ := h15
          · refine z_if_ne X 60 d_B_order_55 (by decide) (fun _ => ?_) (fun h => absurd h (by decide))
            have ha := mA_ok hI p4
            have ha8 : a.toNatClampNeg < 8 := Nat.lt_of_lt_of_le ha.2 (mInv_n hI)
            refine z_aload_n X 0 d_B_order_60 rfl rfl ?_
            refine z_get X fl_B_34 51 e_B rfl rfl d_B_order_61 ?_
            refine z_iload_n X 1 d_B_order_64 rfl rfl ?_
            refine z_iald X 60 e_B_size rfl a.toNatClampNeg ha.1 ha8 (by decide) d_B_order_65 ?_
            refine z_bipush X (v := 8) d_B_order_66 (by decide) ?_
            refine z_icmp_ne X 74 d_B_order_68 (by decide) (fun c_68 => ?_) (fun c_68 => ?_)
            · have hz8 : mPs M a.toNatClampNeg < 8 := nI_n8 (mPs_le hI ha8) (mPs_eq hI ha8 ▸ c_68)
              refine z_aload_n X 0 d_B_order_74 rfl rfl ?_
              refine z_get X fl_B_37 51 e_B rfl rfl d_B_order_75 ?_
              refine z_bipush X (v := 8) d_B_order_78 (by decide) ?_
              refine z_iload_n X 1 d_B_order_80 rfl rfl ?_
              refine z_imul X d_B_order_81 ?_
              refine z_aload_n X 0 d_B_order_82 rfl rfl ?_
              refine z_get X fl_B_34 51 e_B rfl rfl d_B_order_83 ?_
              refine z_iload_n X 1 d_B_order_86 rfl rfl ?_
              refine z_iald X 60 e_B_size rfl a.toNatClampNeg ha.1 ha8 (by decide) d_B_order_87 ?_
              refine z_iadd X d_B_order_88 ?_
              refine z_iload_n X 2 d_B_order_89 rfl rfl ?_
              refine z_iast X 61 e_B_order rfl (8 * a.toNatClampNeg + mPs M a.toNatClampNeg) ((congrArg (fun z => 8 * z + M.1 60 a.toNatClampNeg) ha.1).trans (by rw [mPs_eq hI ha8]; rw [show (8 : Int32) = nI 8 from rfl, pk_mul, nI_add])) (by omega) (by decide) d_B_order_90 ?_
              refine z_aload_n X 0 d_B_order_91 rfl rfl ?_
              refine z_get X fl_B_40 51 e_B rfl rfl d_B_order_92 ?_
              refine z_bipush X (v := 8) d_B_order_95 (by decide) ?_
              refine z_iload_n X 1 d_B_order_97 rfl rfl ?_
              refine z_imul X d_B_order_98 ?_
              refine z_aload_n X 0 d_B_order_99 rfl rfl ?_
              refine z_get X fl_B_34 51 e_B rfl rfl d_B_order_100 ?_
              refine z_iload_n X 1 d_B_order_103 rfl rfl ?_
              refine z_iald X 60 e_B_size rfl a.toNatClampNeg ha.1 ha8 (by decide) d_B_order_104 ?_
              refine z_iadd X d_B_order_105 ?_
              refine z_iload_n X 3 d_B_order_106 rfl rfl ?_
              refine z_iast X 62 e_B_number rfl (8 * a.toNatClampNeg + mPs M a.toNatClampNeg) ((congrArg (fun z => 8 * z + (z_si M 61 (8 * a.toNatClampNeg + mPs M a.toNatClampNeg) b).1 60 a.toNatClampNeg) ha.1).trans (by rw [z_si_row (c := 61) (c' := 60) _ _ _ (by omega), mPs_eq hI ha8]; rw [show (8 : Int32) = nI 8 from rfl, pk_mul, nI_add])) (by omega) (by decide) d_B_order_107 ?_
              refine z_aload_n X 0 d_B_order_108 rfl rfl ?_
              refine z_get X fl_B_34 51 e_B rfl rfl d_B_order_109 ?_
              refine z_iload_n X 1 d_B_order_112 rfl rfl ?_
              refine z_dup2 X d_B_order_113 rfl rfl ?_
              refine z_iald X 60 e_B_size rfl a.toNatClampNeg ha.1 ha8 (by decide) d_B_order_114 ?_
              refine z_iconst X (v := 1) d_B_order_115 (by decide) ?_
              refine z_iadd X d_B_order_116 ?_
              refine z_iast X 60 e_B_size rfl a.toNatClampNeg ha.1 ha8 (by decide) d_B_order_117 ?_
              refine z_aload_n X 0 d_B_order_118 rfl rfl ?_
              refine z_get X fl_B_34 51 e_B rfl rfl d_B_order_119 ?_
              refine z_iload_n X 1 d_B_order_122 rfl rfl ?_
              refine z_iald X 60 e_B_size rfl a.toNatClampNeg ha.1 ha8 (by decide) d_B_order_123 ?_
              exact z_iret X (Or.inr (Or.inr ⟨⟨p4, p8, p12, ⟨fun q => absurd q c_33, fun _ => p16⟩⟩, hz8, by unfold mOadd; rw [z_si_row (c := 62) (c' := 60) _ _ _ (by omega), z_si_row (c := 61) (c' := 60) _ _ _ (by omega), mPs_eq hI ha8, nI_1], by rw [z_si_same, z_si_row (c := 62) (c' := 60) _ _ _ (by omega), z_si_row (c := 61) (c' := 60) _ _ _ (by omega), mPs_eq hI ha8, nI_1]⟩)) d_B_order_124
            · refine z_bipush X (v := (-2)) d_B_order_71 (by decide) ?_
              exact z_iret X (Or.inr (Or.inl ⟨⟨p4, p8, p12, ⟨fun q => absurd q c_33, fun _ => p16⟩⟩, nI_8 (mPs_le hI ha8) (mPs_eq hI ha8 ▸ c_68), rfl, rfl⟩)) d_B_order_73
          · refine z_if_ne X 60 d_B_order_55 (by decide) (fun h => absurd h (by decide)) (fun _ => ?_)
            refine z_iconst X (v := (-1)) d_B_order_58 (by decide) ?_
            exact z_iret X (Or.inl ⟨fun q => p16 (q.2.2.2.2 c_33), rfl, rfl⟩) d_B_order_59
        · refine z_iload_n X 3 d_B_order_36 rfl rfl ?_
          refine z_iconst X (v := 1) d_B_order_37 (by decide) ?_
          refine z_bipush X (v := 20) d_B_order_38 (by decide) ?_
          refine z_Si X GG_ok cf_B_85 [zI d, zI 1, zI 20] [] (c_B_in l D cA ad _ _ _ _) ⟨rfl, rfl⟩ (by decide) rfl rfl (Nat.le_of_ble_eq_true rfl) ⟨Nat.zero_le _, Nat.zero_le _⟩ d_B_order_40 (fun r18 M19 h20 => ?_)
          have qh20 := h20.1.symm
          subst qh20
          obtain ⟨-, ⟨rfl, p21⟩ | ⟨rfl, p21⟩⟩ := h20
          · refine z_if_ne X 60 d_B_order_43 (by decide) (fun _ => ?_) (fun h => absurd h (by decide))
            have ha := mA_ok hI p4
            have ha8 : a.toNatClampNeg < 8 := Nat.lt_of_lt_of_le ha.2 (mInv_n hI)
            refine z_aload_n X 0 d_B_order_60 rfl rfl ?_
            refine z_get X fl_B_34 51 e_B rfl rfl d_B_order_61 ?_
            refine z_iload_n X 1 d_B_order_64 rfl rfl ?_
            refine z_iald X 60 e_B_size rfl a.toNatClampNeg ha.1 ha8 (by decide) d_B_order_65 ?_
            refine z_bipush X (v := 8) d_B_order_66 (by decide) ?_
            refine z_icmp_ne X 74 d_B_order_68 (by decide) (fun c_68_22 => ?_) (fun c_68_22 => ?_)
            · have hz8 : mPs M a.toNatClampNeg < 8 := nI_n8 (mPs_le hI ha8) (mPs_eq hI ha8 ▸ c_68_22)
              refine z_aload_n X 0 d_B_order_74 rfl rfl ?_
              refine z_get X fl_B_37 51 e_B rfl rfl d_B_order_75 ?_
              refine z_bipush X (v := 8) d_B_order_78 (by decide) ?_
              refine z_iload_n X 1 d_B_order_80 rfl rfl ?_
              refine z_imul X d_B_order_81 ?_
              refine z_aload_n X 0 d_B_order_82 rfl rfl ?_
              refine z_get X fl_B_34 51 e_B rfl rfl d_B_order_83 ?_
              refine z_iload_n X 1 d_B_order_86 rfl rfl ?_
              refine z_iald X 60 e_B_size rfl a.toNatClampNeg ha.1 ha8 (by decide) d_B_order_87 ?_
              refine z_iadd X d_B_order_88 ?_
              refine z_iload_n X 2 d_B_order_89 rfl rfl ?_
              refine z_iast X 61 e_B_order rfl (8 * a.toNatClampNeg + mPs M a.toNatClampNeg) ((congrArg (fun z => 8 * z + M.1 60 a.toNatClampNeg) ha.1).trans (by rw [mPs_eq hI ha8]; rw [show (8 : Int32) = nI 8 from rfl, pk_mul, nI_add])) (by omega) (by decide) d_B_order_90 ?_
              refine z_aload_n X 0 d_B_order_91 rfl rfl ?_
              refine z_get X fl_B_40 51 e_B rfl rfl d_B_order_92 ?_
              refine z_bipush X (v := 8) d_B_order_95 (by decide) ?_
              refine z_iload_n X 1 d_B_order_97 rfl rfl ?_
              refine z_imul X d_B_order_98 ?_
              refine z_aload_n X 0 d_B_order_99 rfl rfl ?_
              refine z_get X fl_B_34 51 e_B rfl rfl d_B_order_100 ?_
              refine z_iload_n X 1 d_B_order_103 rfl rfl ?_
              refine z_iald X 60 e_B_size rfl a.toNatClampNeg ha.1 ha8 (by decide) d_B_order_104 ?_
              refine z_iadd X d_B_order_105 ?_
              refine z_iload_n X 3 d_B_order_106 rfl rfl ?_
              refine z_iast X 62 e_B_number rfl (8 * a.toNatClampNeg + mPs M a.toNatClampNeg) ((congrArg (fun z => 8 * z + (z_si M 61 (8 * a.toNatClampNeg + mPs M a.toNatClampNeg) b).1 60 a.toNatClampNeg) ha.1).trans (by rw [z_si_row (c := 61) (c' := 60) _ _ _ (by omega), mPs_eq hI ha8]; rw [show (8 : Int32) = nI 8 from rfl, pk_mul, nI_add])) (by omega) (by decide) d_B_order_107 ?_
              refine z_aload_n X 0 d_B_order_108 rfl rfl ?_
              refine z_get X fl_B_34 51 e_B rfl rfl d_B_order_109 ?_
              refine z_iload_n X 1 d_B_order_112 rfl rfl ?_
              refine z_dup2 X d_B_order_113 rfl rfl ?_
              refine z_iald X 60 e_B_size rfl a.toNatClampNeg ha.1 ha8 (by decide) d_B_order_114 ?_
              refine z_iconst X (v := 1) d_B_order_115 (by decide) ?_
              refine z_iadd X d_B_order_116 ?_
              refine z_iast X 60 e_B_size rfl a.toNatClampNeg ha.1 ha8 (by decide) d_B_order_117 ?_
              refine z_aload_n X 0 d_B_order_118 rfl rfl ?_
              refine z_get X fl_B_34 51 e_B rfl rfl d_B_order_119 ?_
              refine z_iload_n X 1 d_B_order_122 rfl rfl ?_
              refine z_iald X 60 e_B_size rfl a.toNatClampNeg ha.1 ha8 (by decide) d_B_order_123 ?_
              exact z_iret X (Or.inr (Or.inr ⟨⟨p4, p8, p12, ⟨fun _ => p21, fun q => absurd c_33 q⟩⟩, hz8, by unfold mOadd; rw [z_si_row (c := 62) (c' := 60) _ _ _ (by omega), z_si_row (c := 61) (c' := 60) _ _ _ (by omega), mPs_eq hI ha8, nI_1], by rw [z_si_same, z_si_row (c := 62) (c' := 60) _ _ _ (by omega), z_si_row (c := 61) (c' := 60) _ _ _ (by omega), mPs_eq hI ha8, nI_1]⟩)) d_B_order_124
            · refine z_bipush X (v := (-2)) d_B_order_71 (by decide) ?_
              exact z_iret X (Or.inr (Or.inl ⟨⟨p4, p8, p12, ⟨fun _ => p21, fun q => absurd c_33 q⟩⟩, nI_8 (mPs_le hI ha8) (mPs_eq hI ha8 ▸ c_68_22), rfl, rfl⟩)) d_B_order_73
          · refine z_if_ne X 60 d_B_order_43 (by decide) (fun h => absurd h (by decide)) (fun _ => ?_)
            refine z_goto X 58 d_B_order_46 (by decide) ?_
            refine z_iconst X (v := (-1)) d_B_order_58 (by decide) ?_
            exact z_iret X (Or.inl ⟨fun q => p21 (q.2.2.2.1 c_33), rfl, rfl⟩) d_B_order_59
      · refine z_if_ne X 32 d_B_order_27 (by decide) (fun h => absurd h (by decide)) (fun _ => ?_)
        refine z_iconst X (v := (-1)) d_B_order_30 (by decide) ?_
        exact z_iret X (Or.inl ⟨fun q => p12 q.2.2.1, rfl, rfl⟩) d_B_order_31
    · refine z_if_eq X 30 d_B_order_20 (by decide) (fun _ => ?_) (fun h => absurd h (by decide))
      refine z_iconst X (v := (-1)) d_B_order_30 (by decide) ?_
      exact z_iret X (Or.inl ⟨fun q => p8 q.2.1, rfl, rfl⟩) d_B_order_31
  · refine z_if_eq X 30 d_B_order_11 (by decide) (fun _ => ?_) (fun h => absurd h (by decide))
    refine z_iconst X (v := (-1)) d_B_order_30 (by decide) ?_
    exact z_iret X (Or.inl ⟨fun q => p4 q.1, rfl, rfl⟩) d_B_order_31
end
section
set_option maxHeartbeats 4000000 in
set_option maxRecDepth 100000 in
theorem c_B_action (l : Launch) (D : va_G) (cA : Nat → ClassId) (ad : Nat → Nat) (M : zM) (a b : Int32) : Ci l D cA ad y_B_action b_B_action 3 (some (.int)) (zr 1 22) [zR 51, zI a, zI b] M (fun r M' => (¬ ((0 ≤ a ∧ a ≤ 2) ∧ (0 ≤ b ∧ b ≤ 2)) ∧ M' = M ∧ r = (-1)) ∨ (((0 ≤ a ∧ a ≤ 2) ∧ (0 ≤ b ∧ b ≤ 2)) ∧ M' = z_si M 55 a.toNatClampNeg b ∧ r = 0)) := by
  refine zMi_of (plainFor_of_name (by decide)) (Nat.le_of_ble_eq_true rfl) ?_
  intro p e s m args below meth c A X
  refine z_iload_n X 1 d_B_action_0 rfl rfl ?_
  refine z_iconst X (v := 0) d_B_action_1 (by decide) ?_
  refine z_iconst X (v := 2) d_B_action_2 (by decide) ?_
  refine z_Si X GG_ok cf_B_85 [zI a, zI 0, zI 2] [] (c_B_in l D cA ad _ _ _ _) ⟨rfl, rfl⟩ (by decide) rfl rfl (Nat.le_of_ble_eq_true rfl) ⟨Nat.zero_le _, Nat.zero_le _⟩ d_B_action_3 (fun r1 M2 h3 => ?_)
  have qh3 := h3.1.symm
  subst qh3
  obtain ⟨-, ⟨rfl, p4⟩ | ⟨rfl, p4⟩⟩ := h3
  · refine z_if_eq X 18 d_B_action_6 (by decide) (fun h => absurd h (by decide)) (fun _ => ?_)
    refine z_iload_n X 2 d_B_action_9 rfl rfl ?_
    refine z_iconst X (v := 0) d_B_action_10 (by decide) ?_
    refine z_iconst X (v := 2) d_B_action_11 (by decide) ?_
    refine z_Si X GG_ok cf_B_85 [zI b, zI 0, zI 2] [] (c_B_in l D cA ad _ _ _ _) ⟨rfl, rfl⟩ (by decide) rfl rfl (Nat.le_of_ble_eq_true rfl) ⟨Nat.zero_le _, Nat.zero_le _⟩ d_B_action_12 (fun r5 M6 h7 => ?_)
    have qh7 := h7.1.symm
    subst qh7
    obtain ⟨-, ⟨rfl, p8⟩ | ⟨rfl, p8⟩⟩ := h7
    · refine z_if_ne X 20 d_B_action_15 (by decide) (fun _ => ?_) (fun h => absurd h (by decide))
      have ha := kC_ok p4
      refine z_aload_n X 0 d_B_action_20 rfl rfl ?_
      refine z_get X fl_B_19 51 e_B rfl rfl d_B_action_21 ?_
      refine z_iload_n X 1 d_B_action_24 rfl rfl ?_
      refine z_iload_n X 2 d_B_action_25 rfl rfl ?_
      refine z_iast X 55 e_B_action rfl a.toNatClampNeg ha.1 ha.2 (by decide) d_B_action_26 ?_
      refine z_iconst X (v := 0) d_B_action_27 (by decide) ?_
      exact z_iret X (Or.inr ⟨⟨p4, p8⟩, rfl, rfl⟩) d_B_action_28
    · refine z_if_ne X 20 d_B_action_15 (by decide) (fun h => absurd h (by decide)) (fun _ => ?_)
      refine z_iconst X (v := (-1)) d_B_action_18 (by decide) ?_
      exact z_iret X (Or.inl ⟨fun q => p8 q.2, rfl, rfl⟩) d_B_action_19
  · refine z_if_eq X 18 d_B_action_6 (by decide) (fun _ => ?_) (fun h => absurd h (by decide))
    refine z_iconst X (v := (-1)) d_B_action_18 (by decide) ?_
    exact z_iret X (Or.inl ⟨fun q => p4 q.1, rfl, rfl⟩) d_B_action_19

set_option maxHeartbeats 4000000 in
set_option maxRecDepth 100000 in
theorem c_B_partition (l : Launch) (D : va_G) (cA : Nat → ClassId) (ad : Nat → Nat) (M : zM) (a : Int32) : Ci l D cA ad y_B_partition b_B_partition 2 (some (.int)) (zr 1 22) [zR 51, zI a] M (fun r M' => M' = M ∧ ((¬ (0 ≤ a ∧ a ≤ 2) ∧ r = (-1)) ∨ ((0 ≤ a ∧ a ≤ 2) ∧ r = M.1 54 a.toNatClampNeg))) := by
  refine zMi_of (plainFor_of_name (by decide)) (Nat.le_of_ble_eq_true rfl) ?_
  intro p e s m args below meth c A X
  refine z_iload_n X 1 d_B_partition_0 rfl rfl ?_
  refine z_iconst X (v := 0) d_B_partition_1 (by decide) ?_
  refine z_iconst X (v := 2) d_B_partition_2 (by decide) ?_
  refine z_Si X GG_ok cf_B_85 [zI a, zI 0, zI 2] [] (c_B_in l D cA ad _ _ _ _) ⟨rfl, rfl⟩ (by decide) rfl rfl (Nat.le_of_ble_eq_true rfl) ⟨Nat.zero_le _, Nat.zero_le _⟩ d_B_partition_3 (fun r1 M2 h3 => ?_)
  have qh3 := h3.1.symm
  subst qh3
  obtain ⟨-, ⟨rfl, p4⟩ | ⟨rfl, p4⟩⟩ := h3
  · refine z_if_eq X 18 d_B_partition_6 (by decide) (fun h => absurd h (by decide)) (fun _ => ?_)
    have ha := kC_ok p4
    refine z_aload_n X 0 d_B_partition_9 rfl rfl ?_
    refine z_get X fl_B_16 51 e_B rfl rfl d_B_partition_10 ?_
    refine z_iload_n X 1 d_B_partition_13 rfl rfl ?_
    refine z_iald X 54 e_B_state rfl a.toNatClampNeg ha.1 ha.2 (by decide) d_B_partition_14 ?_
    refine z_goto X 19 d_B_partition_15 (by decide) ?_
    exact z_iret X (⟨rfl, Or.inr ⟨p4, rfl⟩⟩) d_B_partition_19
  · refine z_if_eq X 18 d_B_partition_6 (by decide) (fun _ => ?_) (fun h => absurd h (by decide))
    refine z_iconst X (v := (-1)) d_B_partition_18 (by decide) ?_
    exact z_iret X (⟨rfl, Or.inl ⟨p4, rfl⟩⟩) d_B_partition_19

set_option maxHeartbeats 4000000 in
set_option maxRecDepth 100000 in
theorem c_B_port (l : Launch) (D : va_G) (cA : Nat → ClassId) (ad : Nat → Nat) (M : zM) (a : Int32) : Ci l D cA ad y_B_port b_B_port 2 (some (.int)) (zr 1 22) [zR 51, zI a] M (fun r M' => M' = M ∧ ((¬ (0 ≤ a ∧ a ≤ 3) ∧ r = (-1)) ∨ ((0 ≤ a ∧ a ≤ 3) ∧ r = M.1 75 a.toNatClampNeg))) := by
  refine zMi_of (plainFor_of_name (by decide)) (Nat.le_of_ble_eq_true rfl) ?_
  intro p e s m args below meth c A X
  refine z_iload_n X 1 d_B_port_0 rfl rfl ?_
  refine z_iconst X (v := 0) d_B_port_1 (by decide) ?_
  refine z_iconst X (v := 3) d_B_port_2 (by decide) ?_
  refine z_Si X GG_ok cf_B_85 [zI a, zI 0, zI 3] [] (c_B_in l D cA ad _ _ _ _) ⟨rfl, rfl⟩ (by decide) rfl rfl (Nat.le_of_ble_eq_true rfl) ⟨Nat.zero_le _, Nat.zero_le _⟩ d_B_port_3 (fun r1 M2 h3 => ?_)
  have qh3 := h3.1.symm
  subst qh3
  obtain ⟨-, ⟨rfl, p4⟩ | ⟨rfl, p4⟩⟩ := h3
  · refine z_if_eq X 18 d_B_port_6 (by decide) (fun h => absurd h (by decide)) (fun _ => ?_)
    have ha := kQ_ok p4
    refine z_aload_n X 0 d_B_port_9 rfl rfl ?_
    refine z_get X fl_B_79 51 e_B rfl rfl d_B_port_10 ?_
    refine z_iload_n X 1 d_B_port_13 rfl rfl ?_
    refine z_iald X 75 e_B_messages rfl a.toNatClampNeg ha.1 ha.2 (by decide) d_B_port_14 ?_
    refine z_goto X 19 d_B_port_15 (by decide) ?_
    exact z_iret X (⟨rfl, Or.inr ⟨p4, rfl⟩⟩) d_B_port_19
  · refine z_if_eq X 18 d_B_port_6 (by decide) (fun _ => ?_) (fun h => absurd h (by decide))
    refine z_iconst X (v := (-1)) d_B_port_18 (by decide) ?_
    exact z_iret X (⟨rfl, Or.inl ⟨p4, rfl⟩⟩) d_B_port_19

set_option maxHeartbeats 4000000 in
set_option maxRecDepth 100000 in
theorem c_B_semaphore (l : Launch) (D : va_G) (cA : Nat → ClassId) (ad : Nat → Nat) (M : zM) (a : Int32) : Ci l D cA ad y_B_semaphore b_B_semaphore 2 (some (.int)) (zr 1 22) [zR 51, zI a] M (fun r M' => M' = M ∧ ((¬ (0 ≤ a ∧ a ≤ 3) ∧ r = (-1)) ∨ ((0 ≤ a ∧ a ≤ 3) ∧ r = M.1 76 a.toNatClampNeg))) := by
  refine zMi_of (plainFor_of_name (by decide)) (Nat.le_of_ble_eq_true rfl) ?_
  intro p e s m args below meth c A X
  refine z_iload_n X 1 d_B_semaphore_0 rfl rfl ?_
  refine z_iconst X (v := 0) d_B_semaphore_1 (by decide) ?_
  refine z_iconst X (v := 3) d_B_semaphore_2 (by decide) ?_
  refine z_Si X GG_ok cf_B_85 [zI a, zI 0, zI 3] [] (c_B_in l D cA ad _ _ _ _) ⟨rfl, rfl⟩ (by decide) rfl rfl (Nat.le_of_ble_eq_true rfl) ⟨Nat.zero_le _, Nat.zero_le _⟩ d_B_semaphore_3 (fun r1 M2 h3 => ?_)
  have qh3 := h3.1.symm
  subst qh3
  obtain ⟨-, ⟨rfl, p4⟩ | ⟨rfl, p4⟩⟩ := h3
  · refine z_if_eq X 18 d_B_semaphore_6 (by decide) (fun h => absurd h (by decide)) (fun _ => ?_)
    have ha := kQ_ok p4
    refine z_aload_n X 0 d_B_semaphore_9 rfl rfl ?_
    refine z_get X fl_B_82 51 e_B rfl rfl d_B_semaphore_10 ?_
    refine z_iload_n X 1 d_B_semaphore_13 rfl rfl ?_
    refine z_iald X 76 e_B_count rfl a.toNatClampNeg ha.1 ha.2 (by decide) d_B_semaphore_14 ?_
    refine z_goto X 19 d_B_semaphore_15 (by decide) ?_
    exact z_iret X (⟨rfl, Or.inr ⟨p4, rfl⟩⟩) d_B_semaphore_19
  · refine z_if_eq X 18 d_B_semaphore_6 (by decide) (fun _ => ?_) (fun h => absurd h (by decide))
    refine z_iconst X (v := (-1)) d_B_semaphore_18 (by decide) ?_
    exact z_iret X (⟨rfl, Or.inl ⟨p4, rfl⟩⟩) d_B_semaphore_19

set_option maxHeartbeats 4000000 in
set_option maxRecDepth 100000 in
theorem c_B_state (l : Launch) (D : va_G) (cA : Nat → ClassId) (ad : Nat → Nat) (M : zM) (n w : Nat) (hI : mInv n w M) (a x : Int32) : Ci l D cA ad y_B_state b_B_state 3 (some (.int)) (zr 1 22) [zR 51, zI a, zI x] M (fun r M' => M' = M ∧ ((¬ (0 ≤ a ∧ a ≤ M.1 51 5 - 1) ∧ r = (-1)) ∨ ((0 ≤ a ∧ a ≤ M.1 51 5 - 1) ∧ r = mTell M a.toNatClampNeg x))) := by
  refine zMi_of (plainFor_of_name (by decide)) (Nat.le_of_ble_eq_true rfl) ?_
  intro p e s m args below meth c A X
  refine z_iload_n X 1 d_B_state_0 rfl rfl ?_
  refine z_iconst X (v := 0) d_B_state_1 (by decide) ?_
  refine z_aload_n X 0 d_B_state_2 rfl rfl ?_
  refine z_get X fl_B_97 51 e_B rfl rfl d_B_state_3 ?_
  refine z_iconst X (v := 1) d_B_state_6 (by decide) ?_
  refine z_isub X d_B_state_7 ?_
  refine z_Si X GG_ok cf_B_85 [zI a, zI 0, zI ((M.1 51 5) - 1)] [] (c_B_in l D cA ad _ _ _ _) ⟨rfl, rfl⟩ (by decide) rfl rfl (Nat.le_of_ble_eq_true rfl) ⟨Nat.zero_le _, Nat.zero_le _⟩ d_B_state_8 (fun r1 M2 h3 => ?_)
  have qh3 := h3.1.symm
  subst qh3
  obtain ⟨-, ⟨rfl, p4⟩ | ⟨rfl, p4⟩⟩ := h3
  · refine z_if_ne X 16 d_B_state_11 (by decide) (fun _ => ?_) (fun h => absurd h (by decide))
    have ha := mA_ok hI p4
    have ha8 : a.toNatClampNeg < 8 := Nat.lt_of_lt_of_le ha.2 (mInv_n hI)
    refine z_iload_n X 2 d_B_state_16 rfl rfl ?_
    by_cases s5_0 : x = 0
    · refine z_tabIn X 72 d_B_state_17 (by rw [s5_0]; decide) (by rw [s5_0]; decide) (by rw [s5_0]; rfl) (by decide) ?_
      refine z_aload_n X 0 d_B_state_72 rfl rfl ?_
      refine z_get X fl_B_43 51 e_B rfl rfl d_B_state_73 ?_
      refine z_iload_n X 1 d_B_state_76 rfl rfl ?_
      refine z_iald X 63 e_B_is rfl a.toNatClampNeg ha.1 ha8 (by decide) d_B_state_77 ?_
      exact z_iret X (⟨rfl, Or.inr ⟨p4, by rw [mTell, if_pos s5_0]⟩⟩) d_B_state_78
    by_cases s5_1 : x = 1
    · refine z_tabIn X 79 d_B_state_17 (by rw [s5_1]; decide) (by rw [s5_1]; decide) (by rw [s5_1]; rfl) (by decide) ?_
      refine z_aload_n X 0 d_B_state_79 rfl rfl ?_
      refine z_get X fl_B_46 51 e_B rfl rfl d_B_state_80 ?_
      refine z_iload_n X 1 d_B_state_83 rfl rfl ?_
      refine z_iald X 64 e_B_at rfl a.toNatClampNeg ha.1 ha8 (by decide) d_B_state_84 ?_
      exact z_iret X (⟨rfl, Or.inr ⟨p4, by rw [mTell, if_neg s5_0, if_pos s5_1]⟩⟩) d_B_state_85
    by_cases s5_2 : x = 2
    · refine z_tabIn X 86 d_B_state_17 (by rw [s5_2]; decide) (by rw [s5_2]; decide) (by rw [s5_2]; rfl) (by decide) ?_
      refine z_aload_n X 0 d_B_state_86 rfl rfl ?_
      refine z_get X fl_B_49 51 e_B rfl rfl d_B_state_87 ?_
      refine z_iload_n X 1 d_B_state_90 rfl rfl ?_
      refine z_iald X 65 e_B_worked rfl a.toNatClampNeg ha.1 ha8 (by decide) d_B_state_91 ?_
      exact z_iret X (⟨rfl, Or.inr ⟨p4, by rw [mTell, if_neg s5_0, if_neg s5_1, if_pos s5_2]⟩⟩) d_B_state_92
    by_cases s5_3 : x = 3
    · refine z_tabIn X 93 d_B_state_17 (by rw [s5_3]; decide) (by rw [s5_3]; decide) (by rw [s5_3]; rfl) (by decide) ?_
      refine z_aload_n X 0 d_B_state_93 rfl rfl ?_
      refine z_get X fl_B_52 51 e_B rfl rfl d_B_state_94 ?_
      refine z_iload_n X 1 d_B_state_97 rfl rfl ?_
      refine z_iald X 66 e_B_rounds rfl a.toNatClampNeg ha.1 ha8 (by decide) d_B_state_98 ?_
      exact z_iret X (⟨rfl, Or.inr ⟨p4, by rw [mTell, if_neg s5_0, if_neg s5_1, if_neg s5_2, if_pos s5_3]⟩⟩) d_B_state_99
    by_cases s5_4 : x = 4
    · refine z_tabIn X 100 d_B_state_17 (by rw [s5_4]; decide) (by rw [s5_4]; decide) (by rw [s5_4]; rfl) (by decide) ?_
      refine z_aload_n X 0 d_B_state_100 rfl rfl ?_
      refine z_get X fl_B_55 51 e_B rfl rfl d_B_state_101 ?_
      refine z_iload_n X 1 d_B_state_104 rfl rfl ?_
      refine z_iald X 67 e_B_deadline rfl a.toNatClampNeg ha.1 ha8 (by decide) d_B_state_105 ?_
      exact z_iret X (⟨rfl, Or.inr ⟨p4, by rw [mTell, if_neg s5_0, if_neg s5_1, if_neg s5_2, if_neg s5_3, if_pos s5_4]⟩⟩) d_B_state_106
    by_cases s5_5 : x = 5
    · refine z_tabIn X 107 d_B_state_17 (by rw [s5_5]; decide) (by rw [s5_5]; decide) (by rw [s5_5]; rfl) (by decide) ?_
      refine z_aload_n X 0 d_B_state_107 rfl rfl ?_
      refine z_get X fl_B_58 51 e_B rfl rfl d_B_state_108 ?_
      refine z_iload_n X 1 d_B_state_111 rfl rfl ?_
      refine z_iald X 68 e_B_missed rfl a.toNatClampNeg ha.1 ha8 (by decide) d_B_state_112 ?_
      exact z_iret X (⟨rfl, Or.inr ⟨p4, by rw [mTell, if_neg s5_0, if_neg s5_1, if_neg s5_2, if_neg s5_3, if_neg s5_4, if_pos s5_5]⟩⟩) d_B_state_113
    by_cases s5_6 : x = 6
    · refine z_tabIn X 114 d_B_state_17 (by rw [s5_6]; decide) (by rw [s5_6]; decide) (by rw [s5_6]; rfl) (by decide) ?_
      refine z_aload_n X 0 d_B_state_114 rfl rfl ?_
      refine z_get X fl_B_61 51 e_B rfl rfl d_B_state_115 ?_
      refine z_iload_n X 1 d_B_state_118 rfl rfl ?_
      refine z_iald X 69 e_B_skipped rfl a.toNatClampNeg ha.1 ha8 (by decide) d_B_state_119 ?_
      exact z_iret X (⟨rfl, Or.inr ⟨p4, by rw [mTell, if_neg s5_0, if_neg s5_1, if_neg s5_2, if_neg s5_3, if_neg s5_4, if_neg s5_5, if_pos s5_6]⟩⟩) d_B_state_120
    by_cases s5_7 : x = 7
    · refine z_tabIn X 121 d_B_state_17 (by rw [s5_7]; decide) (by rw [s5_7]; decide) (by rw [s5_7]; rfl) (by decide) ?_
      refine z_aload_n X 0 d_B_state_121 rfl rfl ?_
      refine z_get X fl_B_64 51 e_B rfl rfl d_B_state_122 ?_
      refine z_iload_n X 1 d_B_state_125 rfl rfl ?_
      refine z_iald X 70 e_B_work rfl a.toNatClampNeg ha.1 ha8 (by decide) d_B_state_126 ?_
      exact z_iret X (⟨rfl, Or.inr ⟨p4, by rw [mTell, if_neg s5_0, if_neg s5_1, if_neg s5_2, if_neg s5_3, if_neg s5_4, if_neg s5_5, if_neg s5_6, if_pos s5_7]⟩⟩) d_B_state_127
    by_cases s5_8 : x = 8
    · refine z_tabIn X 128 d_B_state_17 (by rw [s5_8]; decide) (by rw [s5_8]; decide) (by rw [s5_8]; rfl) (by decide) ?_
      refine z_aload_n X 0 d_B_state_128 rfl rfl ?_
      refine z_get X fl_B_67 51 e_B rfl rfl d_B_state_129 ?_
      refine z_iload_n X 1 d_B_state_132 rfl rfl ?_
      refine z_iald X 71 e_B_letter rfl a.toNatClampNeg ha.1 ha8 (by decide) d_B_state_133 ?_
      exact z_iret X (⟨rfl, Or.inr ⟨p4, by rw [mTell, if_neg s5_0, if_neg s5_1, if_neg s5_2, if_neg s5_3, if_neg s5_4, if_neg s5_5, if_neg s5_6, if_neg s5_7, if_pos s5_8]⟩⟩) d_B_state_134
    by_cases s5_9 : x = 9
    · refine z_tabIn X 135 d_B_state_17 (by rw [s5_9]; decide) (by rw [s5_9]; decide) (by rw [s5_9]; rfl) (by decide) ?_
      refine z_aload_n X 0 d_B_state_135 rfl rfl ?_
      refine z_get X fl_B_70 51 e_B rfl rfl d_B_state_136 ?_
      refine z_iload_n X 1 d_B_state_139 rfl rfl ?_
      refine z_iald X 72 e_B_next rfl a.toNatClampNeg ha.1 ha8 (by decide) d_B_state_140 ?_
      exact z_iret X (⟨rfl, Or.inr ⟨p4, by rw [mTell, if_neg s5_0, if_neg s5_1, if_neg s5_2, if_neg s5_3, if_neg s5_4, if_neg s5_5, if_neg s5_6, if_neg s5_7, if_neg s5_8, if_pos s5_9]⟩⟩) d_B_state_141
    refine z_tabOut X 142 d_B_state_17 (by have q0 := lv_neT s5_0 (k := 0) (a := 0) (by decide); have q1 := lv_neT s5_1 (k := 1) (a := 1) (by decide); have q2 := lv_neT s5_2 (k := 2) (a := 2) (by decide); have q3 := lv_neT s5_3 (k := 3) (a := 3) (by decide); have q4 := lv_neT s5_4 (k := 4) (a := 4) (by decide); have q5 := lv_neT s5_5 (k := 5) (a := 5) (by decide); have q6 := lv_neT s5_6 (k := 6) (a := 6) (by decide); have q7 := lv_neT s5_7 (k := 7) (a := 7) (by decide); have q8 := lv_neT s5_8 (k := 8) (a := 8) (by decide); have q9 := lv_neT s5_9 (k := 9) (a := 9) (by decide); omega) (by decide) ?_
    refine z_iconst X (v := (-1)) d_B_state_142 (by decide) ?_
    exact z_iret X (⟨rfl, Or.inr ⟨p4, by rw [mTell, if_neg s5_0, if_neg s5_1, if_neg s5_2, if_neg s5_3, if_neg s5_4, if_neg s5_5, if_neg s5_6, if_neg s5_7, if_neg s5_8, if_neg s5_9]⟩⟩) d_B_state_143
  · refine z_if_ne X 16 d_B_state_11 (by decide) (fun h => absurd h (by decide)) (fun _ => ?_)
    refine z_iconst X (v := (-1)) d_B_state_14 (by decide) ?_
    exact z_iret X (⟨rfl, Or.inl ⟨p4, rfl⟩⟩) d_B_state_15

set_option maxHeartbeats 4000000 in
set_option maxRecDepth 100000 in
theorem c_B_start (l : Launch) (D : va_G) (cA : Nat → ClassId) (ad : Nat → Nat) (M : zM) (n w : Nat) (hI : mInv n w M) (a : Int32) : Ci l D cA ad y_B_start b_B_start 2 (some (.int)) (zr 2 43) [zR 51, zI a] M (fun r M' => (¬ mOkS a M ∧ M' = M ∧ r = (-1)) ∨ (mOkS a M ∧ M' = mRel a.toNatClampNeg M ∧ r = 0)) := by
  refine zMi_of (plainFor_of_name (by decide)) (Nat.le_of_ble_eq_true rfl) ?_
  intro p e s m args below meth c A X
  refine z_iload_n X 1 d_B_start_0 rfl rfl ?_
  refine z_iconst X (v := 0) d_B_start_1 (by decide) ?_
  refine z_aload_n X 0 d_B_start_2 rfl rfl ?_
  refine z_get X fl_B_97 51 e_B rfl rfl d_B_start_3 ?_
  refine z_iconst X (v := 1) d_B_start_6 (by decide) ?_
  refine z_isub X d_B_start_7 ?_
  refine z_Si X GG_ok cf_B_85 [zI a, zI 0, zI ((M.1 51 5) - 1)] [] (c_B_in l D cA ad _ _ _ _) ⟨rfl, rfl⟩ (by decide) rfl rfl (Nat.le_of_ble_eq_true rfl) ⟨Nat.zero_le _, Nat.zero_le _⟩ d_B_start_8 (fun r1 M2 h3 => ?_)
  have qh3 := h3.1.symm
  subst qh3
  obtain ⟨-, ⟨rfl, p4⟩ | ⟨rfl, p4⟩⟩ := h3
  · refine z_if_eq X 47 d_B_start_11 (by decide) (fun h => absurd h (by decide)) (fun _ => ?_)
    have ha := mA_ok hI p4
    have ha8 : a.toNatClampNeg < 8 := Nat.lt_of_lt_of_le ha.2 (mInv_n hI)
    refine z_aload_n X 0 d_B_start_14 rfl rfl ?_
    refine z_get X fl_B_28 51 e_B rfl rfl d_B_start_15 ?_
    refine z_iload_n X 1 d_B_start_18 rfl rfl ?_
    refine z_iald X 58 e_B_period rfl a.toNatClampNeg ha.1 ha8 (by decide) d_B_start_19 ?_
    refine z_if_gt X 47 d_B_start_20 (by decide) (fun c_20 => ?_) (fun c_20 => ?_)
    · refine z_iconst X (v := (-1)) d_B_start_47 (by decide) ?_
      exact z_iret X (Or.inl ⟨fun q => q.2.1 c_20, rfl, rfl⟩) d_B_start_48
    · refine z_aload_n X 0 d_B_start_23 rfl rfl ?_
      refine z_get X fl_B_43 51 e_B rfl rfl d_B_start_24 ?_
      refine z_iload_n X 1 d_B_start_27 rfl rfl ?_
      refine z_iald X 63 e_B_is rfl a.toNatClampNeg ha.1 ha8 (by decide) d_B_start_28 ?_
      refine z_if_ne X 47 d_B_start_29 (by decide) (fun c_29 => ?_) (fun c_29 => ?_)
      · refine z_iconst X (v := (-1)) d_B_start_47 (by decide) ?_
        exact z_iret X (Or.inl ⟨fun q => c_29 q.2.2.1, rfl, rfl⟩) d_B_start_48
      · refine z_aload_n X 0 d_B_start_32 rfl rfl ?_
        refine z_get X fl_B_16 51 e_B rfl rfl d_B_start_33 ?_
        refine z_aload_n X 0 d_B_start_36 rfl rfl ?_
        refine z_get X fl_B_22 51 e_B rfl rfl d_B_start_37 ?_
        refine z_iload_n X 1 d_B_start_40 rfl rfl ?_
        refine z_iald X 56 e_B_partition rfl a.toNatClampNeg ha.1 ha8 (by decide) d_B_start_41 ?_
        refine z_iald X 54 e_B_state rfl (mPt M a.toNatClampNeg) (mPt_eq hI ha8) (mPt_lt hI ha8) (by decide) d_B_start_42 ?_
        refine z_iconst X (v := 1) d_B_start_43 (by decide) ?_
        refine z_icmp_eq X 49 d_B_start_44 (by decide) (fun c_44 => ?_) (fun c_44 => ?_)
        · refine z_aload_n X 0 d_B_start_49 rfl rfl ?_
          refine z_iload_n X 1 d_B_start_50 rfl rfl ?_
          refine z_Vv X GG_ok cf_B_114 51 [zI a] [] (c_B_release l D cA ad _ _ a.toNatClampNeg ha8 ha.1 ) ⟨rfl, rfl⟩ (by decide) e_B rfl rfl rfl rfl (Nat.le_of_ble_eq_true rfl) ⟨Nat.zero_le _, Nat.zero_le _⟩ d_B_start_51 (fun M6 h7 => ?_)
          have qh7 := h7.symm
          subst qh7
          refine z_iconst X (v := 0) d_B_start_54 (by decide) ?_
          exact z_iret X (Or.inr ⟨⟨p4, c_20, c_29, c_44⟩, rfl, rfl⟩) d_B_start_55
        · refine z_iconst X (v := (-1)) d_B_start_47 (by decide) ?_
          exact z_iret X (Or.inl ⟨fun q => c_44 q.2.2.2, rfl, rfl⟩) d_B_start_48
  · refine z_if_eq X 47 d_B_start_11 (by decide) (fun _ => ?_) (fun h => absurd h (by decide))
    refine z_iconst X (v := (-1)) d_B_start_47 (by decide) ?_
    exact z_iret X (Or.inl ⟨fun q => p4 q.1, rfl, rfl⟩) d_B_start_48

set_option maxHeartbeats 4000000 in
set_option maxRecDepth 100000 in
theorem c_B_count (l : Launch) (D : va_G) (cA : Nat → ClassId) (ad : Nat → Nat) (M : zM) (n w : Nat) (hI : mInv n w M) (tm : Nat) (ht : tm < 2 ^ 31) (et : M.1 51 28 = nI tm) (x : Int32) : Ci l D cA ad y_B_count b_B_count 2 (some (.int)) (zr 1 24) [zR 51, zI x] M (fun r M' => M' = M ∧ r = mCount n w x M) := by
  refine zMi_of (plainFor_of_name (by decide)) (Nat.le_of_ble_eq_true rfl) ?_
  intro p e s m args below meth c A X
  refine z_iload_n X 1 d_B_count_0 rfl rfl ?_
  by_cases s1_0 : x = 0
  · refine z_tabIn X 44 d_B_count_1 (by rw [s1_0]; decide) (by rw [s1_0]; decide) (by rw [s1_0]; rfl) (by decide) ?_
    refine z_aload_n X 0 d_B_count_44 rfl rfl ?_
    refine z_get X fl_B_104 51 e_B rfl rfl d_B_count_45 ?_
    exact z_iret X (⟨rfl, by rw [mCount, if_pos s1_0]⟩) d_B_count_48
  by_cases s1_1 : x = 1
  · refine z_tabIn X 49 d_B_count_1 (by rw [s1_1]; decide) (by rw [s1_1]; decide) (by rw [s1_1]; rfl) (by decide) ?_
    refine z_aload_n X 0 d_B_count_49 rfl rfl ?_
    refine z_iconst X (v := 0) d_B_count_50 (by decide) ?_
    refine z_Vi X GG_ok cf_B_148 51 [zI 0] [] (c_B_holder_0 l D cA ad _ n w hI tm ht et) ⟨rfl, rfl⟩ (by decide) e_B rfl rfl rfl rfl (Nat.le_of_ble_eq_true rfl) ⟨Nat.zero_le _, Nat.zero_le _⟩ d_B_count_51 (fun r2 M3 h4 => ?_)
    have qh4 := h4.1.symm
    subst qh4
    obtain ⟨-, rfl⟩ := h4
    exact z_iret X (⟨rfl, by rw [mCount, if_neg s1_0, if_pos s1_1]⟩) d_B_count_54
  by_cases s1_2 : x = 2
  · refine z_tabIn X 55 d_B_count_1 (by rw [s1_2]; decide) (by rw [s1_2]; decide) (by rw [s1_2]; rfl) (by decide) ?_
    refine z_aload_n X 0 d_B_count_55 rfl rfl ?_
    refine z_iconst X (v := 1) d_B_count_56 (by decide) ?_
    refine z_Vi X GG_ok cf_B_148 51 [zI 1] [] (c_B_holder_1 l D cA ad _ n w hI tm ht et) ⟨rfl, rfl⟩ (by decide) e_B rfl rfl rfl rfl (Nat.le_of_ble_eq_true rfl) ⟨Nat.zero_le _, Nat.zero_le _⟩ d_B_count_57 (fun r5 M6 h7 => ?_)
    have qh7 := h7.1.symm
    subst qh7
    obtain ⟨-, rfl⟩ := h7
    exact z_iret X (⟨rfl, by rw [mCount, if_neg s1_0, if_neg s1_1, if_pos s1_2]⟩) d_B_count_60
  by_cases s1_3 : x = 3
  · refine z_tabIn X 61 d_B_count_1 (by rw [s1_3]; decide) (by rw [s1_3]; decide) (by rw [s1_3]; rfl) (by decide) ?_
    refine z_aload_n X 0 d_B_count_61 rfl rfl ?_
    refine z_get X fl_B_127 51 e_B rfl rfl d_B_count_62 ?_
    exact z_iret X (⟨rfl, by rw [mCount, if_neg s1_0, if_neg s1_1, if_neg s1_2, if_pos s1_3]⟩) d_B_count_65
  by_cases s1_4 : x = 4
  · refine z_tabIn X 66 d_B_count_1 (by rw [s1_4]; decide) (by rw [s1_4]; decide) (by rw [s1_4]; rfl) (by decide) ?_
    refine z_aload_n X 0 d_B_count_66 rfl rfl ?_
    refine z_get X fl_B_156 51 e_B rfl rfl d_B_count_67 ?_
    exact z_iret X (⟨rfl, by rw [mCount, if_neg s1_0, if_neg s1_1, if_neg s1_2, if_neg s1_3, if_pos s1_4]⟩) d_B_count_70
  by_cases s1_5 : x = 5
  · refine z_tabIn X 71 d_B_count_1 (by rw [s1_5]; decide) (by rw [s1_5]; decide) (by rw [s1_5]; rfl) (by decide) ?_
    refine z_aload_n X 0 d_B_count_71 rfl rfl ?_
    refine z_get X fl_B_97 51 e_B rfl rfl d_B_count_72 ?_
    exact z_iret X (⟨rfl, by rw [mCount, if_neg s1_0, if_neg s1_1, if_neg s1_2, if_neg s1_3, if_neg s1_4, if_pos s1_5]; exact mInv_cnt hI⟩) d_B_count_75
  by_cases s1_6 : x = 6
  · refine z_tabIn X 76 d_B_count_1 (by rw [s1_6]; decide) (by rw [s1_6]; decide) (by rw [s1_6]; rfl) (by decide) ?_
    refine z_aload_n X 0 d_B_count_76 rfl rfl ?_
    refine z_get X fl_B_93 51 e_B rfl rfl d_B_count_77 ?_
    exact z_iret X (⟨rfl, by rw [mCount, if_neg s1_0, if_neg s1_1, if_neg s1_2, if_neg s1_3, if_neg s1_4, if_neg s1_5, if_pos s1_6]; exact hI.1.2.2.2.1⟩) d_B_count_80
  refine z_tabOut X 81 d_B_count_1 (by have q0 := lv_neT s1_0 (k := 0) (a := 0) (by decide); have q1 := lv_neT s1_1 (k := 1) (a := 1) (by decide); have q2 := lv_neT s1_2 (k := 2) (a := 2) (by decide); have q3 := lv_neT s1_3 (k := 3) (a := 3) (by decide); have q4 := lv_neT s1_4 (k := 4) (a := 4) (by decide); have q5 := lv_neT s1_5 (k := 5) (a := 5) (by decide); have q6 := lv_neT s1_6 (k := 6) (a := 6) (by decide); omega) (by decide) ?_
  refine z_iconst X (v := (-1)) d_B_count_81 (by decide) ?_
  exact z_iret X (⟨rfl, by rw [mCount, if_neg s1_0, if_neg s1_1, if_neg s1_2, if_neg s1_3, if_neg s1_4, if_neg s1_5, if_neg s1_6]⟩) d_B_count_82
end
section
/-! SIM: the paired places of the class and of the reference -/
abbrev sP : Type := (Nat × Nat) × (Nat × Nat)
def s_L0 : List sP := [((9, 2), (56, 0)), ((9, 3), (57, 0)), ((9, 4), (58, 0)), ((9, 5), (59, 0)), ((9, 6), (63, 0)), ((9, 7), (64, 0)), ((9, 8), (65, 0)), ((9, 10), (66, 0)), ((9, 12), (68, 0)), ((9, 13), (69, 0)), ((9, 14), (70, 0)), ((9, 15), (71, 0)), ((10, 2), (60, 0)), ((11, 0), (61, 0)), ((12, 0), (62, 0)), ((11, 1), (61, 1)), ((12, 1), (62, 1)), ((11, 2), (61, 2)), ((12, 2), (62, 2)), ((11, 3), (61, 3)), ((12, 3), (62, 3)), ((11, 4), (61, 4)), ((12, 4), (62, 4)), ((11, 5), (61, 5)), ((12, 5), (62, 5)), ((11, 6), (61, 6)), ((12, 6), (62, 6)), ((11, 7), (61, 7)), ((12, 7), (62, 7)), ((13, 2), (56, 1)), ((13, 3), (57, 1)), ((13, 4), (58, 1)), ((13, 5), (59, 1)), ((13, 6), (63, 1)), ((13, 7), (64, 1)), ((13, 8), (65, 1)), ((13, 10), (66, 1)), ((13, 12), (68, 1)), ((13, 13), (69, 1)), ((13, 14), (70, 1))]
def s_L1 : List sP := [((13, 15), (71, 1)), ((14, 2), (60, 1)), ((15, 0), (61, 8)), ((16, 0), (62, 8)), ((15, 1), (61, 9)), ((16, 1), (62, 9)), ((15, 2), (61, 10)), ((16, 2), (62, 10)), ((15, 3), (61, 11)), ((16, 3), (62, 11)), ((15, 4), (61, 12)), ((16, 4), (62, 12)), ((15, 5), (61, 13)), ((16, 5), (62, 13)), ((15, 6), (61, 14)), ((16, 6), (62, 14)), ((15, 7), (61, 15)), ((16, 7), (62, 15)), ((17, 2), (56, 2)), ((17, 3), (57, 2)), ((17, 4), (58, 2)), ((17, 5), (59, 2)), ((17, 6), (63, 2)), ((17, 7), (64, 2)), ((17, 8), (65, 2)), ((17, 10), (66, 2)), ((17, 12), (68, 2)), ((17, 13), (69, 2)), ((17, 14), (70, 2)), ((17, 15), (71, 2)), ((18, 2), (60, 2)), ((19, 0), (61, 16)), ((20, 0), (62, 16)), ((19, 1), (61, 17)), ((20, 1), (62, 17)), ((19, 2), (61, 18)), ((20, 2), (62, 18)), ((19, 3), (61, 19)), ((20, 3), (62, 19)), ((19, 4), (61, 20))]
def s_L2 : List sP := [((20, 4), (62, 20)), ((19, 5), (61, 21)), ((20, 5), (62, 21)), ((19, 6), (61, 22)), ((20, 6), (62, 22)), ((19, 7), (61, 23)), ((20, 7), (62, 23)), ((21, 2), (56, 3)), ((21, 3), (57, 3)), ((21, 4), (58, 3)), ((21, 5), (59, 3)), ((21, 6), (63, 3)), ((21, 7), (64, 3)), ((21, 8), (65, 3)), ((21, 10), (66, 3)), ((21, 12), (68, 3)), ((21, 13), (69, 3)), ((21, 14), (70, 3)), ((21, 15), (71, 3)), ((22, 2), (60, 3)), ((23, 0), (61, 24)), ((24, 0), (62, 24)), ((23, 1), (61, 25)), ((24, 1), (62, 25)), ((23, 2), (61, 26)), ((24, 2), (62, 26)), ((23, 3), (61, 27)), ((24, 3), (62, 27)), ((23, 4), (61, 28)), ((24, 4), (62, 28)), ((23, 5), (61, 29)), ((24, 5), (62, 29)), ((23, 6), (61, 30)), ((24, 6), (62, 30)), ((23, 7), (61, 31)), ((24, 7), (62, 31)), ((25, 2), (56, 4)), ((25, 3), (57, 4)), ((25, 4), (58, 4)), ((25, 5), (59, 4))]
def s_L3 : List sP := [((25, 6), (63, 4)), ((25, 7), (64, 4)), ((25, 8), (65, 4)), ((25, 10), (66, 4)), ((25, 12), (68, 4)), ((25, 13), (69, 4)), ((25, 14), (70, 4)), ((25, 15), (71, 4)), ((26, 2), (60, 4)), ((27, 0), (61, 32)), ((28, 0), (62, 32)), ((27, 1), (61, 33)), ((28, 1), (62, 33)), ((27, 2), (61, 34)), ((28, 2), (62, 34)), ((27, 3), (61, 35)), ((28, 3), (62, 35)), ((27, 4), (61, 36)), ((28, 4), (62, 36)), ((27, 5), (61, 37)), ((28, 5), (62, 37)), ((27, 6), (61, 38)), ((28, 6), (62, 38)), ((27, 7), (61, 39)), ((28, 7), (62, 39)), ((29, 2), (56, 5)), ((29, 3), (57, 5)), ((29, 4), (58, 5)), ((29, 5), (59, 5)), ((29, 6), (63, 5)), ((29, 7), (64, 5)), ((29, 8), (65, 5)), ((29, 10), (66, 5)), ((29, 12), (68, 5)), ((29, 13), (69, 5)), ((29, 14), (70, 5)), ((29, 15), (71, 5)), ((30, 2), (60, 5)), ((31, 0), (61, 40)), ((32, 0), (62, 40))]
def s_L4 : List sP := [((31, 1), (61, 41)), ((32, 1), (62, 41)), ((31, 2), (61, 42)), ((32, 2), (62, 42)), ((31, 3), (61, 43)), ((32, 3), (62, 43)), ((31, 4), (61, 44)), ((32, 4), (62, 44)), ((31, 5), (61, 45)), ((32, 5), (62, 45)), ((31, 6), (61, 46)), ((32, 6), (62, 46)), ((31, 7), (61, 47)), ((32, 7), (62, 47)), ((33, 2), (56, 6)), ((33, 3), (57, 6)), ((33, 4), (58, 6)), ((33, 5), (59, 6)), ((33, 6), (63, 6)), ((33, 7), (64, 6)), ((33, 8), (65, 6)), ((33, 10), (66, 6)), ((33, 12), (68, 6)), ((33, 13), (69, 6)), ((33, 14), (70, 6)), ((33, 15), (71, 6)), ((34, 2), (60, 6)), ((35, 0), (61, 48)), ((36, 0), (62, 48)), ((35, 1), (61, 49)), ((36, 1), (62, 49)), ((35, 2), (61, 50)), ((36, 2), (62, 50)), ((35, 3), (61, 51)), ((36, 3), (62, 51)), ((35, 4), (61, 52)), ((36, 4), (62, 52)), ((35, 5), (61, 53)), ((36, 5), (62, 53)), ((35, 6), (61, 54))]
def s_L5 : List sP := [((36, 6), (62, 54)), ((35, 7), (61, 55)), ((36, 7), (62, 55)), ((37, 2), (56, 7)), ((37, 3), (57, 7)), ((37, 4), (58, 7)), ((37, 5), (59, 7)), ((37, 6), (63, 7)), ((37, 7), (64, 7)), ((37, 8), (65, 7)), ((37, 10), (66, 7)), ((37, 12), (68, 7)), ((37, 13), (69, 7)), ((37, 14), (70, 7)), ((37, 15), (71, 7)), ((38, 2), (60, 7)), ((39, 0), (61, 56)), ((40, 0), (62, 56)), ((39, 1), (61, 57)), ((40, 1), (62, 57)), ((39, 2), (61, 58)), ((40, 2), (62, 58)), ((39, 3), (61, 59)), ((40, 3), (62, 59)), ((39, 4), (61, 60)), ((40, 4), (62, 60)), ((39, 5), (61, 61)), ((40, 5), (62, 61)), ((39, 6), (61, 62)), ((40, 6), (62, 62)), ((39, 7), (61, 63)), ((40, 7), (62, 63)), ((5, 0), (54, 0)), ((5, 1), (55, 0)), ((6, 0), (54, 1)), ((6, 1), (55, 1)), ((7, 0), (54, 2)), ((7, 1), (55, 2)), ((42, 1), (75, 0)), ((50, 0), (76, 0))]
def s_L6 : List sP := [((44, 1), (75, 1)), ((50, 1), (76, 1)), ((46, 1), (75, 2)), ((50, 2), (76, 2)), ((48, 1), (75, 3)), ((50, 3), (76, 3)), ((0, 5), (51, 5)), ((0, 6), (51, 28)), ((0, 7), (51, 29)), ((0, 8), (51, 30)), ((1, 2), (51, 2)), ((2, 0), (52, 0)), ((2, 1), (52, 1)), ((2, 2), (52, 2)), ((2, 3), (52, 3)), ((2, 4), (52, 4)), ((2, 5), (52, 5)), ((2, 6), (52, 6)), ((2, 7), (52, 7))]
def s_L : List sP := s_L0 ++ (s_L1 ++ (s_L2 ++ (s_L3 ++ (s_L4 ++ (s_L5 ++ (s_L6))))))
theorem s_bij : ∀ p ∈ s_L, ∀ q ∈ s_L, (p.1 = q.1 ↔ p.2 = q.2) := by decide +kernel
theorem s_part : ∀ i, i < 8 → (((9 + 4 * i, 2), (56, i)) : sP) ∈ s_L := by decide +kernel
theorem s_prio : ∀ i, i < 8 → (((9 + 4 * i, 3), (57, i)) : sP) ∈ s_L := by decide +kernel
theorem s_per : ∀ i, i < 8 → (((9 + 4 * i, 4), (58, i)) : sP) ∈ s_L := by decide +kernel
theorem s_lim : ∀ i, i < 8 → (((9 + 4 * i, 5), (59, i)) : sP) ∈ s_L := by decide +kernel
theorem s_st : ∀ i, i < 8 → (((9 + 4 * i, 6), (63, i)) : sP) ∈ s_L := by decide +kernel
theorem s_at : ∀ i, i < 8 → (((9 + 4 * i, 7), (64, i)) : sP) ∈ s_L := by decide +kernel
theorem s_wk : ∀ i, i < 8 → (((9 + 4 * i, 8), (65, i)) : sP) ∈ s_L := by decide +kernel
theorem s_rnd : ∀ i, i < 8 → (((9 + 4 * i, 10), (66, i)) : sP) ∈ s_L := by decide +kernel
theorem s_mis : ∀ i, i < 8 → (((9 + 4 * i, 12), (68, i)) : sP) ∈ s_L := by decide +kernel
theorem s_skp : ∀ i, i < 8 → (((9 + 4 * i, 13), (69, i)) : sP) ∈ s_L := by decide +kernel
theorem s_wrk : ∀ i, i < 8 → (((9 + 4 * i, 14), (70, i)) : sP) ∈ s_L := by decide +kernel
theorem s_let : ∀ i, i < 8 → (((9 + 4 * i, 15), (71, i)) : sP) ∈ s_L := by decide +kernel
theorem s_siz : ∀ i, i < 8 → (((10 + 4 * i, 2), (60, i)) : sP) ∈ s_L := by decide +kernel
theorem s_ord0 : ∀ y, y < 64 → (((11 + 4 * (y / 8), y % 8), (61, y)) : sP) ∈ s_L := by decide +kernel
theorem s_ord (i : Nat) (hi : i < 8) (x : Nat) (hx : x < 8) : (((11 + 4 * i, x), (61, 8 * i + x)) : sP) ∈ s_L := by
  have h := s_ord0 (8 * i + x) (by omega)
  rw [show (8 * i + x) / 8 = i by omega, show (8 * i + x) % 8 = x by omega] at h
  exact h
theorem s_num0 : ∀ y, y < 64 → (((12 + 4 * (y / 8), y % 8), (62, y)) : sP) ∈ s_L := by decide +kernel
theorem s_num (i : Nat) (hi : i < 8) (x : Nat) (hx : x < 8) : (((12 + 4 * i, x), (62, 8 * i + x)) : sP) ∈ s_L := by
  have h := s_num0 (8 * i + x) (by omega)
  rw [show (8 * i + x) / 8 = i by omega, show (8 * i + x) % 8 = x by omega] at h
  exact h
theorem s_mode : ∀ i, i < 3 → (((5 + i, 0), (54, i)) : sP) ∈ s_L := by decide +kernel
theorem s_act : ∀ i, i < 3 → (((5 + i, 1), (55, i)) : sP) ∈ s_L := by decide +kernel
theorem s_psz : ∀ i, i < 4 → (((42 + 2 * i, 1), (75, i)) : sP) ∈ s_L := by decide +kernel
theorem s_sem : ∀ i, i < 4 → (((50, i), (76, i)) : sP) ∈ s_L := by decide +kernel
theorem s_own : ∀ i, i < 8 → (((2, i), (52, i)) : sP) ∈ s_L := by decide +kernel
theorem s_cnt : (((0, 5), (51, 5)) : sP) ∈ s_L := by decide +kernel
theorem s_time : (((0, 6), (51, 28)) : sP) ∈ s_L := by decide +kernel
theorem s_lost : (((0, 7), (51, 29)) : sP) ∈ s_L := by decide +kernel
theorem s_idle : (((0, 8), (51, 30)) : sP) ∈ s_L := by decide +kernel
theorem s_win : (((1, 2), (51, 2)) : sP) ∈ s_L := by decide +kernel
theorem s_no_t : ∀ i, i < 8 → ∀ k, k < 20 → (k = 0 ∨ k = 1 ∨ k = 9 ∨ k = 11 ∨ 16 ≤ k) → ∀ p ∈ s_L, p.1 ≠ (9 + 4 * i, k) := by decide +kernel
theorem s_no_me : ∀ q, q < 4 → ∀ x, x < 4 → ∀ p ∈ s_L, p.1 ≠ (43 + 2 * q, x) := by decide +kernel
theorem s_no_3 : ∀ x, x < 8 → ∀ p ∈ s_L, p.1 ≠ (3, x) := by decide +kernel
theorem s_no_m : ∀ c, c < 80 → (c = 53 ∨ c = 67 ∨ c = 72 ∨ c = 73 ∨ c = 74) → ∀ x, x < 16 → ∀ p ∈ s_L, p.2 ≠ (c, x) := by decide +kernel
theorem s_no_clk : ∀ p ∈ s_L, p.2 ≠ (51, 24) := by decide +kernel
def sR0 (Mc Mm : zM) : Prop := ∀ p ∈ s_L, Mc.1 p.1.1 p.1.2 = Mm.1 p.2.1 p.2.2
theorem sR0_w {Mc Mm : zM} (h : sR0 Mc Mm) {c k c' k' : Nat} (hp : (((c, k), (c', k')) : sP) ∈ s_L) (x : Int32) : sR0 (z_si Mc c k x) (z_si Mm c' k' x) := by
  intro q hq
  have hb := s_bij _ hp q hq
  by_cases e : q.1 = (c, k)
  · have e2 : q.2 = (c', k') := (hb.mp e.symm).symm
    rw [e, e2]
    show (z_si Mc c k x).1 c k = (z_si Mm c' k' x).1 c' k'
    rw [z_si_same, z_si_same]
  · have e2 : ¬ q.2 = (c', k') := fun z => e (hb.mpr z.symm).symm
    rw [z_si_other, z_si_other]
    · exact h q hq
    · intro z; exact e2 (Prod.ext z.1 z.2)
    · intro z; exact e (Prod.ext z.1 z.2)
theorem sR0_c {Mc Mm : zM} (h : sR0 Mc Mm) {c k : Nat} (hp : ∀ p ∈ s_L, p.1 ≠ (c, k)) (x : Int32) : sR0 (z_si Mc c k x) Mm := by
  intro q hq
  rw [z_si_other]
  · exact h q hq
  · intro z; exact hp q hq (Prod.ext z.1 z.2)
theorem sR0_m {Mc Mm : zM} (h : sR0 Mc Mm) {c k : Nat} (hp : ∀ p ∈ s_L, p.2 ≠ (c, k)) (x : Int32) : sR0 Mc (z_si Mm c k x) := by
  intro q hq
  rw [z_si_other]
  · exact h q hq
  · intro z; exact hp q hq (Prod.ext z.1 z.2)
theorem sR0_j {Mc Mm : zM} (h : sR0 Mc Mm) (c k : Nat) (x : Int64) : sR0 (z_sj Mc c k x) Mm := h
/-- deadlines and next releases: of those that are made; of the others the class's own first values -/
def sRD (n : Nat) (Mc Mm : zM) : Prop := ∀ i, i < 8 → (i < n → Mc.1 (9 + 4 * i) 11 = Mm.1 67 i ∧ Mc.1 (9 + 4 * i) 16 = Mm.1 72 i) ∧ (n ≤ i → Mc.1 (9 + 4 * i) 11 = (-1) ∧ Mc.1 (9 + 4 * i) 16 = (-1))
/-- the messages that are there -/
def sRM (Mc Mm : zM) : Prop := ∀ q, q < 4 → ∀ x, x < mSz Mm q → Mc.1 (43 + 2 * q) x = Mm.1 74 (4 * q + x)
/-- the windows' ends -/
def sRE (w : Nat) (Mc Mm : zM) : Prop := ∀ j, j < w → Mc.1 3 j = nI (mTl Mm (j + 1) 0)
def sRN (Mc : zM) : Prop := ∀ i, i < 8 → Mc.1 (9 + 4 * i) 0 = nI i
/-- who became so first: the two clocks agree on it -/
def sRS (b : Nat) (Mc Mm : zM) : Prop := ∃ (a c : Nat) (fa fc : Nat → Nat), a ≤ b ∧ c ≤ b ∧ Mc.2 0 9 = lN a ∧ Mm.1 51 24 = nI c ∧ (∀ i, i < 8 → Mc.2 (9 + 4 * i) 9 = lN (fa i) ∧ fa i ≤ a ∧ Mm.1 73 i = nI (fc i) ∧ fc i ≤ c) ∧ ∀ i j, i < 8 → j < 8 → ¬ Mm.1 63 i = 0 → ¬ Mm.1 63 j = 0 → (fa i < fa j ↔ fc i < fc j)
def sR (n w b : Nat) (Mc Mm : zM) : Prop := sR0 Mc Mm ∧ sRD n Mc Mm ∧ sRM Mc Mm ∧ sRE w Mc Mm ∧ sRN Mc ∧ sRS b Mc Mm
end
section
/-! SIM: pairs of writes -/
theorem sR_get {n w b : Nat} {Mc Mm : zM} (h : sR n w b Mc Mm) {c k c' k' : Nat} (hp : (((c, k), (c', k')) : sP) ∈ s_L) : Mc.1 c k = Mm.1 c' k' := h.1 _ hp
/-- the other parts of the relation look at these places alone -/
theorem sRD_k {n : Nat} {Mc Mm Mc' Mm' : zM} (h : sRD n Mc Mm) (h1 : ∀ i, i < 8 → Mc'.1 (9 + 4 * i) 11 = Mc.1 (9 + 4 * i) 11 ∧ Mc'.1 (9 + 4 * i) 16 = Mc.1 (9 + 4 * i) 16) (h2 : ∀ i, i < 8 → Mm'.1 67 i = Mm.1 67 i ∧ Mm'.1 72 i = Mm.1 72 i) : sRD n Mc' Mm' := by
  intro i hi
  rw [(h1 i hi).1, (h1 i hi).2, (h2 i hi).1, (h2 i hi).2]
  exact h i hi
theorem sRM_k {Mc Mm Mc' Mm' : zM} (h : sRM Mc Mm) (h1 : ∀ q, q < 4 → Mc'.1 (43 + 2 * q) = Mc.1 (43 + 2 * q)) (h2 : Mm'.1 74 = Mm.1 74) (h3 : Mm'.1 75 = Mm.1 75) : sRM Mc' Mm' := by
  intro q hq x hx
  unfold mSz at hx
  rw [h1 q hq, h2]
  rw [h3] at hx
  exact h q hq x hx
theorem mTl_k {M M' : zM} (h : M'.1 53 = M.1 53) : ∀ k i, mTl M' k i = mTl M k i
  | 0, _ => rfl
  | k + 1, i => by
    show mSp M' i + mTl M' k (i + 1) = mSp M i + mTl M k (i + 1)
    rw [mTl_k h k (i + 1)]
    unfold mSp
    rw [h]
theorem sRE_k {w : Nat} {Mc Mm Mc' Mm' : zM} (h : sRE w Mc Mm) (h1 : Mc'.1 3 = Mc.1 3) (h2 : Mm'.1 53 = Mm.1 53) : sRE w Mc' Mm' := by
  intro j hj
  rw [h1, mTl_k h2]
  exact h j hj
theorem sRN_k {Mc Mc' : zM} (h : sRN Mc) (h1 : ∀ i, i < 8 → Mc'.1 (9 + 4 * i) 0 = Mc.1 (9 + 4 * i) 0) : sRN Mc' := by
  intro i hi
  rw [h1 i hi]
  exact h i hi
/-- less is active, the clocks are as they were -/
theorem sRS_k {b b' : Nat} {Mc Mm Mc' Mm' : zM} (h : sRS b Mc Mm) (hb : b ≤ b') (h1 : Mc'.2 = Mc.2) (h2 : Mm'.1 51 24 = Mm.1 51 24) (h3 : Mm'.1 73 = Mm.1 73) (h4 : ∀ i, i < 8 → ¬ Mm'.1 63 i = 0 → ¬ Mm.1 63 i = 0) : sRS b' Mc' Mm' := by
  obtain ⟨a, c, fa, fc, ha, hc, e1, e2, e3, e4⟩ := h
  refine ⟨a, c, fa, fc, Nat.le_trans ha hb, Nat.le_trans hc hb, by rw [h1]; exact e1, by rw [h2]; exact e2, fun i hi => by rw [h1, h3]; exact e3 i hi, fun i j hi hj p q => e4 i j hi hj (h4 i hi p) (h4 j hj q)⟩
/-- one pair of writes that touches neither messages nor windows, and no state but to rest -/
theorem sR_w {n w b : Nat} {Mc Mm : zM} (h : sR n w b Mc Mm) {c k c' k' : Nat} (hp : (((c, k), (c', k')) : sP) ∈ s_L) (x : Int32) (hc : (c < 43 ∧ c ≠ 3 ∧ c ≠ 42) ∨ c = 50) (hk : (9 ≤ c ∧ c < 41 ∧ c % 4 = 1) → k ≠ 0 ∧ k ≠ 11 ∧ k ≠ 16) (hm : c' ≠ 67 ∧ c' ≠ 72 ∧ c' ≠ 73 ∧ c' ≠ 74 ∧ c' ≠ 75 ∧ c' ≠ 53 ∧ (c' ≠ 51 ∨ k' ≠ 24)) (h63 : c' = 63 → x = 0) : sR n w b (z_si Mc c k x) (z_si Mm c' k' x) := by
  obtain ⟨h0, hD, hM, hE, hN, hS⟩ := h
  refine ⟨sR0_w h0 hp x, sRD_k hD (fun i hi => ?_) (fun i hi => ?_), sRM_k hM (fun q hq => ?_) ?_ ?_, sRE_k hE ?_ ?_, sRN_k hN (fun i hi => ?_), sRS_k hS (Nat.le_refl b) rfl ?_ ?_ (fun i hi q => ?_)⟩
  · rw [z_si_other _ _ (by omega), z_si_other _ _ (by omega)]; exact ⟨rfl, rfl⟩
  · rw [z_si_other _ _ (by omega), z_si_other _ _ (by omega)]; exact ⟨rfl, rfl⟩
  · exact z_si_row _ _ _ (by omega)
  · exact z_si_row _ _ _ (by omega)
  · exact z_si_row _ _ _ (by omega)
  · exact z_si_row _ _ _ (by omega)
  · exact z_si_row _ _ _ (by omega)
  · rw [z_si_other _ _ (by omega)]
  · rw [z_si_other _ _ (by omega)]
  · exact z_si_row _ _ _ (by omega)
  · by_cases e : 63 = c' ∧ i = k'
    · obtain ⟨e1, e2⟩ := e
      subst e1; subst e2
      rw [z_si_same] at q
      exact absurd (h63 rfl) q
    · rw [z_si_other _ _ (by omega)] at q
      exact q
/-- a pair of writes to a task -/
theorem sR_t {n w b : Nat} {Mc Mm : zM} (h : sR n w b Mc Mm) {i k c' : Nat} (hi : i < 8) (hp : (((9 + 4 * i, k), (c', i)) : sP) ∈ s_L) (x : Int32) (hk : k ≠ 0 ∧ k ≠ 11 ∧ k ≠ 16) (hm : c' ≠ 67 ∧ c' ≠ 72 ∧ c' ≠ 73 ∧ c' ≠ 74 ∧ c' ≠ 75 ∧ c' ≠ 53 ∧ c' ≠ 51) (h63 : c' = 63 → x = 0) : sR n w b (z_si Mc (9 + 4 * i) k x) (z_si Mm c' i x) := sR_w h hp x (by omega) (fun _ => hk) (by omega) h63
/-- deadlines, next releases -/
theorem sR_d {n w b : Nat} {Mc Mm : zM} (h : sR n w b Mc Mm) {i : Nat} (hi : i < n) (hi8 : i < 8) (x : Int32) : sR n w b (z_si Mc (9 + 4 * i) 11 x) (z_si Mm 67 i x) := by
  obtain ⟨h0, hD, hM, hE, hN, hS⟩ := h
  refine ⟨sR0_m (sR0_c h0 (s_no_t i hi8 11 (by omega) (by omega)) x) (s_no_m 67 (by omega) (by omega) i (by omega)) x, fun j hj => ?_, sRM_k hM (fun q hq => z_si_row _ _ _ (by omega)) (z_si_row _ _ _ (by omega)) (z_si_row _ _ _ (by omega)), sRE_k hE (z_si_row _ _ _ (by omega)) (z_si_row _ _ _ (by omega)), sRN_k hN (fun i hi => by rw [z_si_other _ _ (by omega)]), sRS_k hS (Nat.le_refl b) rfl (by rw [z_si_other _ _ (by omega)]) (z_si_row _ _ _ (by omega)) (fun j hj q => by rw [z_si_other _ _ (by omega)] at q; exact q)⟩
  by_cases e : j = i
  · subst e
    rw [z_si_same, z_si_same, z_si_other _ _ (by omega), z_si_other _ _ (by omega)]
    exact ⟨fun _ => ⟨rfl, ((hD j hj).1 hi).2⟩, fun q => absurd hi (by omega)⟩
  · rw [z_si_other _ _ (by omega), z_si_other _ _ (by omega), z_si_other _ _ (by omega), z_si_other _ _ (by omega)]
    exact hD j hj
theorem sR_x {n w b : Nat} {Mc Mm : zM} (h : sR n w b Mc Mm) {i : Nat} (hi : i < n) (hi8 : i < 8) (x : Int32) : sR n w b (z_si Mc (9 + 4 * i) 16 x) (z_si Mm 72 i x) := by
  obtain ⟨h0, hD, hM, hE, hN, hS⟩ := h
  refine ⟨sR0_m (sR0_c h0 (s_no_t i hi8 16 (by omega) (by omega)) x) (s_no_m 72 (by omega) (by omega) i (by omega)) x, fun j hj => ?_, sRM_k hM (fun q hq => z_si_row _ _ _ (by omega)) (z_si_row _ _ _ (by omega)) (z_si_row _ _ _ (by omega)), sRE_k hE (z_si_row _ _ _ (by omega)) (z_si_row _ _ _ (by omega)), sRN_k hN (fun i hi => by rw [z_si_other _ _ (by omega)]), sRS_k hS (Nat.le_refl b) rfl (by rw [z_si_other _ _ (by omega)]) (z_si_row _ _ _ (by omega)) (fun j hj q => by rw [z_si_other _ _ (by omega)] at q; exact q)⟩
  by_cases e : j = i
  · subst e
    rw [z_si_same, z_si_same, z_si_other _ _ (by omega), z_si_other _ _ (by omega)]
    exact ⟨fun _ => ⟨((hD j hj).1 hi).1, rfl⟩, fun q => absurd hi (by omega)⟩
  · rw [z_si_other _ _ (by omega), z_si_other _ _ (by omega), z_si_other _ _ (by omega), z_si_other _ _ (by omega)]
    exact hD j hj
/-- becoming READY or WAITING -/
theorem sR_bec {n w b : Nat} {Mc Mm : zM} (h : sR n w b Mc Mm) {i : Nat} (hi : i < 8) (v : Int32) : sR n w (b + 1) (z_sj (z_si (kTurn Mc) (9 + 4 * i) 6 v) (9 + 4 * i) 9 (Mc.2 0 9 + 1)) (mBec i v Mm) := by
  obtain ⟨h0, hD, hM, hE, hN, hS⟩ := h
  have hf : ∀ c j, (c ≠ 63 ∧ c ≠ 73 ∧ (c ≠ 51 ∨ j ≠ 24)) ∨ (c ≠ 51 ∧ j ≠ i) → (mBec i v Mm).1 c j = Mm.1 c j := fun c j q => mBec_far i v Mm q
  refine ⟨?_, sRD_k hD (fun j hj => ?_) (fun j hj => ⟨hf _ _ (by omega), hf _ _ (by omega)⟩), sRM_k hM (fun q hq => ?_) (funext fun j => hf _ _ (by omega)) (funext fun j => hf _ _ (by omega)), sRE_k hE ?_ (funext fun j => hf _ _ (by omega)), sRN_k hN (fun j hj => ?_), ?_⟩
  · have h1 : sR0 (z_si Mc (9 + 4 * i) 6 v) (z_si Mm 63 i v) := sR0_w h0 (s_st i hi) v
    have h2 := sR0_m (sR0_m h1 s_no_clk ((z_si Mm 63 i v).1 51 24 + 1)) (s_no_m 73 (by omega) (by omega) i (by omega)) ((mBec1 i v Mm).1 51 24)
    exact h2
  · show (z_si Mc (9 + 4 * i) 6 v).1 _ _ = _ ∧ (z_si Mc (9 + 4 * i) 6 v).1 _ _ = _
    rw [z_si_other _ _ (by omega), z_si_other _ _ (by omega)]; exact ⟨rfl, rfl⟩
  · exact z_si_row Mc _ _ (by omega)
  · exact z_si_row Mc _ _ (by omega)
  · show (z_si Mc (9 + 4 * i) 6 v).1 _ _ = _
    rw [z_si_other _ _ (by omega)]
  · obtain ⟨a, c, fa, fc, ha, hc, e1, e2, e3, e4⟩ := hS
    refine ⟨a + 1, c + 1, va_up fa i (a + 1), va_up fc i (c + 1), by omega, by omega, ?_, ?_, fun j hj => ?_, fun j k hj hk pj pk => ?_⟩
    · rw [z_sj_other _ _ (by omega)]
      show (z_sj Mc 0 9 (Mc.2 0 9 + 1)).2 0 9 = _
      rw [z_sj_same, e1, lN_1]
    · unfold mBec mBec1
      rw [z_si_other _ _ (by omega), z_si_same, z_si_other _ _ (by omega), e2, nI_1]
    · by_cases e : j = i
      · subst e
        unfold va_up
        rw [if_pos rfl, if_pos rfl, z_sj_same, e1, lN_1]
        refine ⟨rfl, Nat.le_refl _, ?_, Nat.le_refl _⟩
        unfold mBec mBec1
        rw [z_si_same, z_si_same, z_si_other _ _ (by omega), e2, nI_1]
      · unfold va_up
        rw [if_neg e, if_neg e, z_sj_other _ _ (by omega), hf _ _ (by omega)]
        have := e3 j hj
        show (z_sj Mc 0 9 (Mc.2 0 9 + 1)).2 _ 9 = _ ∧ _
        rw [z_sj_other _ _ (by omega)]
        exact ⟨this.1, by omega, this.2.2.1, by omega⟩
    · have act : ∀ z, z ≠ i → ¬ (mBec i v Mm).1 63 z = 0 → ¬ Mm.1 63 z = 0 := fun z hz q => by rw [hf _ _ (by omega)] at q; exact q
      unfold va_up
      by_cases ej : j = i
      · by_cases ek : k = i
        · subst ej; subst ek
          rw [if_pos rfl, if_pos rfl]
          omega
        · rw [if_pos ej, if_pos ej, if_neg ek, if_neg ek]
          have := e3 k hk
          omega
      · by_cases ek : k = i
        · rw [if_neg ej, if_neg ej, if_pos ek, if_pos ek]
          have := e3 j hj
          omega
        · rw [if_neg ej, if_neg ej, if_neg ek, if_neg ek]
          exact e4 j k hj hk (act j ej pj) (act k ek pk)
theorem sR_mono {n w b b' : Nat} {Mc Mm : zM} (h : sR n w b Mc Mm) (hb : b ≤ b') : sR n w b' Mc Mm := ⟨h.1, h.2.1, h.2.2.1, h.2.2.2.1, h.2.2.2.2.1, sRS_k h.2.2.2.2.2 hb rfl rfl rfl (fun _ _ q => q)⟩
/-- a turn of the class's clock alone -/
theorem sR_turn {n w b : Nat} {Mc Mm : zM} (h : sR n w b Mc Mm) : sR n w (b + 1) (kTurn Mc) Mm := by
  obtain ⟨h0, hD, hM, hE, hN, a, c, fa, fc, ha, hc, e1, e2, e3, e4⟩ := h
  refine ⟨h0, hD, hM, hE, hN, a + 1, c, fa, fc, by omega, by omega, ?_, e2, fun i hi => ?_, e4⟩
  · show (z_sj Mc 0 9 (Mc.2 0 9 + 1)).2 0 9 = _
    rw [z_sj_same, e1, lN_1]
  · have := e3 i hi
    show (z_sj Mc 0 9 (Mc.2 0 9 + 1)).2 _ 9 = _ ∧ _
    rw [z_sj_other _ _ (by omega)]
    exact ⟨this.1, by omega, this.2.2⟩
end
section
/-! SIM: what else holds of the reference, and the steps of one process -/
def sW2 (n : Nat) (M : zM) : Prop := ∀ i, i < 8 → M.1 63 i = 0 → M.1 64 i = 0 ∧ M.1 65 i = 0 ∧ (i < n → M.1 67 i = (-1))
def sW3 (M : zM) : Prop := ∀ i, i < 8 → ∃ v, v ≤ 60 ∧ M.1 58 i = nI v
def sWk (M : zM) (i : Nat) : Prop := ¬ M.1 63 i = 0 → mOrd M i = 0 → ∃ y v, M.1 65 i = nI y ∧ mNum M i = nI v ∧ y < v ∧ v ≤ 20
def sW5 (M : zM) : Prop := ∀ i, i < 8 → ∀ x, x < mPs M i → M.1 61 (8 * i + x) = 0 → ∃ v, 1 ≤ v ∧ v ≤ 20 ∧ M.1 62 (8 * i + x) = nI v
def sV (n : Nat) (M : zM) : Prop := sW2 n M ∧ sW3 M ∧ (∀ i, i < 8 → sWk M i) ∧ sW5 M
def sVx (n k : Nat) (M : zM) : Prop := (∀ i, i < 8 → i ≠ k → M.1 63 i = 0 → M.1 64 i = 0 ∧ M.1 65 i = 0 ∧ (i < n → M.1 67 i = (-1))) ∧ sW3 M ∧ (∀ i, i < 8 → i ≠ k → sWk M i) ∧ sW5 M
theorem sV.x {n : Nat} {M : zM} (h : sV n M) (k : Nat) : sVx n k M := ⟨fun i hi _ q => h.1 i hi q, h.2.1, fun i hi _ => h.2.2.1 i hi, h.2.2.2⟩
def sIM (n w b : Nat) (Mc Mm : zM) : Prop := kInv n w Mc ∧ mInv n w Mm ∧ sR n w b Mc Mm ∧ sV n Mm
theorem sWk_k {M M' : zM} {i : Nat} (h : sWk M i) (h1 : M'.1 63 i = M.1 63 i) (h2 : M'.1 64 i = M.1 64 i) (h3 : M'.1 65 i = M.1 65 i) (h4 : M'.1 61 = M.1 61) (h5 : M'.1 62 = M.1 62) : sWk M' i := by
  unfold sWk mOrd mNum mAt at *
  rw [h1, h2, h3, h4, h5]
  exact h
theorem sW5_k {M M' : zM} (h : sW5 M) (h3 : M'.1 60 = M.1 60) (h4 : M'.1 61 = M.1 61) (h5 : M'.1 62 = M.1 62) : sW5 M' := by
  unfold sW5 mPs at *
  rw [h3, h4, h5]
  exact h
/-- all but the process k is as it was -/
theorem sV_of {n : Nat} {M M' : zM} {k : Nat} (h : sVx n k M) (h1 : ∀ j, j ≠ k → M'.1 63 j = M.1 63 j ∧ M'.1 64 j = M.1 64 j ∧ M'.1 65 j = M.1 65 j ∧ M'.1 67 j = M.1 67 j) (h2 : M'.1 58 = M.1 58) (h3 : M'.1 60 = M.1 60) (h4 : M'.1 61 = M.1 61) (h5 : M'.1 62 = M.1 62) (hk2 : M'.1 63 k = 0 → M'.1 64 k = 0 ∧ M'.1 65 k = 0 ∧ M'.1 67 k = (-1)) (hkw : sWk M' k) : sV n M' := by
  obtain ⟨a, b, c, d⟩ := h
  refine ⟨fun j hj q => ?_, fun j hj => by rw [h2]; exact b j hj, fun j hj => ?_, sW5_k d h3 h4 h5⟩
  · by_cases e : j = k
    · subst e; exact ⟨(hk2 q).1, (hk2 q).2.1, fun _ => (hk2 q).2.2⟩
    · obtain ⟨p1, p2, p3, p4⟩ := h1 j e
      rw [p1] at q
      rw [p2, p3, p4]
      exact a j hj e q
  · by_cases e : j = k
    · subst e; exact hkw
    · obtain ⟨p1, p2, p3, p4⟩ := h1 j e
      exact sWk_k (c j hj e) p1 p2 p3 h4 h5
/-- nothing that it looks at has changed -/
theorem sV_k {n : Nat} {M M' : zM} (h : sV n M) (h1 : M'.1 63 = M.1 63) (h2 : M'.1 64 = M.1 64) (h3 : M'.1 65 = M.1 65) (h4 : M'.1 67 = M.1 67) (h5 : M'.1 58 = M.1 58) (h6 : M'.1 60 = M.1 60) (h7 : M'.1 61 = M.1 61) (h8 : M'.1 62 = M.1 62) : sV n M' := by
  obtain ⟨a, b, c, d⟩ := h
  refine ⟨?_, ?_, fun i hi => sWk_k (c i hi) (by rw [h1]) (by rw [h2]) (by rw [h3]) h7 h8, sW5_k d h6 h7 h8⟩
  · unfold sW2; rw [h1, h2, h3, h4]; exact a
  · unfold sW3; rw [h5]; exact b
theorem sV_si {n : Nat} {M : zM} (h : sV n M) {c k : Nat} (x : Int32) (hc : c ≠ 63 ∧ c ≠ 64 ∧ c ≠ 65 ∧ c ≠ 67 ∧ c ≠ 58 ∧ c ≠ 60 ∧ c ≠ 61 ∧ c ≠ 62) : sV n (z_si M c k x) :=
  sV_k h (z_si_row _ _ _ (by omega)) (z_si_row _ _ _ (by omega)) (z_si_row _ _ _ (by omega)) (z_si_row _ _ _ (by omega)) (z_si_row _ _ _ (by omega)) (z_si_row _ _ _ (by omega)) (z_si_row _ _ _ (by omega)) (z_si_row _ _ _ (by omega))
/-- at an order with nothing worked -/
theorem sWk_0 {n w : Nat} {M : zM} (h : mInv n w M) (h5 : sW5 M) {i : Nat} (hi : i < 8) (hw : M.1 65 i = 0) : sWk M i := by
  intro q ho
  obtain ⟨v, h1, h2, e⟩ := h5 i hi (mAt M i) (mN_lt h hi q) ho
  exact ⟨0, v, hw, e, h1, h2⟩
theorem sV_Rest {n : Nat} {M : zM} (h : sV n M) (k : Nat) : sV n (mRest k M) := by
  refine sV_of (h.x k) (fun j hj => ⟨mRest_far k M (Or.inl hj), mRest_far k M (Or.inl hj), mRest_far k M (Or.inl hj), mRest_far k M (Or.inl hj)⟩) (funext fun j => mRest_far k M (Or.inr (by omega))) (funext fun j => mRest_far k M (Or.inr (by omega))) (funext fun j => mRest_far k M (Or.inr (by omega))) (funext fun j => mRest_far k M (Or.inr (by omega))) (fun _ => ⟨mRest_64 k M, ?_, ?_⟩) (fun q => absurd (mRest_63 k M) q)
  · unfold mRest; rw [z_si_other _ _ (by omega), z_si_same]
  · unfold mRest; rw [z_si_same]
theorem sV_Adv {n w : Nat} {M : zM} (hI : mInv n w M) {k : Nat} (h : sVx n k M) (hk : k < 8) (h0 : ¬ M.1 63 k = 0) : sV n (mAdv k M) := by
  have hI2 := mInv_Adv hI hk h0
  have h5 : sW5 (mAdv k M) := sW5_k h.2.2.2 (funext fun j => mAdv_far k M (Or.inr (by omega))) (funext fun j => mAdv_far k M (Or.inr (by omega))) (funext fun j => mAdv_far k M (Or.inr (by omega)))
  have hw : (mAdv k M).1 65 k = 0 := by
    unfold mAdv
    split
    · unfold mRest; rw [z_si_other _ _ (by omega), z_si_same]
    · unfold mAdv1; rw [z_si_same]
  refine sV_of h (fun j hj => ⟨mAdv_far k M (Or.inl hj), mAdv_far k M (Or.inl hj), mAdv_far k M (Or.inl hj), mAdv_far k M (Or.inl hj)⟩) (funext fun j => mAdv_far k M (Or.inr (by omega))) (funext fun j => mAdv_far k M (Or.inr (by omega))) (funext fun j => mAdv_far k M (Or.inr (by omega))) (funext fun j => mAdv_far k M (Or.inr (by omega))) (fun q => ?_) (sWk_0 hI2 h5 hk hw)
  unfold mAdv at q ⊢
  split
  · refine ⟨mRest_64 k _, ?_, ?_⟩
    · unfold mRest; rw [z_si_other _ _ (by omega), z_si_same]
    · unfold mRest; rw [z_si_same]
  · rename_i he
    rw [if_neg he, mAdv1_far k M (Or.inr (by omega))] at q
    exact absurd q h0
theorem sV_Bec {n w : Nat} {M : zM} (hI : mInv n w M) (h : sV n M) {k : Nat} (hk : k < 8) (v : Int32) (hv : ¬ v = 0) (hw : sWk (mBec k v M) k) : sV n (mBec k v M) :=
  sV_of (h.x k) (fun j hj => ⟨mBec_far k v M (Or.inr (by omega)), mBec_far k v M (Or.inr (by omega)), mBec_far k v M (Or.inr (by omega)), mBec_far k v M (Or.inr (by omega))⟩) (funext fun j => mBec_far k v M (Or.inl (by omega))) (funext fun j => mBec_far k v M (Or.inl (by omega))) (funext fun j => mBec_far k v M (Or.inl (by omega))) (funext fun j => mBec_far k v M (Or.inl (by omega))) (fun q => absurd ((mBec_63 k v M).symm.trans q) hv) hw
theorem sWk_Bec {M : zM} {k : Nat} {v : Int32} (h0 : ¬ M.1 63 k = 0) (h : sWk M k) : sWk (mBec k v M) k := by
  intro _ ho
  have e1 : mOrd (mBec k v M) k = mOrd M k := by unfold mOrd mAt; rw [mBec_far k v M (Or.inl (by omega)), mBec_far k v M (Or.inl (by omega))]
  have e2 : mNum (mBec k v M) k = mNum M k := by unfold mNum mAt; rw [mBec_far k v M (Or.inl (by omega)), mBec_far k v M (Or.inl (by omega))]
  rw [e1] at ho
  rw [e2, mBec_far k v M (Or.inl (by omega))]
  exact h h0 ho
/-! the pairs of steps -/
theorem sR_rest {n w b : Nat} {Mc Mm : zM} (h : sR n w b Mc Mm) {i : Nat} (hi : i < n) (hi8 : i < 8) : sR n w b (kRest i Mc) (mRest i Mm) :=
  sR_d (sR_t (sR_t (sR_t h hi8 (s_st i hi8) 0 (by omega) (by omega) (fun _ => rfl)) hi8 (s_at i hi8) 0 (by omega) (by omega) (by omega)) hi8 (s_wk i hi8) 0 (by omega) (by omega) (by omega)) hi hi8 (-1)
theorem sI_rest {n w b : Nat} {Mc Mm : zM} (h : sIM n w b Mc Mm) {i : Nat} (hi : i < n) : sIM n w b (kRest i Mc) (mRest i Mm) := by
  have hi8 : i < 8 := Nat.lt_of_lt_of_le hi (kInv_n h.1)
  exact ⟨kInv_Rest h.1 hi8, mInv_Rest h.2.1 hi8, sR_rest h.2.2.1 hi hi8, sV_Rest h.2.2.2 i⟩
theorem sI_advx {n w b : Nat} {Mc Mm : zM} {i : Nat} (h : kInv n w Mc ∧ mInv n w Mm ∧ sR n w b Mc Mm ∧ sVx n i Mm) (hi : i < n) (h0 : ¬ Mm.1 63 i = 0) : sIM n w b (kAdv i Mc) (mAdv i Mm) := by
  have hi8 : i < 8 := Nat.lt_of_lt_of_le hi (kInv_n h.1)
  refine ⟨kInv_Adv h.1 hi8, mInv_Adv h.2.1 hi8 h0, ?_, sV_Adv h.2.1 h.2.2.2 hi8 h0⟩
  have hlt := mN_lt h.2.1 hi8 h0
  have hz := mPs_le h.2.1 hi8
  have e1 : (mAdv1 i Mm).1 64 i = nI (mAt Mm i + 1) := by rw [mAdv1_64, mAt_eq h.2.1 hi8, nI_1]
  have e2 : (mAdv1 i Mm).1 60 i = nI (mPs Mm i) := by rw [mAdv1_far i Mm (Or.inr (by omega))]; exact mPs_eq h.2.1 hi8
  have h1 : sR n w b (kAdv1 i Mc) (mAdv1 i Mm) := by
    unfold kAdv1 mAdv1
    rw [sR_get h.2.2.1 (s_at i hi8)]
    exact sR_t (sR_t h.2.2.1 hi8 (s_at i hi8) _ (by omega) (by omega) (by omega)) hi8 (s_wk i hi8) 0 (by omega) (by omega) (by omega)
  have c1 := sR_get h1 (s_at i hi8)
  have c2 := sR_get h1 (s_siz i hi8)
  unfold kAdv mAdv
  rw [c1, c2, e1, e2]
  by_cases e : mAt Mm i + 1 = mPs Mm i
  · rw [if_neg (by rw [nI_ltI (by omega) (by omega)]; omega), if_pos (by rw [e])]
    exact sR_rest h1 hi hi8
  · rw [if_pos (by rw [nI_ltI (by omega) (by omega)]; omega), if_neg (by rw [nI_eq (by omega) (by omega)]; exact e)]
    exact h1
theorem sI_adv {n w b : Nat} {Mc Mm : zM} (h : sIM n w b Mc Mm) {i : Nat} (hi : i < n) (h0 : ¬ Mm.1 63 i = 0) : sIM n w b (kAdv i Mc) (mAdv i Mm) := sI_advx ⟨h.1, h.2.1, h.2.2.1, h.2.2.2.x i⟩ hi h0
theorem sI_wake {n w b : Nat} {Mc Mm : zM} (h : sIM n w b Mc Mm) {i : Nat} (hi : i < n) (h0 : ¬ Mm.1 63 i = 0) : sIM n w (b + 1) (kWake i Mc) (mWake i Mm) := by
  have hi8 : i < 8 := Nat.lt_of_lt_of_le hi (kInv_n h.1)
  have h1 : sIM n w (b + 1) (kReady i (Mc.2 0 9 + 1) (kTurn Mc)) (mBec i 1 Mm) :=
    ⟨kInv_Ready (kInv_Turn h.1) hi8 _, mInv_Bec h.2.1 hi8 1 (mN_lt h.2.1 hi8 h0), sR_bec h.2.2.1 hi8 1, sV_Bec h.2.1 h.2.2.2 hi8 1 (by decide) (sWk_Bec h0 (h.2.2.2.2.2.1 i hi8))⟩
  exact sI_adv h1 hi (h1ne0 (mBec_63 i 1 Mm))
theorem sI_wait {n w b : Nat} {Mc Mm : zM} (h : sIM n w b Mc Mm) {i : Nat} (hi : i < n) (h0 : ¬ Mm.1 63 i = 0) : sIM n w (b + 1) (kWait i (Mc.2 0 9 + 1) (kTurn Mc)) (mBec i 2 Mm) := by
  have hi8 : i < 8 := Nat.lt_of_lt_of_le hi (kInv_n h.1)
  exact ⟨kInv_Wait (kInv_Turn h.1) hi8 _, mInv_Bec h.2.1 hi8 2 (mN_lt h.2.1 hi8 h0), sR_bec h.2.2.1 hi8 2, sV_Bec h.2.1 h.2.2.2 hi8 2 (by decide) (sWk_Bec h0 (h.2.2.2.2.2.1 i hi8))⟩
theorem sI_mono {n w b b' : Nat} {Mc Mm : zM} (h : sIM n w b Mc Mm) (hb : b ≤ b') : sIM n w b' Mc Mm := ⟨h.1, h.2.1, sR_mono h.2.2.1 hb, h.2.2.2⟩
theorem sI_work {n w b : Nat} {Mc Mm : zM} (h : sIM n w b Mc Mm) {i : Nat} (hi : i < n) (h0 : ¬ Mm.1 63 i = 0) (ho : mOrd Mm i = 0) : sIM n w b (kWork i (mNum Mm i) Mc) (mWork i (mNum Mm i) Mm) := by
  have hi8 : i < 8 := Nat.lt_of_lt_of_le hi (kInv_n h.1)
  obtain ⟨y, v, ey, ev, hyv, hv⟩ := h.2.2.2.2.2.1 i hi8 h0 ho
  have h1 : sR n w b (kWork2 i Mc) (mWork2 i Mm) := by
    unfold kWork2 mWork2 kWork1 mWork1
    have a := sR_t h.2.2.1 hi8 (s_wrk i hi8) (Mm.1 70 i + 1) (by omega) (by omega) (by omega)
    rw [sR_get h.2.2.1 (s_wrk i hi8), sR_get a (s_wk i hi8)]
    exact sR_t a hi8 (s_wk i hi8) _ (by omega) (by omega) (by omega)
  have ew : (mWork2 i Mm).1 65 i = nI (y + 1) := by
    unfold mWork2 mWork1
    rw [z_si_same, z_si_other _ _ (by omega), ey, nI_1]
  have hk : kInv n w (kWork2 i Mc) := kInv_task (kInv_task h.1 hi8 _ (by decide) (by decide)) hi8 _ (by decide) (by decide)
  have hm : mInv n w (mWork2 i Mm) := mInv_si (mInv_si h.2.1 _ (by omega)) _ (by omega)
  have hst : (mWork2 i Mm).1 63 i = Mm.1 63 i := by unfold mWork2 mWork1; rw [z_si_other _ _ (by omega), z_si_other _ _ (by omega)]
  have hor : mOrd (mWork2 i Mm) i = mOrd Mm i := by
    unfold mOrd mAt mWork2 mWork1
    rw [z_si_other (c' := 64) _ _ (by omega), z_si_other (c' := 64) _ _ (by omega), z_si_other _ _ (by omega), z_si_other _ _ (by omega)]
  have hnu : mNum (mWork2 i Mm) i = mNum Mm i := by
    unfold mNum mAt mWork2 mWork1
    rw [z_si_other (c' := 64) _ _ (by omega), z_si_other (c' := 64) _ _ (by omega), z_si_other _ _ (by omega), z_si_other _ _ (by omega)]
  unfold kWork mWork
  rw [sR_get h1 (s_wk i hi8), ew, ev]
  by_cases e : y + 1 = v
  · rw [if_neg (by rw [nI_ltI (by omega) (by omega)]; omega), if_pos (by rw [e])]
    refine sI_advx ⟨hk, hm, h1, ?_⟩ hi (by rw [hst]; exact h0)
    obtain ⟨a2, a3, a4, a5⟩ := h.2.2.2
    have hf : ∀ c j, (c ≠ 70 ∧ c ≠ 65) ∨ j ≠ i → (mWork2 i Mm).1 c j = Mm.1 c j := fun c j q => by unfold mWork2 mWork1; rw [z_si_other _ _ (by omega), z_si_other _ _ (by omega)]
    refine ⟨fun j hj hji q => ?_, fun j hj => by rw [hf _ _ (by omega)]; exact a3 j hj, fun j hj hji => sWk_k (a4 j hj) (hf _ _ (by omega)) (hf _ _ (by omega)) (hf _ _ (by omega)) (funext fun z => hf _ _ (by omega)) (funext fun z => hf _ _ (by omega)), sW5_k a5 (funext fun z => hf _ _ (by omega)) (funext fun z => hf _ _ (by omega)) (funext fun z => hf _ _ (by omega))⟩
    rw [hf _ _ (by omega)] at q
    rw [hf _ _ (by omega), hf _ _ (by omega), hf _ _ (by omega)]
    exact a2 j hj q
  · rw [if_pos (by rw [nI_ltI (by omega) (by omega)]; omega), if_neg (by rw [nI_eq (by omega) (by omega)]; exact e)]
    refine ⟨hk, hm, h1, ?_⟩
    refine sV_of (h.2.2.2.x i) (fun j hj => ?_) ?_ ?_ ?_ ?_ (fun q => absurd (hst.symm.trans q) h0) (fun _ _ => ⟨y + 1, v, ew, by rw [hnu]; exact ev, by omega, hv⟩)
    · unfold mWork2 mWork1
      rw [z_si_other _ _ (by omega), z_si_other _ _ (by omega), z_si_other _ _ (by omega), z_si_other _ _ (by omega), z_si_other _ _ (by omega), z_si_other _ _ (by omega), z_si_other _ _ (by omega), z_si_other _ _ (by omega)]
      exact ⟨rfl, rfl, rfl, rfl⟩
    · unfold mWork2 mWork1; rw [z_si_row _ _ _ (by omega), z_si_row _ _ _ (by omega)]
    · unfold mWork2 mWork1; rw [z_si_row _ _ _ (by omega), z_si_row _ _ _ (by omega)]
    · unfold mWork2 mWork1; rw [z_si_row _ _ _ (by omega), z_si_row _ _ _ (by omega)]
    · unfold mWork2 mWork1; rw [z_si_row _ _ _ (by omega), z_si_row _ _ _ (by omega)]
end
section
/-! SIM: who comes first -/
theorem sBef {n w b : Nat} {Mc Mm : zM} (h : sR n w b Mc Mm) (hb : b < 2 ^ 31) {i j : Nat} (hi : i < 8) (hj : j < 8) (h0 : ¬ Mm.1 63 i = 0) (h1 : ¬ Mm.1 63 j = 0) : kBef Mc i (some j) ↔ mBef Mm i (some j) := by
  obtain ⟨a, c, fa, fc, ha, hc, e1, e2, e3, e4⟩ := h.2.2.2.2.2
  have hi3 := e3 i hi
  have hj3 := e3 j hj
  have key : Mc.2 (9 + 4 * i) 9 < Mc.2 (9 + 4 * j) 9 ↔ Mm.1 73 i < Mm.1 73 j := by
    rw [hi3.1, hj3.1, hi3.2.2.1, hj3.2.2.1, lN_lt (by omega) (by omega), nI_ltI (by omega) (by omega)]
    exact e4 i j hi hj h0 h1
  show (if Mc.1 (9 + 4 * i) 3 = Mc.1 (9 + 4 * j) 3 then Mc.2 (9 + 4 * i) 9 < Mc.2 (9 + 4 * j) 9 else Mc.1 (9 + 4 * j) 3 < Mc.1 (9 + 4 * i) 3) ↔ (Mm.1 57 j < Mm.1 57 i ∨ (Mm.1 57 i = Mm.1 57 j ∧ Mm.1 73 i < Mm.1 73 j))
  rw [sR_get h (s_prio i hi), sR_get h (s_prio j hj)]
  by_cases e : Mm.1 57 i = Mm.1 57 j
  · rw [if_pos e, key]
    constructor
    · intro q; exact Or.inr ⟨e, q⟩
    · intro q
      rcases q with q | q
      · rw [e] at q; exact absurd q Int32.lt_irrefl
      · exact q.2
  · rw [if_neg e]
    constructor
    · intro q; exact Or.inl q
    · intro q
      rcases q with q | q
      · exact q
      · exact absurd q.1 e
theorem sFst {n w b : Nat} {Mc Mm : zM} (h : sR n w b Mc Mm) (hb : b < 2 ^ 31) {P Q : Nat → Prop} (hPQ : ∀ i, i < 8 → (P i ↔ Q i)) (hQ : ∀ i, i < 8 → Q i → ¬ Mm.1 63 i = 0) : ∀ (k i : Nat) (o : Option Nat), i + k ≤ 8 → (∀ j, o = some j → j < 8 ∧ Q j) → kFst P Mc k i o = mFst Q Mm k i o
  | 0, _, _, _, _ => rfl
  | k + 1, i, o, hk, ho => by
    have hi : i < 8 := by omega
    have hbef : Q i → (kBef Mc i o ↔ mBef Mm i o) := by
      intro q
      cases o with
      | none => exact Iff.rfl
      | some j => exact sBef h hb hi (ho j rfl).1 (hQ i hi q) (hQ j (ho j rfl).1 (ho j rfl).2)
    by_cases q : Q i ∧ mBef Mm i o
    · rw [mFst_yes q, kFst_yes ⟨(hPQ i hi).mpr q.1, (hbef q.1).mpr q.2⟩]
      exact sFst h hb hPQ hQ k (i + 1) (some i) (by omega) (fun j e => by cases e; exact ⟨hi, q.1⟩)
    · rw [mFst_no q, kFst_no (fun z => q ⟨(hPQ i hi).mp z.1, (hbef ((hPQ i hi).mp z.1)).mp z.2⟩)]
      exact sFst h hb hPQ hQ k (i + 1) o (by omega) ho
theorem sNx {n w b : Nat} {Mc Mm : zM} (h : sR n w b Mc Mm) {i : Nat} (hi : i < 8) : kNx Mc i = mAt Mm i := by
  unfold kNx mAt
  rw [sR_get h (s_at i hi)]
theorem sOrd {n w b : Nat} {Mc Mm : zM} (h : sIM n w b Mc Mm) {i : Nat} (hi : i < 8) : kOrd Mc i = mOrd Mm i := by
  unfold kOrd mOrd
  rw [sNx h.2.2.1 hi, sR_get h.2.2.1 (s_ord i hi _ (mAt_lt h.2.1 hi))]
theorem sNum {n w b : Nat} {Mc Mm : zM} (h : sIM n w b Mc Mm) {i : Nat} (hi : i < 8) : kNum Mc i = mNum Mm i := by
  unfold kNum mNum
  rw [sNx h.2.2.1 hi, sR_get h.2.2.1 (s_num i hi _ (mAt_lt h.2.1 hi))]
theorem sFR {n w b : Nat} {Mc Mm : zM} (h : sIM n w b Mc Mm) (hb : b < 2 ^ 31) (p : Int32) : kFR n p Mc = mFR n p Mm := by
  refine sFst h.2.2.1 hb (fun i hi => ?_) (fun i hi q => h1ne0 q.1) n 0 none (by have := kInv_n h.1; omega) (fun j e => by cases e)
  unfold kIsReady mIsReady
  rw [sR_get h.2.2.1 (s_part i hi), sR_get h.2.2.1 (s_st i hi)]
  exact And.comm
theorem sFW {n w b : Nat} {Mc Mm : zM} (h : sIM n w b Mc Mm) (hb : b < 2 ^ 31) (o x : Int32) : kFW n o x Mc = mFW n o x Mm := by
  refine sFst h.2.2.1 hb (fun i hi => ?_) (fun i hi q => h2ne0 q.1) n 0 none (by have := kInv_n h.1; omega) (fun j e => by cases e)
  have e1 := sOrd h hi
  have e2 := sNum h hi
  unfold kOrd kNx mOrd at e1
  unfold kNum kNx mNum at e2
  unfold kWaits mWaits
  rw [sR_get h.2.2.1 (s_st i hi), e1, e2]
theorem sSz {n w b : Nat} {Mc Mm : zM} (h : sR n w b Mc Mm) {q : Nat} (hq : q < 4) : kSz Mc q = mSz Mm q := by
  unfold kSz mSz
  rw [sR_get h (s_psz q hq)]
theorem sMsg {n w b : Nat} {Mc Mm : zM} (h : sR n w b Mc Mm) {i : Nat} (hi : i < 8) : kMsg Mc i = mMsg Mm i := by
  unfold kMsg mMsg
  rw [h.2.2.2.2.1 i hi, sR_get h (s_rnd i hi)]
/-- a message goes into a port -/
theorem sR_put {n w b : Nat} {Mc Mm : zM} (h : sR n w b Mc Mm) (hI : mInv n w Mm) {q : Nat} (hq : q < 4) (hz : mSz Mm q < 4) (x : Int32) : sR n w b (kPut q (mSz Mm q) x Mc) (mPut q (mSz Mm q) x Mm) := by
  obtain ⟨h0, hD, hM, hE, hN, hS⟩ := h
  have a0 : sR0 (z_si Mc (43 + 2 * q) (mSz Mm q) x) (z_si Mm 74 (4 * q + mSz Mm q) x) := sR0_m (sR0_c h0 (s_no_me q hq _ hz) x) (s_no_m 74 (by omega) (by omega) _ (by omega)) x
  unfold kPut mPut
  refine ⟨sR0_w a0 (s_psz q hq) _, sRD_k hD (fun i hi => ?_) (fun i hi => ?_), fun p hp y hy => ?_, sRE_k hE ?_ ?_, sRN_k hN (fun i hi => ?_), sRS_k hS (Nat.le_refl b) rfl ?_ ?_ (fun i hi z => ?_)⟩
  · rw [z_si_other _ _ (by omega), z_si_other _ _ (by omega), z_si_other _ _ (by omega), z_si_other _ _ (by omega)]; exact ⟨rfl, rfl⟩
  · rw [z_si_other _ _ (by omega), z_si_other _ _ (by omega), z_si_other _ _ (by omega), z_si_other _ _ (by omega)]; exact ⟨rfl, rfl⟩
  · have hy2 : y < ((z_si (z_si Mm 74 (4 * q + mSz Mm q) x) 75 q (nI (mSz Mm q + 1))).1 75 p).toNatClampNeg := hy
    have hp4 := mSz_le hI hp
    have hpe : (Mm.1 75 p).toNatClampNeg = mSz Mm p := rfl
    rw [z_si_other _ _ (by omega), z_si_other (c' := 74) _ _ (by omega)]
    by_cases e : p = q
    · subst e
      rw [z_si_same, nI_clamp (by omega)] at hy2
      by_cases e2 : y = mSz Mm p
      · subst e2
        rw [z_si_same, z_si_same]
      · rw [z_si_other _ _ (by omega), z_si_other _ _ (by omega)]
        exact hM p hp y (by omega)
    · rw [z_si_other _ _ (by omega), z_si_other _ _ (by omega), hpe] at hy2
      rw [z_si_other _ _ (by omega), z_si_other _ _ (by omega)]
      exact hM p hp y hy2
  · rw [z_si_row _ _ _ (by omega), z_si_row _ _ _ (by omega)]
  · rw [z_si_row _ _ _ (by omega), z_si_row _ _ _ (by omega)]
  · rw [z_si_other _ _ (by omega), z_si_other _ _ (by omega)]
  · rw [z_si_other _ _ (by omega), z_si_other _ _ (by omega)]
  · rw [z_si_row _ _ _ (by omega), z_si_row _ _ _ (by omega)]
  · rw [z_si_other _ _ (by omega), z_si_other _ _ (by omega)] at z; exact z
theorem sI_send {n w b : Nat} {Mc Mm : zM} (h : sIM n w b Mc Mm) (hb : b < 2 ^ 31) {i q : Nat} (hi : i < n) (hq : q < 4) (hr : Mm.1 63 i = 1) : sIM n w (b + 1) (kSend n i q Mc) (mSend n i q Mm) := by
  have hi8 : i < 8 := Nat.lt_of_lt_of_le hi (kInv_n h.1)
  unfold kSend mSend
  rw [sFW h hb]
  cases hF : mFW n 2 (nI q) Mm with
  | some j =>
    have hj := mFW_lt hF
    have hj8 : j < 8 := Nat.lt_of_lt_of_le hj (kInv_n h.1)
    have hw := (mFW_P hF).1
    have hij : i ≠ j := fun e => by rw [← e, hr] at hw; exact absurd hw (by decide)
    have h1 : sIM n w b (z_si Mc (9 + 4 * j) 15 (kMsg Mc i)) (z_si Mm 71 j (mMsg Mm i)) := by
      rw [sMsg h.2.2.1 hi8]
      exact ⟨kInv_task h.1 hj8 _ (by decide) (by decide), mInv_si h.2.1 _ (by omega), sR_t h.2.2.1 hj8 (s_let j hj8) _ (by omega) (by omega) (by omega), sV_si h.2.2.2 _ (by omega)⟩
    have h2 := sI_wake h1 hj (h2ne0 (by rw [z_si_other _ _ (by omega)]; exact hw))
    exact sI_adv h2 hi (h1ne0 (by rw [mWake_far j _ ⟨by omega, hij⟩, z_si_other _ _ (by omega)]; exact hr))
  | none =>
    refine sI_adv (sI_mono (b := b) ?_ (by omega)) hi (h1ne0 (by rw [mSend0_63]; exact hr))
    refine ⟨kInv_Send0 h.1 i hq, mInv_Send0 h.2.1 i hq, ?_, ?_⟩
    · unfold kSend0 mSend0
      rw [sR_get h.2.2.1 (s_psz q hq)]
      by_cases e : Mm.1 75 q = 4
      · rw [if_pos e, if_pos e, sR_get h.2.2.1 s_lost]
        exact sR_w h.2.2.1 s_lost _ (by omega) (by omega) (by omega) (by omega)
      · rw [if_neg e, if_neg e, sSz h.2.2.1 hq, sMsg h.2.2.1 hi8]
        exact sR_put h.2.2.1 h.2.1 hq (mSz_lt h.2.1 hq e) _
    · unfold mSend0 mPut
      split
      · exact sV_si h.2.2.2 _ (by omega)
      · exact sV_si (sV_si h.2.2.2 _ (by omega)) _ (by omega)
end
section
/-! SIM: take, up, down, one order -/
theorem s_n43 : ∀ q, q < 4 → ∀ p ∈ s_L, p.1.1 ≠ 43 + 2 * q := by decide +kernel
theorem s_n74 : ∀ p ∈ s_L, p.2.1 ≠ 74 := by decide +kernel
theorem sR0_cong {Mc Mm Mc' Mm' : zM} (h : sR0 Mc Mm) (h1 : ∀ p ∈ s_L, Mc'.1 p.1.1 p.1.2 = Mc.1 p.1.1 p.1.2) (h2 : ∀ p ∈ s_L, Mm'.1 p.2.1 p.2.2 = Mm.1 p.2.1 p.2.2) : sR0 Mc' Mm' := fun p hp => by rw [h1 p hp, h2 p hp]; exact h p hp
theorem kSh_row (q : Nat) : ∀ (k i : Nat) (M : zM) {c : Nat}, c ≠ 43 + 2 * q → (kFor (kSh q) k i M).1 c = M.1 c
  | 0, _, _, _, _ => rfl
  | k + 1, i, M, c, hc => by
    show (kFor (kSh q) k (i + 1) (kSh q i M)).1 c = M.1 c
    rw [kSh_row q k (i + 1) _ hc]
    exact z_si_row _ _ _ hc
theorem kSh_2 (q : Nat) : ∀ (k i : Nat) (M : zM), (kFor (kSh q) k i M).2 = M.2
  | 0, _, _ => rfl
  | k + 1, i, M => by
    show (kFor (kSh q) k (i + 1) (kSh q i M)).2 = M.2
    rw [kSh_2 q k (i + 1)]
    rfl
theorem kSh_lo (q : Nat) : ∀ (k i : Nat) (M : zM) {x : Nat}, x < i → (kFor (kSh q) k i M).1 (43 + 2 * q) x = M.1 (43 + 2 * q) x
  | 0, _, _, _, _ => rfl
  | k + 1, i, M, x, hx => by
    show (kFor (kSh q) k (i + 1) (kSh q i M)).1 (43 + 2 * q) x = _
    rw [kSh_lo q k (i + 1) _ (by omega)]
    unfold kSh
    rw [z_si_other _ _ (by omega)]
theorem kSh_get (q : Nat) : ∀ (k i : Nat) (M : zM) {x : Nat}, i ≤ x → x < i + k → (kFor (kSh q) k i M).1 (43 + 2 * q) x = M.1 (43 + 2 * q) (x + 1)
  | 0, i, M, x, h1, h2 => absurd h2 (by omega)
  | k + 1, i, M, x, h1, h2 => by
    show (kFor (kSh q) k (i + 1) (kSh q i M)).1 (43 + 2 * q) x = _
    by_cases e : x = i
    · subst e
      rw [kSh_lo q k (x + 1) _ (by omega)]
      unfold kSh
      rw [z_si_same]
    · rw [kSh_get q k (i + 1) _ (by omega) (by omega)]
      unfold kSh
      rw [z_si_other _ _ (by omega)]
theorem mTake0_get (k q : Nat) (M : zM) {x : Nat} (hx : x < 3) : (mTake0 k q M).1 74 (4 * q + x) = M.1 74 (4 * q + (x + 1)) := by
  unfold mTake0
  show (mSh q 2 (mSh q 1 (mSh q 0 _))).1 74 (4 * q + x) = _
  unfold mSh
  rcases (show x = 0 ∨ x = 1 ∨ x = 2 by omega) with rfl | rfl | rfl
  · rw [z_si_other _ _ (by omega), z_si_other _ _ (by omega), z_si_same, z_si_other _ _ (by omega)]
  · rw [z_si_other _ _ (by omega), z_si_same, z_si_other _ _ (by omega), z_si_other _ _ (by omega)]
  · rw [z_si_same, z_si_other _ _ (by omega), z_si_other _ _ (by omega), z_si_other _ _ (by omega)]
theorem mTake0_o (k q : Nat) (M : zM) {y : Nat} (hy : ∀ x, x < 3 → y ≠ 4 * q + x) : (mTake0 k q M).1 74 y = M.1 74 y := by
  unfold mTake0
  show (mSh q 2 (mSh q 1 (mSh q 0 _))).1 74 y = _
  unfold mSh
  have h0 := hy 0 (by omega)
  have h1 := hy 1 (by omega)
  have h2 := hy 2 (by omega)
  rw [z_si_other _ _ (by omega), z_si_other _ _ (by omega), z_si_other _ _ (by omega), z_si_other _ _ (by omega)]
theorem mTake0_71 (k q : Nat) (M : zM) : (mTake0 k q M).1 71 = (z_si M 71 k (M.1 74 (4 * q))).1 71 := by
  unfold mTake0
  show (mSh q 2 (mSh q 1 (mSh q 0 _))).1 71 = _
  unfold mSh
  rw [z_si_row _ _ _ (by omega), z_si_row _ _ _ (by omega), z_si_row _ _ _ (by omega)]
theorem sR_take {n w b : Nat} {Mc Mm : zM} (h : sR n w b Mc Mm) (hI : mInv n w Mm) {i q : Nat} (hi : i < 8) (hq : q < 4) (hz : 0 < mSz Mm q) : sR n w b (z_si (kTake q (mSz Mm q) Mc) (9 + 4 * i) 15 (Mc.1 (43 + 2 * q) 0)) (z_si (mTake0 i q Mm) 75 q (nI (mSz Mm q - 1))) := by
  obtain ⟨h0, hD, hM, hE, hN, hS⟩ := h
  have hz4 := mSz_le hI hq
  have ev : Mc.1 (43 + 2 * q) 0 = Mm.1 74 (4 * q) := hM q hq 0 hz
  have row : ∀ c, c ≠ 43 + 2 * q → (kTake q (mSz Mm q) Mc).1 c = (z_si Mc (42 + 2 * q) 1 (nI (mSz Mm q - 1))).1 c := fun c hc => kSh_row q _ _ _ hc
  have a0 : sR0 (z_si (z_si Mc (42 + 2 * q) 1 (nI (mSz Mm q - 1))) (9 + 4 * i) 15 (Mm.1 74 (4 * q))) (z_si (z_si Mm 75 q (nI (mSz Mm q - 1))) 71 i (Mm.1 74 (4 * q))) := sR0_w (sR0_w h0 (s_psz q hq) _) (s_let i hi) _
  rw [ev]
  refine ⟨sR0_cong a0 (fun p hp => ?_) (fun p hp => ?_), sRD_k hD (fun j hj => ?_) (fun j hj => ?_), fun p hp y hy => ?_, sRE_k hE ?_ ?_, sRN_k hN (fun j hj => ?_), sRS_k hS (Nat.le_refl b) ?_ ?_ ?_ (fun j hj z => ?_)⟩
  · by_cases e : p.1.1 = 9 + 4 * i ∧ p.1.2 = 15
    · rw [e.1, e.2, z_si_same, z_si_same]
    · rw [z_si_other _ _ e, z_si_other _ _ e, row _ (s_n43 q hq p hp)]
  · have n74 := s_n74 p hp
    by_cases e : p.2.1 = 75 ∧ p.2.2 = q
    · rw [e.1, e.2, z_si_same, z_si_other _ _ (by omega), z_si_same]
    · rw [z_si_other _ _ e]
      by_cases e2 : p.2.1 = 71
      · rw [e2, mTake0_71]
        by_cases e3 : p.2.2 = i
        · rw [e3, z_si_same, z_si_same]
        · rw [z_si_other _ _ (by omega), z_si_other _ _ (by omega), z_si_other _ _ (by omega)]
      · rw [mTake0_far i q Mm ⟨e2, n74⟩, z_si_other _ _ (by omega), z_si_other _ _ e]
  · rw [z_si_other _ _ (by omega), z_si_other _ _ (by omega), row _ (by omega), z_si_other _ _ (by omega), z_si_other _ _ (by omega)]; exact ⟨rfl, rfl⟩
  · rw [z_si_other _ _ (by omega), z_si_other _ _ (by omega), mTake0_far i q Mm (by omega), mTake0_far i q Mm (by omega)]; exact ⟨rfl, rfl⟩
  · have hy2 : y < ((z_si (mTake0 i q Mm) 75 q (nI (mSz Mm q - 1))).1 75 p).toNatClampNeg := hy
    have hp4 := mSz_le hI hp
    have hpe : (Mm.1 75 p).toNatClampNeg = mSz Mm p := rfl
    rw [z_si_other _ _ (by omega), z_si_other (c' := 74) _ _ (by omega)]
    by_cases e : p = q
    · subst e
      rw [z_si_same, nI_clamp (by omega)] at hy2
      rw [mTake0_get i p Mm (by omega)]
      unfold kTake
      rw [kSh_get p _ _ _ (by omega) (by omega), z_si_other _ _ (by omega)]
      exact hM p hp (y + 1) (by omega)
    · rw [z_si_other _ _ (by omega), mTake0_far i q Mm (by omega), hpe] at hy2
      rw [row _ (by omega), z_si_other _ _ (by omega), mTake0_o i q Mm (fun x hx => by omega)]
      exact hM p hp y hy2
  · rw [z_si_row _ _ _ (by omega), row _ (by omega), z_si_row _ _ _ (by omega)]
  · funext j; rw [z_si_other _ _ (by omega), mTake0_far i q Mm (by omega)]
  · rw [z_si_other _ _ (by omega), row _ (by omega), z_si_other _ _ (by omega)]
  · exact kSh_2 q _ _ _
  · rw [z_si_other _ _ (by omega), mTake0_far i q Mm (by omega)]
  · funext j; rw [z_si_other _ _ (by omega), mTake0_far i q Mm (by omega)]
  · rw [z_si_other _ _ (by omega), mTake0_far i q Mm (by omega)] at z; exact z
theorem sI_take {n w b : Nat} {Mc Mm : zM} (h : sIM n w b Mc Mm) {i q : Nat} (hi : i < n) (hq : q < 4) (hr : Mm.1 63 i = 1) : sIM n w (b + 1) (kTakes i q Mc) (mTakes i q Mm) := by
  have hi8 : i < 8 := Nat.lt_of_lt_of_le hi (kInv_n h.1)
  unfold kTakes mTakes
  rw [sR_get h.2.2.1 (s_psz q hq)]
  by_cases e : Mm.1 75 q = 0
  · rw [if_pos e, if_pos e]
    exact sI_wait h hi (h1ne0 hr)
  · rw [if_neg e, if_neg e, sSz h.2.2.1 hq, mTake0_far i q Mm (by omega), mSz_eq h.2.1 hq]
    have hp : mSz Mm q ≠ 0 := fun z => e (by rw [mSz_eq h.2.1 hq, z]; rfl)
    have hz4 := mSz_le h.2.1 hq
    rw [nI_m1 hp]
    refine sI_adv (sI_mono (b := b) ⟨?_, ?_, sR_take h.2.2.1 h.2.1 hi8 hq (by omega), ?_⟩ (by omega)) hi (h1ne0 ?_)
    · exact kInv_task (kInv_Take h.1 hq hz4) hi8 _ (by decide) (by decide)
    · exact mInv_port (mInv_Take0 h.2.1 i q) q (by omega)
    · refine sV_si (sV_k h.2.2.2 ?_ ?_ ?_ ?_ ?_ ?_ ?_ ?_) _ (by omega) <;> exact funext fun j => mTake0_far i q Mm (by omega)
    · rw [z_si_other _ _ (by omega), mTake0_far i q Mm (by omega)]; exact hr
theorem sI_up {n w b : Nat} {Mc Mm : zM} (h : sIM n w b Mc Mm) (hb : b < 2 ^ 31) {i q : Nat} (hi : i < n) (hq : q < 4) (hr : Mm.1 63 i = 1) : sIM n w (b + 1) (kUp n i q Mc) (mUp n i q Mm) := by
  have hi8 : i < 8 := Nat.lt_of_lt_of_le hi (kInv_n h.1)
  unfold kUp mUp
  rw [sFW h hb]
  cases hF : mFW n 4 (nI q) Mm with
  | some j =>
    have hj := mFW_lt hF
    have hw := (mFW_P hF).1
    have hij : i ≠ j := fun e => by rw [← e, hr] at hw; exact absurd hw (by decide)
    exact sI_adv (sI_wake h hj (h2ne0 hw)) hi (h1ne0 (by rw [mWake_far j _ ⟨by omega, hij⟩]; exact hr))
  | none =>
    show sIM n w (b + 1) (kAdv i (kUp0 q Mc)) (mAdv i (mUp0 q Mm))
    unfold kUp0 mUp0
    rw [sR_get h.2.2.1 (s_sem q hq)]
    by_cases e : 9 ≤ Mm.1 76 q
    · rw [if_pos e, if_pos e]
      exact sI_adv (sI_mono h (by omega)) hi (h1ne0 hr)
    · rw [if_neg e, if_neg e]
      exact sI_adv (sI_mono (b := b) ⟨kInv_far h.1 _ (by omega), mInv_si h.2.1 _ (by omega), sR_w h.2.2.1 (s_sem q hq) _ (by omega) (by omega) (by omega) (by omega), sV_si h.2.2.2 _ (by omega)⟩ (by omega)) hi (h1ne0 (by rw [z_si_other _ _ (by omega)]; exact hr))
theorem sI_down {n w b : Nat} {Mc Mm : zM} (h : sIM n w b Mc Mm) {i q : Nat} (hi : i < n) (hq : q < 4) (hr : Mm.1 63 i = 1) : sIM n w (b + 1) (kDown i q Mc) (mDown i q Mm) := by
  unfold kDown mDown
  rw [sR_get h.2.2.1 (s_sem q hq)]
  by_cases e : Mm.1 76 q = 0
  · rw [if_pos e, if_pos e]
    exact sI_wait h hi (h1ne0 hr)
  · rw [if_neg e, if_neg e]
    exact sI_adv (sI_mono (b := b) ⟨kInv_far h.1 _ (by omega), mInv_si h.2.1 _ (by omega), sR_w h.2.2.1 (s_sem q hq) _ (by omega) (by omega) (by omega) (by omega), sV_si h.2.2.2 _ (by omega)⟩ (by omega)) hi (h1ne0 (by rw [z_si_other _ _ (by omega)]; exact hr))
theorem sI_do {n w b : Nat} {Mc Mm : zM} (h : sIM n w b Mc Mm) (hb : b < 2 ^ 31) {i : Nat} (hi : i < n) (hr : Mm.1 63 i = 1) : sIM n w (b + 1) (kDo n i Mc) (mDo n i Mm) := by
  have hi8 : i < 8 := Nat.lt_of_lt_of_le hi (kInv_n h.1)
  unfold kDo mDo
  rw [sOrd h hi8, sNum h hi8]
  by_cases e0 : mOrd Mm i = 0
  · rw [if_pos e0, if_pos e0]
    exact sI_mono (sI_work h hi (h1ne0 hr) e0) (by omega)
  · have hq := (mNum_lt h.2.1 hi8 e0).1
    rw [if_neg e0, if_neg e0]
    by_cases e1 : mOrd Mm i = 1
    · rw [if_pos e1, if_pos e1]
      exact sI_send h hb hi hq hr
    · rw [if_neg e1, if_neg e1]
      by_cases e2 : mOrd Mm i = 2
      · rw [if_pos e2, if_pos e2]
        exact sI_take h hi hq hr
      · rw [if_neg e2, if_neg e2]
        by_cases e3 : mOrd Mm i = 3
        · rw [if_pos e3, if_pos e3]
          exact sI_up h hb hi hq hr
        · rw [if_neg e3, if_neg e3]
          exact sI_down h hi hq hr
theorem sI_idle {n w b : Nat} {Mc Mm : zM} (h : sIM n w b Mc Mm) : sIM n w b (kIdle Mc) (mIdle Mm) := by
  unfold kIdle mIdle
  rw [sR_get h.2.2.1 s_idle]
  exact ⟨kInv_far h.1 _ (by omega), mInv_si h.2.1 _ (by omega), sR_w h.2.2.1 s_idle _ (by omega) (by omega) (by omega) (by omega), sV_si h.2.2.2 _ (by omega)⟩
theorem sI_go {n w : Nat} (p : Int32) : ∀ (f : Nat) (b : Nat) (Mc Mm : zM), sIM n w b Mc Mm → b + f < 2 ^ 31 → mNu Mm 8 < f → sIM n w (b + f) (kGo n p f Mc) (mGo n p f Mm)
  | 0, b, Mc, Mm, h, hb, hf => absurd hf (by omega)
  | f + 1, b, Mc, Mm, h, hb, hf => by
    have e := sFR h (by omega) p
    cases hF : mFR n p Mm with
    | none =>
      rw [mGo_none hF, kGo_none (e.trans hF)]
      exact sI_mono (sI_idle h) (by omega)
    | some j =>
      have hj := mFR_lt hF
      have hj8 : j < 8 := Nat.lt_of_lt_of_le hj (kInv_n h.1)
      have hr := (mFR_P hF).1
      have hd := sI_do h (by omega) hj hr
      by_cases e0 : mOrd Mm j = 0
      · rw [mGo_work hF e0, kGo_work (e.trans hF) ((sOrd h hj8).trans e0)]
        exact sI_mono hd (by omega)
      · rw [mGo_on hF e0, kGo_on (e.trans hF) (fun z => e0 ((sOrd h hj8).symm.trans z))]
        have := mNu_Do h.2.1 hj8 hr e0
        exact sI_mono (sI_go p f (b + 1) _ _ hd (by omega) (by omega)) (by omega)
end
section
/-! SIM: releases, missed deadlines -/
theorem z_si_comm (M : zM) {a k b l : Nat} (x y : Int32) (h : ¬ (a = b ∧ k = l)) : z_si (z_si M a k x) b l y = z_si (z_si M b l y) a k x := by
  refine Prod.ext ?_ rfl
  funext c j
  show (if c = b ∧ j = l then y else if c = a ∧ j = k then x else M.1 c j) = (if c = a ∧ j = k then x else if c = b ∧ j = l then y else M.1 c j)
  by_cases h1 : c = b ∧ j = l
  · have h2 : ¬ (c = a ∧ j = k) := fun q => h ⟨q.1.symm.trans h1.1, q.2.symm.trans h1.2⟩
    rw [if_pos h1, if_neg h2, if_pos h1]
  · rw [if_neg h1, if_neg h1]
theorem sR_since {n w b : Nat} {Mc Mm : zM} (h : sR n w b Mc Mm) {i : Nat} (hi : i < 8) (h0 : Mm.1 63 i = 0) : sR n w (b + 1) (z_sj (kTurn Mc) (9 + 4 * i) 9 (Mc.2 0 9 + 1)) Mm := by
  obtain ⟨g0, hD, hM, hE, hN, a, c, fa, fc, ha, hc, e1, e2, e3, e4⟩ := h
  refine ⟨g0, hD, hM, hE, hN, a + 1, c, va_up fa i (a + 1), fc, by omega, by omega, ?_, e2, fun j hj => ?_, fun j k hj hk pj pk => ?_⟩
  · rw [z_sj_other _ _ (by omega)]
    show (z_sj Mc 0 9 (Mc.2 0 9 + 1)).2 0 9 = _
    rw [z_sj_same, e1, lN_1]
  · have := e3 j hj
    unfold va_up
    by_cases e : j = i
    · subst e
      rw [if_pos rfl, z_sj_same, e1, lN_1]
      exact ⟨rfl, Nat.le_refl _, this.2.2⟩
    · rw [if_neg e, z_sj_other _ _ (by omega)]
      show (z_sj Mc 0 9 (Mc.2 0 9 + 1)).2 _ 9 = _ ∧ _
      rw [z_sj_other _ _ (by omega)]
      exact ⟨this.1, by omega, this.2.2⟩
  · have ej : j ≠ i := fun q => pj (by rw [q]; exact h0)
    have ek : k ≠ i := fun q => pk (by rw [q]; exact h0)
    unfold va_up
    rw [if_neg ej, if_neg ek]
    exact e4 j k hj hk pj pk
theorem kAnew_eq (i : Nat) (t : Int64) (M : zM) : kAnew i t M = z_sj (z_si (z_si (z_si M (9 + 4 * i) 7 0) (9 + 4 * i) 8 0) (9 + 4 * i) 6 1) (9 + 4 * i) 9 t := by
  show z_sj (z_si (z_si (z_si M (9 + 4 * i) 6 1) (9 + 4 * i) 7 0) (9 + 4 * i) 8 0) (9 + 4 * i) 9 t = _
  rw [z_si_comm M (a := 9 + 4 * i) (k := 6) (b := 9 + 4 * i) (l := 7) _ _ (by omega), z_si_comm (z_si M (9 + 4 * i) 7 0) (a := 9 + 4 * i) (k := 6) (b := 9 + 4 * i) (l := 8) _ _ (by omega)]
/-- again, or released: at the first order, READY from now -/
theorem sR_anew {n w b : Nat} {Mc Mm : zM} (h : sR n w b Mc Mm) {i : Nat} (hi : i < 8) : sR n w (b + 1) (kAnew i (Mc.2 0 9 + 1) (kTurn Mc)) (mBec i 1 (z_si (z_si Mm 64 i 0) 65 i 0)) := by
  rw [kAnew_eq]
  exact sR_bec (sR_t (sR_t h hi (s_at i hi) 0 (by omega) (by omega) (by omega)) hi (s_wk i hi) 0 (by omega) (by omega) (by omega)) hi 1
theorem sV_anew {n w i : Nat} {M : zM} (hI : mInv n w (mBec i 1 (z_si (z_si M 64 i 0) 65 i 0))) (h : sVx n i M) (hi : i < 8) : sV n (mBec i 1 (z_si (z_si M 64 i 0) 65 i 0)) := by
  have hf : ∀ c j, (c ≠ 63 ∧ c ≠ 73 ∧ c ≠ 51 ∧ c ≠ 64 ∧ c ≠ 65) ∨ (c ≠ 51 ∧ j ≠ i) → (mBec i 1 (z_si (z_si M 64 i 0) 65 i 0)).1 c j = M.1 c j := fun c j q => by
    rw [mBec_far i 1 _ (by omega), z_si_other _ _ (by omega), z_si_other _ _ (by omega)]
  refine sV_of h (fun j hj => ⟨hf _ _ (by omega), hf _ _ (by omega), hf _ _ (by omega), hf _ _ (by omega)⟩) (funext fun j => hf _ _ (by omega)) (funext fun j => hf _ _ (by omega)) (funext fun j => hf _ _ (by omega)) (funext fun j => hf _ _ (by omega)) (fun q => absurd ((mBec_63 i 1 _).symm.trans q) (by decide)) (sWk_0 hI (sW5_k h.2.2.2 (funext fun j => hf _ _ (by omega)) (funext fun j => hf _ _ (by omega)) (funext fun j => hf _ _ (by omega))) hi ?_)
  rw [mBec_far i 1 _ (by omega), z_si_same]
theorem kRel2_1 (i : Nat) (tm : Int32) (t : Int64) (M : zM) : (kRel2 i tm t M).1 (10 + 4 * i) = M.1 (10 + 4 * i) := by
  show (z_si (z_si (z_si (z_si (z_si M (9 + 4 * i) 10 _) (9 + 4 * i) 11 _) (9 + 4 * i) 6 1) (9 + 4 * i) 7 0) (9 + 4 * i) 8 0).1 (10 + 4 * i) = _
  rw [z_si_row _ _ _ (by omega), z_si_row _ _ _ (by omega), z_si_row _ _ _ (by omega), z_si_row _ _ _ (by omega), z_si_row _ _ _ (by omega)]
theorem sI_rel {n w b : Nat} {Mc Mm : zM} (h : sIM n w b Mc Mm) {i : Nat} (hi : i < n) (h0 : Mm.1 63 i = 0) : sIM n w (b + 1) (kRel i (Mc.1 0 6) (Mc.2 0 9 + 1) (kTurn Mc)) (mRel i Mm) := by
  have hi8 : i < 8 := Nat.lt_of_lt_of_le hi (kInv_n h.1)
  refine ⟨kInv_Rel (kInv_Turn h.1) hi8 _ _, mInv_Rel h.2.1 hi8, ?_⟩
  have hR := h.2.2.1
  have h1 : sR n w b (z_si Mc (9 + 4 * i) 10 (Mm.1 66 i + 1)) (mRel1 i Mm) := sR_t hR hi8 (s_rnd i hi8) _ (by omega) (by omega) (by omega)
  have hs : (mRel1 i Mm).1 60 i = Mm.1 60 i := by unfold mRel1; rw [z_si_other _ _ (by omega)]
  have hl : (mRel2 i Mm).1 59 i = Mm.1 59 i := by unfold mRel2 mRel1; rw [z_si_other _ _ (by omega), z_si_other _ _ (by omega), z_si_other _ _ (by omega)]
  have htm : (mRel2 i Mm).1 51 28 = Mm.1 51 28 := by unfold mRel2 mRel1; rw [z_si_other _ _ (by omega), z_si_other _ _ (by omega), z_si_other _ _ (by omega)]
  have hd : kDead i (Mc.1 0 6) (kRel1 i (kTurn Mc)) = mRelD i (mRel2 i Mm) := by
    unfold kDead mRelD
    have e1 : (kRel1 i (kTurn Mc)).1 (9 + 4 * i) 5 = Mm.1 59 i := by
      show (z_si Mc (9 + 4 * i) 10 _).1 (9 + 4 * i) 5 = _
      rw [z_si_other _ _ (by omega)]
      exact sR_get hR (s_lim i hi8)
    rw [e1, hl, htm, sR_get hR s_time]
  unfold kRel mRel
  rw [kRel2_1, hs]
  show sR n w (b + 1) (if Mc.1 (10 + 4 * i) 2 = 0 then _ else _) _ ∧ _
  rw [sR_get hR (s_siz i hi8)]
  by_cases e : Mm.1 60 i = 0
  · rw [if_pos e, if_pos e]
    refine ⟨?_, sV_si h.2.2.2 _ (by omega)⟩
    obtain ⟨w1, w2, w3'⟩ := h.2.2.2.1 i hi8 h0
    have w3 := w3' hi
    have hx := (hR.2.1 i hi8).1 hi
    have key : kRest i (kRel2 i (Mc.1 0 6) (Mc.2 0 9 + 1) (kTurn Mc)) = z_sj (kTurn (z_si Mc (9 + 4 * i) 10 (Mm.1 66 i + 1))) (9 + 4 * i) 9 ((z_si Mc (9 + 4 * i) 10 (Mm.1 66 i + 1)).2 0 9 + 1) := by
      refine Prod.ext ?_ rfl
      funext c k
      show (z_si (z_si (z_si (z_si (z_si (z_si (z_si (z_si (z_si Mc (9 + 4 * i) 10 (Mc.1 (9 + 4 * i) 10 + 1)) (9 + 4 * i) 11 (kDead i (Mc.1 0 6) (kRel1 i (kTurn Mc)))) (9 + 4 * i) 6 1) (9 + 4 * i) 7 0) (9 + 4 * i) 8 0) (9 + 4 * i) 6 0) (9 + 4 * i) 7 0) (9 + 4 * i) 8 0) (9 + 4 * i) 11 (-1)).1 c k = (z_si Mc (9 + 4 * i) 10 (Mm.1 66 i + 1)).1 c k
      rw [sR_get hR (s_rnd i hi8)]
      by_cases ec : c = 9 + 4 * i
      · subst ec
        by_cases k11 : k = 11
        · subst k11
          rw [z_si_same, z_si_other _ _ (by omega), hx.1, w3]
        · rw [z_si_other _ _ (by omega)]
          by_cases k8 : k = 8
          · subst k8
            rw [z_si_same, z_si_other _ _ (by omega), sR_get hR (s_wk i hi8), w2]
          · rw [z_si_other _ _ (by omega)]
            by_cases k7 : k = 7
            · subst k7
              rw [z_si_same, z_si_other _ _ (by omega), sR_get hR (s_at i hi8), w1]
            · rw [z_si_other _ _ (by omega)]
              by_cases k6 : k = 6
              · subst k6
                rw [z_si_same, z_si_other _ _ (by omega), sR_get hR (s_st i hi8), h0]
              · rw [z_si_other _ _ (by omega), z_si_other _ _ (by omega), z_si_other _ _ (by omega), z_si_other _ _ (by omega), z_si_other _ _ (by omega)]
      · rw [z_si_other _ _ (by omega), z_si_other _ _ (by omega), z_si_other _ _ (by omega), z_si_other _ _ (by omega), z_si_other _ _ (by omega), z_si_other _ _ (by omega), z_si_other _ _ (by omega), z_si_other _ _ (by omega)]
    rw [key]
    exact sR_since h1 hi8 (by unfold mRel1; rw [z_si_other _ _ (by omega)]; exact h0)
  · rw [if_neg e, if_neg e]
    have hrel : mRel i Mm = mBec i 1 (z_si (mRel2 i Mm) 67 i (mRelD i (mRel2 i Mm))) := by
      unfold mRel
      rw [hs, if_neg e]
    have hcomm : z_si (mRel2 i Mm) 67 i (mRelD i (mRel2 i Mm)) = z_si (z_si (z_si (mRel1 i Mm) 67 i (mRelD i (mRel2 i Mm))) 64 i 0) 65 i 0 := by
      show z_si (z_si (z_si (mRel1 i Mm) 64 i 0) 65 i 0) 67 i _ = _
      rw [z_si_comm _ (a := 65) (b := 67) _ _ (by omega), z_si_comm _ (a := 64) (b := 67) _ _ (by omega)]
    have hmI : mInv n w (mRel i Mm) := mInv_Rel h.2.1 hi8
    rw [hrel, hcomm] at hmI
    rw [hcomm]
    have h2 := sR_d h1 hi hi8 (mRelD i (mRel2 i Mm))
    refine ⟨?_, sV_anew hmI ?_ hi8⟩
    · have h3 := sR_anew h2 hi8
      show sR n w (b + 1) (kAnew i (Mc.2 0 9 + 1) (z_si (kRel1 i (kTurn Mc)) (9 + 4 * i) 11 (kDead i (Mc.1 0 6) (kRel1 i (kTurn Mc))))) _
      rw [hd]
      show sR n w (b + 1) (kAnew i (Mc.2 0 9 + 1) (z_si (z_si (kTurn Mc) (9 + 4 * i) 10 (Mc.1 (9 + 4 * i) 10 + 1)) (9 + 4 * i) 11 _)) _
      rw [sR_get hR (s_rnd i hi8)]
      exact h3
    · obtain ⟨a2, a3, a4, a5⟩ := h.2.2.2
      have hf : ∀ c j, (c ≠ 66 ∧ c ≠ 67) ∨ j ≠ i → (z_si (mRel1 i Mm) 67 i (mRelD i (mRel2 i Mm))).1 c j = Mm.1 c j := fun c j q => by unfold mRel1; rw [z_si_other _ _ (by omega), z_si_other _ _ (by omega)]
      refine ⟨fun j hj hji q => ?_, fun j hj => by rw [hf _ _ (by omega)]; exact a3 j hj, fun j hj hji => sWk_k (a4 j hj) (hf _ _ (by omega)) (hf _ _ (by omega)) (hf _ _ (by omega)) (funext fun z => hf _ _ (by omega)) (funext fun z => hf _ _ (by omega)), sW5_k a5 (funext fun z => hf _ _ (by omega)) (funext fun z => hf _ _ (by omega)) (funext fun z => hf _ _ (by omega))⟩
      rw [hf _ _ (by omega)] at q
      rw [hf _ _ (by omega), hf _ _ (by omega), hf _ _ (by omega)]
      exact a2 j hj q
theorem sPt {n w b : Nat} {Mc Mm : zM} (h : sR n w b Mc Mm) {i : Nat} (hi : i < 8) : kPt Mc i = mPt Mm i := by
  unfold kPt mPt
  rw [sR_get h (s_part i hi)]
theorem mRelA_t (i : Nat) (M : zM) : (mRelA i M).1 51 28 = M.1 51 28 := by
  unfold mRelA
  split
  · exact mRel_t i M
  · rw [z_si_other _ _ (by omega)]
theorem mRel_72 (i : Nat) (M : zM) (j : Nat) : (mRel i M).1 72 j = M.1 72 j := by
  unfold mRel mRel2 mRel1
  split
  · rw [z_si_other _ _ (by omega)]
  · rw [mBec_far i 1 _ (by omega), z_si_other _ _ (by omega), z_si_other _ _ (by omega), z_si_other _ _ (by omega), z_si_other _ _ (by omega)]
theorem sI_relone {n w b : Nat} {Mc Mm : zM} (h : sIM n w b Mc Mm) {i : Nat} (hi : i < n) : sIM n w (b + 1) (kRelOne i Mc) (mRelOne i Mm) := by
  have hi8 : i < 8 := Nat.lt_of_lt_of_le hi (kInv_n h.1)
  have hR := h.2.2.1
  obtain ⟨v, hv, ev⟩ := h.2.2.2.2.1 i hi8
  have hmode : Mc.1 (5 + kPt Mc i) 0 = Mm.1 54 (mPt Mm i) := by rw [sPt hR hi8]; exact sR_get hR (s_mode _ (mPt_lt h.2.1 hi8))
  have hx := (hR.2.1 i hi8).1 hi
  unfold kRelOne mRelOne
  rw [hmode, sR_get hR (s_per i hi8), hx.2, sR_get hR s_time, ev]
  by_cases e1 : Mm.1 54 (mPt Mm i) = 1
  · rw [if_pos e1, if_pos e1]
    by_cases e2 : v = 0
    · subst e2
      rw [if_pos (show nI 0 ≤ 0 by decide), if_pos (show nI 0 = 0 from rfl)]
      exact sI_mono h (by omega)
    · rw [if_neg (nI_nle (by omega) (by omega)), if_neg (nI_ne0 (by omega) (by omega))]
      by_cases e3 : Mm.1 72 i = Mm.1 51 28
      · rw [if_pos e3, if_pos e3]
        have hA : sIM n w (b + 1) (kRelA i Mc) (mRelA i Mm) := by
          unfold kRelA mRelA
          rw [sR_get hR (s_st i hi8)]
          by_cases e4 : Mm.1 63 i = 0
          · rw [if_pos e4, if_pos e4]
            exact sI_rel h hi e4
          · rw [if_neg e4, if_neg e4, sR_get hR (s_skp i hi8)]
            exact sI_mono (b := b) ⟨kInv_task h.1 hi8 _ (by decide) (by decide), mInv_si h.2.1 _ (by omega), sR_t hR hi8 (s_skp i hi8) _ (by omega) (by omega) (by omega), sV_si h.2.2.2 _ (by omega)⟩ (by omega)
        have e72 : (mRelA i Mm).1 72 i = (mRelA i Mm).1 51 28 := by
          rw [mRelA_t, ← e3]
          unfold mRelA
          split
          · exact mRel_72 i Mm i
          · rw [z_si_other _ _ (by omega)]
        rw [e72, sR_get hA.2.2.1 s_time, sR_get hA.2.2.1 (s_per i hi8)]
        exact ⟨kInv_task hA.1 hi8 _ (by decide) (by decide), mInv_si hA.2.1 _ (by omega), sR_x hA.2.2.1 hi hi8 _, sV_si hA.2.2.2 _ (by omega)⟩
      · rw [if_neg e3, if_neg e3]
        exact sI_mono h (by omega)
  · rw [if_neg e1, if_neg e1]
    split
    · exact sI_mono h (by omega)
    · exact sI_mono h (by omega)
theorem sI_for {n w : Nat} {f g : Nat → zM → zM} (hf : ∀ i b Mc Mm, i < n → sIM n w b Mc Mm → sIM n w (b + 1) (f i Mc) (g i Mm)) : ∀ (k i b : Nat) (Mc Mm : zM), i + k ≤ n → sIM n w b Mc Mm → sIM n w (b + k) (kFor f k i Mc) (kFor g k i Mm)
  | 0, _, _, _, _, _, h => h
  | k + 1, i, b, Mc, Mm, hk, h => by
    have := sI_for hf k (i + 1) (b + 1) _ _ (by omega) (hf i b Mc Mm (by omega) h)
    rw [show b + 1 + k = b + (k + 1) by omega] at this
    exact this
theorem sI_restone {n w b : Nat} (d : Int32) {Mc Mm : zM} (h : sIM n w b Mc Mm) {i : Nat} (hi : i < n) : sIM n w b (kRestOne d i Mc) (mRestOne d i Mm) := by
  have hi8 : i < 8 := Nat.lt_of_lt_of_le hi (kInv_n h.1)
  unfold kRestOne mRestOne
  rw [sR_get h.2.2.1 (s_part i hi8)]
  split
  · exact sI_rest h hi
  · exact h
theorem sI_for0 {n w : Nat} {f g : Nat → zM → zM} (hf : ∀ i b Mc Mm, i < n → sIM n w b Mc Mm → sIM n w b (f i Mc) (g i Mm)) : ∀ (k i b : Nat) (Mc Mm : zM), i + k ≤ n → sIM n w b Mc Mm → sIM n w b (kFor f k i Mc) (kFor g k i Mm)
  | 0, _, _, _, _, _, h => h
  | k + 1, i, b, Mc, Mm, hk, h => sI_for0 hf k (i + 1) b _ _ (by omega) (hf i b Mc Mm (by omega) h)
theorem sI_missone {n w b : Nat} {Mc Mm : zM} (h : sIM n w b Mc Mm) {i : Nat} (hi : i < n) : sIM n w (b + 1) (kMissOne n i Mc) (mMissOne n i Mm) := by
  have hi8 : i < 8 := Nat.lt_of_lt_of_le hi (kInv_n h.1)
  have hR := h.2.2.1
  have hpt := mPt_lt h.2.1 hi8
  have hmode : Mc.1 (5 + kPt Mc i) 0 = Mm.1 54 (mPt Mm i) := by rw [sPt hR hi8]; exact sR_get hR (s_mode _ hpt)
  have hx := (hR.2.1 i hi8).1 hi
  unfold kMissOne mMissOne
  rw [hmode, sR_get hR (s_st i hi8), hx.1, sR_get hR s_time]
  by_cases e1 : Mm.1 54 (mPt Mm i) = 1
  · rw [if_pos e1, if_pos e1]
    by_cases e2 : Mm.1 63 i = 0
    · rw [if_pos e2, if_pos e2]
      exact sI_mono h (by omega)
    · rw [if_neg e2, if_neg e2]
      by_cases e3 : Mm.1 67 i = Mm.1 51 28
      · rw [if_pos e3, if_pos e3]
        have h1 : sIM n w b (kMiss1 i Mc) (mMiss1 i Mm) := by
          unfold kMiss1 mMiss1
          rw [sR_get hR (s_mis i hi8)]
          refine ⟨kInv_task (kInv_task h.1 hi8 _ (by decide) (by decide)) hi8 _ (by decide) (by decide), mInv_Miss1 h.2.1, sR_d (sR_t hR hi8 (s_mis i hi8) _ (by omega) (by omega) (by omega)) hi hi8 _, ?_⟩
          have a := sV_si (c := 68) (k := i) h.2.2.2 (Mm.1 68 i + 1) (by omega)
          exact sV_of (a.x i) (fun j hj => ⟨z_si_other _ _ (by omega), z_si_other _ _ (by omega), z_si_other _ _ (by omega), z_si_other _ _ (by omega)⟩) (z_si_row _ _ _ (by omega)) (z_si_row _ _ _ (by omega)) (z_si_row _ _ _ (by omega)) (z_si_row _ _ _ (by omega)) (fun q => by rw [z_si_other _ _ (by omega), z_si_other _ _ (by omega)] at q; exact absurd q e2) (sWk_k (a.2.2.1 i hi8) (by rw [z_si_other _ _ (by omega)]) (by rw [z_si_other _ _ (by omega)]) (by rw [z_si_other _ _ (by omega)]) (z_si_row _ _ _ (by omega)) (z_si_row _ _ _ (by omega)))
        have hst : (mMiss1 i Mm).1 63 i = Mm.1 63 i := mMiss1_far i Mm (by omega)
        have hac : (kMiss1 i Mc).1 (5 + kPt Mc i) 1 = (mMiss1 i Mm).1 55 (mPt Mm i) := by rw [sPt hR hi8]; exact sR_get h1.2.2.1 (s_act _ hpt)
        unfold kMiss mMiss3 mMiss2
        rw [hac]
        by_cases a1 : (mMiss1 i Mm).1 55 (mPt Mm i) = 1
        · rw [if_pos a1, if_pos a1, if_neg (by rw [mBec_far i 1 _ (by omega), z_si_other _ _ (by omega), z_si_other _ _ (by omega), a1]; decide)]
          have hm2 : mInv n w (mMiss2 i (mPt Mm i) (mMiss1 i Mm)) := mInv_Miss2 h1.2.1 hi8 (by rw [hst]; exact e2)
          unfold mMiss2 at hm2
          rw [if_pos a1] at hm2
          exact ⟨kInv_Anew (kInv_Turn h1.1) hi8 _, hm2, sR_anew h1.2.2.1 hi8, sV_anew hm2 (h1.2.2.2.x i) hi8⟩
        · rw [if_neg a1, if_neg a1]
          by_cases a2 : (mMiss1 i Mm).1 55 (mPt Mm i) = 2
          · rw [if_pos a2, if_pos a2, sPt hR hi8]
            have h2 : sIM n w b (z_si (kMiss1 i Mc) (5 + mPt Mm i) 0 2) (z_si (mMiss1 i Mm) 54 (mPt Mm i) 2) := ⟨kInv_far h1.1 _ (by omega), mInv_si h1.2.1 _ (by omega), sR_w h1.2.2.1 (s_mode _ hpt) _ (by omega) (by omega) (by omega) (by omega), sV_si h1.2.2.2 _ (by omega)⟩
            exact sI_mono (b := b) (sI_for0 (f := kRestOne (nI (mPt Mm i))) (g := mRestOne (nI (mPt Mm i))) (fun j b Mc Mm hj hh => sI_restone _ hh hj) n 0 b _ _ (by omega) h2) (by omega)
          · rw [if_neg a2, if_neg a2]
            exact sI_mono h1 (by omega)
      · rw [if_neg e3, if_neg e3]
        exact sI_mono h (by omega)
  · rw [if_neg e1, if_neg e1]
    exact sI_mono h (by omega)
end
section
/-! SIM: the windows, a tick, a run -/
theorem nI_xor_nn {a b : Nat} (ha : a < 2 ^ 31) (hb : b < 2 ^ 31) : (0 : Int32) ≤ nI a ^^^ nI b := by
  have e : nI a ^^^ nI b = nI (a ^^^ b) := by
    apply Int32.toBitVec_inj.1
    show BitVec.ofNat 32 a ^^^ BitVec.ofNat 32 b = BitVec.ofNat 32 (a ^^^ b)
    apply BitVec.eq_of_toNat_eq
    have h1 : a ^^^ b < 2 ^ 31 := Nat.xor_lt_two_pow ha hb
    rw [BitVec.toNat_xor, BitVec.toNat_ofNat, BitVec.toNat_ofNat, BitVec.toNat_ofNat, Nat.mod_eq_of_lt (by omega), Nat.mod_eq_of_lt (by omega), Nat.mod_eq_of_lt (by omega)]
  rw [e]
  exact nI_pos' (Nat.xor_lt_two_pow ha hb)
theorem kMod_nI {a d : Nat} (ha : a < 2 ^ 31) (h0 : 0 < d) (hd : d < 2 ^ 31) : kMod (nI a) (nI d) = nI (a % d) := by
  unfold kMod
  rw [if_pos (nI_xor_nn ha hd), pk_rem ha h0 hd]
theorem mTl_snoc (M : zM) : ∀ k i, mTl M (k + 1) i = mTl M k i + mSp M (i + k)
  | 0, i => by show mSp M i + 0 = 0 + mSp M i; omega
  | k + 1, i => by
    show mSp M i + mTl M (k + 1) (i + 1) = mSp M i + mTl M k (i + 1) + mSp M (i + (k + 1))
    rw [mTl_snoc M k (i + 1), show i + 1 + k = i + (k + 1) by omega]
    omega
theorem mTl_mono {M : zM} {i j : Nat} (h : i ≤ j) : mTl M i 0 ≤ mTl M j 0 := by
  obtain ⟨d, rfl⟩ : ∃ d, j = i + d := ⟨j - i, by omega⟩
  clear h
  induction d with
  | zero => exact Nat.le_refl _
  | succ d ih =>
    have := mTl_snoc M (i + d) 0
    show mTl M i 0 ≤ mTl M (i + d + 1) 0
    omega
theorem sIx {n w b : Nat} {Mc Mm : zM} (h : sIM n w b Mc Mm) {o : Nat} (ho : o < mTl Mm w 0) : ∀ (k i : Nat), i + (k + 1) = w → mTl Mm i 0 ≤ o → ∃ j, j < w ∧ kIx Mc (nI o) k i = j ∧ mIx Mm (k + 1) i (nI (o - mTl Mm i 0)) = (j, nI (o - mTl Mm j 0)) := by
  have hI := h.2.1
  have h8 : w ≤ 8 := hI.1.2.1
  have hT := mTl_le hI w 0 (by omega)
  intro k
  induction k with
  | zero =>
    intro i hk hp
    have hs := mSp_ok hI (j := i) (by omega)
    have e := mTl_snoc Mm i 0
    rw [Nat.zero_add, show i + 1 = w by omega] at e
    refine ⟨i, by omega, rfl, ?_⟩
    exact mIx_yes (by rw [hs.1, nI_ltI (by omega) (by omega)]; omega)
  | succ k ih =>
    intro i hk hp
    have hs := mSp_ok hI (j := i) (by omega)
    have e := mTl_snoc Mm i 0
    rw [Nat.zero_add] at e
    have hm : mTl Mm (i + 1) 0 ≤ mTl Mm w 0 := mTl_mono (by omega)
    have he : Mc.1 3 i = nI (mTl Mm (i + 1) 0) := h.2.2.1.2.2.2.1 i (by omega)
    by_cases hlt : o < mTl Mm (i + 1) 0
    · refine ⟨i, by omega, ?_, mIx_yes (by rw [hs.1, nI_ltI (by omega) (by omega)]; omega)⟩
      show (if nI o < Mc.1 3 i then i else _) = i
      rw [if_pos (by rw [he, nI_ltI (by omega) (by omega)]; exact hlt)]
    · obtain ⟨j, hj, e1, e2⟩ := ih (i + 1) (by omega) (by omega)
      refine ⟨j, hj, ?_, ?_⟩
      · show (if nI o < Mc.1 3 i then i else kIx Mc (nI o) k (i + 1)) = j
        rw [if_neg (by rw [he, nI_ltI (by omega) (by omega)]; exact hlt)]
        exact e1
      · rw [mIx_no (by rw [hs.1, nI_ltI (by omega) (by omega)]; omega), hs.1, pk_sub (by omega), show o - mTl Mm i 0 - mSp Mm i = o - mTl Mm (i + 1) 0 by omega]
        exact e2
/-- the window that has the time, on both sides -/
theorem sWin {n w b : Nat} {Mc Mm : zM} (h : sIM n w b Mc Mm) {t : Nat} (ht : t < 2 ^ 31) (et : Mm.1 51 28 = nI t) (hw : w ≠ 0) : ∃ (j o : Nat), j < w ∧ mTl Mm j 0 ≤ o ∧ kIdx Mc w (Mc.1 0 6) = j ∧ kOff Mc w (Mc.1 0 6) = nI o ∧ mIx Mm w 0 (mRem Mm w) = (j, nI (o - mTl Mm j 0)) ∧ o < mTl Mm (j + 1) 0 := by
  have hI := h.2.1
  have h8 : w ≤ 8 := hI.1.2.1
  have hT := mTl_le hI w 0 (by omega)
  have he : Mc.1 3 (w - 1) = nI (mTl Mm w 0) := by
    have := h.2.2.1.2.2.2.1 (w - 1) (by omega)
    rw [show w - 1 + 1 = w by omega] at this
    exact this
  have ho : kOff Mc w (Mc.1 0 6) = nI (t % mTl Mm w 0) := by
    unfold kOff
    rw [he, sR_get h.2.2.1 s_time, et, kMod_nI ht (by omega) (by omega)]
  have hr := mRem_eq hI ht et hw
  obtain ⟨j, hj, e1, e2⟩ := sIx h hr.2 (w - 1) 0 (by omega) (Nat.zero_le _)
  have e2' : mIx Mm w 0 (mRem Mm w) = (j, nI (t % mTl Mm w 0 - mTl Mm j 0)) := by
    rw [hr.1]
    rw [show w - 1 + 1 = w by omega] at e2
    exact e2
  have key : ∀ k i o, i + k = w → o < mTl Mm k i → ∀ j v, mIx Mm k i (nI o) = (j, v) → ∃ r, v = nI r ∧ o = mTl Mm (j - i) i + r ∧ r < mSp Mm j ∧ i ≤ j := by
    intro k
    induction k with
    | zero => intro i o _ hlt; exact absurd hlt (by show ¬ o < 0; omega)
    | succ k ih =>
      intro i o hk hlt j v hq
      have hs := mSp_ok hI (j := i) (by omega)
      have hT2 := mTl_le hI (k + 1) i (by omega)
      have hlt2 : o < mSp Mm i + mTl Mm k (i + 1) := hlt
      by_cases c : o < mSp Mm i
      · rw [mIx_yes (by rw [hs.1, nI_ltI (by omega) (by omega)]; exact c)] at hq
        cases hq
        refine ⟨o, rfl, ?_, c, Nat.le_refl _⟩
        rw [Nat.sub_self]
        show o = 0 + o
        omega
      · rw [mIx_no (by rw [hs.1, nI_ltI (by omega) (by omega)]; exact c), hs.1, pk_sub (by omega)] at hq
        obtain ⟨r, a1, a2, a3, a4⟩ := ih (i + 1) (o - mSp Mm i) (by omega) (by omega) j v hq
        refine ⟨r, a1, ?_, a3, by omega⟩
        have : mTl Mm (j - i) i = mSp Mm i + mTl Mm (j - (i + 1)) (i + 1) := by
          rw [show j - i = (j - (i + 1)) + 1 by omega]
          rfl
        omega
  obtain ⟨r, a1, a2, a3, a4⟩ := key w 0 (t % mTl Mm w 0) (by omega) hr.2 j _ (by rw [← hr.1]; exact e2')
  rw [Nat.sub_zero] at a2
  have sn := mTl_snoc Mm j 0
  rw [Nat.zero_add] at sn
  refine ⟨j, t % mTl Mm w 0, hj, by omega, ?_, ho, e2', by omega⟩
  unfold kIdx
  rw [ho]
  exact e1
theorem sPart {n w b : Nat} {Mc Mm : zM} (h : sIM n w b Mc Mm) {t : Nat} (ht : t < 2 ^ 31) (et : Mm.1 51 28 = nI t) : kPartAt Mc w (Mc.1 0 6) = mHold Mm w false := by
  unfold kPartAt
  by_cases hw : w = 0
  · rw [if_pos hw]
    unfold mHold
    rw [if_pos ((mAll_0 h.2.1).mpr hw)]
  · obtain ⟨j, o, hj, h1, h2, h3, h4, h5⟩ := sWin h ht et hw
    have h8 : w ≤ 8 := h.2.1.1.2.1
    rw [if_neg hw, h2, mHold_f (fun q => hw ((mAll_0 h.2.1).mp q)) h4]
    exact sR_get h.2.2.1 (s_own j (by omega))
theorem sLeft {n w b : Nat} {Mc Mm : zM} (h : sIM n w b Mc Mm) {t : Nat} (ht : t < 2 ^ 31) (et : Mm.1 51 28 = nI t) : (if w = 0 then (-1) else kLeftAt Mc w (Mc.1 0 6)) = mHold Mm w true := by
  by_cases hw : w = 0
  · rw [if_pos hw]
    unfold mHold
    rw [if_pos ((mAll_0 h.2.1).mpr hw)]
  · obtain ⟨j, o, hj, h1, h2, h3, h4, h5⟩ := sWin h ht et hw
    have h8 : w ≤ 8 := h.2.1.1.2.1
    have hs := mSp_ok h.2.1 (j := j) hj
    have sn := mTl_snoc Mm j 0
    rw [Nat.zero_add] at sn
    unfold kLeftAt
    rw [if_neg hw, if_neg hw, h2, h3, mHold_t (fun q => hw ((mAll_0 h.2.1).mp q)) h4, hs.1, h.2.2.1.2.2.2.1 j hj, pk_sub (by omega), pk_sub (by omega)]
    congr 1
    omega
theorem sI_give {n w b : Nat} {Mc Mm : zM} (h : sIM n w b Mc Mm) {t : Nat} (ht : t < 2 ^ 31) (et : Mm.1 51 28 = nI t) (hb : b + 65 < 2 ^ 31) : sIM n w (b + 65) (kGive n w Mc) (mGiv n w Mm) := by
  unfold kGive mGiv
  rw [sPart h ht et]
  by_cases e : mHold Mm w false < 0
  · have hm : mHold Mm w false = (-1) := by
      unfold mHold at e ⊢
      by_cases hw : mAll Mm w = 0
      · rw [if_pos hw]
      · exfalso
        have hw0 : w ≠ 0 := fun q => hw ((mAll_0 h.2.1).mpr q)
        obtain ⟨j, o, hj, h1, h2, h3, h4, h5⟩ := sWin h ht et hw0
        rw [if_neg hw, h4] at e
        obtain ⟨q, hq, eq⟩ := h.2.1.1.2.2.2.2.2.1 j hj
        have e' : Mm.1 52 j < 0 := e
        rw [eq] at e'
        exact nI_pos (by omega) e'
    rw [if_pos hm, if_pos e]
    exact sI_mono h (by omega)
  · have hok := mHold_ok h.2.1 ht et e
    have hm : ¬ mHold Mm w false = (-1) := fun q => e (by rw [q]; decide)
    rw [if_neg hm, if_neg e, sR_get h.2.2.1 (s_mode _ hok.2)]
    split
    · have := mNu_le h.2.1 8 (by omega)
      exact sI_go _ 65 b _ _ h hb (by omega)
    · exact sI_mono h (by omega)
theorem sI_tick {n w b : Nat} {Mc Mm : zM} (h : sIM n w b Mc Mm) {t : Nat} (ht : t + 1 < 2 ^ 31) (et : Mm.1 51 28 = nI t) (hb : b + 81 < 2 ^ 31) : sIM n w (b + 81) (kTick n w Mc) (mTick n w Mm) := by
  have hn := kInv_n h.1
  have h1 := sI_for (f := kRelOne) (g := mRelOne) (fun i b Mc Mm hi hh => sI_relone hh hi) n 0 b _ _ (by omega) h
  have h2 := sI_for (f := kMissOne n) (g := mMissOne n) (fun i b Mc Mm hi hh => sI_missone hh hi) n 0 (b + n) _ _ (by omega) h1
  have h3 := sI_give (t := t) h2 (by omega) ((mTick1_t n Mm).trans et) (by omega)
  unfold kTick mTick
  show sIM n w (b + 81) _ (z_si (mGiv n w (kFor (mMissOne n) n 0 (kFor mRelOne n 0 Mm))) 51 28 _)
  rw [sR_get h3.2.2.1 s_time]
  exact sI_mono (b := b + n + n + 65) ⟨kInv_far h3.1 _ (by omega), mInv_si h3.2.1 _ (by omega), sR_w h3.2.2.1 s_time _ (by omega) (by omega) (by omega) (by omega), sV_si h3.2.2.2 _ (by omega)⟩ (by omega)
theorem sI_ticks {n w : Nat} : ∀ (k b t : Nat) (Mc Mm : zM), sIM n w b Mc Mm → Mm.1 51 28 = nI t → t + k < 2 ^ 31 → b + 81 * k < 2 ^ 31 → sIM n w (b + 81 * k) (kTicks n w k Mc) (mTicks n w k Mm) ∧ (mTicks n w k Mm).1 51 28 = nI (t + k)
  | 0, b, t, Mc, Mm, h, et, _, _ => ⟨h, et⟩
  | k + 1, b, t, Mc, Mm, h, et, ht, hb => by
    have h1 := sI_tick (t := t) h (by omega) et (by omega)
    have h2 := sI_ticks k (b + 81) (t + 1) _ _ h1 (mTick_t et) (by omega) (by omega)
    rw [show b + 81 + 81 * k = b + 81 * (k + 1) by omega, show t + 1 + k = t + (k + 1) by omega] at h2
    exact h2
end
section
/-! SIM: the calls that lay the plan out -/
theorem sI_start {n w b : Nat} {Mc Mm : zM} (h : sIM n w b Mc Mm) {i : Nat} (hi : i < n) (h0 : Mm.1 63 i = 0) : sIM n w (b + 1) (kRel i (Mc.1 0 6) (Mc.2 0 9 + 1) (kTurn Mc)) (mRel i Mm) := sI_rel h hi h0
theorem sI_action {n w b : Nat} {Mc Mm : zM} (h : sIM n w b Mc Mm) {j : Nat} (hj : j < 3) (x : Int32) : sIM n w b (z_si Mc (5 + j) 1 x) (z_si Mm 55 j x) :=
  ⟨kInv_far h.1 _ (by omega), mInv_si h.2.1 _ (by omega), sR_w h.2.2.1 (s_act j hj) x (by omega) (by omega) (by omega) (by omega), sV_si h.2.2.2 _ (by omega)⟩
theorem sI_on2 {n w b : Nat} (d : Int32) {Mc Mm : zM} (h : sIM n w b Mc Mm) {i : Nat} (hi : i < n) : sIM n w b (kOn2 d i (kRestOne d i Mc)) (mOn2 d i Mm) := by
  have hi8 : i < 8 := Nat.lt_of_lt_of_le hi (kInv_n h.1)
  unfold kOn2 mOn2 kRestOne
  rw [sR_get h.2.2.1 (s_part i hi8)]
  by_cases e : Mm.1 56 i = d
  · have h1 := sI_rest h hi
    have ep : (kRest i Mc).1 (9 + 4 * i) 2 = d := by rw [sR_get h1.2.2.1 (s_part i hi8), mRest_far i Mm (by omega)]; exact e
    rw [if_pos e, if_pos e, if_pos ep, sR_get h1.2.2.1 (s_per i hi8), sR_get h1.2.2.1 s_time]
    split
    · exact h1
    · exact ⟨kInv_task h1.1 hi8 _ (by decide) (by decide), mInv_si h1.2.1 _ (by omega), sR_x h1.2.2.1 hi hi8 _, sV_si h1.2.2.2 _ (by omega)⟩
  · rw [if_neg e, if_neg e, sR_get h.2.2.1 (s_part i hi8), if_neg e]
    exact h
/-- the class rests all first, then sets the next releases: the same as one after the other -/
theorem kRest_c (i j : Nat) (M : zM) {c k : Nat} (hij : c ≠ 9 + 4 * j) : (kRest j M).1 c k = M.1 c k := by
  unfold kRest
  rw [z_si_other _ _ (by omega), z_si_other _ _ (by omega), z_si_other _ _ (by omega), z_si_other _ _ (by omega)]
theorem kOn2_comm (d : Int32) {i j : Nat} (hij : i ≠ j) (M : zM) : kOn2 d i (kRestOne d j M) = kRestOne d j (kOn2 d i M) := by
  have e1 : (kRestOne d j M).1 (9 + 4 * i) = M.1 (9 + 4 * i) := by
    unfold kRestOne
    split
    · funext k; exact kRest_c 0 j M (by omega)
    · rfl
  have e0 : (kRestOne d j M).1 0 = M.1 0 := by
    unfold kRestOne
    split
    · funext k; exact kRest_c 0 j M (by omega)
    · rfl
  have e2 : (kOn2 d i M).1 (9 + 4 * j) = M.1 (9 + 4 * j) := by
    unfold kOn2
    split
    · split
      · rfl
      · exact z_si_row _ _ _ (by omega)
    · rfl
  unfold kOn2
  rw [e1, e0]
  by_cases a : M.1 (9 + 4 * i) 2 = d
  · rw [if_pos a, if_pos a]
    by_cases c : M.1 (9 + 4 * i) 4 ≤ 0
    · rw [if_pos c, if_pos c]
    · rw [if_neg c, if_neg c]
      unfold kRestOne
      rw [z_si_row _ _ _ (show 9 + 4 * j ≠ 9 + 4 * i by omega)]
      by_cases f : M.1 (9 + 4 * j) 2 = d
      · rw [if_pos f, if_pos f]
        unfold kRest
        rw [z_si_comm _ (a := 9 + 4 * j) (b := 9 + 4 * i) _ _ (by omega), z_si_comm _ (a := 9 + 4 * j) (b := 9 + 4 * i) _ _ (by omega), z_si_comm _ (a := 9 + 4 * j) (b := 9 + 4 * i) _ _ (by omega), z_si_comm _ (a := 9 + 4 * j) (b := 9 + 4 * i) _ _ (by omega)]
      · rw [if_neg f, if_neg f]
  · rw [if_neg a, if_neg a]
theorem kOn2_for (d : Int32) {i : Nat} : ∀ (k j : Nat) (M : zM), i < j → kOn2 d i (kFor (kRestOne d) k j M) = kFor (kRestOne d) k j (kOn2 d i M)
  | 0, _, _, _ => rfl
  | k + 1, j, M, hij => by
    show kOn2 d i (kFor (kRestOne d) k (j + 1) (kRestOne d j M)) = kFor (kRestOne d) k (j + 1) (kRestOne d j (kOn2 d i M))
    rw [kOn2_for d k (j + 1) _ (by omega), kOn2_comm d (by omega)]
theorem kOn_fuse (d : Int32) : ∀ (k i : Nat) (M : zM), kFor (kOn2 d) k i (kFor (kRestOne d) k i M) = kFor (fun i M => kOn2 d i (kRestOne d i M)) k i M
  | 0, _, _ => rfl
  | k + 1, i, M => by
    show kFor (kOn2 d) k (i + 1) (kOn2 d i (kFor (kRestOne d) k (i + 1) (kRestOne d i M))) = kFor (fun i M => kOn2 d i (kRestOne d i M)) k (i + 1) (kOn2 d i (kRestOne d i M))
    rw [kOn2_for d k (i + 1) _ (by omega), kOn_fuse d k (i + 1)]
theorem sI_on {n w b : Nat} {Mc Mm : zM} (h : sIM n w b Mc Mm) {a : Int32} (ha : a.toNatClampNeg < 3) : sIM n w b (kOn n a Mc) (mOn n a Mm) := by
  unfold kOn mOn
  rw [kOn_fuse]
  have h1 : sIM n w b (z_si Mc (5 + a.toNatClampNeg) 0 1) (z_si Mm 54 a.toNatClampNeg 1) := ⟨kInv_far h.1 _ (by omega), mInv_si h.2.1 _ (by omega), sR_w h.2.2.1 (s_mode _ ha) 1 (by omega) (by omega) (by omega) (by omega), sV_si h.2.2.2 _ (by omega)⟩
  exact sI_for0 (f := fun i M => kOn2 a i (kRestOne a i M)) (g := mOn2 a) (fun i b Mc Mm hi hh => sI_on2 a hh hi) n 0 b _ _ (by omega) h1
/-! window -/
theorem sI_window {n w b : Nat} {Mc Mm : zM} (h : sIM n w b Mc Mm) (hw : w < 8) {a x : Int32} (ha : 0 ≤ a ∧ a ≤ 2) (hx : 1 ≤ x ∧ x ≤ 30) : sIM n (w + 1) b (kWadd w a x Mc) (mWadd w a x Mm) := by
  obtain ⟨ea, ha3⟩ := kC_ok ha
  have hx0 : 0 ≤ x ∧ x ≤ 30 := ⟨Int32.le_trans (by decide) hx.1, hx.2⟩
  obtain ⟨ex, hx31⟩ := kR_ok (c := 30) (N := 30) (by decide) hx0
  generalize a.toNatClampNeg = q at ea ha3
  generalize x.toNatClampNeg = v at ex hx31
  subst ea
  subst ex
  have hv : 1 ≤ v := by
    have := hx.1
    rw [show (1 : Int32) = nI 1 from rfl, nI_leI (by omega) (by omega)] at this
    exact this
  have hI := h.2.1
  have hT := mTl_le hI w 0 (by omega)
  have hpre : ∀ k, k ≤ w → mTl (mWadd w (nI q) (nI v) Mm) k 0 = mTl Mm k 0 := by
    intro k
    induction k with
    | zero => intro _; rfl
    | succ k ih =>
      intro hk
      rw [mTl_snoc, mTl_snoc, ih (by omega)]
      congr 1
      unfold mSp mWadd
      rw [z_si_other _ _ (by omega), z_si_other _ _ (by omega), z_si_other _ _ (by omega)]
  have hsp : mSp (mWadd w (nI q) (nI v) Mm) w = v := by
    unfold mSp mWadd
    rw [z_si_other _ _ (by omega), z_si_same, nI_clamp (by omega)]
  have hend : kEnd Mc w (nI v) = nI (mTl Mm w 0 + v) := by
    unfold kEnd
    by_cases e : w = 0
    · subst e
      rw [if_pos rfl]
      show nI v = nI (0 + v)
      rw [Nat.zero_add]
    · rw [if_neg e]
      have := h.2.2.1.2.2.2.1 (w - 1) (by omega)
      rw [show w - 1 + 1 = w by omega] at this
      rw [this, nI_add]
  obtain ⟨⟨k1, k2, k3, k4, k5, k6, k7, k8, k9, k10⟩, kn⟩ := h.1
  obtain ⟨⟨m1, m2, m3, m4, m5, m6, m7, m8, m9⟩, mn⟩ := hI
  refine ⟨⟨⟨k1, by omega, ?_, ?_, fun _ => ?_, fun j hj => ?_, fun j hj => ?_, fun j hj => ?_, fun j y hj hy => ?_, fun j hj => ?_⟩, fun j hj => ?_⟩, ⟨⟨m1, by omega, ?_, ?_, fun j hj => ?_, fun j hj => ?_, fun j hj => ?_, fun j y hj hy => ?_, fun j hj => ?_⟩, fun j hj => ?_⟩, ⟨?_, ?_, ?_, fun j hj => ?_, ?_, ?_⟩, ?_⟩
  · unfold kWadd; rw [z_si_other _ _ (by omega), z_si_other _ _ (by omega), z_si_other _ _ (by omega)]; exact k3
  · unfold kWadd; rw [z_si_same]
  · unfold kWadd
    rw [show w + 1 - 1 = w by omega, z_si_other _ _ (by omega), z_si_other _ _ (by omega), z_si_same, hend]
    exact nI_ne0 (by omega) (by omega)
  · unfold kWadd
    rw [z_si_other _ _ (by omega)]
    by_cases e : j = w
    · subst e; exact ⟨q, ha3, z_si_same _ _ _ _⟩
    · rw [z_si_other _ _ (by omega), z_si_other _ _ (by omega)]; exact k6 j (by omega)
  · unfold kWadd; rw [z_si_other _ _ (by omega), z_si_other _ _ (by omega), z_si_other _ _ (by omega)]; exact k7 j hj
  · unfold kWadd; rw [z_si_other _ _ (by omega), z_si_other _ _ (by omega), z_si_other _ _ (by omega)]; exact k8 j hj
  · unfold kWadd
    rw [z_si_other _ _ (by omega), z_si_other _ _ (by omega), z_si_other _ _ (by omega), z_si_other _ _ (by omega), z_si_other _ _ (by omega), z_si_other _ _ (by omega)]; exact k9 j y hj hy
  · unfold kWadd; rw [z_si_other _ _ (by omega), z_si_other _ _ (by omega), z_si_other _ _ (by omega)]; exact k10 j hj
  · unfold kWadd; rw [z_si_other _ _ (by omega), z_si_other _ _ (by omega), z_si_other _ _ (by omega)]; exact kn j hj
  · unfold mWadd; rw [z_si_other _ _ (by omega), z_si_other _ _ (by omega), z_si_other _ _ (by omega)]; exact m3
  · unfold mWadd; rw [z_si_same]
  · unfold mWadd
    rw [z_si_other _ _ (by omega)]
    by_cases e : j = w
    · subst e; exact ⟨v, hv, by omega, z_si_same _ _ _ _⟩
    · rw [z_si_other _ _ (by omega), z_si_other _ _ (by omega)]; exact m5 j (by omega)
  · unfold mWadd
    rw [z_si_other _ _ (by omega), z_si_other _ _ (by omega)]
    by_cases e : j = w
    · subst e; exact ⟨q, ha3, z_si_same _ _ _ _⟩
    · rw [z_si_other _ _ (by omega)]; exact m6 j (by omega)
  · unfold mWadd; rw [z_si_other _ _ (by omega), z_si_other _ _ (by omega), z_si_other _ _ (by omega)]; exact m7 j hj
  · unfold mWadd
    rw [z_si_other _ _ (by omega), z_si_other _ _ (by omega), z_si_other _ _ (by omega), z_si_other _ _ (by omega), z_si_other _ _ (by omega), z_si_other _ _ (by omega)]; exact m8 j y hj hy
  · unfold mWadd; rw [z_si_other _ _ (by omega), z_si_other _ _ (by omega), z_si_other _ _ (by omega)]; exact m9 j hj
  · unfold mWadd; rw [z_si_other _ _ (by omega), z_si_other _ _ (by omega), z_si_other _ _ (by omega), z_si_other _ _ (by omega), z_si_other _ _ (by omega), z_si_other _ _ (by omega), z_si_other _ _ (by omega), z_si_other _ _ (by omega), z_si_other _ _ (by omega)]; exact mn j hj
  · unfold kWadd mWadd
    rw [z_si_comm Mm (a := 52) (b := 53) _ _ (by omega)]
    exact sR0_w (sR0_w (sR0_m (sR0_c h.2.2.1.1 (s_no_3 w hw) _) (s_no_m 53 (by omega) (by omega) w (by omega)) _) (s_own w hw) _) s_win _
  · unfold kWadd mWadd
    exact sRD_k h.2.2.1.2.1 (fun i hi => by rw [z_si_other _ _ (by omega), z_si_other _ _ (by omega), z_si_other _ _ (by omega), z_si_other _ _ (by omega), z_si_other _ _ (by omega), z_si_other _ _ (by omega)]; exact ⟨rfl, rfl⟩) (fun i hi => by rw [z_si_other _ _ (by omega), z_si_other _ _ (by omega), z_si_other _ _ (by omega), z_si_other _ _ (by omega), z_si_other _ _ (by omega), z_si_other _ _ (by omega)]; exact ⟨rfl, rfl⟩)
  · unfold kWadd mWadd
    exact sRM_k h.2.2.1.2.2.1 (fun p hp => by rw [z_si_row _ _ _ (by omega), z_si_row _ _ _ (by omega), z_si_row _ _ _ (by omega)]) (by rw [z_si_row _ _ _ (by omega), z_si_row _ _ _ (by omega), z_si_row _ _ _ (by omega)]) (by rw [z_si_row _ _ _ (by omega), z_si_row _ _ _ (by omega), z_si_row _ _ _ (by omega)])
  · by_cases e : j = w
    · subst e
      rw [mTl_snoc, Nat.zero_add, hpre j (Nat.le_refl _), hsp]
      unfold kWadd
      rw [z_si_other _ _ (by omega), z_si_other _ _ (by omega), z_si_same]
      exact hend
    · rw [hpre (j + 1) (by omega)]
      unfold kWadd
      rw [z_si_other _ _ (by omega), z_si_other _ _ (by omega), z_si_other _ _ (by omega)]
      exact h.2.2.1.2.2.2.1 j (by omega)
  · unfold kWadd
    exact sRN_k h.2.2.1.2.2.2.2.1 (fun i hi => by rw [z_si_other _ _ (by omega), z_si_other _ _ (by omega), z_si_other _ _ (by omega)])
  · unfold kWadd mWadd
    exact sRS_k h.2.2.1.2.2.2.2.2 (Nat.le_refl b) rfl (by rw [z_si_other _ _ (by omega), z_si_other _ _ (by omega), z_si_other _ _ (by omega)]) (by rw [z_si_row _ _ _ (by omega), z_si_row _ _ _ (by omega), z_si_row _ _ _ (by omega)]) (fun i hi q => by rw [z_si_other _ _ (by omega), z_si_other _ _ (by omega), z_si_other _ _ (by omega)] at q; exact q)
  · unfold mWadd
    exact sV_si (sV_si (sV_si h.2.2.2 _ (by omega)) _ (by omega)) _ (by omega)
end
section
/-! SIM: process, order -/
theorem sI_process {n w b : Nat} {Mc Mm : zM} (h : sIM n w b Mc Mm) (hn : n < 8) {a p d q : Int32} (ha : 0 ≤ a ∧ a ≤ 2) (hd : 0 ≤ d ∧ d ≤ 60) : sIM (n + 1) w b (kProc n a p d q Mc) (mProc n a p d q Mm) := by
  obtain ⟨ea, ha3⟩ := kC_ok ha
  obtain ⟨ed, hd61⟩ := kR_ok (c := 60) (N := 60) (by decide) hd
  generalize a.toNatClampNeg = aa at ea ha3
  generalize d.toNatClampNeg = dd at ed hd61
  subst ea
  subst ed
  have fc : ∀ c k, c ≠ 9 + 4 * n → (c ≠ 0 ∨ k ≠ 5) → (kProc n (nI aa) p (nI dd) q Mc).1 c k = Mc.1 c k := fun c k h1 h2 => by
    unfold kProc kDef
    rw [z_si_other _ _ (by omega), z_si_other _ _ (by omega), z_si_other _ _ (by omega), z_si_other _ _ (by omega), z_si_other _ _ (by omega)]
  have ft : ∀ k, k ≠ 2 → k ≠ 3 → k ≠ 4 → k ≠ 5 → (kProc n (nI aa) p (nI dd) q Mc).1 (9 + 4 * n) k = Mc.1 (9 + 4 * n) k := fun k h2 h3 h4 h5 => by
    unfold kProc kDef
    rw [z_si_other _ _ (by omega), z_si_other _ _ (by omega), z_si_other _ _ (by omega), z_si_other _ _ (by omega), z_si_other _ _ (by omega)]
  have fm : ∀ c k, (c ≠ 51 ∨ k ≠ 5) → (k ≠ n ∨ (c ≠ 56 ∧ c ≠ 57 ∧ c ≠ 58 ∧ c ≠ 59 ∧ c ≠ 67 ∧ c ≠ 72)) → (mProc n (nI aa) p (nI dd) q Mm).1 c k = Mm.1 c k := fun c k h1 h2 => by
    unfold mProc
    rw [z_si_other _ _ (by omega), z_si_other _ _ (by omega), z_si_other _ _ (by omega), z_si_other _ _ (by omega), z_si_other _ _ (by omega), z_si_other _ _ (by omega), z_si_other _ _ (by omega)]
  obtain ⟨⟨⟨k1, k2, k3, k4, k5, k6, k7, k8, k9, k10⟩, kn⟩, ⟨⟨m1, m2, m3, m4, m5, m6, m7, m8, m9⟩, mn⟩, ⟨r0, rD, rM, rE, rN, rS⟩, v2, v3, v4, v5⟩ := h
  refine ⟨⟨⟨by omega, k2, ?_, ?_, fun z => ?_, fun j hj => ?_, fun j hj => ?_, fun j hj => ?_, fun j y hj hy => ?_, fun j hj => ?_⟩, fun j hj => ?_⟩, ⟨⟨by omega, m2, ?_, ?_, fun j hj => ?_, fun j hj => ?_, fun j hj => ?_, fun j y hj hy => ?_, fun j hj => ?_⟩, fun j hj => ?_⟩, ⟨?_, fun j hj => ?_, ?_, ?_, ?_, ?_⟩, fun j hj z => ?_, fun j hj => ?_, fun j hj => ?_, ?_⟩
  · unfold kProc; rw [z_si_same]
  · rw [fc _ _ (by omega) (by omega)]; exact k4
  · rw [fc _ _ (by omega) (by omega)]; exact k5 z
  · rw [fc _ _ (by omega) (by omega)]; exact k6 j hj
  · by_cases e : j = n
    · subst e
      refine ⟨aa, ha3, ?_⟩
      unfold kProc kDef
      rw [z_si_other _ _ (by omega), z_si_other _ _ (by omega), z_si_other _ _ (by omega), z_si_other _ _ (by omega), z_si_same]
    · rw [fc _ _ (by omega) (by omega)]; exact k7 j hj
  · rw [fc _ _ (by omega) (by omega)]; exact k8 j hj
  · rw [fc _ _ (by omega) (by omega), fc _ _ (by omega) (by omega)]; exact k9 j y hj hy
  · rw [fc _ _ (by omega) (by omega)]; exact k10 j hj
  · by_cases e : j = n
    · subst e; rw [ft _ (by omega) (by omega) (by omega) (by omega)]; exact kn j hj
    · rw [fc _ _ (by omega) (by omega)]; exact kn j hj
  · unfold mProc; rw [z_si_same]
  · rw [fm _ _ (by omega) (by omega)]; exact m4
  · rw [fm _ _ (by omega) (by omega)]; exact m5 j hj
  · rw [fm _ _ (by omega) (by omega)]; exact m6 j hj
  · by_cases e : j = n
    · subst e
      refine ⟨aa, ha3, ?_⟩
      unfold mProc
      rw [z_si_other _ _ (by omega), z_si_other _ _ (by omega), z_si_other _ _ (by omega), z_si_other _ _ (by omega), z_si_other _ _ (by omega), z_si_other _ _ (by omega), z_si_same]
    · rw [fm _ _ (by omega) (by omega)]; exact m7 j hj
  · rw [fm _ _ (by omega) (by omega), fm _ _ (by omega) (by omega)]; exact m8 j y hj hy
  · rw [fm _ _ (by omega) (by omega)]; exact m9 j hj
  · rw [fm _ _ (by omega) (by omega), fm _ _ (by omega) (by omega), fm _ _ (by omega) (by omega)]; exact mn j hj
  · unfold kProc kDef mProc
    exact sR0_w (sR0_m (sR0_m (sR0_w (sR0_w (sR0_w (sR0_w r0 (s_part n hn) _) (s_prio n hn) _) (s_per n hn) _) (s_lim n hn) _) (s_no_m 67 (by omega) (by omega) n (by omega)) _) (s_no_m 72 (by omega) (by omega) n (by omega)) _) s_cnt _
  · by_cases e : j = n
    · subst e
      rw [ft _ (by omega) (by omega) (by omega) (by omega), ft _ (by omega) (by omega) (by omega) (by omega)]
      have := (rD j hj).2 (Nat.le_refl _)
      refine ⟨fun _ => ?_, fun z => absurd z (by omega)⟩
      unfold mProc
      rw [z_si_other (c' := 67) _ _ (by omega), z_si_other (c' := 67) _ _ (by omega), z_si_same, z_si_other (c' := 72) _ _ (by omega), z_si_same]
      exact this
    · rw [fc _ _ (by omega) (by omega), fc _ _ (by omega) (by omega), fm _ _ (by omega) (by omega), fm _ _ (by omega) (by omega)]
      exact ⟨fun z => (rD j hj).1 (by omega), fun z => (rD j hj).2 (by omega)⟩
  · exact sRM_k rM (fun z hz => funext fun y => fc _ _ (by omega) (by omega)) (funext fun y => fm _ _ (by omega) (by omega)) (funext fun y => fm _ _ (by omega) (by omega))
  · exact sRE_k rE (funext fun y => fc _ _ (by omega) (by omega)) (funext fun y => fm _ _ (by omega) (by omega))
  · refine sRN_k rN (fun j hj => ?_)
    by_cases e : j = n
    · subst e; exact ft _ (by omega) (by omega) (by omega) (by omega)
    · exact fc _ _ (by omega) (by omega)
  · exact sRS_k rS (Nat.le_refl b) rfl (fm _ _ (by omega) (by omega)) (funext fun y => fm _ _ (by omega) (by omega)) (fun j hj z => by rw [fm _ _ (by omega) (by omega)] at z; exact z)
  · rw [fm _ _ (by omega) (by omega)] at z
    rw [fm _ _ (by omega) (by omega), fm _ _ (by omega) (by omega)]
    have := v2 j hj z
    refine ⟨this.1, this.2.1, fun hjn => ?_⟩
    by_cases e : j = n
    · subst e
      unfold mProc
      rw [z_si_other _ _ (by omega), z_si_other _ _ (by omega), z_si_same]
    · rw [fm _ _ (by omega) (by omega)]
      exact this.2.2 (by omega)
  · by_cases e : j = n
    · subst e
      refine ⟨dd, by omega, ?_⟩
      unfold mProc
      rw [z_si_other _ _ (by omega), z_si_other _ _ (by omega), z_si_other _ _ (by omega), z_si_other _ _ (by omega), z_si_same]
    · rw [fm _ _ (by omega) (by omega)]; exact v3 j hj
  · exact sWk_k (v4 j hj) (fm _ _ (by omega) (by omega)) (fm _ _ (by omega) (by omega)) (fm _ _ (by omega) (by omega)) (funext fun y => fm _ _ (by omega) (by omega)) (funext fun y => fm _ _ (by omega) (by omega))
  · exact sW5_k v5 (funext fun y => fm _ _ (by omega) (by omega)) (funext fun y => fm _ _ (by omega) (by omega)) (funext fun y => fm _ _ (by omega) (by omega))
theorem sI_order {n w b : Nat} {Mc Mm : zM} (h : sIM n w b Mc Mm) {i : Nat} (hi : i < 8) (hz : mPs Mm i < 8) {o x : Int32} (ho : kIsOrd o x) : sIM n w b (kGadd i (mPs Mm i) o x Mc) (mOadd i (mPs Mm i) o x Mm) := by
  have hps := mPs_eq h.2.1 hi
  have hnl : ∀ j, j < 8 → ¬ Mm.1 63 j = 0 → mAt Mm j < mPs Mm j := fun j hj q => mN_lt h.2.1 hj q
  generalize hzz : mPs Mm i = z at hz hps
  have hval : (o = 0 ∧ ∃ v, 1 ≤ v ∧ v ≤ 20 ∧ x = nI v) ∨ (¬ o = 0 ∧ ∃ v, v < 4 ∧ x = nI v) := by
    rcases ho with ⟨e, h1, h2⟩ | ⟨e, h1, h2⟩
    · obtain ⟨ex, hx⟩ := kR_ok (a := x) (c := 20) (N := 20) (by decide) ⟨Int32.le_trans (by decide) h1, h2⟩
      refine Or.inl ⟨e, x.toNatClampNeg, ?_, by omega, ex⟩
      rw [ex, show (1 : Int32) = nI 1 from rfl, nI_leI (by omega) (by omega)] at h1
      exact h1
    · obtain ⟨ex, hx⟩ := kQ_ok (a := x) ⟨h1, h2⟩
      refine Or.inr ⟨fun q => ?_, x.toNatClampNeg, hx, ex⟩
      rcases e with e | e | e | e <;> (rw [e] at q; exact absurd q (by decide))
  have fc : ∀ c k, (c ≠ 10 + 4 * i ∨ k ≠ 2) → ((c ≠ 11 + 4 * i ∧ c ≠ 12 + 4 * i) ∨ k ≠ z) → (kGadd i z o x Mc).1 c k = Mc.1 c k := fun c k h1 h2 => by
    unfold kGadd
    rw [z_si_other _ _ (by omega), z_si_other _ _ (by omega), z_si_other _ _ (by omega)]
  have fm : ∀ c k, (c ≠ 60 ∨ k ≠ i) → ((c ≠ 61 ∧ c ≠ 62) ∨ k ≠ 8 * i + z) → (mOadd i z o x Mm).1 c k = Mm.1 c k := fun c k h1 h2 => by
    unfold mOadd
    rw [z_si_other _ _ (by omega), z_si_other _ _ (by omega), z_si_other _ _ (by omega)]
  have c11 : (kGadd i z o x Mc).1 (11 + 4 * i) z = o := by unfold kGadd; rw [z_si_other _ _ (by omega), z_si_other _ _ (by omega), z_si_same]
  have c12 : (kGadd i z o x Mc).1 (12 + 4 * i) z = x := by unfold kGadd; rw [z_si_other _ _ (by omega), z_si_same]
  have c10 : (kGadd i z o x Mc).1 (10 + 4 * i) 2 = nI (z + 1) := by unfold kGadd; rw [z_si_same]
  have m61 : (mOadd i z o x Mm).1 61 (8 * i + z) = o := by unfold mOadd; rw [z_si_other _ _ (by omega), z_si_other _ _ (by omega), z_si_same]
  have m62 : (mOadd i z o x Mm).1 62 (8 * i + z) = x := by unfold mOadd; rw [z_si_other _ _ (by omega), z_si_same]
  have m60 : (mOadd i z o x Mm).1 60 i = nI (z + 1) := by unfold mOadd; rw [z_si_same]
  obtain ⟨⟨⟨k1, k2, k3, k4, k5, k6, k7, k8, k9, k10⟩, kn⟩, ⟨⟨m1, m2, m3, m4, m5, m6, m7, m8, m9⟩, mn⟩, ⟨r0, rD, rM, rE, rN, rS⟩, v2, v3, v4, v5⟩ := h
  refine ⟨⟨⟨k1, k2, ?_, ?_, fun y => ?_, fun j hj => ?_, fun j hj => ?_, fun j hj => ?_, fun j y hj hy => ?_, fun j hj => ?_⟩, fun j hj => ?_⟩, ⟨⟨m1, m2, ?_, ?_, fun j hj => ?_, fun j hj => ?_, fun j hj => ?_, fun j y hj hy => ?_, fun j hj => ?_⟩, fun j hj => ?_⟩, ⟨?_, ?_, ?_, ?_, ?_, ?_⟩, fun j hj y => ?_, fun j hj => ?_, fun j hj => ?_, fun j hj y hy => ?_⟩
  · rw [fc _ _ (by omega) (by omega)]; exact k3
  · rw [fc _ _ (by omega) (by omega)]; exact k4
  · rw [fc _ _ (by omega) (by omega)]; exact k5 y
  · rw [fc _ _ (by omega) (by omega)]; exact k6 j hj
  · rw [fc _ _ (by omega) (by omega)]; exact k7 j hj
  · by_cases e : j = i
    · subst e; exact ⟨z + 1, by omega, c10⟩
    · rw [fc _ _ (by omega) (by omega)]; exact k8 j hj
  · by_cases e : j = i ∧ y = z
    · obtain ⟨e1, e2⟩ := e
      subst e1; subst e2
      rw [c11, c12]
      rcases hval with q | q
      · exact Or.inl q.1
      · exact Or.inr q.2
    · rw [fc _ _ (by omega) (by omega), fc _ _ (by omega) (by omega)]; exact k9 j y hj hy
  · rw [fc _ _ (by omega) (by omega)]; exact k10 j hj
  · rw [fc _ _ (by omega) (by omega)]; exact kn j hj
  · rw [fm _ _ (by omega) (by omega)]; exact m3
  · rw [fm _ _ (by omega) (by omega)]; exact m4
  · rw [fm _ _ (by omega) (by omega)]; exact m5 j hj
  · rw [fm _ _ (by omega) (by omega)]; exact m6 j hj
  · rw [fm _ _ (by omega) (by omega)]; exact m7 j hj
  · by_cases e : j = i ∧ y = z
    · obtain ⟨e1, e2⟩ := e
      subst e1; subst e2
      rw [m61, m62]
      rcases hval with q | q
      · exact Or.inl q.1
      · exact Or.inr q.2
    · rw [fm _ _ (by omega) (by omega), fm _ _ (by omega) (by omega)]; exact m8 j y hj hy
  · rw [fm _ _ (by omega) (by omega)]; exact m9 j hj
  · rw [fm 64 _ (by omega) (by omega), fm 63 _ (by omega) (by omega)]
    by_cases e : j = i
    · subst e
      obtain ⟨x1, z1, a1, a2, a3, a4, a5⟩ := mn j hj
      rw [m60]
      refine ⟨x1, z + 1, a1, by omega, a3, rfl, fun q => ?_⟩
      have := a5 q
      rw [hps, nI_eq (by omega) (by omega)] at a4
      omega
    · rw [fm _ _ (by omega) (by omega)]; exact mn j hj
  · unfold kGadd mOadd
    exact sR0_w (sR0_w (sR0_w r0 (s_ord i hi z hz) _) (s_num i hi z hz) _) (s_siz i hi) _
  · exact sRD_k rD (fun j hj => ⟨fc _ _ (by omega) (by omega), fc _ _ (by omega) (by omega)⟩) (fun j hj => ⟨fm _ _ (by omega) (by omega), fm _ _ (by omega) (by omega)⟩)
  · exact sRM_k rM (fun q hq => funext fun y => fc _ _ (by omega) (by omega)) (funext fun y => fm _ _ (by omega) (by omega)) (funext fun y => fm _ _ (by omega) (by omega))
  · exact sRE_k rE (funext fun y => fc _ _ (by omega) (by omega)) (funext fun y => fm _ _ (by omega) (by omega))
  · exact sRN_k rN (fun j hj => fc _ _ (by omega) (by omega))
  · exact sRS_k rS (Nat.le_refl b) rfl (fm _ _ (by omega) (by omega)) (funext fun y => fm _ _ (by omega) (by omega)) (fun j hj q => by rw [fm _ _ (by omega) (by omega)] at q; exact q)
  · rw [fm _ _ (by omega) (by omega)] at y
    rw [fm _ _ (by omega) (by omega), fm _ _ (by omega) (by omega), fm _ _ (by omega) (by omega)]
    exact v2 j hj y
  · rw [fm _ _ (by omega) (by omega)]; exact v3 j hj
  · intro q1 q2
    have eat : mAt (mOadd i z o x Mm) j = mAt Mm j := by unfold mAt; rw [fm _ _ (by omega) (by omega)]
    rw [fm _ _ (by omega) (by omega)] at q1
    have hlt := hnl j hj q1
    have hne : ¬ (j = i ∧ mAt Mm j = z) := fun q => by rw [q.2, q.1, hzz] at hlt; omega
    obtain ⟨x1, z1, a1, a2, a3, a4, a5⟩ := mn j hj
    have hat8 : mAt Mm j < 8 := by unfold mAt; rw [a3, nI_clamp (by omega)]; exact a1
    unfold mOrd at q2
    rw [eat, fm _ _ (by omega) (by omega)] at q2
    unfold mNum
    rw [eat, fm _ _ (by omega) (by omega), fm _ _ (by omega) (by omega)]
    exact v4 j hj q1 q2
  · intro q
    have hpz : j ≠ i → mPs (mOadd i z o x Mm) j = mPs Mm j := fun e => by unfold mPs; rw [fm _ _ (by omega) (by omega)]
    by_cases e : j = i
    · subst e
      have e2 : mPs (mOadd j z o x Mm) j = z + 1 := by unfold mPs; rw [m60, nI_clamp (by omega)]
      rw [e2] at hy
      by_cases ey : y = z
      · subst ey
        rw [m61] at q
        rw [m62]
        rcases hval with ⟨_, v, b1, b2, b3⟩ | ⟨h0, _⟩
        · exact ⟨v, b1, b2, b3⟩
        · exact absurd q h0
      · rw [fm _ _ (by omega) (by omega)] at q
        rw [fm _ _ (by omega) (by omega)]
        exact v5 j hj y (by rw [hzz]; omega) q
    · rw [hpz e] at hy
      obtain ⟨x1, z1, a1, a2, a3, a4, a5⟩ := mn j hj
      have hp8 : mPs Mm j ≤ 8 := by unfold mPs; rw [a4, nI_clamp (by omega)]; exact a2
      rw [fm _ _ (by omega) (by omega)] at q
      rw [fm _ _ (by omega) (by omega)]
      exact v5 j hj y hy q
end
