section
-- ===== PART A: goes FIRST, ahead of the names: the tables' words, and 'selects' of the private methods out of them =====
/-- a private method of a class that the tables say can be made, by its rows of tables_1 -/
def lw_okq (q : MethodName × Nat) : Prop := (q.1.cls ≠ "java/lang/invoke/MethodHandle" ∧ q.1.cls ≠ "java/lang/invoke/VarHandle") ∧ Cond.instantiable q.1.cls q.2 ∈ tables_1 ∧ Cond.privateMethod q.1 ∈ tables_1 ∧ Cond.instanceMethod q.1 ∈ tables_1
theorem lw_p0 : lw_okq (⟨"WindowPlan", "allOff", "()Z"⟩, 10) := ⟨⟨by decide +kernel, by decide +kernel⟩, List.mem_of_getElem? (i := 10) (by decide +kernel), List.mem_of_getElem? (i := 201) (by decide +kernel), List.mem_of_getElem? (i := 202) (by decide +kernel)⟩
theorem lw_p1 : lw_okq (⟨"WindowPlan", "isProcess", "(I)Z"⟩, 10) := ⟨⟨by decide +kernel, by decide +kernel⟩, List.mem_of_getElem? (i := 10) (by decide +kernel), List.mem_of_getElem? (i := 221) (by decide +kernel), List.mem_of_getElem? (i := 222) (by decide +kernel)⟩
theorem lw_p2 : lw_okq (⟨"WindowPlan", "isOn", "(I)Z"⟩, 10) := ⟨⟨by decide +kernel, by decide +kernel⟩, List.mem_of_getElem? (i := 10) (by decide +kernel), List.mem_of_getElem? (i := 240) (by decide +kernel), List.mem_of_getElem? (i := 241) (by decide +kernel)⟩
theorem lw_p3 : lw_okq (⟨"WindowPlan", "restAll", "(I)V"⟩, 10) := ⟨⟨by decide +kernel, by decide +kernel⟩, List.mem_of_getElem? (i := 10) (by decide +kernel), List.mem_of_getElem? (i := 244) (by decide +kernel), List.mem_of_getElem? (i := 245) (by decide +kernel)⟩
theorem lw_p4 : lw_okq (⟨"WindowPlan", "newTurn", "()J"⟩, 10) := ⟨⟨by decide +kernel, by decide +kernel⟩, List.mem_of_getElem? (i := 10) (by decide +kernel), List.mem_of_getElem? (i := 256) (by decide +kernel), List.mem_of_getElem? (i := 257) (by decide +kernel)⟩
theorem lw_p5 : lw_okq (⟨"WindowPlan", "tick", "()V"⟩, 10) := ⟨⟨by decide +kernel, by decide +kernel⟩, List.mem_of_getElem? (i := 10) (by decide +kernel), List.mem_of_getElem? (i := 277) (by decide +kernel), List.mem_of_getElem? (i := 278) (by decide +kernel)⟩
theorem lw_p6 : lw_okq (⟨"WindowPlan", "releaseDue", "()V"⟩, 10) := ⟨⟨by decide +kernel, by decide +kernel⟩, List.mem_of_getElem? (i := 10) (by decide +kernel), List.mem_of_getElem? (i := 281) (by decide +kernel), List.mem_of_getElem? (i := 282) (by decide +kernel)⟩
theorem lw_p7 : lw_okq (⟨"WindowPlan", "missDue", "()V"⟩, 10) := ⟨⟨by decide +kernel, by decide +kernel⟩, List.mem_of_getElem? (i := 10) (by decide +kernel), List.mem_of_getElem? (i := 285) (by decide +kernel), List.mem_of_getElem? (i := 286) (by decide +kernel)⟩
theorem lw_p8 : lw_okq (⟨"WindowPlan", "miss", "(LWindowPlan$Task;)V"⟩, 10) := ⟨⟨by decide +kernel, by decide +kernel⟩, List.mem_of_getElem? (i := 10) (by decide +kernel), List.mem_of_getElem? (i := 289) (by decide +kernel), List.mem_of_getElem? (i := 290) (by decide +kernel)⟩
theorem lw_p9 : lw_okq (⟨"WindowPlan", "giveProcessor", "()V"⟩, 10) := ⟨⟨by decide +kernel, by decide +kernel⟩, List.mem_of_getElem? (i := 10) (by decide +kernel), List.mem_of_getElem? (i := 294) (by decide +kernel), List.mem_of_getElem? (i := 295) (by decide +kernel)⟩
theorem lw_p10 : lw_okq (⟨"WindowPlan$WindowRow", "offsetAt", "(I)I"⟩, 3) := ⟨⟨by decide +kernel, by decide +kernel⟩, List.mem_of_getElem? (i := 18) (by decide +kernel), List.mem_of_getElem? (i := 302) (by decide +kernel), List.mem_of_getElem? (i := 303) (by decide +kernel)⟩
theorem lw_p11 : lw_okq (⟨"WindowPlan$WindowRow", "indexOf", "(I)I"⟩, 3) := ⟨⟨by decide +kernel, by decide +kernel⟩, List.mem_of_getElem? (i := 18) (by decide +kernel), List.mem_of_getElem? (i := 309) (by decide +kernel), List.mem_of_getElem? (i := 310) (by decide +kernel)⟩
theorem lw_p12 : lw_okq (⟨"WindowPlan", "firstReady", "(I)LWindowPlan$Task;"⟩, 10) := ⟨⟨by decide +kernel, by decide +kernel⟩, List.mem_of_getElem? (i := 10) (by decide +kernel), List.mem_of_getElem? (i := 313) (by decide +kernel), List.mem_of_getElem? (i := 314) (by decide +kernel)⟩
theorem lw_p13 : lw_okq (⟨"WindowPlan", "doOrder", "(LWindowPlan$Task;)Z"⟩, 10) := ⟨⟨by decide +kernel, by decide +kernel⟩, List.mem_of_getElem? (i := 10) (by decide +kernel), List.mem_of_getElem? (i := 321) (by decide +kernel), List.mem_of_getElem? (i := 322) (by decide +kernel)⟩
theorem lw_p14 : lw_okq (⟨"WindowPlan", "send", "(LWindowPlan$Task;I)V"⟩, 10) := ⟨⟨by decide +kernel, by decide +kernel⟩, List.mem_of_getElem? (i := 10) (by decide +kernel), List.mem_of_getElem? (i := 333) (by decide +kernel), List.mem_of_getElem? (i := 334) (by decide +kernel)⟩
theorem lw_p15 : lw_okq (⟨"WindowPlan", "firstWaiting", "(II)LWindowPlan$Task;"⟩, 10) := ⟨⟨by decide +kernel, by decide +kernel⟩, List.mem_of_getElem? (i := 10) (by decide +kernel), List.mem_of_getElem? (i := 337) (by decide +kernel), List.mem_of_getElem? (i := 338) (by decide +kernel)⟩
def lw_privs_1 : List (MethodName × Nat) := [(⟨"WindowPlan", "allOff", "()Z"⟩, 10), (⟨"WindowPlan", "isProcess", "(I)Z"⟩, 10), (⟨"WindowPlan", "isOn", "(I)Z"⟩, 10), (⟨"WindowPlan", "restAll", "(I)V"⟩, 10), (⟨"WindowPlan", "newTurn", "()J"⟩, 10), (⟨"WindowPlan", "tick", "()V"⟩, 10), (⟨"WindowPlan", "releaseDue", "()V"⟩, 10), (⟨"WindowPlan", "missDue", "()V"⟩, 10), (⟨"WindowPlan", "miss", "(LWindowPlan$Task;)V"⟩, 10), (⟨"WindowPlan", "giveProcessor", "()V"⟩, 10), (⟨"WindowPlan$WindowRow", "offsetAt", "(I)I"⟩, 3), (⟨"WindowPlan$WindowRow", "indexOf", "(I)I"⟩, 3), (⟨"WindowPlan", "firstReady", "(I)LWindowPlan$Task;"⟩, 10), (⟨"WindowPlan", "doOrder", "(LWindowPlan$Task;)Z"⟩, 10), (⟨"WindowPlan", "send", "(LWindowPlan$Task;I)V"⟩, 10), (⟨"WindowPlan", "firstWaiting", "(II)LWindowPlan$Task;"⟩, 10)]
theorem lw_r1 : ∀ q ∈ lw_privs_1, lw_okq q := List.forall_mem_cons.mpr ⟨lw_p0, List.forall_mem_cons.mpr ⟨lw_p1, List.forall_mem_cons.mpr ⟨lw_p2, List.forall_mem_cons.mpr ⟨lw_p3, List.forall_mem_cons.mpr ⟨lw_p4, List.forall_mem_cons.mpr ⟨lw_p5, List.forall_mem_cons.mpr ⟨lw_p6, List.forall_mem_cons.mpr ⟨lw_p7, List.forall_mem_cons.mpr ⟨lw_p8, List.forall_mem_cons.mpr ⟨lw_p9, List.forall_mem_cons.mpr ⟨lw_p10, List.forall_mem_cons.mpr ⟨lw_p11, List.forall_mem_cons.mpr ⟨lw_p12, List.forall_mem_cons.mpr ⟨lw_p13, List.forall_mem_cons.mpr ⟨lw_p14, List.forall_mem_cons.mpr ⟨lw_p15, fun _ h => absurd h List.not_mem_nil⟩⟩⟩⟩⟩⟩⟩⟩⟩⟩⟩⟩⟩⟩⟩⟩
theorem lw_p16 : lw_okq (⟨"WindowPlan", "take", "(LWindowPlan$Task;I)V"⟩, 10) := ⟨⟨by decide +kernel, by decide +kernel⟩, List.mem_of_getElem? (i := 10) (by decide +kernel), List.mem_of_getElem? (i := 351) (by decide +kernel), List.mem_of_getElem? (i := 352) (by decide +kernel)⟩
theorem lw_p17 : lw_okq (⟨"WindowPlan", "up", "(LWindowPlan$Task;I)V"⟩, 10) := ⟨⟨by decide +kernel, by decide +kernel⟩, List.mem_of_getElem? (i := 10) (by decide +kernel), List.mem_of_getElem? (i := 363) (by decide +kernel), List.mem_of_getElem? (i := 364) (by decide +kernel)⟩
theorem lw_p18 : lw_okq (⟨"WindowPlan", "down", "(LWindowPlan$Task;I)V"⟩, 10) := ⟨⟨by decide +kernel, by decide +kernel⟩, List.mem_of_getElem? (i := 10) (by decide +kernel), List.mem_of_getElem? (i := 367) (by decide +kernel), List.mem_of_getElem? (i := 368) (by decide +kernel)⟩
theorem lw_p19 : lw_okq (⟨"WindowPlanModel", "allOff", "()Z"⟩, 31) := ⟨⟨by decide +kernel, by decide +kernel⟩, List.mem_of_getElem? (i := 399) (by decide +kernel), List.mem_of_getElem? (i := 506) (by decide +kernel), List.mem_of_getElem? (i := 507) (by decide +kernel)⟩
theorem lw_p20 : lw_okq (⟨"WindowPlanModel", "rest", "(I)V"⟩, 31) := ⟨⟨by decide +kernel, by decide +kernel⟩, List.mem_of_getElem? (i := 399) (by decide +kernel), List.mem_of_getElem? (i := 526) (by decide +kernel), List.mem_of_getElem? (i := 527) (by decide +kernel)⟩
theorem lw_p21 : lw_okq (⟨"WindowPlanModel", "release", "(I)V"⟩, 31) := ⟨⟨by decide +kernel, by decide +kernel⟩, List.mem_of_getElem? (i := 399) (by decide +kernel), List.mem_of_getElem? (i := 534) (by decide +kernel), List.mem_of_getElem? (i := 535) (by decide +kernel)⟩
theorem lw_p22 : lw_okq (⟨"WindowPlanModel", "become", "(II)V"⟩, 31) := ⟨⟨by decide +kernel, by decide +kernel⟩, List.mem_of_getElem? (i := 399) (by decide +kernel), List.mem_of_getElem? (i := 538) (by decide +kernel), List.mem_of_getElem? (i := 539) (by decide +kernel)⟩
theorem lw_p23 : lw_okq (⟨"WindowPlanModel", "releases", "()V"⟩, 31) := ⟨⟨by decide +kernel, by decide +kernel⟩, List.mem_of_getElem? (i := 399) (by decide +kernel), List.mem_of_getElem? (i := 546) (by decide +kernel), List.mem_of_getElem? (i := 547) (by decide +kernel)⟩
theorem lw_p24 : lw_okq (⟨"WindowPlanModel", "monitor", "()V"⟩, 31) := ⟨⟨by decide +kernel, by decide +kernel⟩, List.mem_of_getElem? (i := 399) (by decide +kernel), List.mem_of_getElem? (i := 550) (by decide +kernel), List.mem_of_getElem? (i := 551) (by decide +kernel)⟩
theorem lw_p25 : lw_okq (⟨"WindowPlanModel", "holder", "(Z)I"⟩, 31) := ⟨⟨by decide +kernel, by decide +kernel⟩, List.mem_of_getElem? (i := 399) (by decide +kernel), List.mem_of_getElem? (i := 554) (by decide +kernel), List.mem_of_getElem? (i := 555) (by decide +kernel)⟩
theorem lw_p26 : lw_okq (⟨"WindowPlanModel", "first", "(II)I"⟩, 31) := ⟨⟨by decide +kernel, by decide +kernel⟩, List.mem_of_getElem? (i := 399) (by decide +kernel), List.mem_of_getElem? (i := 558) (by decide +kernel), List.mem_of_getElem? (i := 559) (by decide +kernel)⟩
theorem lw_p27 : lw_okq (⟨"WindowPlanModel", "one", "(I)Z"⟩, 31) := ⟨⟨by decide +kernel, by decide +kernel⟩, List.mem_of_getElem? (i := 399) (by decide +kernel), List.mem_of_getElem? (i := 562) (by decide +kernel), List.mem_of_getElem? (i := 563) (by decide +kernel)⟩
theorem lw_p28 : lw_okq (⟨"WindowPlanModel", "advance", "(I)V"⟩, 31) := ⟨⟨by decide +kernel, by decide +kernel⟩, List.mem_of_getElem? (i := 399) (by decide +kernel), List.mem_of_getElem? (i := 566) (by decide +kernel), List.mem_of_getElem? (i := 567) (by decide +kernel)⟩
theorem lw_p29 : lw_okq (⟨"WindowPlanModel", "send", "(II)V"⟩, 31) := ⟨⟨by decide +kernel, by decide +kernel⟩, List.mem_of_getElem? (i := 399) (by decide +kernel), List.mem_of_getElem? (i := 570) (by decide +kernel), List.mem_of_getElem? (i := 571) (by decide +kernel)⟩
theorem lw_p30 : lw_okq (⟨"WindowPlanModel", "wake", "(I)V"⟩, 31) := ⟨⟨by decide +kernel, by decide +kernel⟩, List.mem_of_getElem? (i := 399) (by decide +kernel), List.mem_of_getElem? (i := 574) (by decide +kernel), List.mem_of_getElem? (i := 575) (by decide +kernel)⟩
theorem lw_p31 : lw_okq (⟨"WindowPlanModel", "take", "(II)V"⟩, 31) := ⟨⟨by decide +kernel, by decide +kernel⟩, List.mem_of_getElem? (i := 399) (by decide +kernel), List.mem_of_getElem? (i := 578) (by decide +kernel), List.mem_of_getElem? (i := 579) (by decide +kernel)⟩
def lw_privs_2 : List (MethodName × Nat) := [(⟨"WindowPlan", "take", "(LWindowPlan$Task;I)V"⟩, 10), (⟨"WindowPlan", "up", "(LWindowPlan$Task;I)V"⟩, 10), (⟨"WindowPlan", "down", "(LWindowPlan$Task;I)V"⟩, 10), (⟨"WindowPlanModel", "allOff", "()Z"⟩, 31), (⟨"WindowPlanModel", "rest", "(I)V"⟩, 31), (⟨"WindowPlanModel", "release", "(I)V"⟩, 31), (⟨"WindowPlanModel", "become", "(II)V"⟩, 31), (⟨"WindowPlanModel", "releases", "()V"⟩, 31), (⟨"WindowPlanModel", "monitor", "()V"⟩, 31), (⟨"WindowPlanModel", "holder", "(Z)I"⟩, 31), (⟨"WindowPlanModel", "first", "(II)I"⟩, 31), (⟨"WindowPlanModel", "one", "(I)Z"⟩, 31), (⟨"WindowPlanModel", "advance", "(I)V"⟩, 31), (⟨"WindowPlanModel", "send", "(II)V"⟩, 31), (⟨"WindowPlanModel", "wake", "(I)V"⟩, 31), (⟨"WindowPlanModel", "take", "(II)V"⟩, 31)]
theorem lw_r2 : ∀ q ∈ lw_privs_2, lw_okq q := List.forall_mem_cons.mpr ⟨lw_p16, List.forall_mem_cons.mpr ⟨lw_p17, List.forall_mem_cons.mpr ⟨lw_p18, List.forall_mem_cons.mpr ⟨lw_p19, List.forall_mem_cons.mpr ⟨lw_p20, List.forall_mem_cons.mpr ⟨lw_p21, List.forall_mem_cons.mpr ⟨lw_p22, List.forall_mem_cons.mpr ⟨lw_p23, List.forall_mem_cons.mpr ⟨lw_p24, List.forall_mem_cons.mpr ⟨lw_p25, List.forall_mem_cons.mpr ⟨lw_p26, List.forall_mem_cons.mpr ⟨lw_p27, List.forall_mem_cons.mpr ⟨lw_p28, List.forall_mem_cons.mpr ⟨lw_p29, List.forall_mem_cons.mpr ⟨lw_p30, List.forall_mem_cons.mpr ⟨lw_p31, fun _ h => absurd h List.not_mem_nil⟩⟩⟩⟩⟩⟩⟩⟩⟩⟩⟩⟩⟩⟩⟩⟩
theorem lw_p32 : lw_okq (⟨"WindowPlanModel", "up", "(II)V"⟩, 31) := ⟨⟨by decide +kernel, by decide +kernel⟩, List.mem_of_getElem? (i := 399) (by decide +kernel), List.mem_of_getElem? (i := 582) (by decide +kernel), List.mem_of_getElem? (i := 583) (by decide +kernel)⟩
theorem lw_p33 : lw_okq (⟨"WindowPlanModel", "down", "(II)V"⟩, 31) := ⟨⟨by decide +kernel, by decide +kernel⟩, List.mem_of_getElem? (i := 399) (by decide +kernel), List.mem_of_getElem? (i := 586) (by decide +kernel), List.mem_of_getElem? (i := 587) (by decide +kernel)⟩
def lw_privs_3 : List (MethodName × Nat) := [(⟨"WindowPlanModel", "up", "(II)V"⟩, 31), (⟨"WindowPlanModel", "down", "(II)V"⟩, 31)]
theorem lw_r3 : ∀ q ∈ lw_privs_3, lw_okq q := List.forall_mem_cons.mpr ⟨lw_p32, List.forall_mem_cons.mpr ⟨lw_p33, fun _ h => absurd h List.not_mem_nil⟩⟩
def lw_privs : List (MethodName × Nat) := lw_privs_1 ++ (lw_privs_2 ++ (lw_privs_3))
def lw_tbl : List Cond := k2_sels lw_privs ++ tables_1
theorem lw_privs_ok : ∀ q ∈ lw_privs, lw_okq q := by
  show ∀ q ∈ lw_privs_1 ++ (lw_privs_2 ++ (lw_privs_3)), lw_okq q
  exact List.forall_mem_append.mpr ⟨lw_r1, List.forall_mem_append.mpr ⟨lw_r2, lw_r3⟩⟩
end
section
/-! THE LAYER: a world whose shape is fixed, as a numbered memory. Cell number c lies at the address ad c; what it is, the list E says; its numbers stand in M. -/
abbrev zA : Type := Int32 ⊕ (Int64 ⊕ Option Nat)
abbrev zI (x : Int32) : zA := .inl x
abbrev zJ (x : Int64) : zA := .inr (.inl x)
abbrev zR (c : Nat) : zA := .inr (.inr (some c))
abbrev zN : zA := .inr (.inr none)
abbrev zM : Type := (Nat → Nat → Int32) × (Nat → Nat → Int64)
abbrev zK : Type := Unit ⊕ (Unit ⊕ Option Nat)
abbrev zC : Type := (Nat × List zK) ⊕ ((Nat × Nat) ⊕ (Nat × List (Option Nat)))
abbrev ki : zK := .inl ()
abbrev kj : zK := .inr (.inl ())
abbrev kr (c : Nat) : zK := .inr (.inr (some c))
def z_v (ad : Nat → Nat) : zA → Value
  | .inl x => .int x
  | .inr (.inl x) => .long x
  | .inr (.inr none) => .null
  | .inr (.inr (some r)) => .ref (ad r)
def z_two : zA → Bool
  | .inr (.inl _) => true
  | _ => false
theorem z_cat (ad : Nat → Nat) (v : zA) : ((z_v ad v).category == 2) = z_two v := by
  rcases v with x | x | _ | r <;> rfl
def z_f (ad : Nat → Nat) (M : zM) (c k : Nat) : zK → Value
  | .inl _ => .int (M.1 c k)
  | .inr (.inl _) => .long (M.2 c k)
  | .inr (.inr none) => .null
  | .inr (.inr (some r)) => .ref (ad r)
def z_fa (M : zM) (c k : Nat) : zK → zA
  | .inl _ => .inl (M.1 c k)
  | .inr (.inl _) => .inr (.inl (M.2 c k))
  | .inr (.inr r) => .inr (.inr r)
theorem z_vfa (ad : Nat → Nat) (M : zM) (c k : Nat) (f : zK) : z_f ad M c k f = z_v ad (z_fa M c k f) := by
  rcases f with _ | _ | _ | r <;> rfl
def z_fs (ad : Nat → Nat) (M : zM) (c : Nat) : Nat → List zK → List Value
  | _, [] => []
  | k, f :: fs => z_f ad M c k f :: z_fs ad M c (k + 1) fs
theorem z_fs_get (ad : Nat → Nat) (M : zM) (c : Nat) : ∀ (fs : List zK) (k j : Nat), (z_fs ad M c k fs)[j]? = (fs[j]?).map (z_f ad M c (k + j))
  | [], k, j => by simp [z_fs]
  | f :: fs, k, 0 => by simp [z_fs]
  | f :: fs, k, j + 1 => by
    have h := z_fs_get ad M c fs (k + 1) j
    rw [show k + (j + 1) = k + 1 + j by omega]
    simpa [z_fs] using h
theorem z_fs_len (ad : Nat → Nat) (M : zM) (c : Nat) : ∀ (fs : List zK) (k : Nat), (z_fs ad M c k fs).length = fs.length
  | [], k => by simp [z_fs]
  | f :: fs, k => by simp [z_fs, z_fs_len ad M c fs (k + 1)]
def z_si (M : zM) (c k : Nat) (x : Int32) : zM := (fun c' k' => if c' = c ∧ k' = k then x else M.1 c' k', M.2)
def z_sj (M : zM) (c k : Nat) (x : Int64) : zM := (M.1, fun c' k' => if c' = c ∧ k' = k then x else M.2 c' k')
theorem z_si_same (M : zM) (c k : Nat) (x : Int32) : (z_si M c k x).1 c k = x := by simp [z_si]
theorem z_si_other (M : zM) {c k c' k' : Nat} (x : Int32) (h : ¬ (c' = c ∧ k' = k)) : (z_si M c k x).1 c' k' = M.1 c' k' := by simp [z_si, h]
theorem z_si_row (M : zM) {c c' : Nat} (k : Nat) (x : Int32) (h : c' ≠ c) : (z_si M c k x).1 c' = M.1 c' := by funext k'; simp [z_si, h]
theorem z_si_2 (M : zM) (c k : Nat) (x : Int32) : (z_si M c k x).2 = M.2 := rfl
theorem z_sj_1 (M : zM) (c k : Nat) (x : Int64) : (z_sj M c k x).1 = M.1 := rfl
theorem z_sj_same (M : zM) (c k : Nat) (x : Int64) : (z_sj M c k x).2 c k = x := by simp [z_sj]
theorem z_sj_other (M : zM) {c k c' k' : Nat} (x : Int64) (h : ¬ (c' = c ∧ k' = k)) : (z_sj M c k x).2 c' k' = M.2 c' k' := by simp [z_sj, h]
theorem z_sj_row (M : zM) {c c' : Nat} (k : Nat) (x : Int64) (h : c' ≠ c) : (z_sj M c k x).2 c' = M.2 c' := by funext k'; simp [z_sj, h]
theorem z_fs_si (ad : Nat → Nat) (M : zM) (c j : Nat) (x : Int32) {fs : List zK} {u : Unit} (h : fs[j]? = some (.inl u)) : (z_fs ad M c 0 fs).set j (.int x) = z_fs ad (z_si M c j x) c 0 fs := by
  apply List.ext_getElem?
  intro i
  rw [List.getElem?_set, z_fs_get, z_fs_get]
  by_cases hij : j = i
  · subst hij
    have hl : j < (z_fs ad M c 0 fs).length := by rw [z_fs_len]; exact (List.getElem?_eq_some_iff.mp h).1
    rw [if_pos rfl, if_pos hl, h]
    simp [z_f, z_si]
  · rw [if_neg hij]
    have e : z_f ad (z_si M c j x) c (0 + i) = z_f ad M c (0 + i) := by
      funext f
      have hn : ¬ (c = c ∧ 0 + i = j) := fun q => hij (by omega)
      rcases f with _ | _ | _ | r
      · show Value.int _ = Value.int _
        rw [z_si_other M x hn]
      · rfl
      · rfl
      · rfl
    rw [e]
theorem z_fs_sj (ad : Nat → Nat) (M : zM) (c j : Nat) (x : Int64) {fs : List zK} {u : Unit} (h : fs[j]? = some (.inr (.inl u))) : (z_fs ad M c 0 fs).set j (.long x) = z_fs ad (z_sj M c j x) c 0 fs := by
  apply List.ext_getElem?
  intro i
  rw [List.getElem?_set, z_fs_get, z_fs_get]
  by_cases hij : j = i
  · subst hij
    have hl : j < (z_fs ad M c 0 fs).length := by rw [z_fs_len]; exact (List.getElem?_eq_some_iff.mp h).1
    rw [if_pos rfl, if_pos hl, h]
    simp [z_f, z_sj]
  · rw [if_neg hij]
    have e : z_f ad (z_sj M c j x) c (0 + i) = z_f ad M c (0 + i) := by
      funext f
      have hn : ¬ (c = c ∧ 0 + i = j) := fun q => hij (by omega)
      rcases f with _ | _ | _ | r
      · rfl
      · show Value.long _ = Value.long _
        rw [z_sj_other M x hn]
      · rfl
      · rfl
    rw [e]
theorem z_fs_congr (ad : Nat → Nat) {M M' : zM} {c : Nat} (h1 : M'.1 c = M.1 c) (h2 : M'.2 c = M.2 c) : ∀ (fs : List zK) (k : Nat), z_fs ad M' c k fs = z_fs ad M c k fs
  | [], k => rfl
  | f :: fs, k => by
    have e : z_f ad M' c k f = z_f ad M c k f := by
      rcases f with _ | _ | _ | r
      · show Value.int _ = Value.int _
        rw [h1]
      · show Value.long _ = Value.long _
        rw [h2]
      · rfl
      · rfl
    show z_f ad M' c k f :: z_fs ad M' c (k + 1) fs = z_f ad M c k f :: z_fs ad M c (k + 1) fs
    rw [e, z_fs_congr ad h1 h2 fs (k + 1)]
def z_e (cA : Nat → ClassId) (ad : Nat → Nat) (M : zM) (c : Nat) : zC → va_E
  | .inl q => .inr (q.1, z_fs ad M c 0 q.2)
  | .inr (.inl q) => .inl (cA q.1, q.2, .inl (M.1 c))
  | .inr (.inr q) => .inl (cA q.1, q.2.length, .inr (.inr (.inr (.inr (fun j => (q.2.getD j none).map ad)))))
theorem z_e_congr (cA : Nat → ClassId) (ad : Nat → Nat) {M M' : zM} {c : Nat} (h1 : M'.1 c = M.1 c) (h2 : M'.2 c = M.2 c) (x : zC) : z_e cA ad M' c x = z_e cA ad M c x := by
  rcases x with ⟨ci, fs⟩ | ⟨t, n⟩ | ⟨t, rs⟩
  · show Sum.inr (ci, _) = Sum.inr (ci, _)
    rw [z_fs_congr ad h1 h2]
  · show Sum.inl (cA t, n, Sum.inl _) = Sum.inl (cA t, n, Sum.inl _)
    rw [h1]
  · rfl
/-- the world: cell k of the list E lies at ad k -/
def z_w (cA : Nat → ClassId) (ad : Nat → Nat) (M : zM) : Nat → List zC → va_W
  | _, [] => []
  | k, x :: E => (ad k, z_e cA ad M k x) :: z_w cA ad M (k + 1) E
theorem z_w_el (cA : Nat → ClassId) (ad : Nat → Nat) (M : zM) : ∀ (E : List zC) (k c : Nat), (z_w cA ad M k E)[c]? = (E[c]?).map (fun x => (ad (k + c), z_e cA ad M (k + c) x))
  | [], k, c => by simp [z_w]
  | x :: E, k, 0 => by simp [z_w]
  | x :: E, k, c + 1 => by
    have h := z_w_el cA ad M E (k + 1) c
    rw [show k + (c + 1) = k + 1 + c by omega]
    simpa [z_w] using h
theorem z_w_get (cA : Nat → ClassId) (ad : Nat → Nat) (M : zM) {E : List zC} {c : Nat} {x : zC} (h : E[c]? = some x) : (z_w cA ad M 0 E)[c]? = some (ad c, z_e cA ad M c x) := by
  rw [z_w_el, h, Nat.zero_add]
  rfl
theorem z_w_at (cA : Nat → ClassId) (ad : Nat → Nat) (M : zM) {E : List zC} {c : Nat} {q : Nat × va_E} (h : (z_w cA ad M 0 E)[c]? = some q) : ∃ x, E[c]? = some x ∧ q = (ad c, z_e cA ad M c x) := by
  rw [z_w_el, Nat.zero_add] at h
  cases hx : E[c]? with
  | none => rw [hx] at h; cases h
  | some x => rw [hx] at h; exact ⟨x, rfl, (Option.some.inj h).symm⟩
theorem z_w_set (cA : Nat → ClassId) (ad : Nat → Nat) {E : List zC} {M M' : zM} {c : Nat} {x x' : zC} (hE : E[c]? = some x) {e : va_E} (he : e = z_e cA ad M' c x') (h1 : ∀ d, d ≠ c → M'.1 d = M.1 d) (h2 : ∀ d, d ≠ c → M'.2 d = M.2 d) :
    (z_w cA ad M 0 E).set c (ad c, e) = z_w cA ad M' 0 (E.set c x') := by
  subst he
  have hc : c < E.length := (List.getElem?_eq_some_iff.mp hE).1
  apply List.ext_getElem?
  intro j
  rw [List.getElem?_set, z_w_el cA ad M', List.getElem?_set]
  by_cases hj : c = j
  · subst hj
    have hl : c < (z_w cA ad M 0 E).length := (List.getElem?_eq_some_iff.mp (z_w_get cA ad M hE)).1
    rw [if_pos rfl, if_pos hl, if_pos rfl, if_pos hc, Nat.zero_add]
    rfl
  · rw [if_neg hj, if_neg hj, z_w_el, Nat.zero_add]
    cases E[j]? with
    | none => rfl
    | some y =>
      show some (ad j, z_e cA ad M j y) = some (ad j, z_e cA ad M' j y)
      rw [z_e_congr cA ad (h1 j (Ne.symm hj)) (h2 j (Ne.symm hj))]
theorem z_set_self {E : List zC} {c : Nat} {x : zC} (h : E[c]? = some x) : E.set c x = E := by
  apply List.ext_getElem?
  intro j
  rw [List.getElem?_set]
  by_cases hj : c = j
  · subst hj
    rw [if_pos rfl, if_pos (List.getElem?_eq_some_iff.mp h).1, h]
  · rw [if_neg hj]
theorem z_D (cA : Nat → ClassId) (ad : Nat → Nat) {E : List zC} {M : zM} (M' : zM) {A : Nat → Prop} (h : va_D A (z_w cA ad M 0 E)) : va_D A (z_w cA ad M' 0 E) := by
  refine ⟨fun i j p q hi hj e => ?_, fun k q hk => ?_⟩
  · obtain ⟨x, hx, rfl⟩ := z_w_at cA ad M' hi
    obtain ⟨y, hy, rfl⟩ := z_w_at cA ad M' hj
    exact h.1 i j _ _ (z_w_get cA ad M hx) (z_w_get cA ad M hy) e
  · obtain ⟨x, hx, rfl⟩ := z_w_at cA ad M' hk
    exact h.2 k (ad k, z_e cA ad M k x) (z_w_get cA ad M hx)
theorem z_A (cA : Nat → ClassId) (ad : Nat → Nat) {E : List zC} {M : zM} {A : Nat → Prop} {H0 H : Heap} {locs : List Loc} (hD : va_D A (z_w cA ad M 0 E)) (hS : va_S A H0 H locs) (hA : ∀ q, H0.size ≤ q → A q) : ∀ q, va_A (z_w cA ad M 0 E) H.size q → A q := by
  intro q hq
  rcases hq with ⟨k, e, hk⟩ | hq
  · exact hD.2 k _ hk
  · exact hA q (Nat.le_trans hS.1 hq)
/-- the walk, over numbered memory -/
def zW (p : Program) (l : Launch) (e : Env) (R : Room) (s : State) (m : MethodId) (args : Array Value) (below : List Frame) (meth : Method) (c : Code) (cells slots : Nat) (Q : State → Prop) (A : Nat → Prop) (D : va_G) (cl : List vw_C) (cA : Nat → ClassId) (ad : Nat → Nat) (E : List zC) (nL : Nat) (M : zM) (pc : Nat) (L : List (Nat × zA)) (st : List zA) : Prop :=
  ∀ (H : Heap) (locs : List Loc) (ls : Array Slot), va_P D cl (z_w cA ad M 0 E) H → va_D A (z_w cA ad M 0 E) → va_S A s.heap H locs → lv_has ls nL (L.map (fun q => (q.1, z_v ad q.2))) → W p l e R s m args below meth c H locs cells slots Q (F0 m pc ls (st.map (z_v ad)))
/-- what is known of the method that is walked -/
def zX (p : Program) (s : State) (m : MethodId) (args : Array Value) (meth : Method) (c : Code) (A : Nat → Prop) (D : va_G) (cl : List vw_C) (tys : List (ClassId × FieldType)) (Ts : List Cond) (own : String) (cc : ByteArray) (nL : Nat) (ret : Option FieldType) : Prop :=
  p.tables.exec = Jvm.exec ∧ c.code = cc ∧ c.maxLocals = nL ∧ s.vm.findClass own = some m.cls ∧ (∀ w ∈ Ts, w.before args s = true) ∧ va_K D cl tys s ∧ (∀ q, s.heap.size ≤ q → A q) ∧ meth.sig.returnType = ret ∧ meth.locks = false
/-- a field reference: own's pool number index names the field k of class ci -/
def zF (cl : List vw_C) (Ts : List Cond) (own : String) (index ci k : Nat) (ty : FieldType) (fin : Bool) : Prop :=
  ∃ (C : String) (T : u_T) (Nf : Nat) (tf : Nat → FieldType), cl[ci]? = some (C, T, Nf) ∧ k < Nf ∧ (∀ w ∈ u_ws C T Nf, w ∈ Ts) ∧ Cond.fieldLink own index (T k).1 (T k).2.1 (T k).2.2.1 ∈ Ts ∧ (∀ j, j < Nf → parseFieldDescriptor (T j).2.2.1 = some (tf j)) ∧ (∀ a, a < Nf → ∀ b, b < Nf → a ≠ b → (T a).2.1 ≠ (T b).2.1) ∧ parseFieldDescriptor (T k).2.2.1 = some ty ∧ (T k).2.2.2 = fin
section ZRows
variable {p : Program} {l : Launch} {e : Env} {R : Room} {s : State} {m : MethodId} {args : Array Value} {below : List Frame} {meth : Method} {c : Code} {cells slots : Nat} {Q : State → Prop} {A : Nat → Prop} {D : va_G} {cl : List vw_C} {tys : List (ClassId × FieldType)} {cA : Nat → ClassId} {ad : Nat → Nat} {E : List zC} {nL : Nat} {M : zM} {pc : Nat} {L L' : List (Nat × zA)} {st : List zA} {Ts : List Cond} {own : String} {cc : ByteArray} {ret : Option FieldType}
theorem z_L {k i : Nat} {v : zA} (h : L[k]? = some (i, v)) : (L.map (fun q => (q.1, z_v ad q.2)))[k]? = some (i, z_v ad v) := by
  rw [List.getElem?_map, h]; rfl
theorem z_iconst (X : zX p s m args meth c A D cl tys Ts own cc nL ret) {n : Int} {v : Int32} (hd : decode cc pc = .ok (.iconst n, 1)) (hv : Int32.ofInt n = v) (k : zW p l e R s m args below meth c cells slots Q A D cl cA ad E nL M (pc + 1) L (zI v :: st)) : zW p l e R s m args below meth c cells slots Q A D cl cA ad E nL M pc L st :=
  fun H locs ls hP hD hS hl => lv_iconst X.1 X.2.1 hd hv (k H locs ls hP hD hS hl)
theorem z_bipush (X : zX p s m args meth c A D cl tys Ts own cc nL ret) {n : Int} {v : Int32} (hd : decode cc pc = .ok (.bipush n, 2)) (hv : (Int8.ofInt n).toInt32 = v) (k : zW p l e R s m args below meth c cells slots Q A D cl cA ad E nL M (pc + 2) L (zI v :: st)) : zW p l e R s m args below meth c cells slots Q A D cl cA ad E nL M pc L st :=
  fun H locs ls hP hD hS hl => lv_bipush X.1 X.2.1 hd hv (k H locs ls hP hD hS hl)
theorem z_sipush (X : zX p s m args meth c A D cl tys Ts own cc nL ret) {n : Int} {v : Int32} (hd : decode cc pc = .ok (.sipush n, 3)) (hv : (Int16.ofInt n).toInt32 = v) (k : zW p l e R s m args below meth c cells slots Q A D cl cA ad E nL M (pc + 3) L (zI v :: st)) : zW p l e R s m args below meth c cells slots Q A D cl cA ad E nL M pc L st :=
  fun H locs ls hP hD hS hl => lv_sipush X.1 X.2.1 hd hv (k H locs ls hP hD hS hl)
theorem z_lconst (X : zX p s m args meth c A D cl tys Ts own cc nL ret) {n : Fin 2} {v : Int64} (hd : decode cc pc = .ok (.lconst n, 1)) (hv : Int64.ofNat (n : Nat) = v) (k : zW p l e R s m args below meth c cells slots Q A D cl cA ad E nL M (pc + 1) L (zJ v :: st)) : zW p l e R s m args below meth c cells slots Q A D cl cA ad E nL M pc L st :=
  fun H locs ls hP hD hS hl => lv_lconst X.1 X.2.1 hd hv (k H locs ls hP hD hS hl)
theorem z_null (X : zX p s m args meth c A D cl tys Ts own cc nL ret) (hd : decode cc pc = .ok (.aconst_null, 1)) (k : zW p l e R s m args below meth c cells slots Q A D cl cA ad E nL M (pc + 1) L (zN :: st)) : zW p l e R s m args below meth c cells slots Q A D cl cA ad E nL M pc L st :=
  fun H locs ls hP hD hS hl => lv_null X.1 X.2.1 hd (k H locs ls hP hD hS hl)
theorem z_iload_n (X : zX p s m args meth c A D cl tys Ts own cc nL ret) {kf : Fin 4} {i : Nat} (j : Nat) {x : Int32} (hd : decode cc pc = .ok (.iload_n kf, 1)) (hi : (kf : Nat) = i) (hj : L[j]? = some (i, zI x)) (k : zW p l e R s m args below meth c cells slots Q A D cl cA ad E nL M (pc + 1) L (zI x :: st)) : zW p l e R s m args below meth c cells slots Q A D cl cA ad E nL M pc L st :=
  fun H locs ls hP hD hS hl => lv_iload_n X.1 X.2.1 hd hi (lv_at hl j (z_L hj)) (k H locs ls hP hD hS hl)
theorem z_iload (X : zX p s m args meth c A D cl tys Ts own cc nL ret) {i : Nat} (j : Nat) {x : Int32} (hd : decode cc pc = .ok (.iload i, 2)) (hj : L[j]? = some (i, zI x)) (k : zW p l e R s m args below meth c cells slots Q A D cl cA ad E nL M (pc + 2) L (zI x :: st)) : zW p l e R s m args below meth c cells slots Q A D cl cA ad E nL M pc L st :=
  fun H locs ls hP hD hS hl => lv_iload X.1 X.2.1 hd (lv_at hl j (z_L hj)) (k H locs ls hP hD hS hl)
theorem z_lload_n (X : zX p s m args meth c A D cl tys Ts own cc nL ret) {kf : Fin 4} {i : Nat} (j : Nat) {x : Int64} (hd : decode cc pc = .ok (.lload_n kf, 1)) (hi : (kf : Nat) = i) (hj : L[j]? = some (i, zJ x)) (k : zW p l e R s m args below meth c cells slots Q A D cl cA ad E nL M (pc + 1) L (zJ x :: st)) : zW p l e R s m args below meth c cells slots Q A D cl cA ad E nL M pc L st :=
  fun H locs ls hP hD hS hl => lv_lload_n X.1 X.2.1 hd hi (lv_at hl j (z_L hj)) (k H locs ls hP hD hS hl)
theorem z_aload_n (X : zX p s m args meth c A D cl tys Ts own cc nL ret) {kf : Fin 4} {i : Nat} (j : Nat) {x : Nat} (hd : decode cc pc = .ok (.aload_n kf, 1)) (hi : (kf : Nat) = i) (hj : L[j]? = some (i, zR x)) (k : zW p l e R s m args below meth c cells slots Q A D cl cA ad E nL M (pc + 1) L (zR x :: st)) : zW p l e R s m args below meth c cells slots Q A D cl cA ad E nL M pc L st :=
  fun H locs ls hP hD hS hl => lv_aload_n X.1 X.2.1 hd hi (lv_at hl j (z_L hj)) (k H locs ls hP hD hS hl)
theorem z_aload (X : zX p s m args meth c A D cl tys Ts own cc nL ret) {i : Nat} (j : Nat) {x : Nat} (hd : decode cc pc = .ok (.aload i, 2)) (hj : L[j]? = some (i, zR x)) (k : zW p l e R s m args below meth c cells slots Q A D cl cA ad E nL M (pc + 2) L (zR x :: st)) : zW p l e R s m args below meth c cells slots Q A D cl cA ad E nL M pc L st :=
  fun H locs ls hP hD hS hl => lv_aload X.1 X.2.1 hd (lv_at hl j (z_L hj)) (k H locs ls hP hD hS hl)
theorem z_aload_nN (X : zX p s m args meth c A D cl tys Ts own cc nL ret) {kf : Fin 4} {i : Nat} (j : Nat) (hd : decode cc pc = .ok (.aload_n kf, 1)) (hi : (kf : Nat) = i) (hj : L[j]? = some (i, zN)) (k : zW p l e R s m args below meth c cells slots Q A D cl cA ad E nL M (pc + 1) L (zN :: st)) : zW p l e R s m args below meth c cells slots Q A D cl cA ad E nL M pc L st :=
  fun H locs ls hP hD hS hl => lv_aload_nN X.1 X.2.1 hd hi (lv_at hl j (z_L hj)) (k H locs ls hP hD hS hl)
theorem z_fil (i : Nat) (L : List (Nat × zA)) : (L.map (fun q => (q.1, z_v ad q.2))).filter (fun q => !(q.1 == i) && !(q.1 + 1 == i && q.2.category == 2)) = (L.filter (fun q => !(q.1 == i) && !(q.1 + 1 == i && z_two q.2))).map (fun q => (q.1, z_v ad q.2)) := by
  rw [List.filter_map]
  congr 1
  apply List.filter_congr
  intro q _
  show (!(q.1 == i) && !(q.1 + 1 == i && (z_v ad q.2).category == 2)) = _
  rw [z_cat]
theorem z_fil2 (i : Nat) (L : List (Nat × zA)) : (L.map (fun q => (q.1, z_v ad q.2))).filter (fun q => !(q.1 == i) && (!(q.1 == i + 1) && !(q.1 + 1 == i && q.2.category == 2))) = (L.filter (fun q => !(q.1 == i) && (!(q.1 == i + 1) && !(q.1 + 1 == i && z_two q.2)))).map (fun q => (q.1, z_v ad q.2)) := by
  rw [List.filter_map]
  congr 1
  apply List.filter_congr
  intro q _
  show (!(q.1 == i) && (!(q.1 == i + 1) && !(q.1 + 1 == i && (z_v ad q.2).category == 2))) = _
  rw [z_cat]
theorem z_istore_n (X : zX p s m args meth c A D cl tys Ts own cc nL ret) {kf : Fin 4} {i : Nat} {x : Int32} (hd : decode cc pc = .ok (.istore_n kf, 1)) (hi : (kf : Nat) = i) (hn : i < nL) (hl' : (i, zI x) :: L.filter (fun q => !(q.1 == i) && !(q.1 + 1 == i && z_two q.2)) = L') (k : zW p l e R s m args below meth c cells slots Q A D cl cA ad E nL M (pc + 1) L' st) : zW p l e R s m args below meth c cells slots Q A D cl cA ad E nL M pc L (zI x :: st) :=
  fun H locs ls hP hD hS hl => lv_istore_n X.1 X.2.1 hd hi hl hn (by rw [z_fil, ← hl']; rfl) (fun ls' hl2 => k H locs ls' hP hD hS hl2)
theorem z_istore (X : zX p s m args meth c A D cl tys Ts own cc nL ret) {i : Nat} {x : Int32} (hd : decode cc pc = .ok (.istore i, 2)) (hn : i < nL) (hl' : (i, zI x) :: L.filter (fun q => !(q.1 == i) && !(q.1 + 1 == i && z_two q.2)) = L') (k : zW p l e R s m args below meth c cells slots Q A D cl cA ad E nL M (pc + 2) L' st) : zW p l e R s m args below meth c cells slots Q A D cl cA ad E nL M pc L (zI x :: st) :=
  fun H locs ls hP hD hS hl => lv_istore X.1 X.2.1 hd hl hn (by rw [z_fil, ← hl']; rfl) (fun ls' hl2 => k H locs ls' hP hD hS hl2)
theorem z_astore_n (X : zX p s m args meth c A D cl tys Ts own cc nL ret) {kf : Fin 4} {i : Nat} {x : Nat} (hd : decode cc pc = .ok (.astore_n kf, 1)) (hi : (kf : Nat) = i) (hn : i < nL) (hl' : (i, zR x) :: L.filter (fun q => !(q.1 == i) && !(q.1 + 1 == i && z_two q.2)) = L') (k : zW p l e R s m args below meth c cells slots Q A D cl cA ad E nL M (pc + 1) L' st) : zW p l e R s m args below meth c cells slots Q A D cl cA ad E nL M pc L (zR x :: st) :=
  fun H locs ls hP hD hS hl => lv_astore_n X.1 X.2.1 hd hi hl hn (by rw [z_fil, ← hl']; rfl) (fun ls' hl2 => k H locs ls' hP hD hS hl2)
theorem z_astore (X : zX p s m args meth c A D cl tys Ts own cc nL ret) {i : Nat} {x : Nat} (hd : decode cc pc = .ok (.astore i, 2)) (hn : i < nL) (hl' : (i, zR x) :: L.filter (fun q => !(q.1 == i) && !(q.1 + 1 == i && z_two q.2)) = L') (k : zW p l e R s m args below meth c cells slots Q A D cl cA ad E nL M (pc + 2) L' st) : zW p l e R s m args below meth c cells slots Q A D cl cA ad E nL M pc L (zR x :: st) :=
  fun H locs ls hP hD hS hl => lv_astore X.1 X.2.1 hd hl hn (by rw [z_fil, ← hl']; rfl) (fun ls' hl2 => k H locs ls' hP hD hS hl2)
theorem z_astore_nN (X : zX p s m args meth c A D cl tys Ts own cc nL ret) {kf : Fin 4} {i : Nat} (hd : decode cc pc = .ok (.astore_n kf, 1)) (hi : (kf : Nat) = i) (hn : i < nL) (hl' : (i, zN) :: L.filter (fun q => !(q.1 == i) && !(q.1 + 1 == i && z_two q.2)) = L') (k : zW p l e R s m args below meth c cells slots Q A D cl cA ad E nL M (pc + 1) L' st) : zW p l e R s m args below meth c cells slots Q A D cl cA ad E nL M pc L (zN :: st) :=
  fun H locs ls hP hD hS hl => lv_astore_nN X.1 X.2.1 hd hi hl hn (by rw [z_fil, ← hl']; rfl) (fun ls' hl2 => k H locs ls' hP hD hS hl2)
theorem z_iinc (X : zX p s m args meth c A D cl tys Ts own cc nL ret) {i : Nat} (j : Nat) {n : Int} {x v : Int32} (hd : decode cc pc = .ok (.iinc i n, 3)) (hj : L[j]? = some (i, zI x)) (hv : x + Int32.ofInt n = v) (hn : i < nL) (hl' : (i, zI v) :: L.filter (fun q => !(q.1 == i) && !(q.1 + 1 == i && z_two q.2)) = L') (k : zW p l e R s m args below meth c cells slots Q A D cl cA ad E nL M (pc + 3) L' st) : zW p l e R s m args below meth c cells slots Q A D cl cA ad E nL M pc L st :=
  fun H locs ls hP hD hS hl => lv_iinc X.1 X.2.1 hd hl (k := j) (z_L hj) hv hn (by rw [z_fil, ← hl']; rfl) (fun ls' hl2 => k H locs ls' hP hD hS hl2)
theorem z_cat1 {v : zA} (h : z_two v = false) : (z_v ad v).category = 1 := by
  rcases v with x | x | _ | r
  · rfl
  · cases h
  · rfl
  · rfl
theorem z_keep {ks : List Nat} (hp : ks.filterMap (fun k => L[k]?) = L') (k : zW p l e R s m args below meth c cells slots Q A D cl cA ad E nL M pc L' st) : zW p l e R s m args below meth c cells slots Q A D cl cA ad E nL M pc L st := by
  intro H locs ls hP hD hS hl
  refine k H locs ls hP hD hS (lv_sub hl ks ?_)
  rw [← hp]
  show ks.filterMap (fun k => (L.map _)[k]?) = _
  rw [List.map_filterMap]
  congr 1
  funext k
  rw [List.getElem?_map]
theorem z_iadd (X : zX p s m args meth c A D cl tys Ts own cc nL ret) {x y : Int32} (hd : decode cc pc = .ok (.iadd, 1)) (k : zW p l e R s m args below meth c cells slots Q A D cl cA ad E nL M (pc + 1) L (zI (x + y) :: st)) : zW p l e R s m args below meth c cells slots Q A D cl cA ad E nL M pc L (zI y :: zI x :: st) :=
  fun H locs ls hP hD hS hl => lv_iadd X.1 X.2.1 hd (k H locs ls hP hD hS hl)
theorem z_isub (X : zX p s m args meth c A D cl tys Ts own cc nL ret) {x y : Int32} (hd : decode cc pc = .ok (.isub, 1)) (k : zW p l e R s m args below meth c cells slots Q A D cl cA ad E nL M (pc + 1) L (zI (x - y) :: st)) : zW p l e R s m args below meth c cells slots Q A D cl cA ad E nL M pc L (zI y :: zI x :: st) :=
  fun H locs ls hP hD hS hl => lv_isub X.1 X.2.1 hd (k H locs ls hP hD hS hl)
theorem z_imul (X : zX p s m args meth c A D cl tys Ts own cc nL ret) {x y : Int32} (hd : decode cc pc = .ok (.imul, 1)) (k : zW p l e R s m args below meth c cells slots Q A D cl cA ad E nL M (pc + 1) L (zI (x * y) :: st)) : zW p l e R s m args below meth c cells slots Q A D cl cA ad E nL M pc L (zI y :: zI x :: st) :=
  fun H locs ls hP hD hS hl => lv_imul X.1 X.2.1 hd (k H locs ls hP hD hS hl)
theorem z_iand (X : zX p s m args meth c A D cl tys Ts own cc nL ret) {x y : Int32} (hd : decode cc pc = .ok (.iand, 1)) (k : zW p l e R s m args below meth c cells slots Q A D cl cA ad E nL M (pc + 1) L (zI (x &&& y) :: st)) : zW p l e R s m args below meth c cells slots Q A D cl cA ad E nL M pc L (zI y :: zI x :: st) :=
  fun H locs ls hP hD hS hl => lv_iand X.1 X.2.1 hd (k H locs ls hP hD hS hl)
theorem z_ior (X : zX p s m args meth c A D cl tys Ts own cc nL ret) {x y : Int32} (hd : decode cc pc = .ok (.ior, 1)) (k : zW p l e R s m args below meth c cells slots Q A D cl cA ad E nL M (pc + 1) L (zI (x ||| y) :: st)) : zW p l e R s m args below meth c cells slots Q A D cl cA ad E nL M pc L (zI y :: zI x :: st) :=
  fun H locs ls hP hD hS hl => lv_ior X.1 X.2.1 hd (k H locs ls hP hD hS hl)
theorem z_ixor (X : zX p s m args meth c A D cl tys Ts own cc nL ret) {x y : Int32} (hd : decode cc pc = .ok (.ixor, 1)) (k : zW p l e R s m args below meth c cells slots Q A D cl cA ad E nL M (pc + 1) L (zI (x ^^^ y) :: st)) : zW p l e R s m args below meth c cells slots Q A D cl cA ad E nL M pc L (zI y :: zI x :: st) :=
  fun H locs ls hP hD hS hl => lv_ixor X.1 X.2.1 hd (k H locs ls hP hD hS hl)
theorem z_idiv (X : zX p s m args meth c A D cl tys Ts own cc nL ret) {x y : Int32} (hd : decode cc pc = .ok (.idiv, 1)) (hne : ¬ y = 0) (k : zW p l e R s m args below meth c cells slots Q A D cl cA ad E nL M (pc + 1) L (zI (x / y) :: st)) : zW p l e R s m args below meth c cells slots Q A D cl cA ad E nL M pc L (zI y :: zI x :: st) :=
  fun H locs ls hP hD hS hl => lv_idiv X.1 X.2.1 hd hne (k H locs ls hP hD hS hl)
theorem z_irem (X : zX p s m args meth c A D cl tys Ts own cc nL ret) {x y : Int32} (hd : decode cc pc = .ok (.irem, 1)) (hne : ¬ y = 0) (k : zW p l e R s m args below meth c cells slots Q A D cl cA ad E nL M (pc + 1) L (zI (x - x / y * y) :: st)) : zW p l e R s m args below meth c cells slots Q A D cl cA ad E nL M pc L (zI y :: zI x :: st) :=
  fun H locs ls hP hD hS hl => lv_irem X.1 X.2.1 hd hne (k H locs ls hP hD hS hl)
theorem z_ineg (X : zX p s m args meth c A D cl tys Ts own cc nL ret) {x : Int32} (hd : decode cc pc = .ok (.ineg, 1)) (k : zW p l e R s m args below meth c cells slots Q A D cl cA ad E nL M (pc + 1) L (zI (-x) :: st)) : zW p l e R s m args below meth c cells slots Q A D cl cA ad E nL M pc L (zI x :: st) :=
  fun H locs ls hP hD hS hl => lv_ineg X.1 X.2.1 hd (k H locs ls hP hD hS hl)
theorem z_ladd (X : zX p s m args meth c A D cl tys Ts own cc nL ret) {x y : Int64} (hd : decode cc pc = .ok (.ladd, 1)) (k : zW p l e R s m args below meth c cells slots Q A D cl cA ad E nL M (pc + 1) L (zJ (x + y) :: st)) : zW p l e R s m args below meth c cells slots Q A D cl cA ad E nL M pc L (zJ y :: zJ x :: st) :=
  fun H locs ls hP hD hS hl => lv_ladd X.1 X.2.1 hd (k H locs ls hP hD hS hl)
theorem z_lsub (X : zX p s m args meth c A D cl tys Ts own cc nL ret) {x y : Int64} (hd : decode cc pc = .ok (.lsub, 1)) (k : zW p l e R s m args below meth c cells slots Q A D cl cA ad E nL M (pc + 1) L (zJ (x - y) :: st)) : zW p l e R s m args below meth c cells slots Q A D cl cA ad E nL M pc L (zJ y :: zJ x :: st) :=
  fun H locs ls hP hD hS hl => lv_lsub X.1 X.2.1 hd (k H locs ls hP hD hS hl)
theorem z_lcmp (X : zX p s m args meth c A D cl tys Ts own cc nL ret) {x y : Int64} (hd : decode cc pc = .ok (.lcmp, 1)) (k : zW p l e R s m args below meth c cells slots Q A D cl cA ad E nL M (pc + 1) L (zI (lg_cmp x y) :: st)) : zW p l e R s m args below meth c cells slots Q A D cl cA ad E nL M pc L (zJ y :: zJ x :: st) :=
  fun H locs ls hP hD hS hl => W.lcmp X.1 X.2.1 hd (k H locs ls hP hD hS hl)
theorem z_i2l (X : zX p s m args meth c A D cl tys Ts own cc nL ret) {x : Int32} (hd : decode cc pc = .ok (.i2l, 1)) (k : zW p l e R s m args below meth c cells slots Q A D cl cA ad E nL M (pc + 1) L (zJ x.toInt64 :: st)) : zW p l e R s m args below meth c cells slots Q A D cl cA ad E nL M pc L (zI x :: st) :=
  fun H locs ls hP hD hS hl => lv_i2l X.1 X.2.1 hd rfl (k H locs ls hP hD hS hl)
theorem z_topi (X : zX p s m args meth c A D cl tys Ts own cc nL ret) {x : Int32} (k : ∀ y : Int32, y = x → zW p l e R s m args below meth c cells slots Q A D cl cA ad E nL M pc L (zI y :: st)) : zW p l e R s m args below meth c cells slots Q A D cl cA ad E nL M pc L (zI x :: st) :=
  k x rfl
theorem z_dup (X : zX p s m args meth c A D cl tys Ts own cc nL ret) {v : zA} (hd : decode cc pc = .ok (.dup, 1)) (hv : z_two v = false) (k : zW p l e R s m args below meth c cells slots Q A D cl cA ad E nL M (pc + 1) L (v :: v :: st)) : zW p l e R s m args below meth c cells slots Q A D cl cA ad E nL M pc L (v :: st) :=
  fun H locs ls hP hD hS hl => lv_dup X.1 X.2.1 hd (z_cat1 hv) (k H locs ls hP hD hS hl)
theorem z_pop (X : zX p s m args meth c A D cl tys Ts own cc nL ret) {v : zA} (hd : decode cc pc = .ok (.pop, 1)) (hv : z_two v = false) (k : zW p l e R s m args below meth c cells slots Q A D cl cA ad E nL M (pc + 1) L st) : zW p l e R s m args below meth c cells slots Q A D cl cA ad E nL M pc L (v :: st) :=
  fun H locs ls hP hD hS hl => lv_pop X.1 X.2.1 hd (z_cat1 hv) (k H locs ls hP hD hS hl)
theorem z_dup_x1 (X : zX p s m args meth c A D cl tys Ts own cc nL ret) {v w : zA} (hd : decode cc pc = .ok (.dup_x1, 1)) (hv : z_two v = false) (hw : z_two w = false) (k : zW p l e R s m args below meth c cells slots Q A D cl cA ad E nL M (pc + 1) L (v :: w :: v :: st)) : zW p l e R s m args below meth c cells slots Q A D cl cA ad E nL M pc L (v :: w :: st) :=
  fun H locs ls hP hD hS hl => lv_dup_x1 X.1 X.2.1 hd (z_cat1 hv) (z_cat1 hw) (k H locs ls hP hD hS hl)
theorem z_dup2 (X : zX p s m args meth c A D cl tys Ts own cc nL ret) {v w : zA} (hd : decode cc pc = .ok (.dup2, 1)) (hv : z_two v = false) (hw : z_two w = false) (k : zW p l e R s m args below meth c cells slots Q A D cl cA ad E nL M (pc + 1) L (v :: w :: v :: w :: st)) : zW p l e R s m args below meth c cells slots Q A D cl cA ad E nL M pc L (v :: w :: st) :=
  fun H locs ls hP hD hS hl => lv_dup2_11 X.1 X.2.1 hd (z_cat1 hv) (z_cat1 hw) (k H locs ls hP hD hS hl)
theorem z_if_eq (X : zX p s m args meth c A D cl tys Ts own cc nL ret) {x : Int32} {off : Int} (tgt : Nat) (hd : decode cc pc = .ok (.ifCond .eq off, 3)) (ht : (pc : Int) + off = (tgt : Int)) (kt : x = 0 → zW p l e R s m args below meth c cells slots Q A D cl cA ad E nL M tgt L st) (kf : ¬ x = 0 → zW p l e R s m args below meth c cells slots Q A D cl cA ad E nL M (pc + 3) L st) : zW p l e R s m args below meth c cells slots Q A D cl cA ad E nL M pc L (zI x :: st) :=
  fun H locs ls hP hD hS hl => lv_if_eq X.1 X.2.1 hd ht (fun h => kt h H locs ls hP hD hS hl) (fun h => kf h H locs ls hP hD hS hl)
theorem z_if_ne (X : zX p s m args meth c A D cl tys Ts own cc nL ret) {x : Int32} {off : Int} (tgt : Nat) (hd : decode cc pc = .ok (.ifCond .ne off, 3)) (ht : (pc : Int) + off = (tgt : Int)) (kt : ¬ x = 0 → zW p l e R s m args below meth c cells slots Q A D cl cA ad E nL M tgt L st) (kf : x = 0 → zW p l e R s m args below meth c cells slots Q A D cl cA ad E nL M (pc + 3) L st) : zW p l e R s m args below meth c cells slots Q A D cl cA ad E nL M pc L (zI x :: st) :=
  fun H locs ls hP hD hS hl => lv_if_ne X.1 X.2.1 hd ht (fun h => kt h H locs ls hP hD hS hl) (fun h => kf h H locs ls hP hD hS hl)
theorem z_if_lt (X : zX p s m args meth c A D cl tys Ts own cc nL ret) {x : Int32} {off : Int} (tgt : Nat) (hd : decode cc pc = .ok (.ifCond .lt off, 3)) (ht : (pc : Int) + off = (tgt : Int)) (kt : x < 0 → zW p l e R s m args below meth c cells slots Q A D cl cA ad E nL M tgt L st) (kf : ¬ x < 0 → zW p l e R s m args below meth c cells slots Q A D cl cA ad E nL M (pc + 3) L st) : zW p l e R s m args below meth c cells slots Q A D cl cA ad E nL M pc L (zI x :: st) :=
  fun H locs ls hP hD hS hl => lv_if_lt X.1 X.2.1 hd ht (fun h => kt h H locs ls hP hD hS hl) (fun h => kf h H locs ls hP hD hS hl)
theorem z_if_ge (X : zX p s m args meth c A D cl tys Ts own cc nL ret) {x : Int32} {off : Int} (tgt : Nat) (hd : decode cc pc = .ok (.ifCond .ge off, 3)) (ht : (pc : Int) + off = (tgt : Int)) (kt : 0 ≤ x → zW p l e R s m args below meth c cells slots Q A D cl cA ad E nL M tgt L st) (kf : ¬ 0 ≤ x → zW p l e R s m args below meth c cells slots Q A D cl cA ad E nL M (pc + 3) L st) : zW p l e R s m args below meth c cells slots Q A D cl cA ad E nL M pc L (zI x :: st) :=
  fun H locs ls hP hD hS hl => lv_if_ge X.1 X.2.1 hd ht (fun h => kt h H locs ls hP hD hS hl) (fun h => kf h H locs ls hP hD hS hl)
theorem z_if_gt (X : zX p s m args meth c A D cl tys Ts own cc nL ret) {x : Int32} {off : Int} (tgt : Nat) (hd : decode cc pc = .ok (.ifCond .gt off, 3)) (ht : (pc : Int) + off = (tgt : Int)) (kt : 0 < x → zW p l e R s m args below meth c cells slots Q A D cl cA ad E nL M tgt L st) (kf : ¬ 0 < x → zW p l e R s m args below meth c cells slots Q A D cl cA ad E nL M (pc + 3) L st) : zW p l e R s m args below meth c cells slots Q A D cl cA ad E nL M pc L (zI x :: st) :=
  fun H locs ls hP hD hS hl => lv_if_gt X.1 X.2.1 hd ht (fun h => kt h H locs ls hP hD hS hl) (fun h => kf h H locs ls hP hD hS hl)
theorem z_if_le (X : zX p s m args meth c A D cl tys Ts own cc nL ret) {x : Int32} {off : Int} (tgt : Nat) (hd : decode cc pc = .ok (.ifCond .le off, 3)) (ht : (pc : Int) + off = (tgt : Int)) (kt : x ≤ 0 → zW p l e R s m args below meth c cells slots Q A D cl cA ad E nL M tgt L st) (kf : ¬ x ≤ 0 → zW p l e R s m args below meth c cells slots Q A D cl cA ad E nL M (pc + 3) L st) : zW p l e R s m args below meth c cells slots Q A D cl cA ad E nL M pc L (zI x :: st) :=
  fun H locs ls hP hD hS hl => lv_if_le X.1 X.2.1 hd ht (fun h => kt h H locs ls hP hD hS hl) (fun h => kf h H locs ls hP hD hS hl)
theorem z_icmp_eq (X : zX p s m args meth c A D cl tys Ts own cc nL ret) {x y : Int32} {off : Int} (tgt : Nat) (hd : decode cc pc = .ok (.if_icmp .eq off, 3)) (ht : (pc : Int) + off = (tgt : Int)) (kt : x = y → zW p l e R s m args below meth c cells slots Q A D cl cA ad E nL M tgt L st) (kf : ¬ x = y → zW p l e R s m args below meth c cells slots Q A D cl cA ad E nL M (pc + 3) L st) : zW p l e R s m args below meth c cells slots Q A D cl cA ad E nL M pc L (zI y :: zI x :: st) :=
  fun H locs ls hP hD hS hl => lv_icmp_eq X.1 X.2.1 hd ht (fun h => kt h H locs ls hP hD hS hl) (fun h => kf h H locs ls hP hD hS hl)
theorem z_icmp_ne (X : zX p s m args meth c A D cl tys Ts own cc nL ret) {x y : Int32} {off : Int} (tgt : Nat) (hd : decode cc pc = .ok (.if_icmp .ne off, 3)) (ht : (pc : Int) + off = (tgt : Int)) (kt : ¬ x = y → zW p l e R s m args below meth c cells slots Q A D cl cA ad E nL M tgt L st) (kf : x = y → zW p l e R s m args below meth c cells slots Q A D cl cA ad E nL M (pc + 3) L st) : zW p l e R s m args below meth c cells slots Q A D cl cA ad E nL M pc L (zI y :: zI x :: st) :=
  fun H locs ls hP hD hS hl => lv_icmp_ne X.1 X.2.1 hd ht (fun h => kt h H locs ls hP hD hS hl) (fun h => kf h H locs ls hP hD hS hl)
theorem z_icmp_lt (X : zX p s m args meth c A D cl tys Ts own cc nL ret) {x y : Int32} {off : Int} (tgt : Nat) (hd : decode cc pc = .ok (.if_icmp .lt off, 3)) (ht : (pc : Int) + off = (tgt : Int)) (kt : x < y → zW p l e R s m args below meth c cells slots Q A D cl cA ad E nL M tgt L st) (kf : ¬ x < y → zW p l e R s m args below meth c cells slots Q A D cl cA ad E nL M (pc + 3) L st) : zW p l e R s m args below meth c cells slots Q A D cl cA ad E nL M pc L (zI y :: zI x :: st) :=
  fun H locs ls hP hD hS hl => lv_icmp_lt X.1 X.2.1 hd ht (fun h => kt h H locs ls hP hD hS hl) (fun h => kf h H locs ls hP hD hS hl)
theorem z_icmp_ge (X : zX p s m args meth c A D cl tys Ts own cc nL ret) {x y : Int32} {off : Int} (tgt : Nat) (hd : decode cc pc = .ok (.if_icmp .ge off, 3)) (ht : (pc : Int) + off = (tgt : Int)) (kt : y ≤ x → zW p l e R s m args below meth c cells slots Q A D cl cA ad E nL M tgt L st) (kf : ¬ y ≤ x → zW p l e R s m args below meth c cells slots Q A D cl cA ad E nL M (pc + 3) L st) : zW p l e R s m args below meth c cells slots Q A D cl cA ad E nL M pc L (zI y :: zI x :: st) :=
  fun H locs ls hP hD hS hl => lv_icmp_ge X.1 X.2.1 hd ht (fun h => kt h H locs ls hP hD hS hl) (fun h => kf h H locs ls hP hD hS hl)
theorem z_icmp_gt (X : zX p s m args meth c A D cl tys Ts own cc nL ret) {x y : Int32} {off : Int} (tgt : Nat) (hd : decode cc pc = .ok (.if_icmp .gt off, 3)) (ht : (pc : Int) + off = (tgt : Int)) (kt : y < x → zW p l e R s m args below meth c cells slots Q A D cl cA ad E nL M tgt L st) (kf : ¬ y < x → zW p l e R s m args below meth c cells slots Q A D cl cA ad E nL M (pc + 3) L st) : zW p l e R s m args below meth c cells slots Q A D cl cA ad E nL M pc L (zI y :: zI x :: st) :=
  fun H locs ls hP hD hS hl => lv_icmp_gt X.1 X.2.1 hd ht (fun h => kt h H locs ls hP hD hS hl) (fun h => kf h H locs ls hP hD hS hl)
theorem z_icmp_le (X : zX p s m args meth c A D cl tys Ts own cc nL ret) {x y : Int32} {off : Int} (tgt : Nat) (hd : decode cc pc = .ok (.if_icmp .le off, 3)) (ht : (pc : Int) + off = (tgt : Int)) (kt : x ≤ y → zW p l e R s m args below meth c cells slots Q A D cl cA ad E nL M tgt L st) (kf : ¬ x ≤ y → zW p l e R s m args below meth c cells slots Q A D cl cA ad E nL M (pc + 3) L st) : zW p l e R s m args below meth c cells slots Q A D cl cA ad E nL M pc L (zI y :: zI x :: st) :=
  fun H locs ls hP hD hS hl => lv_icmp_le X.1 X.2.1 hd ht (fun h => kt h H locs ls hP hD hS hl) (fun h => kf h H locs ls hP hD hS hl)
theorem z_goto (X : zX p s m args meth c A D cl tys Ts own cc nL ret) {off : Int} (tgt : Nat) (hd : decode cc pc = .ok (.goto off, 3)) (ht : (pc : Int) + off = (tgt : Int)) (k : zW p l e R s m args below meth c cells slots Q A D cl cA ad E nL M tgt L st) : zW p l e R s m args below meth c cells slots Q A D cl cA ad E nL M pc L st :=
  fun H locs ls hP hD hS hl => lv_goto X.1 X.2.1 hd ht (k H locs ls hP hD hS hl)
theorem z_ifnull (X : zX p s m args meth c A D cl tys Ts own cc nL ret) {x : Nat} {off : Int} (hd : decode cc pc = .ok (.ifnull off, 3)) (k : zW p l e R s m args below meth c cells slots Q A D cl cA ad E nL M (pc + 3) L st) : zW p l e R s m args below meth c cells slots Q A D cl cA ad E nL M pc L (zR x :: st) :=
  fun H locs ls hP hD hS hl => lv_ifnull X.1 X.2.1 hd (k H locs ls hP hD hS hl)
theorem z_ifnullN (X : zX p s m args meth c A D cl tys Ts own cc nL ret) {off : Int} (tgt : Nat) (hd : decode cc pc = .ok (.ifnull off, 3)) (ht : (pc : Int) + off = (tgt : Int)) (k : zW p l e R s m args below meth c cells slots Q A D cl cA ad E nL M tgt L st) : zW p l e R s m args below meth c cells slots Q A D cl cA ad E nL M pc L (zN :: st) :=
  fun H locs ls hP hD hS hl => lv_ifnullN X.1 X.2.1 hd ht (k H locs ls hP hD hS hl)
theorem z_ifnonnull (X : zX p s m args meth c A D cl tys Ts own cc nL ret) {x : Nat} {off : Int} (tgt : Nat) (hd : decode cc pc = .ok (.ifnonnull off, 3)) (ht : (pc : Int) + off = (tgt : Int)) (k : zW p l e R s m args below meth c cells slots Q A D cl cA ad E nL M tgt L st) : zW p l e R s m args below meth c cells slots Q A D cl cA ad E nL M pc L (zR x :: st) :=
  fun H locs ls hP hD hS hl => lv_ifnonnull X.1 X.2.1 hd ht (k H locs ls hP hD hS hl)
theorem z_ifnonnullN (X : zX p s m args meth c A D cl tys Ts own cc nL ret) {off : Int} (hd : decode cc pc = .ok (.ifnonnull off, 3)) (k : zW p l e R s m args below meth c cells slots Q A D cl cA ad E nL M (pc + 3) L st) : zW p l e R s m args below meth c cells slots Q A D cl cA ad E nL M pc L (zN :: st) :=
  fun H locs ls hP hD hS hl => lv_ifnonnullN X.1 X.2.1 hd (k H locs ls hP hD hS hl)
theorem z_tabOut (X : zX p s m args meth c A D cl tys Ts own cc nL ret) {dflt lo hi : Int} {offs : Array Int} {len : Nat} {x : Int32} (tgt : Nat) (hd : decode cc pc = .ok (.tableswitch dflt lo hi offs, len)) (h : x.toInt < lo ∨ hi < x.toInt) (ht : (pc : Int) + dflt = (tgt : Int)) (k : zW p l e R s m args below meth c cells slots Q A D cl cA ad E nL M tgt L st) : zW p l e R s m args below meth c cells slots Q A D cl cA ad E nL M pc L (zI x :: st) :=
  fun H locs ls hP hD hS hl => lv_tableOut X.1 X.2.1 hd h ht (k H locs ls hP hD hS hl)
theorem z_tabIn (X : zX p s m args meth c A D cl tys Ts own cc nL ret) {dflt lo hi : Int} {offs : Array Int} {len : Nat} {x : Int32} {off : Int} (tgt : Nat) (hd : decode cc pc = .ok (.tableswitch dflt lo hi offs, len)) (h1 : ¬ x.toInt < lo) (h2 : ¬ hi < x.toInt) (ho : offs[(x.toInt - lo).toNat]? = some off) (ht : (pc : Int) + off = (tgt : Int)) (k : zW p l e R s m args below meth c cells slots Q A D cl cA ad E nL M tgt L st) : zW p l e R s m args below meth c cells slots Q A D cl cA ad E nL M pc L (zI x :: st) :=
  fun H locs ls hP hD hS hl => lv_tableIn X.1 X.2.1 hd h1 h2 ho ht (k H locs ls hP hD hS hl)
theorem z_look (X : zX p s m args meth c A D cl tys Ts own cc nL ret) {dflt : Int} {ps : Array (Int × Int)} {len : Nat} {x : Int32} {off : Int} (tgt : Nat) (hd : decode cc pc = .ok (.lookupswitch dflt ps, len)) (hp : (ps.toList.zip (ps.toList.drop 1)).all (fun (a, next) => a.1 < next.1) = true) (ho : Op.lookupswitch.offset ps.toList dflt x.toInt = off) (ht : (pc : Int) + off = (tgt : Int)) (k : zW p l e R s m args below meth c cells slots Q A D cl cA ad E nL M tgt L st) : zW p l e R s m args below meth c cells slots Q A D cl cA ad E nL M pc L (zI x :: st) :=
  fun H locs ls hP hD hS hl => lv_lookup X.1 X.2.1 hd hp ho ht (k H locs ls hP hD hS hl)
theorem z_get (X : zX p s m args meth c A D cl tys Ts own cc nL ret) {index ci k : Nat} {ty : FieldType} {fin : Bool} (fl : zF cl Ts own index ci k ty fin) (c0 : Nat) {fs : List zK} (hE : E[c0]? = some (.inl (ci, fs))) {f : zK} (hf : fs[k]? = some f) {v : zA} (hv : z_fa M c0 k f = v) (hd : decode cc pc = .ok (.getfield index, 3)) (kk : zW p l e R s m args below meth c cells slots Q A D cl cA ad E nL M (pc + 3) L (v :: st)) : zW p l e R s m args below meth c cells slots Q A D cl cA ad E nL M pc L (zR c0 :: st) := by
  intro H locs ls hP hD hS hl
  obtain ⟨C, T, Nf, tf, h1, h2, h3, h4, h5, h6, h7, h8⟩ := fl
  have hw : (z_w cA ad M 0 E)[c0]? = some (ad c0, .inr (ci, z_fs ad M c0 0 fs)) := by
    rw [z_w_get cA ad M hE]
    rfl
  refine va_get (D := D) (ci := ci) (v := z_v ad v) (C := C) (T := T) (N := Nf) X.1 X.2.1 X.2.2.2.2.1 h3 X.2.2.2.1 X.2.2.2.2.2.1 hP c0 hw h1 k h2 (X.2.2.2.2.1 _ h4) (fun _ h9 => h9) ?_ hd (kk H locs ls hP hD hS hl)
  rw [z_fs_get, hf, ← hv, ← z_vfa, Nat.zero_add]
  rfl
theorem z_puti (X : zX p s m args meth c A D cl tys Ts own cc nL ret) {index ci k : Nat} {ty : FieldType} (fl : zF cl Ts own index ci k ty false) (c0 : Nat) {fs : List zK} (hE : E[c0]? = some (.inl (ci, fs))) (hf : fs[k]? = some ki) {x : Int32} (hn : narrow ty (.int x) = .int x) (hfit : fits ty (.int x) = true) (hd : decode cc pc = .ok (.putfield index, 3)) (kk : zW p l e R s m args below meth c cells slots Q A D cl cA ad E nL (z_si M c0 k x) (pc + 3) L st) : zW p l e R s m args below meth c cells slots Q A D cl cA ad E nL M pc L (zI x :: zR c0 :: st) := by
  intro H locs ls hP hD hS hl
  obtain ⟨C, T, Nf, tf, h1, h2, h3, h4, h5, h6, h7, h8⟩ := fl
  have hw : (z_w cA ad M 0 E)[c0]? = some (ad c0, .inr (ci, z_fs ad M c0 0 fs)) := by
    rw [z_w_get cA ad M hE]
    rfl
  have he : (z_w cA ad M 0 E).set c0 (ad c0, .inr (ci, (z_fs ad M c0 0 fs).set k (.int x))) = z_w cA ad (z_si M c0 k x) 0 E := by
    rw [z_w_set cA ad (M := M) (M' := z_si M c0 k x) hE (x' := .inl (ci, fs)) ?_ (fun d hd2 => z_si_row M k x hd2) (fun _ _ => rfl), z_set_self hE]
    rw [z_fs_si ad M c0 k x hf]
    rfl
  refine va_put (D := D) (ci := ci) (v := .int x) (ty := ty) (C := C) (T := T) (N := Nf) X.1 X.2.1 X.2.2.2.2.1 h3 tf h5 h6 X.2.2.2.1 X.2.2.2.2.2.1 hP hD hS c0 hw h1 k h2 (X.2.2.2.2.1 _ h4) (fun _ h9 => h9) h8 h7 hn hfit (by rw [z_fs_len]; exact (List.getElem?_eq_some_iff.mp hf).1) hd (fun H1 locs1 hP1 hD1 hS1 => ?_)
  rw [he] at hP1 hD1
  exact kk H1 locs1 ls hP1 hD1 hS1 hl
theorem z_putj (X : zX p s m args meth c A D cl tys Ts own cc nL ret) {index ci k : Nat} (fl : zF cl Ts own index ci k .long false) (c0 : Nat) {fs : List zK} (hE : E[c0]? = some (.inl (ci, fs))) (hf : fs[k]? = some kj) {x : Int64} (hd : decode cc pc = .ok (.putfield index, 3)) (kk : zW p l e R s m args below meth c cells slots Q A D cl cA ad E nL (z_sj M c0 k x) (pc + 3) L st) : zW p l e R s m args below meth c cells slots Q A D cl cA ad E nL M pc L (zJ x :: zR c0 :: st) := by
  intro H locs ls hP hD hS hl
  obtain ⟨C, T, Nf, tf, h1, h2, h3, h4, h5, h6, h7, h8⟩ := fl
  have hw : (z_w cA ad M 0 E)[c0]? = some (ad c0, .inr (ci, z_fs ad M c0 0 fs)) := by
    rw [z_w_get cA ad M hE]
    rfl
  have he : (z_w cA ad M 0 E).set c0 (ad c0, .inr (ci, (z_fs ad M c0 0 fs).set k (.long x))) = z_w cA ad (z_sj M c0 k x) 0 E := by
    rw [z_w_set cA ad (M := M) (M' := z_sj M c0 k x) hE (x' := .inl (ci, fs)) ?_ (fun _ _ => rfl) (fun d hd2 => z_sj_row M k x hd2), z_set_self hE]
    rw [z_fs_sj ad M c0 k x hf]
    rfl
  refine va_put (D := D) (ci := ci) (v := .long x) (ty := .long) (C := C) (T := T) (N := Nf) X.1 X.2.1 X.2.2.2.2.1 h3 tf h5 h6 X.2.2.2.1 X.2.2.2.2.2.1 hP hD hS c0 hw h1 k h2 (X.2.2.2.2.1 _ h4) (fun _ h9 => h9) h8 h7 rfl rfl (by rw [z_fs_len]; exact (List.getElem?_eq_some_iff.mp hf).1) hd (fun H1 locs1 hP1 hD1 hS1 => ?_)
  rw [he] at hP1 hD1
  exact kk H1 locs1 ls hP1 hD1 hS1 hl
theorem z_iald (X : zX p s m args meth c A D cl tys Ts own cc nL ret) (c0 : Nat) {t n : Nat} (hE : E[c0]? = some (.inr (.inl (t, n)))) (ht : tys[t]? = some (cA t, .int)) {i : Int32} (j : Nat) (hi : i = nI j) (hj : j < n) (hn : n < 2 ^ 31) (hd : decode cc pc = .ok (.iaload, 1)) (kk : zW p l e R s m args below meth c cells slots Q A D cl cA ad E nL M (pc + 1) L (zI (M.1 c0 j) :: st)) : zW p l e R s m args below meth c cells slots Q A D cl cA ad E nL M pc L (zI i :: zR c0 :: st) := by
  subst hi
  intro H locs ls hP hD hS hl
  have hw : (z_w cA ad M 0 E)[c0]? = some (ad c0, .inl (cA t, n, .inl (M.1 c0))) := by
    rw [z_w_get cA ad M hE]
    rfl
  refine va_iald X.1 X.2.1 X.2.2.2.2.2.1 hP c0 t hw ht (vp_in_nI hj hn) hd ?_
  rw [nI_clamp (n := j) (by omega)]
  exact kk H locs ls hP hD hS hl
theorem z_iast (X : zX p s m args meth c A D cl tys Ts own cc nL ret) (c0 : Nat) {t n : Nat} (hE : E[c0]? = some (.inr (.inl (t, n)))) (ht : tys[t]? = some (cA t, .int)) {i x : Int32} (j : Nat) (hi : i = nI j) (hj : j < n) (hn : n < 2 ^ 31) (hd : decode cc pc = .ok (.iastore, 1)) (kk : zW p l e R s m args below meth c cells slots Q A D cl cA ad E nL (z_si M c0 j x) (pc + 1) L st) : zW p l e R s m args below meth c cells slots Q A D cl cA ad E nL M pc L (zI x :: zI i :: zR c0 :: st) := by
  subst hi
  intro H locs ls hP hD hS hl
  have hw : (z_w cA ad M 0 E)[c0]? = some (ad c0, .inl (cA t, n, .inl (M.1 c0))) := by
    rw [z_w_get cA ad M hE]
    rfl
  have he : (z_w cA ad M 0 E).set c0 (ad c0, .inl (cA t, n, .inl (upd (M.1 c0) (nI j).toNatClampNeg x))) = z_w cA ad (z_si M c0 j x) 0 E := by
    rw [z_w_set cA ad (M := M) (M' := z_si M c0 j x) hE (x' := .inr (.inl (t, n))) ?_ (fun d hd2 => z_si_row M j x hd2) (fun _ _ => rfl), z_set_self hE]
    rw [nI_clamp (n := j) (by omega), show upd (M.1 c0) j x = (z_si M c0 j x).1 c0 from by funext q; simp [upd, z_si]]
    rfl
  refine va_iast X.1 X.2.1 X.2.2.2.2.2.1 hP hD hS c0 t hw ht (vp_in_nI hj hn) hd (fun H1 locs1 hP1 hD1 hS1 => ?_)
  rw [he] at hP1 hD1
  exact kk H1 locs1 ls hP1 hD1 hS1 hl
theorem z_aald (X : zX p s m args meth c A D cl tys Ts own cc nL ret) (c0 : Nat) {t : Nat} {rs : List (Option Nat)} {C : String} (hE : E[c0]? = some (.inr (.inr (t, rs)))) (ht : tys[t]? = some (cA t, .object C)) {i : Int32} (j : Nat) (hi : i = nI j) (hj : j < rs.length) (hn : rs.length < 2 ^ 31) {r : Nat} (hr : rs.getD j none = some r) (hd : decode cc pc = .ok (.aaload, 1)) (kk : zW p l e R s m args below meth c cells slots Q A D cl cA ad E nL M (pc + 1) L (zR r :: st)) : zW p l e R s m args below meth c cells slots Q A D cl cA ad E nL M pc L (zI i :: zR c0 :: st) := by
  subst hi
  intro H locs ls hP hD hS hl
  have hw : (z_w cA ad M 0 E)[c0]? = some (ad c0, .inl (cA t, rs.length, .inr (.inr (.inr (.inr (fun j => (rs.getD j none).map ad)))))) := by
    rw [z_w_get cA ad M hE]
    rfl
  refine va_aldq X.1 X.2.1 X.2.2.2.2.2.1 hP c0 t hw ht (vp_in_nI hj hn) hd ?_
  rw [nI_clamp (n := j) (by omega), hr]
  exact kk H locs ls hP hD hS hl
theorem z_alen (X : zX p s m args meth c A D cl tys Ts own cc nL ret) (c0 : Nat) {t n : Nat} (hE : E[c0]? = some (.inr (.inl (t, n)))) {ty : FieldType} (ht : tys[t]? = some (cA t, ty)) {v : Int32} (hv : Int32.ofNat n = v) (hd : decode cc pc = .ok (.arraylength, 1)) (kk : zW p l e R s m args below meth c cells slots Q A D cl cA ad E nL M (pc + 1) L (zI v :: st)) : zW p l e R s m args below meth c cells slots Q A D cl cA ad E nL M pc L (zR c0 :: st) := by
  intro H locs ls hP hD hS hl
  have hw : (z_w cA ad M 0 E)[c0]? = some (ad c0, .inl (cA t, n, .inl (M.1 c0))) := by
    rw [z_w_get cA ad M hE]
    rfl
  exact va_alen X.1 X.2.1 X.2.2.2.2.2.1 hP c0 t hw ht hv hd (kk H locs ls hP hD hS hl)
end ZRows
/-- the locals that a method begins with -/
def z_args : Nat → List zA → List (Nat × zA)
  | _, [] => []
  | i, v :: vs => (i, v) :: z_args (if z_two v = true then i + 2 else i + 1) vs
def z_len : List zA → Nat
  | [] => 0
  | v :: vs => (if z_two v = true then 2 else 1) + z_len vs
theorem z_cat2 (ad : Nat → Nat) (v : zA) : (z_v ad v).category = 2 ↔ z_two v = true := by
  rw [← z_cat ad v]
  exact (beq_iff_eq).symm
theorem z_args_map (ad : Nat → Nat) : ∀ (as : List zA) (i : Nat), (z_args i as).map (fun q => (q.1, z_v ad q.2)) = lv_args i (as.map (z_v ad))
  | [], i => rfl
  | v :: vs, i => by
    show (i, z_v ad v) :: (z_args _ vs).map _ = (i, z_v ad v) :: lv_args _ (vs.map (z_v ad))
    rw [z_args_map ad vs]
    by_cases h : z_two v = true
    · rw [if_pos h, if_pos ((z_cat2 ad v).mpr h)]
    · rw [if_neg h, if_neg (fun q => h ((z_cat2 ad v).mp q))]
theorem z_len_eq (ad : Nat → Nat) : ∀ as : List zA, (lg_sl (as.map (z_v ad))).length = z_len as
  | [] => rfl
  | v :: vs => by
    have h := z_len_eq ad vs
    unfold lg_sl at h ⊢
    rw [List.map_cons, List.flatMap_cons, List.length_append, h]
    show _ = (if z_two v = true then 2 else 1) + z_len vs
    by_cases h2 : z_two v = true
    · rw [if_pos h2, if_pos ((z_cat2 ad v).mpr h2)]
      rfl
    · rw [if_neg h2, if_neg (fun q => h2 ((z_cat2 ad v).mp q))]
      rfl
def zMi (l : Launch) (D : va_G) (cl : List vw_C) (tys : List (ClassId × FieldType)) (cA : Nat → ClassId) (ad : Nat → Nat) (E : List zC) (Ts : List Cond) (y : MethodName) (b : ByteArray) (nL : Nat) (ret : Option FieldType) (rm : Room) (as : List zA) (M : zM) (post : Int32 → zM → Prop) : Prop :=
  ∀ sz : Nat, Met l y (.code y b nL ret :: Ts) rm (va_Pc (as.map (z_v ad)) (fun U => U.heap.size = sz ∧ va_P D cl (z_w cA ad M 0 E) U.heap ∧ va_K D cl tys U ∧ va_D (fun _ => True) (z_w cA ad M 0 E))) (va_Qi post (fun M' t => va_P D cl (z_w cA ad M' 0 E) t.heap) (va_A (z_w cA ad M 0 E) sz)) 0 0 (va_A (z_w cA ad M 0 E) sz)
theorem zMi_of {l : Launch} {D : va_G} {cl : List vw_C} {tys : List (ClassId × FieldType)} {cA : Nat → ClassId} {ad : Nat → Nat} {E : List zC} {Ts : List Cond} {y : MethodName} {b : ByteArray} {nL : Nat} {ret : Option FieldType} {rm : Room} {as : List zA} {M : zM} {post : Int32 → zM → Prop} (hy : plainName y.cls = true) (hlen : z_len as ≤ nL)
    (body : ∀ (p : Program) (e : Env) (s : State) (m : MethodId) (args : Array Value) (below : List Frame) (meth : Method) (c : Code) (A : Nat → Prop), zX p s m args meth c A D cl tys Ts y.cls b nL ret →
      zW p l e rm s m args below meth c 0 0 (MQ below (va_Qi post (fun M' t => va_P D cl (z_w cA ad M' 0 E) t.heap) A) args s 0 0 A) A D cl cA ad E nL M 0 (z_args 0 as) []) : zMi l D cl tys cA ad E Ts y b nL ret rm as M post := by
  intro sz
  refine Met.ofW (cc := b) (maxL := nL) (ret := ret) hy rfl ?_
  intro p e s m args below meth c s₁ B hml hv
  obtain ⟨rfl, hsz, hP, hK, hD0⟩ := hv
  subst hsz
  have hts := atoms_spec (ws := .code y b nL ret :: Ts) B.pre
  have hown : s.vm.findClass y.cls = some m.cls := findClass_of_methodNamed B.named
  have hD := hD0.self (sz := s.heap.size)
  generalize hAe : va_A (z_w cA ad M 0 E) s.heap.size = A at hD ⊢
  have hA : ∀ q : Nat, s.heap.size ≤ q → A q := fun q h => by rw [← hAe]; exact Or.inr h
  have hl := lv_entry (as.map (z_v ad)) (n := nL) (by rw [z_len_eq]; exact hlen)
  rw [lg_entry_eq]
  exact body p e s m _ below meth c A ⟨B.exec, B.bytes, hml, hown, fun w hw => hts w (List.mem_cons_of_mem _ hw), hK, hA, B.returns, B.notSynchronized⟩ s.heap [] _ hP hD va_S.rf (by rw [z_args_map]; exact hl)
def zMj (l : Launch) (D : va_G) (cl : List vw_C) (tys : List (ClassId × FieldType)) (cA : Nat → ClassId) (ad : Nat → Nat) (E : List zC) (Ts : List Cond) (y : MethodName) (b : ByteArray) (nL : Nat) (ret : Option FieldType) (rm : Room) (as : List zA) (M : zM) (post : Int64 → zM → Prop) : Prop :=
  ∀ sz : Nat, Met l y (.code y b nL ret :: Ts) rm (va_Pc (as.map (z_v ad)) (fun U => U.heap.size = sz ∧ va_P D cl (z_w cA ad M 0 E) U.heap ∧ va_K D cl tys U ∧ va_D (fun _ => True) (z_w cA ad M 0 E))) (va_Ql post (fun M' t => va_P D cl (z_w cA ad M' 0 E) t.heap) (va_A (z_w cA ad M 0 E) sz)) 0 0 (va_A (z_w cA ad M 0 E) sz)
theorem zMj_of {l : Launch} {D : va_G} {cl : List vw_C} {tys : List (ClassId × FieldType)} {cA : Nat → ClassId} {ad : Nat → Nat} {E : List zC} {Ts : List Cond} {y : MethodName} {b : ByteArray} {nL : Nat} {ret : Option FieldType} {rm : Room} {as : List zA} {M : zM} {post : Int64 → zM → Prop} (hy : plainName y.cls = true) (hlen : z_len as ≤ nL)
    (body : ∀ (p : Program) (e : Env) (s : State) (m : MethodId) (args : Array Value) (below : List Frame) (meth : Method) (c : Code) (A : Nat → Prop), zX p s m args meth c A D cl tys Ts y.cls b nL ret →
      zW p l e rm s m args below meth c 0 0 (MQ below (va_Ql post (fun M' t => va_P D cl (z_w cA ad M' 0 E) t.heap) A) args s 0 0 A) A D cl cA ad E nL M 0 (z_args 0 as) []) : zMj l D cl tys cA ad E Ts y b nL ret rm as M post := by
  intro sz
  refine Met.ofW (cc := b) (maxL := nL) (ret := ret) hy rfl ?_
  intro p e s m args below meth c s₁ B hml hv
  obtain ⟨rfl, hsz, hP, hK, hD0⟩ := hv
  subst hsz
  have hts := atoms_spec (ws := .code y b nL ret :: Ts) B.pre
  have hown : s.vm.findClass y.cls = some m.cls := findClass_of_methodNamed B.named
  have hD := hD0.self (sz := s.heap.size)
  generalize hAe : va_A (z_w cA ad M 0 E) s.heap.size = A at hD ⊢
  have hA : ∀ q : Nat, s.heap.size ≤ q → A q := fun q h => by rw [← hAe]; exact Or.inr h
  have hl := lv_entry (as.map (z_v ad)) (n := nL) (by rw [z_len_eq]; exact hlen)
  rw [lg_entry_eq]
  exact body p e s m _ below meth c A ⟨B.exec, B.bytes, hml, hown, fun w hw => hts w (List.mem_cons_of_mem _ hw), hK, hA, B.returns, B.notSynchronized⟩ s.heap [] _ hP hD va_S.rf (by rw [z_args_map]; exact hl)
def zMv (l : Launch) (D : va_G) (cl : List vw_C) (tys : List (ClassId × FieldType)) (cA : Nat → ClassId) (ad : Nat → Nat) (E : List zC) (Ts : List Cond) (y : MethodName) (b : ByteArray) (nL : Nat) (ret : Option FieldType) (rm : Room) (as : List zA) (M : zM) (post : zM → Prop) : Prop :=
  ∀ sz : Nat, Met l y (.code y b nL ret :: Ts) rm (va_Pc (as.map (z_v ad)) (fun U => U.heap.size = sz ∧ va_P D cl (z_w cA ad M 0 E) U.heap ∧ va_K D cl tys U ∧ va_D (fun _ => True) (z_w cA ad M 0 E))) (va_Qv post (fun M' t => va_P D cl (z_w cA ad M' 0 E) t.heap) (va_A (z_w cA ad M 0 E) sz)) 0 0 (va_A (z_w cA ad M 0 E) sz)
theorem zMv_of {l : Launch} {D : va_G} {cl : List vw_C} {tys : List (ClassId × FieldType)} {cA : Nat → ClassId} {ad : Nat → Nat} {E : List zC} {Ts : List Cond} {y : MethodName} {b : ByteArray} {nL : Nat} {ret : Option FieldType} {rm : Room} {as : List zA} {M : zM} {post : zM → Prop} (hy : plainName y.cls = true) (hlen : z_len as ≤ nL)
    (body : ∀ (p : Program) (e : Env) (s : State) (m : MethodId) (args : Array Value) (below : List Frame) (meth : Method) (c : Code) (A : Nat → Prop), zX p s m args meth c A D cl tys Ts y.cls b nL ret →
      zW p l e rm s m args below meth c 0 0 (MQ below (va_Qv post (fun M' t => va_P D cl (z_w cA ad M' 0 E) t.heap) A) args s 0 0 A) A D cl cA ad E nL M 0 (z_args 0 as) []) : zMv l D cl tys cA ad E Ts y b nL ret rm as M post := by
  intro sz
  refine Met.ofW (cc := b) (maxL := nL) (ret := ret) hy rfl ?_
  intro p e s m args below meth c s₁ B hml hv
  obtain ⟨rfl, hsz, hP, hK, hD0⟩ := hv
  subst hsz
  have hts := atoms_spec (ws := .code y b nL ret :: Ts) B.pre
  have hown : s.vm.findClass y.cls = some m.cls := findClass_of_methodNamed B.named
  have hD := hD0.self (sz := s.heap.size)
  generalize hAe : va_A (z_w cA ad M 0 E) s.heap.size = A at hD ⊢
  have hA : ∀ q : Nat, s.heap.size ≤ q → A q := fun q h => by rw [← hAe]; exact Or.inr h
  have hl := lv_entry (as.map (z_v ad)) (n := nL) (by rw [z_len_eq]; exact hlen)
  rw [lg_entry_eq]
  exact body p e s m _ below meth c A ⟨B.exec, B.bytes, hml, hown, fun w hw => hts w (List.mem_cons_of_mem _ hw), hK, hA, B.returns, B.notSynchronized⟩ s.heap [] _ hP hD va_S.rf (by rw [z_args_map]; exact hl)
def zMq (l : Launch) (D : va_G) (cl : List vw_C) (tys : List (ClassId × FieldType)) (cA : Nat → ClassId) (ad : Nat → Nat) (E : List zC) (Ts : List Cond) (y : MethodName) (b : ByteArray) (nL : Nat) (ret : Option FieldType) (rm : Room) (as : List zA) (M : zM) (post : Option Nat → zM → Prop) : Prop :=
  ∀ sz : Nat, Met l y (.code y b nL ret :: Ts) rm (va_Pc (as.map (z_v ad)) (fun U => U.heap.size = sz ∧ va_P D cl (z_w cA ad M 0 E) U.heap ∧ va_K D cl tys U ∧ va_D (fun _ => True) (z_w cA ad M 0 E))) (va_Qq (fun (r : Option Nat) (u : zM) => ∃ o : Option Nat, r = o.map ad ∧ post o u) (fun M' t => va_P D cl (z_w cA ad M' 0 E) t.heap) (va_A (z_w cA ad M 0 E) sz)) 0 0 (va_A (z_w cA ad M 0 E) sz)
theorem zMq_of {l : Launch} {D : va_G} {cl : List vw_C} {tys : List (ClassId × FieldType)} {cA : Nat → ClassId} {ad : Nat → Nat} {E : List zC} {Ts : List Cond} {y : MethodName} {b : ByteArray} {nL : Nat} {ret : Option FieldType} {rm : Room} {as : List zA} {M : zM} {post : Option Nat → zM → Prop} (hy : plainName y.cls = true) (hlen : z_len as ≤ nL)
    (body : ∀ (p : Program) (e : Env) (s : State) (m : MethodId) (args : Array Value) (below : List Frame) (meth : Method) (c : Code) (A : Nat → Prop), zX p s m args meth c A D cl tys Ts y.cls b nL ret →
      zW p l e rm s m args below meth c 0 0 (MQ below (va_Qq (fun (r : Option Nat) (u : zM) => ∃ o : Option Nat, r = o.map ad ∧ post o u) (fun M' t => va_P D cl (z_w cA ad M' 0 E) t.heap) A) args s 0 0 A) A D cl cA ad E nL M 0 (z_args 0 as) []) : zMq l D cl tys cA ad E Ts y b nL ret rm as M post := by
  intro sz
  refine Met.ofW (cc := b) (maxL := nL) (ret := ret) hy rfl ?_
  intro p e s m args below meth c s₁ B hml hv
  obtain ⟨rfl, hsz, hP, hK, hD0⟩ := hv
  subst hsz
  have hts := atoms_spec (ws := .code y b nL ret :: Ts) B.pre
  have hown : s.vm.findClass y.cls = some m.cls := findClass_of_methodNamed B.named
  have hD := hD0.self (sz := s.heap.size)
  generalize hAe : va_A (z_w cA ad M 0 E) s.heap.size = A at hD ⊢
  have hA : ∀ q : Nat, s.heap.size ≤ q → A q := fun q h => by rw [← hAe]; exact Or.inr h
  have hl := lv_entry (as.map (z_v ad)) (n := nL) (by rw [z_len_eq]; exact hlen)
  rw [lg_entry_eq]
  exact body p e s m _ below meth c A ⟨B.exec, B.bytes, hml, hown, fun w hw => hts w (List.mem_cons_of_mem _ hw), hK, hA, B.returns, B.notSynchronized⟩ s.heap [] _ hP hD va_S.rf (by rw [z_args_map]; exact hl)
/-- what a call needs of the words: invokevirtual, invokestatic -/
def zV (Ts : List Cond) (own : String) (index : Nat) (C : String) (y : MethodName) (b : ByteArray) (nL : Nat) (ret : Option FieldType) (n : Nat) : Prop := GoodIn Ts (wsV own index C y [.code y b nL ret]) ∧ (y.cls = C ∧ y.cls ≠ "java/lang/invoke/MethodHandle" ∧ y.cls ≠ "java/lang/invoke/VarHandle" ∧ (parseMethodDescriptor y.desc).map (fun d => d.parameters.length) = some n)
def zS (Ts : List Cond) (own : String) (index : Nat) (y : MethodName) (b : ByteArray) (nL : Nat) (ret : Option FieldType) (n : Nat) : Prop := GoodIn Ts (va_wsS own index y [.code y b nL ret]) ∧ (y.cls ≠ "java/lang/invoke/MethodHandle" ∧ y.cls ≠ "java/lang/invoke/VarHandle" ∧ (parseMethodDescriptor y.desc).map (fun d => d.parameters.length) = some n)
theorem zV_in {Ts : List Cond} {own : String} {index : Nat} {C : String} {y : MethodName} {b : ByteArray} {nL : Nat} {ret : Option FieldType} {n : Nat} (hGG : GoodIn Ts Ts) (h : zV Ts own index C y b nL ret n) : GoodIn Ts (wsV own index C y (.code y b nL ret :: Ts)) := by
  intro w hw
  unfold wsV at hw
  rcases List.mem_append.mp hw with q | q
  · exact h.1 w (by unfold wsV; exact List.mem_append_left _ q)
  · rcases List.mem_cons.mp q with q | q
    · subst q
      exact h.1 _ (by unfold wsV; exact List.mem_append_right _ List.mem_cons_self)
    · exact hGG w q
theorem zS_in {Ts : List Cond} {own : String} {index : Nat} {y : MethodName} {b : ByteArray} {nL : Nat} {ret : Option FieldType} {n : Nat} (hGG : GoodIn Ts Ts) (h : zS Ts own index y b nL ret n) : GoodIn Ts (va_wsS own index y (.code y b nL ret :: Ts)) := by
  intro w hw
  unfold va_wsS at hw
  rcases List.mem_append.mp hw with q | q
  · exact h.1 w (by unfold va_wsS; exact List.mem_append_left _ q)
  · rcases List.mem_cons.mp q with q | q
    · subst q
      exact h.1 _ (by unfold va_wsS; exact List.mem_append_right _ List.mem_cons_self)
    · exact hGG w q
section ZCalls
variable {p : Program} {l : Launch} {e : Env} {R : Room} {s : State} {m : MethodId} {args : Array Value} {below : List Frame} {meth : Method} {c : Code} {cells slots : Nat} {Q : State → Prop} {A : Nat → Prop} {D : va_G} {cl : List vw_C} {tys : List (ClassId × FieldType)} {cA : Nat → ClassId} {ad : Nat → Nat} {E : List zC} {nL : Nat} {M : zM} {pc : Nat} {L L' : List (Nat × zA)} {st stk : List zA} {Ts : List Cond} {own : String} {cc : ByteArray} {ret : Option FieldType}
  {y : MethodName} {b2 : ByteArray} {nL2 n index : Nat} {ret2 : Option FieldType} {rm : Room}
theorem z_Vi (X : zX p s m args meth c A D cl tys Ts own cc nL ret) (hGG : GoodIn Ts Ts) {C : String} (cf : zV Ts own index C y b2 nL2 ret2 n) (c0 : Nat) (as st : List zA) {post : Int32 → zM → Prop} (hM : zMi l D cl tys cA ad E Ts y b2 nL2 ret2 rm (zR c0 :: as) M post) (hrm : rm.cells = 0 ∧ rm.slots = 0) (hroom : rm.frames + 1 ≤ R.frames ∧ 8 + (nL2 + 11) + rm.locals ≤ R.locals) {ci : Nat} {fs : List zK} (hE : E[c0]? = some (.inl (ci, fs))) {r0 : vw_C} (hcl : cl[ci]? = some r0) (hC : r0.1 = C) (hn : as.length = n) (hs : stk = as.reverse ++ zR c0 :: st) (hW : ((st.map (z_v ad)).map fun v => v.category).sum ≤ 8) (hf : cells ≤ R.cells ∧ slots ≤ R.slots) (hd : decode cc pc = .ok (.invokevirtual index, 3)) (k : ∀ (r : Int32) (M' : zM), post r M' → zW p l e R s m args below meth c cells slots Q A D cl cA ad E nL M' (pc + 3) L (zI r :: st)) : zW p l e R s m args below meth c cells slots Q A D cl cA ad E nL M pc L stk := by
  intro H locs ls hP hD hS hl
  subst hs
  subst hC
  have hFc := z_A cA ad hD hS X.2.2.2.2.2.2.1
  have hw : (z_w cA ad M 0 E)[c0]? = some (ad c0, .inr (ci, z_fs ad M c0 0 fs)) := by
    rw [z_w_get cA ad M hE]
    rfl
  refine va_calli (va_runV (As := as.map (z_v ad)) (rest := st.map (z_v ad)) (b := ad c0) ⟨X.1, X.2.1, X.2.2.1, X.2.2.2.1, X.2.2.2.2.1⟩ (hM H.size) (cwV n X.2.2.2.2.1 (zV_in hGG cf) rfl hrm.1 hrm.2 cf.2 hroom) ⟨fun a U g mk q => by obtain ⟨q0, q1, qP, qK, qD⟩ := q; exact ⟨q0, q1, qP, va_K.moved (u := U) (U := U.calling g mk a) (Vm.Alike.refl U.vm) qK, qD⟩, va_recv X.2.2.2.2.2.1 hP hcl hw, fun U hU hW2 => ⟨rfl, by rw [hU], by rw [hU]; exact hP, va_K.moved hW2.alike X.2.2.2.2.2.1, hD.weaken (fun _ _ _ _ => trivial)⟩⟩ rfl (by rw [List.length_map]; exact hn) hl.1 (by show List.map _ _ = _; rw [List.map_append, List.map_reverse]; rfl) (lv_room hW) hd ⟨hf.1, hf.2⟩) hS (fun q _ h => hFc q h) hFc (fun r M' t H1 locs1 ht hvm hw hB hz1 hk1 hS1 => ?_)
  exact k r M' hw H1 locs1 ls (by rw [← ht]; exact hB) (z_D cA ad M' hD) hS1 hl
theorem z_Si (X : zX p s m args meth c A D cl tys Ts own cc nL ret) (hGG : GoodIn Ts Ts) (cf : zS Ts own index y b2 nL2 ret2 n) (as st : List zA) {post : Int32 → zM → Prop} (hM : zMi l D cl tys cA ad E Ts y b2 nL2 ret2 rm as M post) (hrm : rm.cells = 0 ∧ rm.slots = 0) (hroom : rm.frames + 1 ≤ R.frames ∧ 8 + (nL2 + 11) + rm.locals ≤ R.locals) (hn : as.length = n) (hs : stk = as.reverse ++ st) (hW : ((st.map (z_v ad)).map fun v => v.category).sum ≤ 8) (hf : cells ≤ R.cells ∧ slots ≤ R.slots) (hd : decode cc pc = .ok (.invokestatic index, 3)) (k : ∀ (r : Int32) (M' : zM), post r M' → zW p l e R s m args below meth c cells slots Q A D cl cA ad E nL M' (pc + 3) L (zI r :: st)) : zW p l e R s m args below meth c cells slots Q A D cl cA ad E nL M pc L stk := by
  intro H locs ls hP hD hS hl
  subst hs
  have hFc := z_A cA ad hD hS X.2.2.2.2.2.2.1
  refine va_calli (va_runS (As := as.map (z_v ad)) (rest := st.map (z_v ad)) ⟨X.1, X.2.1, X.2.2.1, X.2.2.2.1, X.2.2.2.2.1⟩ (hM H.size) (va_cwS n X.2.2.2.2.1 (zS_in hGG cf) rfl hrm.1 hrm.2 cf.2 hroom) ⟨fun a U g mk q => by obtain ⟨q0, q1, qP, qK, qD⟩ := q; exact ⟨q0, q1, qP, va_K.moved (u := U) (U := U.calling g mk a) (Vm.Alike.refl U.vm) qK, qD⟩, fun U hU hW2 => ⟨rfl, by rw [hU], by rw [hU]; exact hP, va_K.moved hW2.alike X.2.2.2.2.2.1, hD.weaken (fun _ _ _ _ => trivial)⟩⟩ rfl (by rw [List.length_map]; exact hn) hl.1 (by show List.map _ _ = _; rw [List.map_append, List.map_reverse]) (lv_room hW) hd ⟨hf.1, hf.2⟩) hS (fun q _ h => hFc q h) hFc (fun r M' t H1 locs1 ht hvm hw hB hz1 hk1 hS1 => ?_)
  exact k r M' hw H1 locs1 ls (by rw [← ht]; exact hB) (z_D cA ad M' hD) hS1 hl
theorem z_Vj (X : zX p s m args meth c A D cl tys Ts own cc nL ret) (hGG : GoodIn Ts Ts) {C : String} (cf : zV Ts own index C y b2 nL2 ret2 n) (c0 : Nat) (as st : List zA) {post : Int64 → zM → Prop} (hM : zMj l D cl tys cA ad E Ts y b2 nL2 ret2 rm (zR c0 :: as) M post) (hrm : rm.cells = 0 ∧ rm.slots = 0) (hroom : rm.frames + 1 ≤ R.frames ∧ 8 + (nL2 + 11) + rm.locals ≤ R.locals) {ci : Nat} {fs : List zK} (hE : E[c0]? = some (.inl (ci, fs))) {r0 : vw_C} (hcl : cl[ci]? = some r0) (hC : r0.1 = C) (hn : as.length = n) (hs : stk = as.reverse ++ zR c0 :: st) (hW : ((st.map (z_v ad)).map fun v => v.category).sum ≤ 8) (hf : cells ≤ R.cells ∧ slots ≤ R.slots) (hd : decode cc pc = .ok (.invokevirtual index, 3)) (k : ∀ (r : Int64) (M' : zM), post r M' → zW p l e R s m args below meth c cells slots Q A D cl cA ad E nL M' (pc + 3) L (zJ r :: st)) : zW p l e R s m args below meth c cells slots Q A D cl cA ad E nL M pc L stk := by
  intro H locs ls hP hD hS hl
  subst hs
  subst hC
  have hFc := z_A cA ad hD hS X.2.2.2.2.2.2.1
  have hw : (z_w cA ad M 0 E)[c0]? = some (ad c0, .inr (ci, z_fs ad M c0 0 fs)) := by
    rw [z_w_get cA ad M hE]
    rfl
  refine va_calll (va_runV (As := as.map (z_v ad)) (rest := st.map (z_v ad)) (b := ad c0) ⟨X.1, X.2.1, X.2.2.1, X.2.2.2.1, X.2.2.2.2.1⟩ (hM H.size) (cwV n X.2.2.2.2.1 (zV_in hGG cf) rfl hrm.1 hrm.2 cf.2 hroom) ⟨fun a U g mk q => by obtain ⟨q0, q1, qP, qK, qD⟩ := q; exact ⟨q0, q1, qP, va_K.moved (u := U) (U := U.calling g mk a) (Vm.Alike.refl U.vm) qK, qD⟩, va_recv X.2.2.2.2.2.1 hP hcl hw, fun U hU hW2 => ⟨rfl, by rw [hU], by rw [hU]; exact hP, va_K.moved hW2.alike X.2.2.2.2.2.1, hD.weaken (fun _ _ _ _ => trivial)⟩⟩ rfl (by rw [List.length_map]; exact hn) hl.1 (by show List.map _ _ = _; rw [List.map_append, List.map_reverse]; rfl) (lv_room hW) hd ⟨hf.1, hf.2⟩) hS (fun q _ h => hFc q h) hFc (fun r M' t H1 locs1 ht hvm hw hB hz1 hk1 hS1 => ?_)
  exact k r M' hw H1 locs1 ls (by rw [← ht]; exact hB) (z_D cA ad M' hD) hS1 hl
theorem z_Sj (X : zX p s m args meth c A D cl tys Ts own cc nL ret) (hGG : GoodIn Ts Ts) (cf : zS Ts own index y b2 nL2 ret2 n) (as st : List zA) {post : Int64 → zM → Prop} (hM : zMj l D cl tys cA ad E Ts y b2 nL2 ret2 rm as M post) (hrm : rm.cells = 0 ∧ rm.slots = 0) (hroom : rm.frames + 1 ≤ R.frames ∧ 8 + (nL2 + 11) + rm.locals ≤ R.locals) (hn : as.length = n) (hs : stk = as.reverse ++ st) (hW : ((st.map (z_v ad)).map fun v => v.category).sum ≤ 8) (hf : cells ≤ R.cells ∧ slots ≤ R.slots) (hd : decode cc pc = .ok (.invokestatic index, 3)) (k : ∀ (r : Int64) (M' : zM), post r M' → zW p l e R s m args below meth c cells slots Q A D cl cA ad E nL M' (pc + 3) L (zJ r :: st)) : zW p l e R s m args below meth c cells slots Q A D cl cA ad E nL M pc L stk := by
  intro H locs ls hP hD hS hl
  subst hs
  have hFc := z_A cA ad hD hS X.2.2.2.2.2.2.1
  refine va_calll (va_runS (As := as.map (z_v ad)) (rest := st.map (z_v ad)) ⟨X.1, X.2.1, X.2.2.1, X.2.2.2.1, X.2.2.2.2.1⟩ (hM H.size) (va_cwS n X.2.2.2.2.1 (zS_in hGG cf) rfl hrm.1 hrm.2 cf.2 hroom) ⟨fun a U g mk q => by obtain ⟨q0, q1, qP, qK, qD⟩ := q; exact ⟨q0, q1, qP, va_K.moved (u := U) (U := U.calling g mk a) (Vm.Alike.refl U.vm) qK, qD⟩, fun U hU hW2 => ⟨rfl, by rw [hU], by rw [hU]; exact hP, va_K.moved hW2.alike X.2.2.2.2.2.1, hD.weaken (fun _ _ _ _ => trivial)⟩⟩ rfl (by rw [List.length_map]; exact hn) hl.1 (by show List.map _ _ = _; rw [List.map_append, List.map_reverse]) (lv_room hW) hd ⟨hf.1, hf.2⟩) hS (fun q _ h => hFc q h) hFc (fun r M' t H1 locs1 ht hvm hw hB hz1 hk1 hS1 => ?_)
  exact k r M' hw H1 locs1 ls (by rw [← ht]; exact hB) (z_D cA ad M' hD) hS1 hl
theorem z_Vv (X : zX p s m args meth c A D cl tys Ts own cc nL ret) (hGG : GoodIn Ts Ts) {C : String} (cf : zV Ts own index C y b2 nL2 ret2 n) (c0 : Nat) (as st : List zA) {post : zM → Prop} (hM : zMv l D cl tys cA ad E Ts y b2 nL2 ret2 rm (zR c0 :: as) M post) (hrm : rm.cells = 0 ∧ rm.slots = 0) (hroom : rm.frames + 1 ≤ R.frames ∧ 8 + (nL2 + 11) + rm.locals ≤ R.locals) {ci : Nat} {fs : List zK} (hE : E[c0]? = some (.inl (ci, fs))) {r0 : vw_C} (hcl : cl[ci]? = some r0) (hC : r0.1 = C) (hn : as.length = n) (hs : stk = as.reverse ++ zR c0 :: st) (hW : ((st.map (z_v ad)).map fun v => v.category).sum ≤ 8) (hf : cells ≤ R.cells ∧ slots ≤ R.slots) (hd : decode cc pc = .ok (.invokevirtual index, 3)) (k : ∀ (M' : zM), post M' → zW p l e R s m args below meth c cells slots Q A D cl cA ad E nL M' (pc + 3) L st) : zW p l e R s m args below meth c cells slots Q A D cl cA ad E nL M pc L stk := by
  intro H locs ls hP hD hS hl
  subst hs
  subst hC
  have hFc := z_A cA ad hD hS X.2.2.2.2.2.2.1
  have hw : (z_w cA ad M 0 E)[c0]? = some (ad c0, .inr (ci, z_fs ad M c0 0 fs)) := by
    rw [z_w_get cA ad M hE]
    rfl
  refine va_callv (va_runV (As := as.map (z_v ad)) (rest := st.map (z_v ad)) (b := ad c0) ⟨X.1, X.2.1, X.2.2.1, X.2.2.2.1, X.2.2.2.2.1⟩ (hM H.size) (cwV n X.2.2.2.2.1 (zV_in hGG cf) rfl hrm.1 hrm.2 cf.2 hroom) ⟨fun a U g mk q => by obtain ⟨q0, q1, qP, qK, qD⟩ := q; exact ⟨q0, q1, qP, va_K.moved (u := U) (U := U.calling g mk a) (Vm.Alike.refl U.vm) qK, qD⟩, va_recv X.2.2.2.2.2.1 hP hcl hw, fun U hU hW2 => ⟨rfl, by rw [hU], by rw [hU]; exact hP, va_K.moved hW2.alike X.2.2.2.2.2.1, hD.weaken (fun _ _ _ _ => trivial)⟩⟩ rfl (by rw [List.length_map]; exact hn) hl.1 (by show List.map _ _ = _; rw [List.map_append, List.map_reverse]; rfl) (lv_room hW) hd ⟨hf.1, hf.2⟩) hS (fun q _ h => hFc q h) hFc (fun M' t H1 locs1 ht hvm hw hB hz1 hk1 hS1 => ?_)
  exact k M' hw H1 locs1 ls (by rw [← ht]; exact hB) (z_D cA ad M' hD) hS1 hl
theorem z_Sv (X : zX p s m args meth c A D cl tys Ts own cc nL ret) (hGG : GoodIn Ts Ts) (cf : zS Ts own index y b2 nL2 ret2 n) (as st : List zA) {post : zM → Prop} (hM : zMv l D cl tys cA ad E Ts y b2 nL2 ret2 rm as M post) (hrm : rm.cells = 0 ∧ rm.slots = 0) (hroom : rm.frames + 1 ≤ R.frames ∧ 8 + (nL2 + 11) + rm.locals ≤ R.locals) (hn : as.length = n) (hs : stk = as.reverse ++ st) (hW : ((st.map (z_v ad)).map fun v => v.category).sum ≤ 8) (hf : cells ≤ R.cells ∧ slots ≤ R.slots) (hd : decode cc pc = .ok (.invokestatic index, 3)) (k : ∀ (M' : zM), post M' → zW p l e R s m args below meth c cells slots Q A D cl cA ad E nL M' (pc + 3) L st) : zW p l e R s m args below meth c cells slots Q A D cl cA ad E nL M pc L stk := by
  intro H locs ls hP hD hS hl
  subst hs
  have hFc := z_A cA ad hD hS X.2.2.2.2.2.2.1
  refine va_callv (va_runS (As := as.map (z_v ad)) (rest := st.map (z_v ad)) ⟨X.1, X.2.1, X.2.2.1, X.2.2.2.1, X.2.2.2.2.1⟩ (hM H.size) (va_cwS n X.2.2.2.2.1 (zS_in hGG cf) rfl hrm.1 hrm.2 cf.2 hroom) ⟨fun a U g mk q => by obtain ⟨q0, q1, qP, qK, qD⟩ := q; exact ⟨q0, q1, qP, va_K.moved (u := U) (U := U.calling g mk a) (Vm.Alike.refl U.vm) qK, qD⟩, fun U hU hW2 => ⟨rfl, by rw [hU], by rw [hU]; exact hP, va_K.moved hW2.alike X.2.2.2.2.2.1, hD.weaken (fun _ _ _ _ => trivial)⟩⟩ rfl (by rw [List.length_map]; exact hn) hl.1 (by show List.map _ _ = _; rw [List.map_append, List.map_reverse]) (lv_room hW) hd ⟨hf.1, hf.2⟩) hS (fun q _ h => hFc q h) hFc (fun M' t H1 locs1 ht hvm hw hB hz1 hk1 hS1 => ?_)
  exact k M' hw H1 locs1 ls (by rw [← ht]; exact hB) (z_D cA ad M' hD) hS1 hl
theorem z_Vq (X : zX p s m args meth c A D cl tys Ts own cc nL ret) (hGG : GoodIn Ts Ts) {C : String} (cf : zV Ts own index C y b2 nL2 ret2 n) (c0 : Nat) (as st : List zA) {post : Option Nat → zM → Prop} (hM : zMq l D cl tys cA ad E Ts y b2 nL2 ret2 rm (zR c0 :: as) M post) (hrm : rm.cells = 0 ∧ rm.slots = 0) (hroom : rm.frames + 1 ≤ R.frames ∧ 8 + (nL2 + 11) + rm.locals ≤ R.locals) {ci : Nat} {fs : List zK} (hE : E[c0]? = some (.inl (ci, fs))) {r0 : vw_C} (hcl : cl[ci]? = some r0) (hC : r0.1 = C) (hn : as.length = n) (hs : stk = as.reverse ++ zR c0 :: st) (hW : ((st.map (z_v ad)).map fun v => v.category).sum ≤ 8) (hf : cells ≤ R.cells ∧ slots ≤ R.slots) (hd : decode cc pc = .ok (.invokevirtual index, 3)) (k : ∀ (r : Option Nat) (M' : zM), post r M' → zW p l e R s m args below meth c cells slots Q A D cl cA ad E nL M' (pc + 3) L ((.inr (.inr r) : zA) :: st)) : zW p l e R s m args below meth c cells slots Q A D cl cA ad E nL M pc L stk := by
  intro H locs ls hP hD hS hl
  subst hs
  subst hC
  have hFc := z_A cA ad hD hS X.2.2.2.2.2.2.1
  have hw : (z_w cA ad M 0 E)[c0]? = some (ad c0, .inr (ci, z_fs ad M c0 0 fs)) := by
    rw [z_w_get cA ad M hE]
    rfl
  refine va_callq (va_runV (As := as.map (z_v ad)) (rest := st.map (z_v ad)) (b := ad c0) ⟨X.1, X.2.1, X.2.2.1, X.2.2.2.1, X.2.2.2.2.1⟩ (hM H.size) (cwV n X.2.2.2.2.1 (zV_in hGG cf) rfl hrm.1 hrm.2 cf.2 hroom) ⟨fun a U g mk q => by obtain ⟨q0, q1, qP, qK, qD⟩ := q; exact ⟨q0, q1, qP, va_K.moved (u := U) (U := U.calling g mk a) (Vm.Alike.refl U.vm) qK, qD⟩, va_recv X.2.2.2.2.2.1 hP hcl hw, fun U hU hW2 => ⟨rfl, by rw [hU], by rw [hU]; exact hP, va_K.moved hW2.alike X.2.2.2.2.2.1, hD.weaken (fun _ _ _ _ => trivial)⟩⟩ rfl (by rw [List.length_map]; exact hn) hl.1 (by show List.map _ _ = _; rw [List.map_append, List.map_reverse]; rfl) (lv_room hW) hd ⟨hf.1, hf.2⟩) hS (fun q _ h => hFc q h) hFc (fun r M' t H1 locs1 ht hvm hw hB hz1 hk1 hS1 => ?_)
  obtain ⟨o, rfl, hw⟩ := hw
  have h9 := k o M' hw H1 locs1 ls (by rw [← ht]; exact hB) (z_D cA ad M' hD) hS1 hl
  cases o with
  | none => exact h9
  | some o => exact h9
theorem z_Sq (X : zX p s m args meth c A D cl tys Ts own cc nL ret) (hGG : GoodIn Ts Ts) (cf : zS Ts own index y b2 nL2 ret2 n) (as st : List zA) {post : Option Nat → zM → Prop} (hM : zMq l D cl tys cA ad E Ts y b2 nL2 ret2 rm as M post) (hrm : rm.cells = 0 ∧ rm.slots = 0) (hroom : rm.frames + 1 ≤ R.frames ∧ 8 + (nL2 + 11) + rm.locals ≤ R.locals) (hn : as.length = n) (hs : stk = as.reverse ++ st) (hW : ((st.map (z_v ad)).map fun v => v.category).sum ≤ 8) (hf : cells ≤ R.cells ∧ slots ≤ R.slots) (hd : decode cc pc = .ok (.invokestatic index, 3)) (k : ∀ (r : Option Nat) (M' : zM), post r M' → zW p l e R s m args below meth c cells slots Q A D cl cA ad E nL M' (pc + 3) L ((.inr (.inr r) : zA) :: st)) : zW p l e R s m args below meth c cells slots Q A D cl cA ad E nL M pc L stk := by
  intro H locs ls hP hD hS hl
  subst hs
  have hFc := z_A cA ad hD hS X.2.2.2.2.2.2.1
  refine va_callq (va_runS (As := as.map (z_v ad)) (rest := st.map (z_v ad)) ⟨X.1, X.2.1, X.2.2.1, X.2.2.2.1, X.2.2.2.2.1⟩ (hM H.size) (va_cwS n X.2.2.2.2.1 (zS_in hGG cf) rfl hrm.1 hrm.2 cf.2 hroom) ⟨fun a U g mk q => by obtain ⟨q0, q1, qP, qK, qD⟩ := q; exact ⟨q0, q1, qP, va_K.moved (u := U) (U := U.calling g mk a) (Vm.Alike.refl U.vm) qK, qD⟩, fun U hU hW2 => ⟨rfl, by rw [hU], by rw [hU]; exact hP, va_K.moved hW2.alike X.2.2.2.2.2.1, hD.weaken (fun _ _ _ _ => trivial)⟩⟩ rfl (by rw [List.length_map]; exact hn) hl.1 (by show List.map _ _ = _; rw [List.map_append, List.map_reverse]) (lv_room hW) hd ⟨hf.1, hf.2⟩) hS (fun q _ h => hFc q h) hFc (fun r M' t H1 locs1 ht hvm hw hB hz1 hk1 hS1 => ?_)
  obtain ⟨o, rfl, hw⟩ := hw
  have h9 := k o M' hw H1 locs1 ls (by rw [← ht]; exact hB) (z_D cA ad M' hD) hS1 hl
  cases o with
  | none => exact h9
  | some o => exact h9
theorem z_iret (X : zX p s m args meth c A D cl tys Ts own cc nL (some .int)) {post : Int32 → zM → Prop} {v : Int32} (hp : post v M) (hd : decode cc pc = .ok (.ireturn, 1)) : zW p l e R s m args below meth c cells slots (MQ below (va_Qi post (fun M' t => va_P D cl (z_w cA ad M' 0 E) t.heap) A) args s cells slots A) A D cl cA ad E nL M pc L [zI v] :=
  fun H locs ls hP hD hS hl => W.iret (v := v) X.1 X.2.1 X.2.2.2.2.2.2.2.1 (fun t ht hW => ⟨⟨v, M, rfl, hp, by show va_P D cl _ t.heap; rw [ht]; exact hP⟩, hS.F ht⟩) hS.2.2 hd X.2.2.2.2.2.2.2.2
theorem z_zret (X : zX p s m args meth c A D cl tys Ts own cc nL (some .boolean)) {post : Int32 → zM → Prop} {v : Int32} (hv : narrow .boolean (.int v) = .int v) (hp : post v M) (hd : decode cc pc = .ok (.ireturn, 1)) : zW p l e R s m args below meth c cells slots (MQ below (va_Qi post (fun M' t => va_P D cl (z_w cA ad M' 0 E) t.heap) A) args s cells slots A) A D cl cA ad E nL M pc L [zI v] :=
  fun H locs ls hP hD hS hl => W.zret (v := v) X.1 X.2.1 X.2.2.2.2.2.2.2.1 hv (fun t ht hW => ⟨⟨v, M, rfl, hp, by show va_P D cl _ t.heap; rw [ht]; exact hP⟩, hS.F ht⟩) hS.2.2 hd X.2.2.2.2.2.2.2.2
theorem z_lret (X : zX p s m args meth c A D cl tys Ts own cc nL (some .long)) {post : Int64 → zM → Prop} {v : Int64} (hp : post v M) (hd : decode cc pc = .ok (.lreturn, 1)) : zW p l e R s m args below meth c cells slots (MQ below (va_Ql post (fun M' t => va_P D cl (z_w cA ad M' 0 E) t.heap) A) args s cells slots A) A D cl cA ad E nL M pc L [zJ v] :=
  fun H locs ls hP hD hS hl => W.lret (v := v) X.1 X.2.1 X.2.2.2.2.2.2.2.1 (fun t ht hW => ⟨⟨v, M, rfl, hp, by show va_P D cl _ t.heap; rw [ht]; exact hP⟩, hS.F ht⟩) hS.2.2 hd X.2.2.2.2.2.2.2.2
theorem z_vret (X : zX p s m args meth c A D cl tys Ts own cc nL none) {post : zM → Prop}  (hp : post M) (hd : decode cc pc = .ok (.return_, 1)) : zW p l e R s m args below meth c cells slots (MQ below (va_Qv post (fun M' t => va_P D cl (z_w cA ad M' 0 E) t.heap) A) args s cells slots A) A D cl cA ad E nL M pc L [] :=
  fun H locs ls hP hD hS hl => W.vret X.1 X.2.1 X.2.2.2.2.2.2.2.1 (fun t ht hW => ⟨⟨M, rfl, hp, by show va_P D cl _ t.heap; rw [ht]; exact hP⟩, hS.F ht⟩) hS.2.2 hd X.2.2.2.2.2.2.2.2
theorem z_aret {C : String} (X : zX p s m args meth c A D cl tys Ts own cc nL (some (.object C))) {post : Option Nat → zM → Prop} {o : Option Nat} (hp : post o M) (hd : decode cc pc = .ok (.areturn, 1)) : zW p l e R s m args below meth c cells slots (MQ below (va_Qq (fun (r : Option Nat) (u : zM) => ∃ o : Option Nat, r = o.map ad ∧ post o u) (fun M' t => va_P D cl (z_w cA ad M' 0 E) t.heap) A) args s cells slots A) A D cl cA ad E nL M pc L [(.inr (.inr o) : zA)] :=
  fun H locs ls hP hD hS hl => W.aret (v := z_v ad (.inr (.inr o))) X.1 X.2.1 X.2.2.2.2.2.2.2.1 (Or.inl ⟨C, rfl⟩) (by cases o with | none => exact Or.inl rfl | some o => exact Or.inr ⟨_, rfl⟩) (fun t ht hW => ⟨⟨o.map ad, M, by cases o <;> rfl, ⟨o, rfl, hp⟩, by show va_P D cl _ t.heap; rw [ht]; exact hP⟩, hS.F ht⟩) hS.2.2 hd X.2.2.2.2.2.2.2.2
end ZCalls
end
section
/-! THE LAYER, second part: worlds that grow (constructors) -/
def z_ck (n : Nat) : zK → Bool
  | .inr (.inr (some r)) => decide (r < n)
  | _ => true
def z_co (n : Nat) : Option Nat → Bool
  | none => true
  | some r => decide (r < n)
def z_cx (n : Nat) : zC → Bool
  | .inl q => q.2.all (z_ck n)
  | .inr (.inl _) => true
  | .inr (.inr q) => q.2.all (z_co n)
def z_cv (n : Nat) : zA → Bool
  | .inr (.inr (some r)) => decide (r < n)
  | _ => true
theorem z_v_ad {ad ad' : Nat → Nat} {n : Nat} (h : ∀ c, c < n → ad' c = ad c) (v : zA) (hv : z_cv n v = true) : z_v ad' v = z_v ad v := by
  rcases v with x | x | _ | r
  · rfl
  · rfl
  · rfl
  · show Value.ref _ = Value.ref _
    rw [h r (of_decide_eq_true hv)]
theorem z_fs_ad {ad ad' : Nat → Nat} {n : Nat} (h : ∀ c, c < n → ad' c = ad c) (M : zM) (c : Nat) : ∀ (fs : List zK) (k : Nat), fs.all (z_ck n) = true → z_fs ad' M c k fs = z_fs ad M c k fs
  | [], k, _ => rfl
  | f :: fs, k, hf => by
    rw [List.all_cons, Bool.and_eq_true] at hf
    have e : z_f ad' M c k f = z_f ad M c k f := by
      rcases f with _ | _ | _ | r
      · rfl
      · rfl
      · rfl
      · show Value.ref _ = Value.ref _
        rw [h r (of_decide_eq_true hf.1)]
    show z_f ad' M c k f :: z_fs ad' M c (k + 1) fs = z_f ad M c k f :: z_fs ad M c (k + 1) fs
    rw [e, z_fs_ad h M c fs (k + 1) hf.2]
theorem z_rs_ad {ad ad' : Nat → Nat} {n : Nat} (h : ∀ c, c < n → ad' c = ad c) : ∀ (rs : List (Option Nat)) (j : Nat), rs.all (z_co n) = true → (rs.getD j none).map ad' = (rs.getD j none).map ad
  | [], j, _ => by simp
  | o :: rs, 0, hf => by
    rw [List.all_cons, Bool.and_eq_true] at hf
    cases o with
    | none => rfl
    | some r =>
      show some (ad' r) = some (ad r)
      rw [h r (of_decide_eq_true hf.1)]
  | o :: rs, j + 1, hf => by
    rw [List.all_cons, Bool.and_eq_true] at hf
    simpa using z_rs_ad h rs j hf.2
theorem z_e_ad {ad ad' : Nat → Nat} {n : Nat} (h : ∀ c, c < n → ad' c = ad c) (cA : Nat → ClassId) (M : zM) (c : Nat) (x : zC) (hx : z_cx n x = true) : z_e cA ad' M c x = z_e cA ad M c x := by
  rcases x with ⟨ci, fs⟩ | ⟨t, m⟩ | ⟨t, rs⟩
  · show Sum.inr (ci, _) = Sum.inr (ci, _)
    rw [z_fs_ad h M c fs 0 hx]
  · rfl
  · have e : (fun j => (rs.getD j none).map ad') = (fun j => (rs.getD j none).map ad) := funext fun j => z_rs_ad h rs j hx
    show (Sum.inl (cA t, rs.length, Sum.inr (Sum.inr (Sum.inr (Sum.inr _)))) : va_E) = Sum.inl (cA t, rs.length, Sum.inr (Sum.inr (Sum.inr (Sum.inr _))))
    rw [e]
theorem z_w_ad {ad ad' : Nat → Nat} {n : Nat} (h : ∀ c, c < n → ad' c = ad c) (cA : Nat → ClassId) (M : zM) : ∀ (E : List zC) (k : Nat), k + E.length ≤ n → E.all (z_cx n) = true → z_w cA ad' M k E = z_w cA ad M k E
  | [], k, _, _ => rfl
  | x :: E, k, hk, hE => by
    rw [List.all_cons, Bool.and_eq_true] at hE
    rw [List.length_cons] at hk
    show (ad' k, z_e cA ad' M k x) :: z_w cA ad' M (k + 1) E = (ad k, z_e cA ad M k x) :: z_w cA ad M (k + 1) E
    rw [h k (by omega), z_e_ad h cA M k x hE.1, z_w_ad h cA M E (k + 1) (by omega) hE.2]
theorem z_w_app (cA : Nat → ClassId) (ad : Nat → Nat) (M : zM) (F : List zC) : ∀ (E : List zC) (k : Nat), z_w cA ad M k (E ++ F) = z_w cA ad M k E ++ z_w cA ad M (k + E.length) F
  | [], k => rfl
  | x :: E, k => by
    show (ad k, z_e cA ad M k x) :: z_w cA ad M (k + 1) (E ++ F) = _
    rw [z_w_app cA ad M F E (k + 1), List.length_cons, show k + 1 + E.length = k + (E.length + 1) by omega]
    rfl
theorem z_w_snoc {ad ad' : Nat → Nat} (cA : Nat → ClassId) (M : zM) {E : List zC} (h : ∀ c, c < E.length → ad' c = ad c) (hE : E.all (z_cx E.length) = true) (x : zC) : z_w cA ad' M 0 (E ++ [x]) = z_w cA ad M 0 E ++ [(ad' E.length, z_e cA ad' M E.length x)] := by
  rw [z_w_app, z_w_ad h cA M E 0 (by omega) hE, Nat.zero_add]
  rfl
theorem z_L_ad {ad ad' : Nat → Nat} {n : Nat} (h : ∀ c, c < n → ad' c = ad c) : ∀ L : List (Nat × zA), L.all (fun q => z_cv n q.2) = true → L.map (fun q => (q.1, z_v ad' q.2)) = L.map (fun q => (q.1, z_v ad q.2))
  | [], _ => rfl
  | q :: L, hL => by
    rw [List.all_cons, Bool.and_eq_true] at hL
    rw [List.map_cons, List.map_cons, z_v_ad h q.2 hL.1, z_L_ad h L hL.2]
theorem z_st_ad {ad ad' : Nat → Nat} {n : Nat} (h : ∀ c, c < n → ad' c = ad c) : ∀ st : List zA, st.all (z_cv n) = true → st.map (z_v ad') = st.map (z_v ad)
  | [], _ => rfl
  | v :: st, hL => by
    rw [List.all_cons, Bool.and_eq_true] at hL
    rw [List.map_cons, List.map_cons, z_v_ad h v hL.1, z_st_ad h st hL.2]
/-- the same address function, with a new place -/
theorem z_up_old (ad : Nat → Nat) (n q : Nat) : ∀ c, c < n → va_up ad n q c = ad c := fun c hc => by
  show (if c = n then q else ad c) = ad c
  rw [if_neg (by omega)]
theorem z_up_new (ad : Nat → Nat) (n q : Nat) : va_up ad n q n = q := by
  show (if n = n then q else ad n) = q
  rw [if_pos rfl]
def z_dv : zK → Value
  | .inl _ => .int 0
  | .inr (.inl _) => .long 0
  | .inr (.inr _) => .null
def z_k0 : zK → Bool
  | .inr (.inr (some _)) => false
  | _ => true
theorem z_fs_0 (ad : Nat → Nat) {M : zM} {c : Nat} (h1 : ∀ k, M.1 c k = 0) (h2 : ∀ k, M.2 c k = 0) : ∀ (fs : List zK) (k : Nat), fs.all z_k0 = true → z_fs ad M c k fs = fs.map z_dv
  | [], k, _ => rfl
  | f :: fs, k, hf => by
    rw [List.all_cons, Bool.and_eq_true] at hf
    have e : z_f ad M c k f = z_dv f := by
      rcases f with _ | _ | _ | r
      · show Value.int _ = Value.int _
        rw [h1]
      · show Value.long _ = Value.long _
        rw [h2]
      · rfl
      · cases hf.1
    show z_f ad M c k f :: z_fs ad M c (k + 1) fs = z_dv f :: fs.map z_dv
    rw [e, z_fs_0 ad h1 h2 fs (k + 1) hf.2]
/-- a class that can be made: its number, its fields, all of them at their first values -/
def zN1 (cl : List vw_C) (Ts : List Cond) (own : String) (index ci Nf : Nat) (fs : List zK) : Prop :=
  ∃ (C : String) (T : u_T) (tf : Nat → FieldType), cl[ci]? = some (C, T, Nf) ∧ (∀ w ∈ u_ws C T Nf, w ∈ Ts) ∧ (∀ j, j < Nf → parseFieldDescriptor (T j).2.2.1 = some (tf j)) ∧ Cond.classLink own index C ∈ Ts ∧ Cond.instantiable C Nf ∈ Ts ∧ Cond.initialized C ∈ Ts ∧ fs.all z_k0 = true ∧ (∀ j, j < Nf → defaultValue (tf j) = vp_V (fs.map z_dv) j)
section ZGrow
variable {p : Program} {l : Launch} {e : Env} {R : Room} {s : State} {m : MethodId} {args : Array Value} {below : List Frame} {meth : Method} {c : Code} {cells slots : Nat} {Q : State → Prop} {A : Nat → Prop} {D : va_G} {cl : List vw_C} {tys : List (ClassId × FieldType)} {cA : Nat → ClassId} {ad : Nat → Nat} {E : List zC} {nL : Nat} {M : zM} {pc : Nat} {L L' : List (Nat × zA)} {st stk : List zA} {Ts : List Cond} {own : String} {cc : ByteArray} {ret : Option FieldType}
theorem z_new (X : zX p s m args meth c A D cl tys Ts own cc nL ret) {index ci Nf : Nat} {fs : List zK} (nf : zN1 cl Ts own index ci Nf fs) {n : Nat} (hn : E.length = n) (h1 : ∀ k, M.1 n k = 0) (h2 : ∀ k, M.2 n k = 0) (hE : E.all (z_cx n) = true) (hL : L.all (fun q => z_cv n q.2) = true) (hst : st.all (z_cv n) = true) (hcells : cells + 1 ≤ R.cells) (hslots : slots + Nf ≤ R.slots) (hd : decode cc pc = .ok (.new index, 3))
    (kk : ∀ ad' : Nat → Nat, (∀ c, c < n → ad' c = ad c) → zW p l e R s m args below meth c (cells + 1) (slots + Nf) Q A D cl cA ad' (E ++ [.inl (ci, fs)]) nL M (pc + 3) L (zR n :: st)) : zW p l e R s m args below meth c cells slots Q A D cl cA ad E nL M pc L st := by
  subst hn
  intro H locs ls hP hD hS hl
  obtain ⟨C, T, tf, g1, g2, g3, g4, g5, g6, g7, g8⟩ := nf
  refine va_new (ci := ci) (fs := fs.map z_dv) (C := C) (T := T) (N := Nf) X.1 X.2.1 X.2.2.2.2.1 g2 tf g3 X.2.2.2.1 (X.2.2.2.2.1 _ g4) (X.2.2.2.2.1 _ g5) (X.2.2.2.2.1 _ g6) X.2.2.2.2.2.1 hP hD hS X.2.2.2.2.2.2.1 g1 g8 hcells hslots hd (fun q H1 hP1 hD1 hS1 => ?_)
  have ho := z_up_old ad E.length q
  have hw : z_w cA ad M 0 E ++ [(q, .inr (ci, fs.map z_dv))] = z_w cA (va_up ad E.length q) M 0 (E ++ [.inl (ci, fs)]) := by
    rw [z_w_snoc cA M ho hE, z_up_new]
    show _ = _ ++ [(q, Sum.inr (ci, z_fs (va_up ad E.length q) M E.length 0 fs))]
    rw [z_fs_0 (va_up ad E.length q) h1 h2 fs 0 g7]
  rw [hw] at hP1 hD1
  have hk := kk (va_up ad E.length q) ho H1 locs ls hP1 hD1 hS1 (by rw [z_L_ad ho L hL]; exact hl)
  rw [List.map_cons, z_st_ad ho st hst] at hk
  have e1 : z_v (va_up ad E.length q) (zR E.length) = .ref q := by
    show Value.ref _ = Value.ref _
    rw [z_up_new]
  rw [e1] at hk
  exact hk
theorem z_newa (X : zX p s m args meth c A D cl tys Ts own cc nL ret) (t : Nat) (ht : tys[t]? = some (cA t, .int)) (harr : Cond.arrayClass .int ∈ Ts) {n k : Nat} (hn : E.length = n) (h1 : ∀ k, M.1 n k = 0) (hE : E.all (z_cx n) = true) (hL : L.all (fun q => z_cv n q.2) = true) (hst : st.all (z_cv n) = true) (hk : k * 4 ≤ 536870912) (hcells : cells + 1 ≤ R.cells) (hslots : slots + k ≤ R.slots) {x : Int32} (hx : x = nI k) (hd : decode cc pc = .ok (.newarray .int, 2))
    (kk : ∀ ad' : Nat → Nat, (∀ c, c < n → ad' c = ad c) → zW p l e R s m args below meth c (cells + 1) (slots + k) Q A D cl cA ad' (E ++ [.inr (.inl (t, k))]) nL M (pc + 2) L (zR n :: st)) : zW p l e R s m args below meth c cells slots Q A D cl cA ad E nL M pc L (zI x :: st) := by
  subst hn
  subst hx
  intro H locs ls hP hD hS hl
  have hk31 : k < 2 ^ 31 := by omega
  refine va_newa (atype := .int) (a0 := (k, .inl (fun _ => 0))) (ty := .int) (N' := k) X.1 X.2.1 (X.2.2.2.2.1 _ harr) rfl X.2.2.2.2.2.1 hP hD hS X.2.2.2.2.2.2.1 (fun _ => rfl) (nI_pos hk31) (nI_clamp hk31) hk hcells hslots hd (fun q cA' H1 hK1 hP1 hD1 hS1 => ?_)
  have ho := z_up_old ad E.length q
  have hc : cA' = cA t := by
    have a1 := (hK1.2 tys.length (cA', .int) (by rw [List.getElem?_append_right (Nat.le_refl _), Nat.sub_self]; rfl)).2
    have a2 := (X.2.2.2.2.2.1.2 t _ ht).2
    exact Option.some.inj (a1.symm.trans a2)
  subst hc
  have hw : z_w cA ad M 0 E ++ [(q, .inl (cA t, k, .inl (fun _ => 0)))] = z_w cA (va_up ad E.length q) M 0 (E ++ [.inr (.inl (t, k))]) := by
    rw [z_w_snoc cA M ho hE, z_up_new]
    show _ = _ ++ [(q, Sum.inl (cA t, k, Sum.inl (M.1 E.length)))]
    rw [show M.1 E.length = (fun _ => 0) from funext h1]
  rw [hw] at hP1 hD1
  have hk2 := kk (va_up ad E.length q) ho H1 locs ls hP1 hD1 hS1 (by rw [z_L_ad ho L hL]; exact hl)
  rw [List.map_cons, z_st_ad ho st hst] at hk2
  have e1 : z_v (va_up ad E.length q) (zR E.length) = .ref q := by
    show Value.ref _ = Value.ref _
    rw [z_up_new]
  rw [e1] at hk2
  exact hk2
theorem z_newq (X : zX p s m args meth c A D cl tys Ts own cc nL ret) (t : Nat) {C : String} (ht : tys[t]? = some (cA t, .object C)) {index : Nat} (hcl : Cond.classLink own index C ∈ Ts) (hao : va_AO C s) {n k : Nat} (hn : E.length = n) (hE : E.all (z_cx n) = true) (hL : L.all (fun q => z_cv n q.2) = true) (hst : st.all (z_cv n) = true) (hk : k * 4 ≤ 536870912) (hcells : cells + 1 ≤ R.cells) (hslots : slots + k ≤ R.slots) {x : Int32} (hx : x = nI k) (hd : decode cc pc = .ok (.anewarray index, 3))
    (kk : ∀ ad' : Nat → Nat, (∀ c, c < n → ad' c = ad c) → zW p l e R s m args below meth c (cells + 1) (slots + k) Q A D cl cA ad' (E ++ [.inr (.inr (t, List.replicate k none))]) nL M (pc + 3) L (zR n :: st)) : zW p l e R s m args below meth c cells slots Q A D cl cA ad E nL M pc L (zI x :: st) := by
  subst hn
  subst hx
  intro H locs ls hP hD hS hl
  have hk31 : k < 2 ^ 31 := by omega
  refine va_newq (C := C) (N' := k) X.1 X.2.1 X.2.2.2.1 (X.2.2.2.2.1 _ hcl) hao X.2.2.2.2.2.1 hP hD hS X.2.2.2.2.2.2.1 (nI_pos hk31) (nI_clamp hk31) hk hcells hslots hd (fun q cA' H1 hK1 hP1 hD1 hS1 => ?_)
  have ho := z_up_old ad E.length q
  have hc : cA' = cA t := by
    obtain ⟨_, _, _, _, _, a1⟩ := (hK1.2 tys.length (cA', .object C) (by rw [List.getElem?_append_right (Nat.le_refl _), Nat.sub_self]; rfl)).2
    obtain ⟨_, _, _, _, _, a2⟩ := (X.2.2.2.2.2.1.2 t _ ht).2
    exact Option.some.inj (a1.symm.trans a2)
  subst hc
  have hr : (fun j => ((List.replicate k (none : Option Nat)).getD j none).map (va_up ad E.length q)) = (fun _ => none) := by
    funext j
    have h9 : (List.replicate k (none : Option Nat)).getD j none = none := by
      rw [List.getD_eq_getElem?_getD, List.getElem?_replicate]
      split <;> rfl
    rw [h9]
    rfl
  have hw : z_w cA ad M 0 E ++ [(q, .inl (cA t, k, .inr (.inr (.inr (.inr (fun _ => none))))))] = z_w cA (va_up ad E.length q) M 0 (E ++ [.inr (.inr (t, List.replicate k none))]) := by
    rw [z_w_snoc cA M ho hE, z_up_new]
    show _ = _ ++ [(q, Sum.inl (cA t, (List.replicate k (none : Option Nat)).length, Sum.inr (Sum.inr (Sum.inr (Sum.inr (fun j => ((List.replicate k (none : Option Nat)).getD j none).map (va_up ad E.length q))))))) ]
    rw [hr, List.length_replicate]
  rw [hw] at hP1 hD1
  have hk2 := kk (va_up ad E.length q) ho H1 locs ls hP1 hD1 hS1 (by rw [z_L_ad ho L hL]; exact hl)
  rw [List.map_cons, z_st_ad ho st hst] at hk2
  have e1 : z_v (va_up ad E.length q) (zR E.length) = .ref q := by
    show Value.ref _ = Value.ref _
    rw [z_up_new]
  rw [e1] at hk2
  exact hk2
end ZGrow
end
section
def GG : List Cond := lw_tbl.filter goodWord
theorem gm (i : Nat) {w : Cond} (h : lw_tbl[i]? = some w) (hg : goodWord w = true) : w ∈ GG := List.mem_filter.mpr ⟨List.mem_of_getElem? h, hg⟩
theorem GG_ok : GoodIn GG GG := fun w h => ⟨h, good_of_word (List.mem_filter.mp h).2⟩
def R_P : String := "WindowPlan$Partition"
def T_P : u_T := fun k => match k with
  | 0 => ("WindowPlan$Partition", "mode", "I", false)
  | _ => ("WindowPlan$Partition", "action", "I", false)
def t_P : Nat → FieldType := fun k => match k with
  | 0 => .int
  | _ => .int
theorem n_P : ∀ a, a < 2 → ∀ b, b < 2 → a ≠ b → (T_P a).2.1 ≠ (T_P b).2.1 := by decide +kernel
theorem t_P_ok : ∀ k, k < 2 → parseFieldDescriptor (T_P k).2.2.1 = some (t_P k) := by decide +kernel
theorem i_P : ∀ w ∈ u_ws R_P T_P 2, w ∈ GG := by decide +kernel
def R_O : String := "WindowPlan$Port"
def T_O : u_T := fun k => match k with
  | 0 => ("WindowPlan$Port", "messages", "[I", true)
  | _ => ("WindowPlan$Port", "size", "I", false)
def t_O : Nat → FieldType := fun k => match k with
  | 0 => .array .int
  | _ => .int
theorem n_O : ∀ a, a < 2 → ∀ b, b < 2 → a ≠ b → (T_O a).2.1 ≠ (T_O b).2.1 := by decide +kernel
theorem t_O_ok : ∀ k, k < 2 → parseFieldDescriptor (T_O k).2.2.1 = some (t_O k) := by decide +kernel
theorem i_O : ∀ w ∈ u_ws R_O T_O 2, w ∈ GG := by decide +kernel
def R_G : String := "WindowPlan$Program"
def T_G : u_T := fun k => match k with
  | 0 => ("WindowPlan$Program", "orders", "[I", true)
  | 1 => ("WindowPlan$Program", "numbers", "[I", true)
  | _ => ("WindowPlan$Program", "size", "I", false)
def t_G : Nat → FieldType := fun k => match k with
  | 0 => .array .int
  | 1 => .array .int
  | _ => .int
theorem n_G : ∀ a, a < 3 → ∀ b, b < 3 → a ≠ b → (T_G a).2.1 ≠ (T_G b).2.1 := by decide +kernel
theorem t_G_ok : ∀ k, k < 3 → parseFieldDescriptor (T_G k).2.2.1 = some (t_G k) := by decide +kernel
theorem i_G : ∀ w ∈ u_ws R_G T_G 3, w ∈ GG := by decide +kernel
def R_K : String := "WindowPlan$Task"
def T_K : u_T := fun k => match k with
  | 0 => ("WindowPlan$Task", "number", "I", true)
  | 1 => ("WindowPlan$Task", "program", "LWindowPlan$Program;", true)
  | 2 => ("WindowPlan$Task", "partition", "I", false)
  | 3 => ("WindowPlan$Task", "priority", "I", false)
  | 4 => ("WindowPlan$Task", "period", "I", false)
  | 5 => ("WindowPlan$Task", "limit", "I", false)
  | 6 => ("WindowPlan$Task", "stage", "I", false)
  | 7 => ("WindowPlan$Task", "next", "I", false)
  | 8 => ("WindowPlan$Task", "ticksDone", "I", false)
  | 9 => ("WindowPlan$Task", "since", "J", false)
  | 10 => ("WindowPlan$Task", "rounds", "I", false)
  | 11 => ("WindowPlan$Task", "deadline", "I", false)
  | 12 => ("WindowPlan$Task", "missed", "I", false)
  | 13 => ("WindowPlan$Task", "skipped", "I", false)
  | 14 => ("WindowPlan$Task", "worked", "I", false)
  | 15 => ("WindowPlan$Task", "letter", "I", false)
  | _ => ("WindowPlan$Task", "nextRelease", "I", false)
def t_K : Nat → FieldType := fun k => match k with
  | 0 => .int
  | 1 => .object "WindowPlan$Program"
  | 2 => .int
  | 3 => .int
  | 4 => .int
  | 5 => .int
  | 6 => .int
  | 7 => .int
  | 8 => .int
  | 9 => .long
  | 10 => .int
  | 11 => .int
  | 12 => .int
  | 13 => .int
  | 14 => .int
  | 15 => .int
  | _ => .int
theorem n_K : ∀ a, a < 17 → ∀ b, b < 17 → a ≠ b → (T_K a).2.1 ≠ (T_K b).2.1 := by decide +kernel
theorem t_K_ok : ∀ k, k < 17 → parseFieldDescriptor (T_K k).2.2.1 = some (t_K k) := by decide +kernel
theorem i_K : ∀ w ∈ u_ws R_K T_K 17, w ∈ GG := by decide +kernel
def R_Wr : String := "WindowPlan$WindowRow"
def T_Wr : u_T := fun k => match k with
  | 0 => ("WindowPlan$WindowRow", "partitions", "[I", true)
  | 1 => ("WindowPlan$WindowRow", "ends", "[I", true)
  | _ => ("WindowPlan$WindowRow", "size", "I", false)
def t_Wr : Nat → FieldType := fun k => match k with
  | 0 => .array .int
  | 1 => .array .int
  | _ => .int
theorem n_Wr : ∀ a, a < 3 → ∀ b, b < 3 → a ≠ b → (T_Wr a).2.1 ≠ (T_Wr b).2.1 := by decide +kernel
theorem t_Wr_ok : ∀ k, k < 3 → parseFieldDescriptor (T_Wr k).2.2.1 = some (t_Wr k) := by decide +kernel
theorem i_Wr : ∀ w ∈ u_ws R_Wr T_Wr 3, w ∈ GG := by decide +kernel
def R_A : String := "WindowPlan"
def T_A : u_T := fun k => match k with
  | 0 => ("WindowPlan", "windows", "LWindowPlan$WindowRow;", true)
  | 1 => ("WindowPlan", "partitions", "[LWindowPlan$Partition;", true)
  | 2 => ("WindowPlan", "tasks", "[LWindowPlan$Task;", true)
  | 3 => ("WindowPlan", "ports", "[LWindowPlan$Port;", true)
  | 4 => ("WindowPlan", "semaphores", "[I", true)
  | 5 => ("WindowPlan", "taskCount", "I", false)
  | 6 => ("WindowPlan", "time", "I", false)
  | 7 => ("WindowPlan", "lost", "I", false)
  | 8 => ("WindowPlan", "idle", "I", false)
  | _ => ("WindowPlan", "turns", "J", false)
def t_A : Nat → FieldType := fun k => match k with
  | 0 => .object "WindowPlan$WindowRow"
  | 1 => .array (.object "WindowPlan$Partition")
  | 2 => .array (.object "WindowPlan$Task")
  | 3 => .array (.object "WindowPlan$Port")
  | 4 => .array .int
  | 5 => .int
  | 6 => .int
  | 7 => .int
  | 8 => .int
  | _ => .long
theorem n_A : ∀ a, a < 10 → ∀ b, b < 10 → a ≠ b → (T_A a).2.1 ≠ (T_A b).2.1 := by decide +kernel
theorem t_A_ok : ∀ k, k < 10 → parseFieldDescriptor (T_A k).2.2.1 = some (t_A k) := by decide +kernel
theorem i_A : ∀ w ∈ u_ws R_A T_A 10, w ∈ GG := by decide +kernel
def R_B : String := "WindowPlanModel"
def T_B : u_T := fun k => match k with
  | 0 => ("WindowPlanModel", "owner", "[I", true)
  | 1 => ("WindowPlanModel", "span", "[I", true)
  | 2 => ("WindowPlanModel", "windows", "I", false)
  | 3 => ("WindowPlanModel", "state", "[I", true)
  | 4 => ("WindowPlanModel", "action", "[I", true)
  | 5 => ("WindowPlanModel", "processes", "I", false)
  | 6 => ("WindowPlanModel", "partition", "[I", true)
  | 7 => ("WindowPlanModel", "priority", "[I", true)
  | 8 => ("WindowPlanModel", "period", "[I", true)
  | 9 => ("WindowPlanModel", "limit", "[I", true)
  | 10 => ("WindowPlanModel", "size", "[I", true)
  | 11 => ("WindowPlanModel", "order", "[I", true)
  | 12 => ("WindowPlanModel", "number", "[I", true)
  | 13 => ("WindowPlanModel", "is", "[I", true)
  | 14 => ("WindowPlanModel", "at", "[I", true)
  | 15 => ("WindowPlanModel", "worked", "[I", true)
  | 16 => ("WindowPlanModel", "rounds", "[I", true)
  | 17 => ("WindowPlanModel", "deadline", "[I", true)
  | 18 => ("WindowPlanModel", "missed", "[I", true)
  | 19 => ("WindowPlanModel", "skipped", "[I", true)
  | 20 => ("WindowPlanModel", "work", "[I", true)
  | 21 => ("WindowPlanModel", "letter", "[I", true)
  | 22 => ("WindowPlanModel", "next", "[I", true)
  | 23 => ("WindowPlanModel", "since", "[I", true)
  | 24 => ("WindowPlanModel", "clock", "I", false)
  | 25 => ("WindowPlanModel", "message", "[I", true)
  | 26 => ("WindowPlanModel", "messages", "[I", true)
  | 27 => ("WindowPlanModel", "count", "[I", true)
  | 28 => ("WindowPlanModel", "time", "I", false)
  | 29 => ("WindowPlanModel", "lost", "I", false)
  | _ => ("WindowPlanModel", "idle", "I", false)
def t_B : Nat → FieldType := fun k => match k with
  | 0 => .array .int
  | 1 => .array .int
  | 2 => .int
  | 3 => .array .int
  | 4 => .array .int
  | 5 => .int
  | 6 => .array .int
  | 7 => .array .int
  | 8 => .array .int
  | 9 => .array .int
  | 10 => .array .int
  | 11 => .array .int
  | 12 => .array .int
  | 13 => .array .int
  | 14 => .array .int
  | 15 => .array .int
  | 16 => .array .int
  | 17 => .array .int
  | 18 => .array .int
  | 19 => .array .int
  | 20 => .array .int
  | 21 => .array .int
  | 22 => .array .int
  | 23 => .array .int
  | 24 => .int
  | 25 => .array .int
  | 26 => .array .int
  | 27 => .array .int
  | 28 => .int
  | 29 => .int
  | _ => .int
theorem n_B : ∀ a, a < 31 → ∀ b, b < 31 → a ≠ b → (T_B a).2.1 ≠ (T_B b).2.1 := by decide +kernel
theorem t_B_ok : ∀ k, k < 31 → parseFieldDescriptor (T_B k).2.2.1 = some (t_B k) := by decide +kernel
theorem i_B : ∀ w ∈ u_ws R_B T_B 31, w ∈ GG := by decide +kernel
abbrev cls : List vw_C := [(R_P, T_P, 2), (R_O, T_O, 2), (R_G, T_G, 3), (R_K, T_K, 17), (R_Wr, T_Wr, 3), (R_A, T_A, 10), (R_B, T_B, 31)]
abbrev b_A_init : ByteArray := prog_1_method_1_code
def y_A_init : MethodName := ⟨"WindowPlan", "<init>", "()V"⟩
abbrev b_Wr_init : ByteArray := prog_6_method_1_code
def y_Wr_init : MethodName := ⟨"WindowPlan$WindowRow", "<init>", "()V"⟩
abbrev b_P_init : ByteArray := prog_2_method_1_code
def y_P_init : MethodName := ⟨"WindowPlan$Partition", "<init>", "()V"⟩
abbrev b_K_init : ByteArray := prog_5_method_1_code
def y_K_init : MethodName := ⟨"WindowPlan$Task", "<init>", "(I)V"⟩
abbrev b_G_init : ByteArray := prog_4_method_1_code
def y_G_init : MethodName := ⟨"WindowPlan$Program", "<init>", "()V"⟩
abbrev b_O_init : ByteArray := prog_3_method_1_code
def y_O_init : MethodName := ⟨"WindowPlan$Port", "<init>", "()V"⟩
abbrev b_A_window : ByteArray := prog_1_method_2_code
def y_A_window : MethodName := ⟨"WindowPlan", "window", "(II)I"⟩
abbrev b_A_isPartition : ByteArray := prog_1_method_15_code
def y_A_isPartition : MethodName := ⟨"WindowPlan", "isPartition", "(I)Z"⟩
abbrev b_A_within : ByteArray := prog_1_method_14_code
def y_A_within : MethodName := ⟨"WindowPlan", "within", "(III)Z"⟩
abbrev b_A_allOff : ByteArray := prog_1_method_19_code
def y_A_allOff : MethodName := ⟨"WindowPlan", "allOff", "()Z"⟩
abbrev b_Wr_add : ByteArray := prog_6_method_2_code
def y_Wr_add : MethodName := ⟨"WindowPlan$WindowRow", "add", "(II)V"⟩
abbrev b_A_process : ByteArray := prog_1_method_3_code
def y_A_process : MethodName := ⟨"WindowPlan", "process", "(IIII)I"⟩
abbrev b_K_define : ByteArray := prog_5_method_2_code
def y_K_define : MethodName := ⟨"WindowPlan$Task", "define", "(IIII)V"⟩
abbrev b_A_order : ByteArray := prog_1_method_4_code
def y_A_order : MethodName := ⟨"WindowPlan", "order", "(III)I"⟩
abbrev b_A_isProcess : ByteArray := prog_1_method_16_code
def y_A_isProcess : MethodName := ⟨"WindowPlan", "isProcess", "(I)Z"⟩
abbrev b_A_isOrder : ByteArray := prog_1_method_17_code
def y_A_isOrder : MethodName := ⟨"WindowPlan", "isOrder", "(II)Z"⟩
abbrev b_G_add : ByteArray := prog_4_method_2_code
def y_G_add : MethodName := ⟨"WindowPlan$Program", "add", "(II)V"⟩
abbrev b_A_action : ByteArray := prog_1_method_5_code
def y_A_action : MethodName := ⟨"WindowPlan", "action", "(II)I"⟩
abbrev b_A_on : ByteArray := prog_1_method_6_code
def y_A_on : MethodName := ⟨"WindowPlan", "on", "(I)I"⟩
abbrev b_A_isOn : ByteArray := prog_1_method_18_code
def y_A_isOn : MethodName := ⟨"WindowPlan", "isOn", "(I)Z"⟩
abbrev b_A_restAll : ByteArray := prog_1_method_21_code
def y_A_restAll : MethodName := ⟨"WindowPlan", "restAll", "(I)V"⟩
abbrev b_K_rest : ByteArray := prog_5_method_5_code
def y_K_rest : MethodName := ⟨"WindowPlan$Task", "rest", "()V"⟩
abbrev b_A_start : ByteArray := prog_1_method_7_code
def y_A_start : MethodName := ⟨"WindowPlan", "start", "(I)I"⟩
abbrev b_A_newTurn : ByteArray := prog_1_method_20_code
def y_A_newTurn : MethodName := ⟨"WindowPlan", "newTurn", "()J"⟩
abbrev b_K_release : ByteArray := prog_5_method_3_code
def y_K_release : MethodName := ⟨"WindowPlan$Task", "release", "(IJ)V"⟩
abbrev b_K_beginAnew : ByteArray := prog_5_method_4_code
def y_K_beginAnew : MethodName := ⟨"WindowPlan$Task", "beginAnew", "(J)V"⟩
abbrev b_K_becomeReady : ByteArray := prog_5_method_6_code
def y_K_becomeReady : MethodName := ⟨"WindowPlan$Task", "becomeReady", "(J)V"⟩
abbrev b_A_run : ByteArray := prog_1_method_8_code
def y_A_run : MethodName := ⟨"WindowPlan", "run", "(I)I"⟩
abbrev b_A_tick : ByteArray := prog_1_method_22_code
def y_A_tick : MethodName := ⟨"WindowPlan", "tick", "()V"⟩
abbrev b_A_releaseDue : ByteArray := prog_1_method_23_code
def y_A_releaseDue : MethodName := ⟨"WindowPlan", "releaseDue", "()V"⟩
abbrev b_A_missDue : ByteArray := prog_1_method_24_code
def y_A_missDue : MethodName := ⟨"WindowPlan", "missDue", "()V"⟩
abbrev b_A_miss : ByteArray := prog_1_method_25_code
def y_A_miss : MethodName := ⟨"WindowPlan", "miss", "(LWindowPlan$Task;)V"⟩
abbrev b_A_giveProcessor : ByteArray := prog_1_method_26_code
def y_A_giveProcessor : MethodName := ⟨"WindowPlan", "giveProcessor", "()V"⟩
abbrev b_Wr_partitionAt : ByteArray := prog_6_method_3_code
def y_Wr_partitionAt : MethodName := ⟨"WindowPlan$WindowRow", "partitionAt", "(I)I"⟩
abbrev b_Wr_offsetAt : ByteArray := prog_6_method_5_code
def y_Wr_offsetAt : MethodName := ⟨"WindowPlan$WindowRow", "offsetAt", "(I)I"⟩
abbrev b_J_floorMod : ByteArray := prog_9_method_50_code
def y_J_floorMod : MethodName := ⟨"java/lang/Math", "floorMod", "(II)I"⟩
abbrev b_Wr_indexOf : ByteArray := prog_6_method_6_code
def y_Wr_indexOf : MethodName := ⟨"WindowPlan$WindowRow", "indexOf", "(I)I"⟩
abbrev b_A_firstReady : ByteArray := prog_1_method_32_code
def y_A_firstReady : MethodName := ⟨"WindowPlan", "firstReady", "(I)LWindowPlan$Task;"⟩
abbrev b_K_comesBefore : ByteArray := prog_5_method_11_code
def y_K_comesBefore : MethodName := ⟨"WindowPlan$Task", "comesBefore", "(LWindowPlan$Task;)Z"⟩
abbrev b_A_doOrder : ByteArray := prog_1_method_27_code
def y_A_doOrder : MethodName := ⟨"WindowPlan", "doOrder", "(LWindowPlan$Task;)Z"⟩
abbrev b_K_work : ByteArray := prog_5_method_8_code
def y_K_work : MethodName := ⟨"WindowPlan$Task", "work", "(I)V"⟩
abbrev b_K_advance : ByteArray := prog_5_method_9_code
def y_K_advance : MethodName := ⟨"WindowPlan$Task", "advance", "()V"⟩
abbrev b_A_send : ByteArray := prog_1_method_28_code
def y_A_send : MethodName := ⟨"WindowPlan", "send", "(LWindowPlan$Task;I)V"⟩
abbrev b_A_firstWaiting : ByteArray := prog_1_method_33_code
def y_A_firstWaiting : MethodName := ⟨"WindowPlan", "firstWaiting", "(II)LWindowPlan$Task;"⟩
abbrev b_K_waitsAt : ByteArray := prog_5_method_10_code
def y_K_waitsAt : MethodName := ⟨"WindowPlan$Task", "waitsAt", "(II)Z"⟩
abbrev b_O_put : ByteArray := prog_3_method_2_code
def y_O_put : MethodName := ⟨"WindowPlan$Port", "put", "(I)V"⟩
abbrev b_A_take : ByteArray := prog_1_method_29_code
def y_A_take : MethodName := ⟨"WindowPlan", "take", "(LWindowPlan$Task;I)V"⟩
abbrev b_K_becomeWaiting : ByteArray := prog_5_method_7_code
def y_K_becomeWaiting : MethodName := ⟨"WindowPlan$Task", "becomeWaiting", "(J)V"⟩
abbrev b_O_takeOldest : ByteArray := prog_3_method_3_code
def y_O_takeOldest : MethodName := ⟨"WindowPlan$Port", "takeOldest", "()I"⟩
abbrev b_A_up : ByteArray := prog_1_method_30_code
def y_A_up : MethodName := ⟨"WindowPlan", "up", "(LWindowPlan$Task;I)V"⟩
abbrev b_A_down : ByteArray := prog_1_method_31_code
def y_A_down : MethodName := ⟨"WindowPlan", "down", "(LWindowPlan$Task;I)V"⟩
abbrev b_A_partition : ByteArray := prog_1_method_9_code
def y_A_partition : MethodName := ⟨"WindowPlan", "partition", "(I)I"⟩
abbrev b_A_state : ByteArray := prog_1_method_10_code
def y_A_state : MethodName := ⟨"WindowPlan", "state", "(II)I"⟩
abbrev b_K_tell : ByteArray := prog_5_method_12_code
def y_K_tell : MethodName := ⟨"WindowPlan$Task", "tell", "(I)I"⟩
abbrev b_A_port : ByteArray := prog_1_method_11_code
def y_A_port : MethodName := ⟨"WindowPlan", "port", "(I)I"⟩
abbrev b_A_semaphore : ByteArray := prog_1_method_12_code
def y_A_semaphore : MethodName := ⟨"WindowPlan", "semaphore", "(I)I"⟩
abbrev b_A_count : ByteArray := prog_1_method_13_code
def y_A_count : MethodName := ⟨"WindowPlan", "count", "(I)I"⟩
abbrev b_Wr_leftAt : ByteArray := prog_6_method_4_code
def y_Wr_leftAt : MethodName := ⟨"WindowPlan$WindowRow", "leftAt", "(I)I"⟩
abbrev b_B_init : ByteArray := prog_8_method_1_code
def y_B_init : MethodName := ⟨"WindowPlanModel", "<init>", "()V"⟩
abbrev b_B_window : ByteArray := prog_8_method_4_code
def y_B_window : MethodName := ⟨"WindowPlanModel", "window", "(II)I"⟩
abbrev b_B_in : ByteArray := prog_8_method_2_code
def y_B_in : MethodName := ⟨"WindowPlanModel", "in", "(III)Z"⟩
abbrev b_B_allOff : ByteArray := prog_8_method_3_code
def y_B_allOff : MethodName := ⟨"WindowPlanModel", "allOff", "()Z"⟩
abbrev b_B_process : ByteArray := prog_8_method_5_code
def y_B_process : MethodName := ⟨"WindowPlanModel", "process", "(IIII)I"⟩
abbrev b_B_order : ByteArray := prog_8_method_6_code
def y_B_order : MethodName := ⟨"WindowPlanModel", "order", "(III)I"⟩
abbrev b_B_action : ByteArray := prog_8_method_7_code
def y_B_action : MethodName := ⟨"WindowPlanModel", "action", "(II)I"⟩
abbrev b_B_on : ByteArray := prog_8_method_9_code
def y_B_on : MethodName := ⟨"WindowPlanModel", "on", "(I)I"⟩
abbrev b_B_rest : ByteArray := prog_8_method_8_code
def y_B_rest : MethodName := ⟨"WindowPlanModel", "rest", "(I)V"⟩
abbrev b_B_start : ByteArray := prog_8_method_12_code
def y_B_start : MethodName := ⟨"WindowPlanModel", "start", "(I)I"⟩
abbrev b_B_release : ByteArray := prog_8_method_11_code
def y_B_release : MethodName := ⟨"WindowPlanModel", "release", "(I)V"⟩
abbrev b_B_become : ByteArray := prog_8_method_10_code
def y_B_become : MethodName := ⟨"WindowPlanModel", "become", "(II)V"⟩
abbrev b_B_run : ByteArray := prog_8_method_24_code
def y_B_run : MethodName := ⟨"WindowPlanModel", "run", "(I)I"⟩
abbrev b_B_releases : ByteArray := prog_8_method_22_code
def y_B_releases : MethodName := ⟨"WindowPlanModel", "releases", "()V"⟩
abbrev b_B_monitor : ByteArray := prog_8_method_23_code
def y_B_monitor : MethodName := ⟨"WindowPlanModel", "monitor", "()V"⟩
abbrev b_B_holder : ByteArray := prog_8_method_21_code
def y_B_holder : MethodName := ⟨"WindowPlanModel", "holder", "(Z)I"⟩
abbrev b_B_first : ByteArray := prog_8_method_14_code
def y_B_first : MethodName := ⟨"WindowPlanModel", "first", "(II)I"⟩
abbrev b_B_one : ByteArray := prog_8_method_20_code
def y_B_one : MethodName := ⟨"WindowPlanModel", "one", "(I)Z"⟩
abbrev b_B_advance : ByteArray := prog_8_method_13_code
def y_B_advance : MethodName := ⟨"WindowPlanModel", "advance", "(I)V"⟩
abbrev b_B_send : ByteArray := prog_8_method_16_code
def y_B_send : MethodName := ⟨"WindowPlanModel", "send", "(II)V"⟩
abbrev b_B_wake : ByteArray := prog_8_method_15_code
def y_B_wake : MethodName := ⟨"WindowPlanModel", "wake", "(I)V"⟩
abbrev b_B_take : ByteArray := prog_8_method_17_code
def y_B_take : MethodName := ⟨"WindowPlanModel", "take", "(II)V"⟩
abbrev b_B_up : ByteArray := prog_8_method_18_code
def y_B_up : MethodName := ⟨"WindowPlanModel", "up", "(II)V"⟩
abbrev b_B_down : ByteArray := prog_8_method_19_code
def y_B_down : MethodName := ⟨"WindowPlanModel", "down", "(II)V"⟩
abbrev b_B_partition : ByteArray := prog_8_method_25_code
def y_B_partition : MethodName := ⟨"WindowPlanModel", "partition", "(I)I"⟩
abbrev b_B_state : ByteArray := prog_8_method_26_code
def y_B_state : MethodName := ⟨"WindowPlanModel", "state", "(II)I"⟩
abbrev b_B_port : ByteArray := prog_8_method_27_code
def y_B_port : MethodName := ⟨"WindowPlanModel", "port", "(I)I"⟩
abbrev b_B_semaphore : ByteArray := prog_8_method_28_code
def y_B_semaphore : MethodName := ⟨"WindowPlanModel", "semaphore", "(I)I"⟩
abbrev b_B_count : ByteArray := prog_8_method_29_code
def y_B_count : MethodName := ⟨"WindowPlanModel", "count", "(I)I"⟩
end
section
theorem fl_A_10 : zF cls GG "WindowPlan" 10 5 0 (.object "WindowPlan$WindowRow") true := ⟨R_A, T_A, 10, t_A, rfl, by decide, i_A, (gm 193 (by decide +kernel) (by decide +kernel)), t_A_ok, n_A, by decide +kernel, rfl⟩
theorem fl_A_18 : zF cls GG "WindowPlan" 18 5 1 (.array (.object "WindowPlan$Partition")) true := ⟨R_A, T_A, 10, t_A, rfl, by decide, i_A, (gm 194 (by decide +kernel) (by decide +kernel)), t_A_ok, n_A, by decide +kernel, rfl⟩
theorem fl_A_25 : zF cls GG "WindowPlan" 25 5 2 (.array (.object "WindowPlan$Task")) true := ⟨R_A, T_A, 10, t_A, rfl, by decide, i_A, (gm 195 (by decide +kernel) (by decide +kernel)), t_A_ok, n_A, by decide +kernel, rfl⟩
theorem fl_A_34 : zF cls GG "WindowPlan" 34 5 3 (.array (.object "WindowPlan$Port")) true := ⟨R_A, T_A, 10, t_A, rfl, by decide, i_A, (gm 196 (by decide +kernel) (by decide +kernel)), t_A_ok, n_A, by decide +kernel, rfl⟩
theorem fl_A_39 : zF cls GG "WindowPlan" 39 5 4 (.array .int) true := ⟨R_A, T_A, 10, t_A, rfl, by decide, i_A, (gm 197 (by decide +kernel) (by decide +kernel)), t_A_ok, n_A, by decide +kernel, rfl⟩
theorem fl_A_55 : zF cls GG "WindowPlan" 55 4 2 (.int) false := ⟨R_Wr, T_Wr, 3, t_Wr, rfl, by decide, i_Wr, (gm 60 (by decide +kernel) (by decide +kernel)), t_Wr_ok, n_Wr, by decide +kernel, rfl⟩
theorem fl_A_63 : zF cls GG "WindowPlan" 63 5 5 (.int) false := ⟨R_A, T_A, 10, t_A, rfl, by decide, i_A, (gm 198 (by decide +kernel) (by decide +kernel)), t_A_ok, n_A, by decide +kernel, rfl⟩
theorem fl_A_77 : zF cls GG "WindowPlan" 77 3 1 (.object "WindowPlan$Program") true := ⟨R_K, T_K, 17, t_K, rfl, by decide, i_K, (gm 117 (by decide +kernel) (by decide +kernel)), t_K_ok, n_K, by decide +kernel, rfl⟩
theorem fl_A_81 : zF cls GG "WindowPlan" 81 2 2 (.int) false := ⟨R_G, T_G, 3, t_G, rfl, by decide, i_G, (gm 106 (by decide +kernel) (by decide +kernel)), t_G_ok, n_G, by decide +kernel, rfl⟩
theorem fl_A_85 : zF cls GG "WindowPlan" 85 0 1 (.int) false := ⟨R_P, T_P, 2, t_P, rfl, by decide, i_P, (gm 79 (by decide +kernel) (by decide +kernel)), t_P_ok, n_P, by decide +kernel, rfl⟩
theorem fl_A_91 : zF cls GG "WindowPlan" 91 0 0 (.int) false := ⟨R_P, T_P, 2, t_P, rfl, by decide, i_P, (gm 77 (by decide +kernel) (by decide +kernel)), t_P_ok, n_P, by decide +kernel, rfl⟩
theorem fl_A_97 : zF cls GG "WindowPlan" 97 3 2 (.int) false := ⟨R_K, T_K, 17, t_K, rfl, by decide, i_K, (gm 119 (by decide +kernel) (by decide +kernel)), t_K_ok, n_K, by decide +kernel, rfl⟩
theorem fl_A_100 : zF cls GG "WindowPlan" 100 3 4 (.int) false := ⟨R_K, T_K, 17, t_K, rfl, by decide, i_K, (gm 122 (by decide +kernel) (by decide +kernel)), t_K_ok, n_K, by decide +kernel, rfl⟩
theorem fl_A_103 : zF cls GG "WindowPlan" 103 5 6 (.int) false := ⟨R_A, T_A, 10, t_A, rfl, by decide, i_A, (gm 199 (by decide +kernel) (by decide +kernel)), t_A_ok, n_A, by decide +kernel, rfl⟩
theorem fl_A_106 : zF cls GG "WindowPlan" 106 3 16 (.int) false := ⟨R_K, T_K, 17, t_K, rfl, by decide, i_K, (gm 142 (by decide +kernel) (by decide +kernel)), t_K_ok, n_K, by decide +kernel, rfl⟩
theorem fl_A_109 : zF cls GG "WindowPlan" 109 3 6 (.int) false := ⟨R_K, T_K, 17, t_K, rfl, by decide, i_K, (gm 125 (by decide +kernel) (by decide +kernel)), t_K_ok, n_K, by decide +kernel, rfl⟩
theorem fl_A_127 : zF cls GG "WindowPlan" 127 1 1 (.int) false := ⟨R_O, T_O, 2, t_O, rfl, by decide, i_O, (gm 187 (by decide +kernel) (by decide +kernel)), t_O_ok, n_O, by decide +kernel, rfl⟩
theorem fl_A_134 : zF cls GG "WindowPlan" 134 5 7 (.int) false := ⟨R_A, T_A, 10, t_A, rfl, by decide, i_A, (gm 200 (by decide +kernel) (by decide +kernel)), t_A_ok, n_A, by decide +kernel, rfl⟩
theorem fl_A_137 : zF cls GG "WindowPlan" 137 5 8 (.int) false := ⟨R_A, T_A, 10, t_A, rfl, by decide, i_A, (gm 201 (by decide +kernel) (by decide +kernel)), t_A_ok, n_A, by decide +kernel, rfl⟩
theorem fl_A_140 : zF cls GG "WindowPlan" 140 5 9 (.long) false := ⟨R_A, T_A, 10, t_A, rfl, by decide, i_A, (gm 202 (by decide +kernel) (by decide +kernel)), t_A_ok, n_A, by decide +kernel, rfl⟩
theorem fl_A_156 : zF cls GG "WindowPlan" 156 3 13 (.int) false := ⟨R_K, T_K, 17, t_K, rfl, by decide, i_K, (gm 137 (by decide +kernel) (by decide +kernel)), t_K_ok, n_K, by decide +kernel, rfl⟩
theorem fl_A_159 : zF cls GG "WindowPlan" 159 3 11 (.int) false := ⟨R_K, T_K, 17, t_K, rfl, by decide, i_K, (gm 133 (by decide +kernel) (by decide +kernel)), t_K_ok, n_K, by decide +kernel, rfl⟩
theorem fl_A_166 : zF cls GG "WindowPlan" 166 3 12 (.int) false := ⟨R_K, T_K, 17, t_K, rfl, by decide, i_K, (gm 135 (by decide +kernel) (by decide +kernel)), t_K_ok, n_K, by decide +kernel, rfl⟩
theorem fl_A_181 : zF cls GG "WindowPlan" 181 2 1 (.array .int) true := ⟨R_G, T_G, 3, t_G, rfl, by decide, i_G, (gm 103 (by decide +kernel) (by decide +kernel)), t_G_ok, n_G, by decide +kernel, rfl⟩
theorem fl_A_184 : zF cls GG "WindowPlan" 184 3 7 (.int) false := ⟨R_K, T_K, 17, t_K, rfl, by decide, i_K, (gm 127 (by decide +kernel) (by decide +kernel)), t_K_ok, n_K, by decide +kernel, rfl⟩
theorem fl_A_187 : zF cls GG "WindowPlan" 187 2 0 (.array .int) true := ⟨R_G, T_G, 3, t_G, rfl, by decide, i_G, (gm 100 (by decide +kernel) (by decide +kernel)), t_G_ok, n_G, by decide +kernel, rfl⟩
theorem fl_A_206 : zF cls GG "WindowPlan" 206 3 0 (.int) true := ⟨R_K, T_K, 17, t_K, rfl, by decide, i_K, (gm 115 (by decide +kernel) (by decide +kernel)), t_K_ok, n_K, by decide +kernel, rfl⟩
theorem fl_A_209 : zF cls GG "WindowPlan" 209 3 10 (.int) false := ⟨R_K, T_K, 17, t_K, rfl, by decide, i_K, (gm 131 (by decide +kernel) (by decide +kernel)), t_K_ok, n_K, by decide +kernel, rfl⟩
theorem fl_A_216 : zF cls GG "WindowPlan" 216 3 15 (.int) false := ⟨R_K, T_K, 17, t_K, rfl, by decide, i_K, (gm 140 (by decide +kernel) (by decide +kernel)), t_K_ok, n_K, by decide +kernel, rfl⟩
theorem fl_P_9 : zF cls GG "WindowPlan$Partition" 9 0 0 (.int) false := ⟨R_P, T_P, 2, t_P, rfl, by decide, i_P, (gm 76 (by decide +kernel) (by decide +kernel)), t_P_ok, n_P, by decide +kernel, rfl⟩
theorem fl_P_15 : zF cls GG "WindowPlan$Partition" 15 0 1 (.int) false := ⟨R_P, T_P, 2, t_P, rfl, by decide, i_P, (gm 78 (by decide +kernel) (by decide +kernel)), t_P_ok, n_P, by decide +kernel, rfl⟩
theorem fl_O_9 : zF cls GG "WindowPlan$Port" 9 1 0 (.array .int) true := ⟨R_O, T_O, 2, t_O, rfl, by decide, i_O, (gm 185 (by decide +kernel) (by decide +kernel)), t_O_ok, n_O, by decide +kernel, rfl⟩
theorem fl_O_15 : zF cls GG "WindowPlan$Port" 15 1 1 (.int) false := ⟨R_O, T_O, 2, t_O, rfl, by decide, i_O, (gm 186 (by decide +kernel) (by decide +kernel)), t_O_ok, n_O, by decide +kernel, rfl⟩
theorem fl_G_9 : zF cls GG "WindowPlan$Program" 9 2 0 (.array .int) true := ⟨R_G, T_G, 3, t_G, rfl, by decide, i_G, (gm 98 (by decide +kernel) (by decide +kernel)), t_G_ok, n_G, by decide +kernel, rfl⟩
theorem fl_G_15 : zF cls GG "WindowPlan$Program" 15 2 1 (.array .int) true := ⟨R_G, T_G, 3, t_G, rfl, by decide, i_G, (gm 101 (by decide +kernel) (by decide +kernel)), t_G_ok, n_G, by decide +kernel, rfl⟩
theorem fl_G_18 : zF cls GG "WindowPlan$Program" 18 2 2 (.int) false := ⟨R_G, T_G, 3, t_G, rfl, by decide, i_G, (gm 104 (by decide +kernel) (by decide +kernel)), t_G_ok, n_G, by decide +kernel, rfl⟩
theorem fl_K_12 : zF cls GG "WindowPlan$Task" 12 3 1 (.object "WindowPlan$Program") true := ⟨R_K, T_K, 17, t_K, rfl, by decide, i_K, (gm 116 (by decide +kernel) (by decide +kernel)), t_K_ok, n_K, by decide +kernel, rfl⟩
theorem fl_K_18 : zF cls GG "WindowPlan$Task" 18 3 6 (.int) false := ⟨R_K, T_K, 17, t_K, rfl, by decide, i_K, (gm 124 (by decide +kernel) (by decide +kernel)), t_K_ok, n_K, by decide +kernel, rfl⟩
theorem fl_K_22 : zF cls GG "WindowPlan$Task" 22 3 11 (.int) false := ⟨R_K, T_K, 17, t_K, rfl, by decide, i_K, (gm 132 (by decide +kernel) (by decide +kernel)), t_K_ok, n_K, by decide +kernel, rfl⟩
theorem fl_K_25 : zF cls GG "WindowPlan$Task" 25 3 16 (.int) false := ⟨R_K, T_K, 17, t_K, rfl, by decide, i_K, (gm 141 (by decide +kernel) (by decide +kernel)), t_K_ok, n_K, by decide +kernel, rfl⟩
theorem fl_K_28 : zF cls GG "WindowPlan$Task" 28 3 0 (.int) true := ⟨R_K, T_K, 17, t_K, rfl, by decide, i_K, (gm 114 (by decide +kernel) (by decide +kernel)), t_K_ok, n_K, by decide +kernel, rfl⟩
theorem fl_K_31 : zF cls GG "WindowPlan$Task" 31 3 2 (.int) false := ⟨R_K, T_K, 17, t_K, rfl, by decide, i_K, (gm 118 (by decide +kernel) (by decide +kernel)), t_K_ok, n_K, by decide +kernel, rfl⟩
theorem fl_K_34 : zF cls GG "WindowPlan$Task" 34 3 3 (.int) false := ⟨R_K, T_K, 17, t_K, rfl, by decide, i_K, (gm 120 (by decide +kernel) (by decide +kernel)), t_K_ok, n_K, by decide +kernel, rfl⟩
theorem fl_K_37 : zF cls GG "WindowPlan$Task" 37 3 4 (.int) false := ⟨R_K, T_K, 17, t_K, rfl, by decide, i_K, (gm 121 (by decide +kernel) (by decide +kernel)), t_K_ok, n_K, by decide +kernel, rfl⟩
theorem fl_K_40 : zF cls GG "WindowPlan$Task" 40 3 5 (.int) false := ⟨R_K, T_K, 17, t_K, rfl, by decide, i_K, (gm 123 (by decide +kernel) (by decide +kernel)), t_K_ok, n_K, by decide +kernel, rfl⟩
theorem fl_K_43 : zF cls GG "WindowPlan$Task" 43 3 10 (.int) false := ⟨R_K, T_K, 17, t_K, rfl, by decide, i_K, (gm 130 (by decide +kernel) (by decide +kernel)), t_K_ok, n_K, by decide +kernel, rfl⟩
theorem fl_K_50 : zF cls GG "WindowPlan$Task" 50 2 2 (.int) false := ⟨R_G, T_G, 3, t_G, rfl, by decide, i_G, (gm 105 (by decide +kernel) (by decide +kernel)), t_G_ok, n_G, by decide +kernel, rfl⟩
theorem fl_K_59 : zF cls GG "WindowPlan$Task" 59 3 7 (.int) false := ⟨R_K, T_K, 17, t_K, rfl, by decide, i_K, (gm 126 (by decide +kernel) (by decide +kernel)), t_K_ok, n_K, by decide +kernel, rfl⟩
theorem fl_K_62 : zF cls GG "WindowPlan$Task" 62 3 8 (.int) false := ⟨R_K, T_K, 17, t_K, rfl, by decide, i_K, (gm 128 (by decide +kernel) (by decide +kernel)), t_K_ok, n_K, by decide +kernel, rfl⟩
theorem fl_K_65 : zF cls GG "WindowPlan$Task" 65 3 9 (.long) false := ⟨R_K, T_K, 17, t_K, rfl, by decide, i_K, (gm 129 (by decide +kernel) (by decide +kernel)), t_K_ok, n_K, by decide +kernel, rfl⟩
theorem fl_K_69 : zF cls GG "WindowPlan$Task" 69 3 14 (.int) false := ⟨R_K, T_K, 17, t_K, rfl, by decide, i_K, (gm 138 (by decide +kernel) (by decide +kernel)), t_K_ok, n_K, by decide +kernel, rfl⟩
theorem fl_K_75 : zF cls GG "WindowPlan$Task" 75 2 0 (.array .int) true := ⟨R_G, T_G, 3, t_G, rfl, by decide, i_G, (gm 99 (by decide +kernel) (by decide +kernel)), t_G_ok, n_G, by decide +kernel, rfl⟩
theorem fl_K_79 : zF cls GG "WindowPlan$Task" 79 2 1 (.array .int) true := ⟨R_G, T_G, 3, t_G, rfl, by decide, i_G, (gm 102 (by decide +kernel) (by decide +kernel)), t_G_ok, n_G, by decide +kernel, rfl⟩
theorem fl_K_82 : zF cls GG "WindowPlan$Task" 82 3 12 (.int) false := ⟨R_K, T_K, 17, t_K, rfl, by decide, i_K, (gm 134 (by decide +kernel) (by decide +kernel)), t_K_ok, n_K, by decide +kernel, rfl⟩
theorem fl_K_85 : zF cls GG "WindowPlan$Task" 85 3 13 (.int) false := ⟨R_K, T_K, 17, t_K, rfl, by decide, i_K, (gm 136 (by decide +kernel) (by decide +kernel)), t_K_ok, n_K, by decide +kernel, rfl⟩
theorem fl_K_88 : zF cls GG "WindowPlan$Task" 88 3 15 (.int) false := ⟨R_K, T_K, 17, t_K, rfl, by decide, i_K, (gm 139 (by decide +kernel) (by decide +kernel)), t_K_ok, n_K, by decide +kernel, rfl⟩
theorem fl_Wr_9 : zF cls GG "WindowPlan$WindowRow" 9 4 0 (.array .int) true := ⟨R_Wr, T_Wr, 3, t_Wr, rfl, by decide, i_Wr, (gm 57 (by decide +kernel) (by decide +kernel)), t_Wr_ok, n_Wr, by decide +kernel, rfl⟩
theorem fl_Wr_15 : zF cls GG "WindowPlan$WindowRow" 15 4 1 (.array .int) true := ⟨R_Wr, T_Wr, 3, t_Wr, rfl, by decide, i_Wr, (gm 58 (by decide +kernel) (by decide +kernel)), t_Wr_ok, n_Wr, by decide +kernel, rfl⟩
theorem fl_Wr_18 : zF cls GG "WindowPlan$WindowRow" 18 4 2 (.int) false := ⟨R_Wr, T_Wr, 3, t_Wr, rfl, by decide, i_Wr, (gm 59 (by decide +kernel) (by decide +kernel)), t_Wr_ok, n_Wr, by decide +kernel, rfl⟩
theorem fl_B_7 : zF cls GG "WindowPlanModel" 7 6 0 (.array .int) true := ⟨R_B, T_B, 31, t_B, rfl, by decide, i_B, (gm 438 (by decide +kernel) (by decide +kernel)), t_B_ok, n_B, by decide +kernel, rfl⟩
theorem fl_B_13 : zF cls GG "WindowPlanModel" 13 6 1 (.array .int) true := ⟨R_B, T_B, 31, t_B, rfl, by decide, i_B, (gm 439 (by decide +kernel) (by decide +kernel)), t_B_ok, n_B, by decide +kernel, rfl⟩
theorem fl_B_16 : zF cls GG "WindowPlanModel" 16 6 3 (.array .int) true := ⟨R_B, T_B, 31, t_B, rfl, by decide, i_B, (gm 441 (by decide +kernel) (by decide +kernel)), t_B_ok, n_B, by decide +kernel, rfl⟩
theorem fl_B_19 : zF cls GG "WindowPlanModel" 19 6 4 (.array .int) true := ⟨R_B, T_B, 31, t_B, rfl, by decide, i_B, (gm 442 (by decide +kernel) (by decide +kernel)), t_B_ok, n_B, by decide +kernel, rfl⟩
theorem fl_B_22 : zF cls GG "WindowPlanModel" 22 6 6 (.array .int) true := ⟨R_B, T_B, 31, t_B, rfl, by decide, i_B, (gm 444 (by decide +kernel) (by decide +kernel)), t_B_ok, n_B, by decide +kernel, rfl⟩
theorem fl_B_25 : zF cls GG "WindowPlanModel" 25 6 7 (.array .int) true := ⟨R_B, T_B, 31, t_B, rfl, by decide, i_B, (gm 445 (by decide +kernel) (by decide +kernel)), t_B_ok, n_B, by decide +kernel, rfl⟩
theorem fl_B_28 : zF cls GG "WindowPlanModel" 28 6 8 (.array .int) true := ⟨R_B, T_B, 31, t_B, rfl, by decide, i_B, (gm 446 (by decide +kernel) (by decide +kernel)), t_B_ok, n_B, by decide +kernel, rfl⟩
theorem fl_B_31 : zF cls GG "WindowPlanModel" 31 6 9 (.array .int) true := ⟨R_B, T_B, 31, t_B, rfl, by decide, i_B, (gm 447 (by decide +kernel) (by decide +kernel)), t_B_ok, n_B, by decide +kernel, rfl⟩
theorem fl_B_34 : zF cls GG "WindowPlanModel" 34 6 10 (.array .int) true := ⟨R_B, T_B, 31, t_B, rfl, by decide, i_B, (gm 448 (by decide +kernel) (by decide +kernel)), t_B_ok, n_B, by decide +kernel, rfl⟩
theorem fl_B_37 : zF cls GG "WindowPlanModel" 37 6 11 (.array .int) true := ⟨R_B, T_B, 31, t_B, rfl, by decide, i_B, (gm 449 (by decide +kernel) (by decide +kernel)), t_B_ok, n_B, by decide +kernel, rfl⟩
theorem fl_B_40 : zF cls GG "WindowPlanModel" 40 6 12 (.array .int) true := ⟨R_B, T_B, 31, t_B, rfl, by decide, i_B, (gm 450 (by decide +kernel) (by decide +kernel)), t_B_ok, n_B, by decide +kernel, rfl⟩
theorem fl_B_43 : zF cls GG "WindowPlanModel" 43 6 13 (.array .int) true := ⟨R_B, T_B, 31, t_B, rfl, by decide, i_B, (gm 451 (by decide +kernel) (by decide +kernel)), t_B_ok, n_B, by decide +kernel, rfl⟩
theorem fl_B_46 : zF cls GG "WindowPlanModel" 46 6 14 (.array .int) true := ⟨R_B, T_B, 31, t_B, rfl, by decide, i_B, (gm 452 (by decide +kernel) (by decide +kernel)), t_B_ok, n_B, by decide +kernel, rfl⟩
theorem fl_B_49 : zF cls GG "WindowPlanModel" 49 6 15 (.array .int) true := ⟨R_B, T_B, 31, t_B, rfl, by decide, i_B, (gm 453 (by decide +kernel) (by decide +kernel)), t_B_ok, n_B, by decide +kernel, rfl⟩
theorem fl_B_52 : zF cls GG "WindowPlanModel" 52 6 16 (.array .int) true := ⟨R_B, T_B, 31, t_B, rfl, by decide, i_B, (gm 454 (by decide +kernel) (by decide +kernel)), t_B_ok, n_B, by decide +kernel, rfl⟩
theorem fl_B_55 : zF cls GG "WindowPlanModel" 55 6 17 (.array .int) true := ⟨R_B, T_B, 31, t_B, rfl, by decide, i_B, (gm 455 (by decide +kernel) (by decide +kernel)), t_B_ok, n_B, by decide +kernel, rfl⟩
theorem fl_B_58 : zF cls GG "WindowPlanModel" 58 6 18 (.array .int) true := ⟨R_B, T_B, 31, t_B, rfl, by decide, i_B, (gm 456 (by decide +kernel) (by decide +kernel)), t_B_ok, n_B, by decide +kernel, rfl⟩
theorem fl_B_61 : zF cls GG "WindowPlanModel" 61 6 19 (.array .int) true := ⟨R_B, T_B, 31, t_B, rfl, by decide, i_B, (gm 457 (by decide +kernel) (by decide +kernel)), t_B_ok, n_B, by decide +kernel, rfl⟩
theorem fl_B_64 : zF cls GG "WindowPlanModel" 64 6 20 (.array .int) true := ⟨R_B, T_B, 31, t_B, rfl, by decide, i_B, (gm 458 (by decide +kernel) (by decide +kernel)), t_B_ok, n_B, by decide +kernel, rfl⟩
theorem fl_B_67 : zF cls GG "WindowPlanModel" 67 6 21 (.array .int) true := ⟨R_B, T_B, 31, t_B, rfl, by decide, i_B, (gm 459 (by decide +kernel) (by decide +kernel)), t_B_ok, n_B, by decide +kernel, rfl⟩
theorem fl_B_70 : zF cls GG "WindowPlanModel" 70 6 22 (.array .int) true := ⟨R_B, T_B, 31, t_B, rfl, by decide, i_B, (gm 460 (by decide +kernel) (by decide +kernel)), t_B_ok, n_B, by decide +kernel, rfl⟩
theorem fl_B_73 : zF cls GG "WindowPlanModel" 73 6 23 (.array .int) true := ⟨R_B, T_B, 31, t_B, rfl, by decide, i_B, (gm 461 (by decide +kernel) (by decide +kernel)), t_B_ok, n_B, by decide +kernel, rfl⟩
theorem fl_B_76 : zF cls GG "WindowPlanModel" 76 6 25 (.array .int) true := ⟨R_B, T_B, 31, t_B, rfl, by decide, i_B, (gm 463 (by decide +kernel) (by decide +kernel)), t_B_ok, n_B, by decide +kernel, rfl⟩
theorem fl_B_79 : zF cls GG "WindowPlanModel" 79 6 26 (.array .int) true := ⟨R_B, T_B, 31, t_B, rfl, by decide, i_B, (gm 464 (by decide +kernel) (by decide +kernel)), t_B_ok, n_B, by decide +kernel, rfl⟩
theorem fl_B_82 : zF cls GG "WindowPlanModel" 82 6 27 (.array .int) true := ⟨R_B, T_B, 31, t_B, rfl, by decide, i_B, (gm 465 (by decide +kernel) (by decide +kernel)), t_B_ok, n_B, by decide +kernel, rfl⟩
theorem fl_B_93 : zF cls GG "WindowPlanModel" 93 6 2 (.int) false := ⟨R_B, T_B, 31, t_B, rfl, by decide, i_B, (gm 440 (by decide +kernel) (by decide +kernel)), t_B_ok, n_B, by decide +kernel, rfl⟩
theorem fl_B_97 : zF cls GG "WindowPlanModel" 97 6 5 (.int) false := ⟨R_B, T_B, 31, t_B, rfl, by decide, i_B, (gm 443 (by decide +kernel) (by decide +kernel)), t_B_ok, n_B, by decide +kernel, rfl⟩
theorem fl_B_104 : zF cls GG "WindowPlanModel" 104 6 28 (.int) false := ⟨R_B, T_B, 31, t_B, rfl, by decide, i_B, (gm 466 (by decide +kernel) (by decide +kernel)), t_B_ok, n_B, by decide +kernel, rfl⟩
theorem fl_B_107 : zF cls GG "WindowPlanModel" 107 6 24 (.int) false := ⟨R_B, T_B, 31, t_B, rfl, by decide, i_B, (gm 462 (by decide +kernel) (by decide +kernel)), t_B_ok, n_B, by decide +kernel, rfl⟩
theorem fl_B_127 : zF cls GG "WindowPlanModel" 127 6 29 (.int) false := ⟨R_B, T_B, 31, t_B, rfl, by decide, i_B, (gm 467 (by decide +kernel) (by decide +kernel)), t_B_ok, n_B, by decide +kernel, rfl⟩
theorem fl_B_156 : zF cls GG "WindowPlanModel" 156 6 30 (.int) false := ⟨R_B, T_B, 31, t_B, rfl, by decide, i_B, (gm 468 (by decide +kernel) (by decide +kernel)), t_B_ok, n_B, by decide +kernel, rfl⟩
theorem zV_mk {Ts : List Cond} {own : String} {index : Nat} {C : String} {y : MethodName} {b : ByteArray} {nL : Nat} {ret : Option FieldType} {n : Nat} (hGG : GoodIn Ts Ts) (h1 : Cond.methodLink own index y ∈ Ts) (h2 : Cond.instanceMethod y ∈ Ts) (h3 : Cond.selects C y y ∈ Ts) (h4 : Cond.initialized C ∈ Ts) (h5 : Cond.code y b nL ret ∈ Ts) (hd : y.cls = C ∧ y.cls ≠ "java/lang/invoke/MethodHandle" ∧ y.cls ≠ "java/lang/invoke/VarHandle" ∧ (parseMethodDescriptor y.desc).map (fun d => d.parameters.length) = some n) : zV Ts own index C y b nL ret n := by
  refine ⟨fun w hw => ?_, hd⟩
  unfold wsV at hw
  simp only [List.cons_append, List.nil_append, List.mem_cons, List.not_mem_nil, or_false] at hw
  rcases hw with rfl | rfl | rfl | rfl | rfl
  · exact hGG _ h1
  · exact hGG _ h2
  · exact hGG _ h3
  · exact hGG _ h4
  · exact hGG _ h5
theorem zS_mk {Ts : List Cond} {own : String} {index : Nat} {y : MethodName} {b : ByteArray} {nL : Nat} {ret : Option FieldType} {n : Nat} (hGG : GoodIn Ts Ts) (h1 : Cond.methodLink own index y ∈ Ts) (h2 : Cond.static y ∈ Ts) (h4 : Cond.initialized y.cls ∈ Ts) (h5 : Cond.code y b nL ret ∈ Ts) (hd : y.cls ≠ "java/lang/invoke/MethodHandle" ∧ y.cls ≠ "java/lang/invoke/VarHandle" ∧ (parseMethodDescriptor y.desc).map (fun d => d.parameters.length) = some n) : zS Ts own index y b nL ret n := by
  refine ⟨fun w hw => ?_, hd⟩
  unfold va_wsS at hw
  simp only [List.cons_append, List.nil_append, List.mem_cons, List.not_mem_nil, or_false] at hw
  rcases hw with rfl | rfl | rfl | rfl
  · exact hGG _ h1
  · exact hGG _ h2
  · exact hGG _ h4
  · exact hGG _ h5
theorem cf_A_43 : zS GG "WindowPlan" 43 y_A_isPartition b_A_isPartition 1 (some .boolean) 1 := zS_mk GG_ok (gm 228 (by decide +kernel) (by decide +kernel)) (gm 229 (by decide +kernel) (by decide +kernel)) (gm 35 (by decide +kernel) (by decide +kernel)) (gm 230 (by decide +kernel) (by decide +kernel)) (by decide +kernel)
theorem cf_A_47 : zS GG "WindowPlan" 47 y_A_within b_A_within 3 (some .boolean) 3 := zS_mk GG_ok (gm 231 (by decide +kernel) (by decide +kernel)) (gm 232 (by decide +kernel) (by decide +kernel)) (gm 35 (by decide +kernel) (by decide +kernel)) (gm 233 (by decide +kernel) (by decide +kernel)) (by decide +kernel)
theorem cf_A_51 : zV GG "WindowPlan" 51 "WindowPlan" y_A_allOff b_A_allOff 2 (some .boolean) 0 := zV_mk GG_ok (gm 234 (by decide +kernel) (by decide +kernel)) (gm 236 (by decide +kernel) (by decide +kernel)) (gm 0 (by decide +kernel) (by decide +kernel)) (gm 35 (by decide +kernel) (by decide +kernel)) (gm 237 (by decide +kernel) (by decide +kernel)) (by decide +kernel)
theorem cf_A_59 : zV GG "WindowPlan" 59 "WindowPlan$WindowRow" y_Wr_add b_Wr_add 3 none 2 := zV_mk GG_ok (gm 238 (by decide +kernel) (by decide +kernel)) (gm 239 (by decide +kernel) (by decide +kernel)) (gm 240 (by decide +kernel) (by decide +kernel)) (gm 36 (by decide +kernel) (by decide +kernel)) (gm 241 (by decide +kernel) (by decide +kernel)) (by decide +kernel)
theorem cf_A_66 : zV GG "WindowPlan" 66 "WindowPlan$Task" y_K_define b_K_define 5 none 4 := zV_mk GG_ok (gm 246 (by decide +kernel) (by decide +kernel)) (gm 247 (by decide +kernel) (by decide +kernel)) (gm 248 (by decide +kernel) (by decide +kernel)) (gm 38 (by decide +kernel) (by decide +kernel)) (gm 249 (by decide +kernel) (by decide +kernel)) (by decide +kernel)
theorem cf_A_70 : zV GG "WindowPlan" 70 "WindowPlan" y_A_isProcess b_A_isProcess 2 (some .boolean) 1 := zV_mk GG_ok (gm 254 (by decide +kernel) (by decide +kernel)) (gm 256 (by decide +kernel) (by decide +kernel)) (gm 1 (by decide +kernel) (by decide +kernel)) (gm 35 (by decide +kernel) (by decide +kernel)) (gm 257 (by decide +kernel) (by decide +kernel)) (by decide +kernel)
theorem cf_A_73 : zS GG "WindowPlan" 73 y_A_isOrder b_A_isOrder 2 (some .boolean) 2 := zS_mk GG_ok (gm 258 (by decide +kernel) (by decide +kernel)) (gm 259 (by decide +kernel) (by decide +kernel)) (gm 35 (by decide +kernel) (by decide +kernel)) (gm 260 (by decide +kernel) (by decide +kernel)) (by decide +kernel)
theorem cf_A_84 : zV GG "WindowPlan" 84 "WindowPlan$Program" y_G_add b_G_add 3 none 2 := zV_mk GG_ok (gm 261 (by decide +kernel) (by decide +kernel)) (gm 262 (by decide +kernel) (by decide +kernel)) (gm 263 (by decide +kernel) (by decide +kernel)) (gm 39 (by decide +kernel) (by decide +kernel)) (gm 264 (by decide +kernel) (by decide +kernel)) (by decide +kernel)
theorem cf_A_88 : zV GG "WindowPlan" 88 "WindowPlan" y_A_isOn b_A_isOn 2 (some .boolean) 1 := zV_mk GG_ok (gm 273 (by decide +kernel) (by decide +kernel)) (gm 275 (by decide +kernel) (by decide +kernel)) (gm 2 (by decide +kernel) (by decide +kernel)) (gm 35 (by decide +kernel) (by decide +kernel)) (gm 276 (by decide +kernel) (by decide +kernel)) (by decide +kernel)
theorem cf_A_94 : zV GG "WindowPlan" 94 "WindowPlan" y_A_restAll b_A_restAll 3 none 1 := zV_mk GG_ok (gm 277 (by decide +kernel) (by decide +kernel)) (gm 279 (by decide +kernel) (by decide +kernel)) (gm 3 (by decide +kernel) (by decide +kernel)) (gm 35 (by decide +kernel) (by decide +kernel)) (gm 280 (by decide +kernel) (by decide +kernel)) (by decide +kernel)
theorem cf_A_112 : zV GG "WindowPlan" 112 "WindowPlan" y_A_newTurn b_A_newTurn 1 (some .long) 0 := zV_mk GG_ok (gm 289 (by decide +kernel) (by decide +kernel)) (gm 291 (by decide +kernel) (by decide +kernel)) (gm 4 (by decide +kernel) (by decide +kernel)) (gm 35 (by decide +kernel) (by decide +kernel)) (gm 292 (by decide +kernel) (by decide +kernel)) (by decide +kernel)
theorem cf_A_116 : zV GG "WindowPlan" 116 "WindowPlan$Task" y_K_release b_K_release 4 none 2 := zV_mk GG_ok (gm 293 (by decide +kernel) (by decide +kernel)) (gm 294 (by decide +kernel) (by decide +kernel)) (gm 295 (by decide +kernel) (by decide +kernel)) (gm 38 (by decide +kernel) (by decide +kernel)) (gm 296 (by decide +kernel) (by decide +kernel)) (by decide +kernel)
theorem cf_A_120 : zV GG "WindowPlan" 120 "WindowPlan" y_A_tick b_A_tick 1 none 0 := zV_mk GG_ok (gm 310 (by decide +kernel) (by decide +kernel)) (gm 312 (by decide +kernel) (by decide +kernel)) (gm 5 (by decide +kernel) (by decide +kernel)) (gm 35 (by decide +kernel) (by decide +kernel)) (gm 313 (by decide +kernel) (by decide +kernel)) (by decide +kernel)
theorem cf_A_123 : zV GG "WindowPlan" 123 "WindowPlan$Task" y_K_tell b_K_tell 2 (some .int) 1 := zV_mk GG_ok (gm 412 (by decide +kernel) (by decide +kernel)) (gm 413 (by decide +kernel) (by decide +kernel)) (gm 414 (by decide +kernel) (by decide +kernel)) (gm 38 (by decide +kernel) (by decide +kernel)) (gm 415 (by decide +kernel) (by decide +kernel)) (by decide +kernel)
theorem cf_A_128 : zV GG "WindowPlan" 128 "WindowPlan$WindowRow" y_Wr_partitionAt b_Wr_partitionAt 2 (some .int) 1 := zV_mk GG_ok (gm 331 (by decide +kernel) (by decide +kernel)) (gm 332 (by decide +kernel) (by decide +kernel)) (gm 333 (by decide +kernel) (by decide +kernel)) (gm 36 (by decide +kernel) (by decide +kernel)) (gm 334 (by decide +kernel) (by decide +kernel)) (by decide +kernel)
theorem cf_A_131 : zV GG "WindowPlan" 131 "WindowPlan$WindowRow" y_Wr_leftAt b_Wr_leftAt 2 (some .int) 1 := zV_mk GG_ok (gm 428 (by decide +kernel) (by decide +kernel)) (gm 429 (by decide +kernel) (by decide +kernel)) (gm 430 (by decide +kernel) (by decide +kernel)) (gm 36 (by decide +kernel) (by decide +kernel)) (gm 431 (by decide +kernel) (by decide +kernel)) (by decide +kernel)
theorem cf_A_144 : zV GG "WindowPlan" 144 "WindowPlan$Task" y_K_rest b_K_rest 1 none 0 := zV_mk GG_ok (gm 281 (by decide +kernel) (by decide +kernel)) (gm 282 (by decide +kernel) (by decide +kernel)) (gm 283 (by decide +kernel) (by decide +kernel)) (gm 38 (by decide +kernel) (by decide +kernel)) (gm 284 (by decide +kernel) (by decide +kernel)) (by decide +kernel)
theorem cf_A_147 : zV GG "WindowPlan" 147 "WindowPlan" y_A_releaseDue b_A_releaseDue 3 none 0 := zV_mk GG_ok (gm 314 (by decide +kernel) (by decide +kernel)) (gm 316 (by decide +kernel) (by decide +kernel)) (gm 6 (by decide +kernel) (by decide +kernel)) (gm 35 (by decide +kernel) (by decide +kernel)) (gm 317 (by decide +kernel) (by decide +kernel)) (by decide +kernel)
theorem cf_A_150 : zV GG "WindowPlan" 150 "WindowPlan" y_A_missDue b_A_missDue 3 none 0 := zV_mk GG_ok (gm 318 (by decide +kernel) (by decide +kernel)) (gm 320 (by decide +kernel) (by decide +kernel)) (gm 7 (by decide +kernel) (by decide +kernel)) (gm 35 (by decide +kernel) (by decide +kernel)) (gm 321 (by decide +kernel) (by decide +kernel)) (by decide +kernel)
theorem cf_A_153 : zV GG "WindowPlan" 153 "WindowPlan" y_A_giveProcessor b_A_giveProcessor 4 none 0 := zV_mk GG_ok (gm 327 (by decide +kernel) (by decide +kernel)) (gm 329 (by decide +kernel) (by decide +kernel)) (gm 9 (by decide +kernel) (by decide +kernel)) (gm 35 (by decide +kernel) (by decide +kernel)) (gm 330 (by decide +kernel) (by decide +kernel)) (by decide +kernel)
theorem cf_A_162 : zV GG "WindowPlan" 162 "WindowPlan" y_A_miss b_A_miss 3 none 1 := zV_mk GG_ok (gm 322 (by decide +kernel) (by decide +kernel)) (gm 324 (by decide +kernel) (by decide +kernel)) (gm 8 (by decide +kernel) (by decide +kernel)) (gm 35 (by decide +kernel) (by decide +kernel)) (gm 325 (by decide +kernel) (by decide +kernel)) (by decide +kernel)
theorem cf_A_169 : zV GG "WindowPlan" 169 "WindowPlan$Task" y_K_beginAnew b_K_beginAnew 3 none 1 := zV_mk GG_ok (gm 326 (by decide +kernel) (by decide +kernel)) (gm 298 (by decide +kernel) (by decide +kernel)) (gm 299 (by decide +kernel) (by decide +kernel)) (gm 38 (by decide +kernel) (by decide +kernel)) (gm 300 (by decide +kernel) (by decide +kernel)) (by decide +kernel)
theorem cf_A_173 : zV GG "WindowPlan" 173 "WindowPlan" y_A_firstReady b_A_firstReady 5 (some .object "WindowPlan$Task") 1 := zV_mk GG_ok (gm 346 (by decide +kernel) (by decide +kernel)) (gm 348 (by decide +kernel) (by decide +kernel)) (gm 12 (by decide +kernel) (by decide +kernel)) (gm 35 (by decide +kernel) (by decide +kernel)) (gm 349 (by decide +kernel) (by decide +kernel)) (by decide +kernel)
theorem cf_A_177 : zV GG "WindowPlan" 177 "WindowPlan" y_A_doOrder b_A_doOrder 3 (some .boolean) 1 := zV_mk GG_ok (gm 354 (by decide +kernel) (by decide +kernel)) (gm 356 (by decide +kernel) (by decide +kernel)) (gm 13 (by decide +kernel) (by decide +kernel)) (gm 35 (by decide +kernel) (by decide +kernel)) (gm 357 (by decide +kernel) (by decide +kernel)) (by decide +kernel)
theorem cf_A_190 : zV GG "WindowPlan" 190 "WindowPlan$Task" y_K_work b_K_work 2 none 1 := zV_mk GG_ok (gm 358 (by decide +kernel) (by decide +kernel)) (gm 359 (by decide +kernel) (by decide +kernel)) (gm 360 (by decide +kernel) (by decide +kernel)) (gm 38 (by decide +kernel) (by decide +kernel)) (gm 361 (by decide +kernel) (by decide +kernel)) (by decide +kernel)
theorem cf_A_193 : zV GG "WindowPlan" 193 "WindowPlan" y_A_send b_A_send 5 none 2 := zV_mk GG_ok (gm 366 (by decide +kernel) (by decide +kernel)) (gm 368 (by decide +kernel) (by decide +kernel)) (gm 14 (by decide +kernel) (by decide +kernel)) (gm 35 (by decide +kernel) (by decide +kernel)) (gm 369 (by decide +kernel) (by decide +kernel)) (by decide +kernel)
theorem cf_A_197 : zV GG "WindowPlan" 197 "WindowPlan" y_A_take b_A_take 3 none 2 := zV_mk GG_ok (gm 384 (by decide +kernel) (by decide +kernel)) (gm 386 (by decide +kernel) (by decide +kernel)) (gm 16 (by decide +kernel) (by decide +kernel)) (gm 35 (by decide +kernel) (by decide +kernel)) (gm 387 (by decide +kernel) (by decide +kernel)) (by decide +kernel)
theorem cf_A_200 : zV GG "WindowPlan" 200 "WindowPlan" y_A_up b_A_up 4 none 2 := zV_mk GG_ok (gm 396 (by decide +kernel) (by decide +kernel)) (gm 398 (by decide +kernel) (by decide +kernel)) (gm 17 (by decide +kernel) (by decide +kernel)) (gm 35 (by decide +kernel) (by decide +kernel)) (gm 399 (by decide +kernel) (by decide +kernel)) (by decide +kernel)
theorem cf_A_203 : zV GG "WindowPlan" 203 "WindowPlan" y_A_down b_A_down 3 none 2 := zV_mk GG_ok (gm 400 (by decide +kernel) (by decide +kernel)) (gm 402 (by decide +kernel) (by decide +kernel)) (gm 18 (by decide +kernel) (by decide +kernel)) (gm 35 (by decide +kernel) (by decide +kernel)) (gm 403 (by decide +kernel) (by decide +kernel)) (by decide +kernel)
theorem cf_A_212 : zV GG "WindowPlan" 212 "WindowPlan" y_A_firstWaiting b_A_firstWaiting 6 (some .object "WindowPlan$Task") 2 := zV_mk GG_ok (gm 370 (by decide +kernel) (by decide +kernel)) (gm 372 (by decide +kernel) (by decide +kernel)) (gm 15 (by decide +kernel) (by decide +kernel)) (gm 35 (by decide +kernel) (by decide +kernel)) (gm 373 (by decide +kernel) (by decide +kernel)) (by decide +kernel)
theorem cf_A_219 : zV GG "WindowPlan" 219 "WindowPlan$Task" y_K_becomeReady b_K_becomeReady 3 none 1 := zV_mk GG_ok (gm 378 (by decide +kernel) (by decide +kernel)) (gm 302 (by decide +kernel) (by decide +kernel)) (gm 303 (by decide +kernel) (by decide +kernel)) (gm 38 (by decide +kernel) (by decide +kernel)) (gm 304 (by decide +kernel) (by decide +kernel)) (by decide +kernel)
theorem cf_A_222 : zV GG "WindowPlan" 222 "WindowPlan$Task" y_K_advance b_K_advance 1 none 0 := zV_mk GG_ok (gm 379 (by decide +kernel) (by decide +kernel)) (gm 363 (by decide +kernel) (by decide +kernel)) (gm 364 (by decide +kernel) (by decide +kernel)) (gm 38 (by decide +kernel) (by decide +kernel)) (gm 365 (by decide +kernel) (by decide +kernel)) (by decide +kernel)
theorem cf_A_225 : zV GG "WindowPlan" 225 "WindowPlan$Port" y_O_put b_O_put 2 none 1 := zV_mk GG_ok (gm 380 (by decide +kernel) (by decide +kernel)) (gm 381 (by decide +kernel) (by decide +kernel)) (gm 382 (by decide +kernel) (by decide +kernel)) (gm 40 (by decide +kernel) (by decide +kernel)) (gm 383 (by decide +kernel) (by decide +kernel)) (by decide +kernel)
theorem cf_A_228 : zV GG "WindowPlan" 228 "WindowPlan$Task" y_K_becomeWaiting b_K_becomeWaiting 3 none 1 := zV_mk GG_ok (gm 388 (by decide +kernel) (by decide +kernel)) (gm 389 (by decide +kernel) (by decide +kernel)) (gm 390 (by decide +kernel) (by decide +kernel)) (gm 38 (by decide +kernel) (by decide +kernel)) (gm 391 (by decide +kernel) (by decide +kernel)) (by decide +kernel)
theorem cf_A_231 : zV GG "WindowPlan" 231 "WindowPlan$Port" y_O_takeOldest b_O_takeOldest 3 (some .int) 0 := zV_mk GG_ok (gm 392 (by decide +kernel) (by decide +kernel)) (gm 393 (by decide +kernel) (by decide +kernel)) (gm 394 (by decide +kernel) (by decide +kernel)) (gm 40 (by decide +kernel) (by decide +kernel)) (gm 395 (by decide +kernel) (by decide +kernel)) (by decide +kernel)
theorem cf_A_235 : zV GG "WindowPlan" 235 "WindowPlan$Task" y_K_comesBefore b_K_comesBefore 2 (some .boolean) 1 := zV_mk GG_ok (gm 350 (by decide +kernel) (by decide +kernel)) (gm 351 (by decide +kernel) (by decide +kernel)) (gm 352 (by decide +kernel) (by decide +kernel)) (gm 38 (by decide +kernel) (by decide +kernel)) (gm 353 (by decide +kernel) (by decide +kernel)) (by decide +kernel)
theorem cf_A_238 : zV GG "WindowPlan" 238 "WindowPlan$Task" y_K_waitsAt b_K_waitsAt 3 (some .boolean) 2 := zV_mk GG_ok (gm 374 (by decide +kernel) (by decide +kernel)) (gm 375 (by decide +kernel) (by decide +kernel)) (gm 376 (by decide +kernel) (by decide +kernel)) (gm 38 (by decide +kernel) (by decide +kernel)) (gm 377 (by decide +kernel) (by decide +kernel)) (by decide +kernel)
theorem cf_K_46 : zV GG "WindowPlan$Task" 46 "WindowPlan$Task" y_K_beginAnew b_K_beginAnew 3 none 1 := zV_mk GG_ok (gm 297 (by decide +kernel) (by decide +kernel)) (gm 298 (by decide +kernel) (by decide +kernel)) (gm 299 (by decide +kernel) (by decide +kernel)) (gm 38 (by decide +kernel) (by decide +kernel)) (gm 300 (by decide +kernel) (by decide +kernel)) (by decide +kernel)
theorem cf_K_53 : zV GG "WindowPlan$Task" 53 "WindowPlan$Task" y_K_rest b_K_rest 1 none 0 := zV_mk GG_ok (gm 305 (by decide +kernel) (by decide +kernel)) (gm 282 (by decide +kernel) (by decide +kernel)) (gm 283 (by decide +kernel) (by decide +kernel)) (gm 38 (by decide +kernel) (by decide +kernel)) (gm 284 (by decide +kernel) (by decide +kernel)) (by decide +kernel)
theorem cf_K_56 : zV GG "WindowPlan$Task" 56 "WindowPlan$Task" y_K_becomeReady b_K_becomeReady 3 none 1 := zV_mk GG_ok (gm 301 (by decide +kernel) (by decide +kernel)) (gm 302 (by decide +kernel) (by decide +kernel)) (gm 303 (by decide +kernel) (by decide +kernel)) (gm 38 (by decide +kernel) (by decide +kernel)) (gm 304 (by decide +kernel) (by decide +kernel)) (by decide +kernel)
theorem cf_K_72 : zV GG "WindowPlan$Task" 72 "WindowPlan$Task" y_K_advance b_K_advance 1 none 0 := zV_mk GG_ok (gm 362 (by decide +kernel) (by decide +kernel)) (gm 363 (by decide +kernel) (by decide +kernel)) (gm 364 (by decide +kernel) (by decide +kernel)) (gm 38 (by decide +kernel) (by decide +kernel)) (gm 365 (by decide +kernel) (by decide +kernel)) (by decide +kernel)
theorem cf_Wr_22 : zV GG "WindowPlan$WindowRow" 22 "WindowPlan$WindowRow" y_Wr_offsetAt b_Wr_offsetAt 2 (some .int) 1 := zV_mk GG_ok (gm 335 (by decide +kernel) (by decide +kernel)) (gm 337 (by decide +kernel) (by decide +kernel)) (gm 10 (by decide +kernel) (by decide +kernel)) (gm 36 (by decide +kernel) (by decide +kernel)) (gm 338 (by decide +kernel) (by decide +kernel)) (by decide +kernel)
theorem cf_Wr_26 : zV GG "WindowPlan$WindowRow" 26 "WindowPlan$WindowRow" y_Wr_indexOf b_Wr_indexOf 3 (some .int) 1 := zV_mk GG_ok (gm 342 (by decide +kernel) (by decide +kernel)) (gm 344 (by decide +kernel) (by decide +kernel)) (gm 11 (by decide +kernel) (by decide +kernel)) (gm 36 (by decide +kernel) (by decide +kernel)) (gm 345 (by decide +kernel) (by decide +kernel)) (by decide +kernel)
theorem cf_Wr_29 : zS GG "WindowPlan$WindowRow" 29 y_J_floorMod b_J_floorMod 3 (some .int) 2 := zS_mk GG_ok (gm 339 (by decide +kernel) (by decide +kernel)) (gm 340 (by decide +kernel) (by decide +kernel)) (gm 42 (by decide +kernel) (by decide +kernel)) (gm 341 (by decide +kernel) (by decide +kernel)) (by decide +kernel)
theorem cf_Lw_13 : zV GG "WindowPlanLaw" 13 "WindowPlan" y_A_window b_A_window 3 (some .int) 2 := zV_mk GG_ok (gm 224 (by decide +kernel) (by decide +kernel)) (gm 225 (by decide +kernel) (by decide +kernel)) (gm 226 (by decide +kernel) (by decide +kernel)) (gm 35 (by decide +kernel) (by decide +kernel)) (gm 227 (by decide +kernel) (by decide +kernel)) (by decide +kernel)
theorem cf_Lw_17 : zV GG "WindowPlanLaw" 17 "WindowPlanModel" y_B_window b_B_window 3 (some .int) 2 := zV_mk GG_ok (gm 532 (by decide +kernel) (by decide +kernel)) (gm 533 (by decide +kernel) (by decide +kernel)) (gm 534 (by decide +kernel) (by decide +kernel)) (gm 41 (by decide +kernel) (by decide +kernel)) (gm 535 (by decide +kernel) (by decide +kernel)) (by decide +kernel)
theorem cf_Lw_18 : zV GG "WindowPlanLaw" 18 "WindowPlan" y_A_process b_A_process 5 (some .int) 4 := zV_mk GG_ok (gm 242 (by decide +kernel) (by decide +kernel)) (gm 243 (by decide +kernel) (by decide +kernel)) (gm 244 (by decide +kernel) (by decide +kernel)) (gm 35 (by decide +kernel) (by decide +kernel)) (gm 245 (by decide +kernel) (by decide +kernel)) (by decide +kernel)
theorem cf_Lw_22 : zV GG "WindowPlanLaw" 22 "WindowPlanModel" y_B_process b_B_process 6 (some .int) 4 := zV_mk GG_ok (gm 543 (by decide +kernel) (by decide +kernel)) (gm 544 (by decide +kernel) (by decide +kernel)) (gm 545 (by decide +kernel) (by decide +kernel)) (gm 41 (by decide +kernel) (by decide +kernel)) (gm 546 (by decide +kernel) (by decide +kernel)) (by decide +kernel)
theorem cf_Lw_23 : zV GG "WindowPlanLaw" 23 "WindowPlan" y_A_order b_A_order 5 (some .int) 3 := zV_mk GG_ok (gm 250 (by decide +kernel) (by decide +kernel)) (gm 251 (by decide +kernel) (by decide +kernel)) (gm 252 (by decide +kernel) (by decide +kernel)) (gm 35 (by decide +kernel) (by decide +kernel)) (gm 253 (by decide +kernel) (by decide +kernel)) (by decide +kernel)
theorem cf_Lw_27 : zV GG "WindowPlanLaw" 27 "WindowPlanModel" y_B_order b_B_order 4 (some .int) 3 := zV_mk GG_ok (gm 547 (by decide +kernel) (by decide +kernel)) (gm 548 (by decide +kernel) (by decide +kernel)) (gm 549 (by decide +kernel) (by decide +kernel)) (gm 41 (by decide +kernel) (by decide +kernel)) (gm 550 (by decide +kernel) (by decide +kernel)) (by decide +kernel)
theorem cf_Lw_28 : zV GG "WindowPlanLaw" 28 "WindowPlan" y_A_action b_A_action 3 (some .int) 2 := zV_mk GG_ok (gm 265 (by decide +kernel) (by decide +kernel)) (gm 266 (by decide +kernel) (by decide +kernel)) (gm 267 (by decide +kernel) (by decide +kernel)) (gm 35 (by decide +kernel) (by decide +kernel)) (gm 268 (by decide +kernel) (by decide +kernel)) (by decide +kernel)
theorem cf_Lw_31 : zV GG "WindowPlanLaw" 31 "WindowPlanModel" y_B_action b_B_action 3 (some .int) 2 := zV_mk GG_ok (gm 551 (by decide +kernel) (by decide +kernel)) (gm 552 (by decide +kernel) (by decide +kernel)) (gm 553 (by decide +kernel) (by decide +kernel)) (gm 41 (by decide +kernel) (by decide +kernel)) (gm 554 (by decide +kernel) (by decide +kernel)) (by decide +kernel)
theorem cf_Lw_32 : zV GG "WindowPlanLaw" 32 "WindowPlan" y_A_on b_A_on 3 (some .int) 1 := zV_mk GG_ok (gm 269 (by decide +kernel) (by decide +kernel)) (gm 270 (by decide +kernel) (by decide +kernel)) (gm 271 (by decide +kernel) (by decide +kernel)) (gm 35 (by decide +kernel) (by decide +kernel)) (gm 272 (by decide +kernel) (by decide +kernel)) (by decide +kernel)
theorem cf_Lw_36 : zV GG "WindowPlanLaw" 36 "WindowPlanModel" y_B_on b_B_on 3 (some .int) 1 := zV_mk GG_ok (gm 555 (by decide +kernel) (by decide +kernel)) (gm 556 (by decide +kernel) (by decide +kernel)) (gm 557 (by decide +kernel) (by decide +kernel)) (gm 41 (by decide +kernel) (by decide +kernel)) (gm 558 (by decide +kernel) (by decide +kernel)) (by decide +kernel)
theorem cf_Lw_37 : zV GG "WindowPlanLaw" 37 "WindowPlan" y_A_start b_A_start 3 (some .int) 1 := zV_mk GG_ok (gm 285 (by decide +kernel) (by decide +kernel)) (gm 286 (by decide +kernel) (by decide +kernel)) (gm 287 (by decide +kernel) (by decide +kernel)) (gm 35 (by decide +kernel) (by decide +kernel)) (gm 288 (by decide +kernel) (by decide +kernel)) (by decide +kernel)
theorem cf_Lw_40 : zV GG "WindowPlanLaw" 40 "WindowPlanModel" y_B_start b_B_start 2 (some .int) 1 := zV_mk GG_ok (gm 563 (by decide +kernel) (by decide +kernel)) (gm 564 (by decide +kernel) (by decide +kernel)) (gm 565 (by decide +kernel) (by decide +kernel)) (gm 41 (by decide +kernel) (by decide +kernel)) (gm 566 (by decide +kernel) (by decide +kernel)) (by decide +kernel)
theorem cf_Lw_41 : zV GG "WindowPlanLaw" 41 "WindowPlan" y_A_run b_A_run 3 (some .int) 1 := zV_mk GG_ok (gm 306 (by decide +kernel) (by decide +kernel)) (gm 307 (by decide +kernel) (by decide +kernel)) (gm 308 (by decide +kernel) (by decide +kernel)) (gm 35 (by decide +kernel) (by decide +kernel)) (gm 309 (by decide +kernel) (by decide +kernel)) (by decide +kernel)
theorem cf_Lw_44 : zV GG "WindowPlanLaw" 44 "WindowPlanModel" y_B_run b_B_run 6 (some .int) 1 := zV_mk GG_ok (gm 575 (by decide +kernel) (by decide +kernel)) (gm 576 (by decide +kernel) (by decide +kernel)) (gm 577 (by decide +kernel) (by decide +kernel)) (gm 41 (by decide +kernel) (by decide +kernel)) (gm 578 (by decide +kernel) (by decide +kernel)) (by decide +kernel)
theorem cf_Lw_45 : zV GG "WindowPlanLaw" 45 "WindowPlan" y_A_partition b_A_partition 2 (some .int) 1 := zV_mk GG_ok (gm 404 (by decide +kernel) (by decide +kernel)) (gm 405 (by decide +kernel) (by decide +kernel)) (gm 406 (by decide +kernel) (by decide +kernel)) (gm 35 (by decide +kernel) (by decide +kernel)) (gm 407 (by decide +kernel) (by decide +kernel)) (by decide +kernel)
theorem cf_Lw_48 : zV GG "WindowPlanLaw" 48 "WindowPlanModel" y_B_partition b_B_partition 2 (some .int) 1 := zV_mk GG_ok (gm 623 (by decide +kernel) (by decide +kernel)) (gm 624 (by decide +kernel) (by decide +kernel)) (gm 625 (by decide +kernel) (by decide +kernel)) (gm 41 (by decide +kernel) (by decide +kernel)) (gm 626 (by decide +kernel) (by decide +kernel)) (by decide +kernel)
theorem cf_Lw_49 : zV GG "WindowPlanLaw" 49 "WindowPlan" y_A_state b_A_state 3 (some .int) 2 := zV_mk GG_ok (gm 408 (by decide +kernel) (by decide +kernel)) (gm 409 (by decide +kernel) (by decide +kernel)) (gm 410 (by decide +kernel) (by decide +kernel)) (gm 35 (by decide +kernel) (by decide +kernel)) (gm 411 (by decide +kernel) (by decide +kernel)) (by decide +kernel)
theorem cf_Lw_52 : zV GG "WindowPlanLaw" 52 "WindowPlanModel" y_B_state b_B_state 3 (some .int) 2 := zV_mk GG_ok (gm 627 (by decide +kernel) (by decide +kernel)) (gm 628 (by decide +kernel) (by decide +kernel)) (gm 629 (by decide +kernel) (by decide +kernel)) (gm 41 (by decide +kernel) (by decide +kernel)) (gm 630 (by decide +kernel) (by decide +kernel)) (by decide +kernel)
theorem cf_Lw_53 : zV GG "WindowPlanLaw" 53 "WindowPlan" y_A_port b_A_port 2 (some .int) 1 := zV_mk GG_ok (gm 416 (by decide +kernel) (by decide +kernel)) (gm 417 (by decide +kernel) (by decide +kernel)) (gm 418 (by decide +kernel) (by decide +kernel)) (gm 35 (by decide +kernel) (by decide +kernel)) (gm 419 (by decide +kernel) (by decide +kernel)) (by decide +kernel)
theorem cf_Lw_56 : zV GG "WindowPlanLaw" 56 "WindowPlanModel" y_B_port b_B_port 2 (some .int) 1 := zV_mk GG_ok (gm 631 (by decide +kernel) (by decide +kernel)) (gm 632 (by decide +kernel) (by decide +kernel)) (gm 633 (by decide +kernel) (by decide +kernel)) (gm 41 (by decide +kernel) (by decide +kernel)) (gm 634 (by decide +kernel) (by decide +kernel)) (by decide +kernel)
theorem cf_Lw_57 : zV GG "WindowPlanLaw" 57 "WindowPlan" y_A_semaphore b_A_semaphore 2 (some .int) 1 := zV_mk GG_ok (gm 420 (by decide +kernel) (by decide +kernel)) (gm 421 (by decide +kernel) (by decide +kernel)) (gm 422 (by decide +kernel) (by decide +kernel)) (gm 35 (by decide +kernel) (by decide +kernel)) (gm 423 (by decide +kernel) (by decide +kernel)) (by decide +kernel)
theorem cf_Lw_60 : zV GG "WindowPlanLaw" 60 "WindowPlanModel" y_B_semaphore b_B_semaphore 2 (some .int) 1 := zV_mk GG_ok (gm 635 (by decide +kernel) (by decide +kernel)) (gm 636 (by decide +kernel) (by decide +kernel)) (gm 637 (by decide +kernel) (by decide +kernel)) (gm 41 (by decide +kernel) (by decide +kernel)) (gm 638 (by decide +kernel) (by decide +kernel)) (by decide +kernel)
theorem cf_Lw_61 : zV GG "WindowPlanLaw" 61 "WindowPlan" y_A_count b_A_count 2 (some .int) 1 := zV_mk GG_ok (gm 424 (by decide +kernel) (by decide +kernel)) (gm 425 (by decide +kernel) (by decide +kernel)) (gm 426 (by decide +kernel) (by decide +kernel)) (gm 35 (by decide +kernel) (by decide +kernel)) (gm 427 (by decide +kernel) (by decide +kernel)) (by decide +kernel)
theorem cf_Lw_64 : zV GG "WindowPlanLaw" 64 "WindowPlanModel" y_B_count b_B_count 2 (some .int) 1 := zV_mk GG_ok (gm 639 (by decide +kernel) (by decide +kernel)) (gm 640 (by decide +kernel) (by decide +kernel)) (gm 641 (by decide +kernel) (by decide +kernel)) (gm 41 (by decide +kernel) (by decide +kernel)) (gm 642 (by decide +kernel) (by decide +kernel)) (by decide +kernel)
theorem cf_B_85 : zS GG "WindowPlanModel" 85 y_B_in b_B_in 3 (some .boolean) 3 := zS_mk GG_ok (gm 536 (by decide +kernel) (by decide +kernel)) (gm 537 (by decide +kernel) (by decide +kernel)) (gm 41 (by decide +kernel) (by decide +kernel)) (gm 538 (by decide +kernel) (by decide +kernel)) (by decide +kernel)
theorem cf_B_89 : zV GG "WindowPlanModel" 89 "WindowPlanModel" y_B_allOff b_B_allOff 1 (some .boolean) 0 := zV_mk GG_ok (gm 539 (by decide +kernel) (by decide +kernel)) (gm 541 (by decide +kernel) (by decide +kernel)) (gm 19 (by decide +kernel) (by decide +kernel)) (gm 41 (by decide +kernel) (by decide +kernel)) (gm 542 (by decide +kernel) (by decide +kernel)) (by decide +kernel)
theorem cf_B_100 : zV GG "WindowPlanModel" 100 "WindowPlanModel" y_B_rest b_B_rest 2 none 1 := zV_mk GG_ok (gm 559 (by decide +kernel) (by decide +kernel)) (gm 561 (by decide +kernel) (by decide +kernel)) (gm 20 (by decide +kernel) (by decide +kernel)) (gm 41 (by decide +kernel) (by decide +kernel)) (gm 562 (by decide +kernel) (by decide +kernel)) (by decide +kernel)
theorem cf_B_110 : zV GG "WindowPlanModel" 110 "WindowPlanModel" y_B_become b_B_become 3 none 2 := zV_mk GG_ok (gm 571 (by decide +kernel) (by decide +kernel)) (gm 573 (by decide +kernel) (by decide +kernel)) (gm 22 (by decide +kernel) (by decide +kernel)) (gm 41 (by decide +kernel) (by decide +kernel)) (gm 574 (by decide +kernel) (by decide +kernel)) (by decide +kernel)
theorem cf_B_114 : zV GG "WindowPlanModel" 114 "WindowPlanModel" y_B_release b_B_release 2 none 1 := zV_mk GG_ok (gm 567 (by decide +kernel) (by decide +kernel)) (gm 569 (by decide +kernel) (by decide +kernel)) (gm 21 (by decide +kernel) (by decide +kernel)) (gm 41 (by decide +kernel) (by decide +kernel)) (gm 570 (by decide +kernel) (by decide +kernel)) (by decide +kernel)
theorem cf_B_117 : zV GG "WindowPlanModel" 117 "WindowPlanModel" y_B_advance b_B_advance 2 none 1 := zV_mk GG_ok (gm 599 (by decide +kernel) (by decide +kernel)) (gm 601 (by decide +kernel) (by decide +kernel)) (gm 28 (by decide +kernel) (by decide +kernel)) (gm 41 (by decide +kernel) (by decide +kernel)) (gm 602 (by decide +kernel) (by decide +kernel)) (by decide +kernel)
theorem cf_B_120 : zV GG "WindowPlanModel" 120 "WindowPlanModel" y_B_first b_B_first 6 (some .int) 2 := zV_mk GG_ok (gm 591 (by decide +kernel) (by decide +kernel)) (gm 593 (by decide +kernel) (by decide +kernel)) (gm 26 (by decide +kernel) (by decide +kernel)) (gm 41 (by decide +kernel) (by decide +kernel)) (gm 594 (by decide +kernel) (by decide +kernel)) (by decide +kernel)
theorem cf_B_124 : zV GG "WindowPlanModel" 124 "WindowPlanModel" y_B_wake b_B_wake 2 none 1 := zV_mk GG_ok (gm 607 (by decide +kernel) (by decide +kernel)) (gm 609 (by decide +kernel) (by decide +kernel)) (gm 30 (by decide +kernel) (by decide +kernel)) (gm 41 (by decide +kernel) (by decide +kernel)) (gm 610 (by decide +kernel) (by decide +kernel)) (by decide +kernel)
theorem cf_B_130 : zV GG "WindowPlanModel" 130 "WindowPlanModel" y_B_send b_B_send 5 none 2 := zV_mk GG_ok (gm 603 (by decide +kernel) (by decide +kernel)) (gm 605 (by decide +kernel) (by decide +kernel)) (gm 29 (by decide +kernel) (by decide +kernel)) (gm 41 (by decide +kernel) (by decide +kernel)) (gm 606 (by decide +kernel) (by decide +kernel)) (by decide +kernel)
theorem cf_B_133 : zV GG "WindowPlanModel" 133 "WindowPlanModel" y_B_take b_B_take 4 none 2 := zV_mk GG_ok (gm 611 (by decide +kernel) (by decide +kernel)) (gm 613 (by decide +kernel) (by decide +kernel)) (gm 31 (by decide +kernel) (by decide +kernel)) (gm 41 (by decide +kernel) (by decide +kernel)) (gm 614 (by decide +kernel) (by decide +kernel)) (by decide +kernel)
theorem cf_B_136 : zV GG "WindowPlanModel" 136 "WindowPlanModel" y_B_up b_B_up 4 none 2 := zV_mk GG_ok (gm 615 (by decide +kernel) (by decide +kernel)) (gm 617 (by decide +kernel) (by decide +kernel)) (gm 32 (by decide +kernel) (by decide +kernel)) (gm 41 (by decide +kernel) (by decide +kernel)) (gm 618 (by decide +kernel) (by decide +kernel)) (by decide +kernel)
theorem cf_B_139 : zV GG "WindowPlanModel" 139 "WindowPlanModel" y_B_down b_B_down 3 none 2 := zV_mk GG_ok (gm 619 (by decide +kernel) (by decide +kernel)) (gm 621 (by decide +kernel) (by decide +kernel)) (gm 33 (by decide +kernel) (by decide +kernel)) (gm 41 (by decide +kernel) (by decide +kernel)) (gm 622 (by decide +kernel) (by decide +kernel)) (by decide +kernel)
theorem cf_B_142 : zV GG "WindowPlanModel" 142 "WindowPlanModel" y_B_releases b_B_releases 2 none 0 := zV_mk GG_ok (gm 579 (by decide +kernel) (by decide +kernel)) (gm 581 (by decide +kernel) (by decide +kernel)) (gm 23 (by decide +kernel) (by decide +kernel)) (gm 41 (by decide +kernel) (by decide +kernel)) (gm 582 (by decide +kernel) (by decide +kernel)) (by decide +kernel)
theorem cf_B_145 : zV GG "WindowPlanModel" 145 "WindowPlanModel" y_B_monitor b_B_monitor 4 none 0 := zV_mk GG_ok (gm 583 (by decide +kernel) (by decide +kernel)) (gm 585 (by decide +kernel) (by decide +kernel)) (gm 24 (by decide +kernel) (by decide +kernel)) (gm 41 (by decide +kernel) (by decide +kernel)) (gm 586 (by decide +kernel) (by decide +kernel)) (by decide +kernel)
theorem cf_B_148 : zV GG "WindowPlanModel" 148 "WindowPlanModel" y_B_holder b_B_holder 5 (some .int) 1 := zV_mk GG_ok (gm 587 (by decide +kernel) (by decide +kernel)) (gm 589 (by decide +kernel) (by decide +kernel)) (gm 25 (by decide +kernel) (by decide +kernel)) (gm 41 (by decide +kernel) (by decide +kernel)) (gm 590 (by decide +kernel) (by decide +kernel)) (by decide +kernel)
theorem cf_B_152 : zV GG "WindowPlanModel" 152 "WindowPlanModel" y_B_one b_B_one 4 (some .boolean) 1 := zV_mk GG_ok (gm 595 (by decide +kernel) (by decide +kernel)) (gm 597 (by decide +kernel) (by decide +kernel)) (gm 27 (by decide +kernel) (by decide +kernel)) (gm 41 (by decide +kernel) (by decide +kernel)) (gm 598 (by decide +kernel) (by decide +kernel)) (by decide +kernel)
end
