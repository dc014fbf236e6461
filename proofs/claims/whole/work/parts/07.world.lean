def EE : List zC := [.inl (5, [kr 1, kr 4, kr 8, kr 41, kr 50, ki, ki, ki, ki, kj]),
  .inl (4, [kr 2, kr 3, ki]),
  .inr (.inl (0, 8)),
  .inr (.inl (0, 8)),
  .inr (.inr (1, [some 5, some 6, some 7])),
  .inl (0, [ki, ki]),
  .inl (0, [ki, ki]),
  .inl (0, [ki, ki]),
  .inr (.inr (2, [some 9, some 13, some 17, some 21, some 25, some 29, some 33, some 37])),
  .inl (3, [ki, kr 10, ki, ki, ki, ki, ki, ki, ki, kj, ki, ki, ki, ki, ki, ki, ki]),
  .inl (2, [kr 11, kr 12, ki]),
  .inr (.inl (0, 8)),
  .inr (.inl (0, 8)),
  .inl (3, [ki, kr 14, ki, ki, ki, ki, ki, ki, ki, kj, ki, ki, ki, ki, ki, ki, ki]),
  .inl (2, [kr 15, kr 16, ki]),
  .inr (.inl (0, 8)),
  .inr (.inl (0, 8)),
  .inl (3, [ki, kr 18, ki, ki, ki, ki, ki, ki, ki, kj, ki, ki, ki, ki, ki, ki, ki]),
  .inl (2, [kr 19, kr 20, ki]),
  .inr (.inl (0, 8)),
  .inr (.inl (0, 8)),
  .inl (3, [ki, kr 22, ki, ki, ki, ki, ki, ki, ki, kj, ki, ki, ki, ki, ki, ki, ki]),
  .inl (2, [kr 23, kr 24, ki]),
  .inr (.inl (0, 8)),
  .inr (.inl (0, 8)),
  .inl (3, [ki, kr 26, ki, ki, ki, ki, ki, ki, ki, kj, ki, ki, ki, ki, ki, ki, ki]),
  .inl (2, [kr 27, kr 28, ki]),
  .inr (.inl (0, 8)),
  .inr (.inl (0, 8)),
  .inl (3, [ki, kr 30, ki, ki, ki, ki, ki, ki, ki, kj, ki, ki, ki, ki, ki, ki, ki]),
  .inl (2, [kr 31, kr 32, ki]),
  .inr (.inl (0, 8)),
  .inr (.inl (0, 8)),
  .inl (3, [ki, kr 34, ki, ki, ki, ki, ki, ki, ki, kj, ki, ki, ki, ki, ki, ki, ki]),
  .inl (2, [kr 35, kr 36, ki]),
  .inr (.inl (0, 8)),
  .inr (.inl (0, 8)),
  .inl (3, [ki, kr 38, ki, ki, ki, ki, ki, ki, ki, kj, ki, ki, ki, ki, ki, ki, ki]),
  .inl (2, [kr 39, kr 40, ki]),
  .inr (.inl (0, 8)),
  .inr (.inl (0, 8)),
  .inr (.inr (3, [some 42, some 44, some 46, some 48])),
  .inl (1, [kr 43, ki]),
  .inr (.inl (0, 4)),
  .inl (1, [kr 45, ki]),
  .inr (.inl (0, 4)),
  .inl (1, [kr 47, ki]),
  .inr (.inl (0, 4)),
  .inl (1, [kr 49, ki]),
  .inr (.inl (0, 4)),
  .inr (.inl (0, 4)),
  .inl (6, [kr 52, kr 53, ki, kr 54, kr 55, ki, kr 56, kr 57, kr 58, kr 59, kr 60, kr 61, kr 62, kr 63, kr 64, kr 65, kr 66, kr 67, kr 68, kr 69, kr 70, kr 71, kr 72, kr 73, ki, kr 74, kr 75, kr 76, ki, ki, ki]),
  .inr (.inl (0, 8)),
  .inr (.inl (0, 8)),
  .inr (.inl (0, 3)),
  .inr (.inl (0, 3)),
  .inr (.inl (0, 8)),
  .inr (.inl (0, 8)),
  .inr (.inl (0, 8)),
  .inr (.inl (0, 8)),
  .inr (.inl (0, 8)),
  .inr (.inl (0, 64)),
  .inr (.inl (0, 64)),
  .inr (.inl (0, 8)),
  .inr (.inl (0, 8)),
  .inr (.inl (0, 8)),
  .inr (.inl (0, 8)),
  .inr (.inl (0, 8)),
  .inr (.inl (0, 8)),
  .inr (.inl (0, 8)),
  .inr (.inl (0, 8)),
  .inr (.inl (0, 8)),
  .inr (.inl (0, 8)),
  .inr (.inl (0, 8)),
  .inr (.inl (0, 16)),
  .inr (.inl (0, 4)),
  .inr (.inl (0, 4))]
theorem e_A : EE[0]? = some (.inl (5, [kr 1, kr 4, kr 8, kr 41, kr 50, ki, ki, ki, ki, kj])) := rfl
theorem e_Wr : EE[1]? = some (.inl (4, [kr 2, kr 3, ki])) := rfl
theorem e_WrP : EE[2]? = some (.inr (.inl (0, 8))) := rfl
theorem e_WrE : EE[3]? = some (.inr (.inl (0, 8))) := rfl
theorem e_PA : EE[4]? = some (.inr (.inr (1, [some 5, some 6, some 7]))) := rfl
theorem e_P {j : Nat} (h : j < 3) : EE[5 + j]? = some (.inl (0, [ki, ki])) := by
  rcases (show j = 0 ∨ j = 1 ∨ j = 2 by omega) with rfl | rfl | rfl <;> rfl
theorem e_TA : EE[8]? = some (.inr (.inr (2, [some 9, some 13, some 17, some 21, some 25, some 29, some 33, some 37]))) := rfl
theorem e_K {j : Nat} (h : j < 8) : EE[9 + 4 * j]? = some (.inl (3, [ki, kr (10 + 4 * j), ki, ki, ki, ki, ki, ki, ki, kj, ki, ki, ki, ki, ki, ki, ki])) := by
  rcases (show j = 0 ∨ j = 1 ∨ j = 2 ∨ j = 3 ∨ j = 4 ∨ j = 5 ∨ j = 6 ∨ j = 7 by omega) with rfl | rfl | rfl | rfl | rfl | rfl | rfl | rfl <;> rfl
theorem e_G {j : Nat} (h : j < 8) : EE[10 + 4 * j]? = some (.inl (2, [kr (11 + 4 * j), kr (12 + 4 * j), ki])) := by
  rcases (show j = 0 ∨ j = 1 ∨ j = 2 ∨ j = 3 ∨ j = 4 ∨ j = 5 ∨ j = 6 ∨ j = 7 by omega) with rfl | rfl | rfl | rfl | rfl | rfl | rfl | rfl <;> rfl
theorem e_Or {j : Nat} (h : j < 8) : EE[11 + 4 * j]? = some (.inr (.inl (0, 8))) := by
  rcases (show j = 0 ∨ j = 1 ∨ j = 2 ∨ j = 3 ∨ j = 4 ∨ j = 5 ∨ j = 6 ∨ j = 7 by omega) with rfl | rfl | rfl | rfl | rfl | rfl | rfl | rfl <;> rfl
theorem e_Nu {j : Nat} (h : j < 8) : EE[12 + 4 * j]? = some (.inr (.inl (0, 8))) := by
  rcases (show j = 0 ∨ j = 1 ∨ j = 2 ∨ j = 3 ∨ j = 4 ∨ j = 5 ∨ j = 6 ∨ j = 7 by omega) with rfl | rfl | rfl | rfl | rfl | rfl | rfl | rfl <;> rfl
theorem e_OA : EE[41]? = some (.inr (.inr (3, [some 42, some 44, some 46, some 48]))) := rfl
theorem e_O {j : Nat} (h : j < 4) : EE[42 + 2 * j]? = some (.inl (1, [kr (43 + 2 * j), ki])) := by
  rcases (show j = 0 ∨ j = 1 ∨ j = 2 ∨ j = 3 by omega) with rfl | rfl | rfl | rfl <;> rfl
theorem e_Me {j : Nat} (h : j < 4) : EE[43 + 2 * j]? = some (.inr (.inl (0, 4))) := by
  rcases (show j = 0 ∨ j = 1 ∨ j = 2 ∨ j = 3 by omega) with rfl | rfl | rfl | rfl <;> rfl
theorem e_Se : EE[50]? = some (.inr (.inl (0, 4))) := rfl
theorem e_B : EE[51]? = some (.inl (6, [kr 52, kr 53, ki, kr 54, kr 55, ki, kr 56, kr 57, kr 58, kr 59, kr 60, kr 61, kr 62, kr 63, kr 64, kr 65, kr 66, kr 67, kr 68, kr 69, kr 70, kr 71, kr 72, kr 73, ki, kr 74, kr 75, kr 76, ki, ki, ki])) := rfl
theorem e_B_owner : EE[52]? = some (.inr (.inl (0, 8))) := rfl
theorem e_B_span : EE[53]? = some (.inr (.inl (0, 8))) := rfl
theorem e_B_state : EE[54]? = some (.inr (.inl (0, 3))) := rfl
theorem e_B_action : EE[55]? = some (.inr (.inl (0, 3))) := rfl
theorem e_B_partition : EE[56]? = some (.inr (.inl (0, 8))) := rfl
theorem e_B_priority : EE[57]? = some (.inr (.inl (0, 8))) := rfl
theorem e_B_period : EE[58]? = some (.inr (.inl (0, 8))) := rfl
theorem e_B_limit : EE[59]? = some (.inr (.inl (0, 8))) := rfl
theorem e_B_size : EE[60]? = some (.inr (.inl (0, 8))) := rfl
theorem e_B_order : EE[61]? = some (.inr (.inl (0, 64))) := rfl
theorem e_B_number : EE[62]? = some (.inr (.inl (0, 64))) := rfl
theorem e_B_is : EE[63]? = some (.inr (.inl (0, 8))) := rfl
theorem e_B_at : EE[64]? = some (.inr (.inl (0, 8))) := rfl
theorem e_B_worked : EE[65]? = some (.inr (.inl (0, 8))) := rfl
theorem e_B_rounds : EE[66]? = some (.inr (.inl (0, 8))) := rfl
theorem e_B_deadline : EE[67]? = some (.inr (.inl (0, 8))) := rfl
theorem e_B_missed : EE[68]? = some (.inr (.inl (0, 8))) := rfl
theorem e_B_skipped : EE[69]? = some (.inr (.inl (0, 8))) := rfl
theorem e_B_work : EE[70]? = some (.inr (.inl (0, 8))) := rfl
theorem e_B_letter : EE[71]? = some (.inr (.inl (0, 8))) := rfl
theorem e_B_next : EE[72]? = some (.inr (.inl (0, 8))) := rfl
theorem e_B_since : EE[73]? = some (.inr (.inl (0, 8))) := rfl
theorem e_B_message : EE[74]? = some (.inr (.inl (0, 16))) := rfl
theorem e_B_messages : EE[75]? = some (.inr (.inl (0, 4))) := rfl
theorem e_B_count : EE[76]? = some (.inr (.inl (0, 4))) := rfl
theorem g_PA_all : ∀ j, j < 3 → ([some 5, some 6, some 7] : List (Option Nat)).getD j none = some (5 + j) := by decide +kernel
theorem g_PA {j : Nat} (h : j < 3) : ([some 5, some 6, some 7] : List (Option Nat)).getD j none = some (5 + j) := g_PA_all j h
theorem g_TA_all : ∀ j, j < 8 → ([some 9, some 13, some 17, some 21, some 25, some 29, some 33, some 37] : List (Option Nat)).getD j none = some (9 + 4 * j) := by decide +kernel
theorem g_TA {j : Nat} (h : j < 8) : ([some 9, some 13, some 17, some 21, some 25, some 29, some 33, some 37] : List (Option Nat)).getD j none = some (9 + 4 * j) := g_TA_all j h
theorem g_OA_all : ∀ j, j < 4 → ([some 42, some 44, some 46, some 48] : List (Option Nat)).getD j none = some (42 + 2 * j) := by decide +kernel
theorem g_OA {j : Nat} (h : j < 4) : ([some 42, some 44, some 46, some 48] : List (Option Nat)).getD j none = some (42 + 2 * j) := g_OA_all j h
abbrev zt (cA : Nat → ClassId) : List (ClassId × FieldType) := [(cA 0, .int), (cA 1, .object "WindowPlan$Partition"), (cA 2, .object "WindowPlan$Task"), (cA 3, .object "WindowPlan$Port")]
abbrev zr (f n : Nat) : Room := { frames := f, cells := 0, slots := 0, locals := n }
abbrev Ci (l : Launch) (D : va_G) (cA : Nat → ClassId) (ad : Nat → Nat) (y : MethodName) (b : ByteArray) (nL : Nat) (ret : Option FieldType) (rm : Room) (as : List zA) (M : zM) (post : Int32 → zM → Prop) : Prop := zMi l D cls (zt cA) cA ad EE GG y b nL ret rm as M post
abbrev Cj (l : Launch) (D : va_G) (cA : Nat → ClassId) (ad : Nat → Nat) (y : MethodName) (b : ByteArray) (nL : Nat) (ret : Option FieldType) (rm : Room) (as : List zA) (M : zM) (post : Int64 → zM → Prop) : Prop := zMj l D cls (zt cA) cA ad EE GG y b nL ret rm as M post
abbrev Cv (l : Launch) (D : va_G) (cA : Nat → ClassId) (ad : Nat → Nat) (y : MethodName) (b : ByteArray) (nL : Nat) (ret : Option FieldType) (rm : Room) (as : List zA) (M : zM) (post : zM → Prop) : Prop := zMv l D cls (zt cA) cA ad EE GG y b nL ret rm as M post
abbrev Cq (l : Launch) (D : va_G) (cA : Nat → ClassId) (ad : Nat → Nat) (y : MethodName) (b : ByteArray) (nL : Nat) (ret : Option FieldType) (rm : Room) (as : List zA) (M : zM) (post : Option Nat → zM → Prop) : Prop := zMq l D cls (zt cA) cA ad EE GG y b nL ret rm as M post
