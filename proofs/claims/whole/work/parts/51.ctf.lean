abbrev kn : zK := .inr (.inr none)
abbrev ia (n : Nat) : zC := .inr (.inl (0, n))
abbrev ob (ci : Nat) (fs : List zK) : zC := .inl (ci, fs)
theorem ob_2 : Cond.instanceMethod objectInit ∈ GG := (gm 49 (by decide +kernel) (by decide +kernel))
theorem ob_3 : Cond.code objectInit ⟨#[0xb1]⟩ 1 none ∈ GG := (gm 50 (by decide +kernel) (by decide +kernel))
theorem ob_A : Cond.methodLink "WindowPlan" 1 objectInit ∈ GG := (gm 48 (by decide +kernel) (by decide +kernel))
theorem ob_Wr : Cond.methodLink "WindowPlan$WindowRow" 3 objectInit ∈ GG := (gm 56 (by decide +kernel) (by decide +kernel))
theorem ob_P : Cond.methodLink "WindowPlan$Partition" 3 objectInit ∈ GG := (gm 75 (by decide +kernel) (by decide +kernel))
theorem ob_K : Cond.methodLink "WindowPlan$Task" 3 objectInit ∈ GG := (gm 91 (by decide +kernel) (by decide +kernel))
theorem ob_G : Cond.methodLink "WindowPlan$Program" 3 objectInit ∈ GG := (gm 97 (by decide +kernel) (by decide +kernel))
theorem ob_O : Cond.methodLink "WindowPlan$Port" 3 objectInit ∈ GG := (gm 184 (by decide +kernel) (by decide +kernel))
theorem ob_B : Cond.methodLink "WindowPlanModel" 1 objectInit ∈ GG := (gm 437 (by decide +kernel) (by decide +kernel))
theorem fo_A_10 : zFo cls GG "WindowPlan" 10 5 0 (.object "WindowPlan$WindowRow") := ⟨R_A, T_A, 10, t_A, rfl, by decide, i_A, (gm 193 (by decide +kernel) (by decide +kernel)), t_A_ok, n_A, by decide +kernel, rfl, rfl⟩
theorem fo_A_18 : zFo cls GG "WindowPlan" 18 5 1 (.array (.object "WindowPlan$Partition")) := ⟨R_A, T_A, 10, t_A, rfl, by decide, i_A, (gm 194 (by decide +kernel) (by decide +kernel)), t_A_ok, n_A, by decide +kernel, rfl, rfl⟩
theorem fo_A_25 : zFo cls GG "WindowPlan" 25 5 2 (.array (.object "WindowPlan$Task")) := ⟨R_A, T_A, 10, t_A, rfl, by decide, i_A, (gm 195 (by decide +kernel) (by decide +kernel)), t_A_ok, n_A, by decide +kernel, rfl, rfl⟩
theorem fo_A_34 : zFo cls GG "WindowPlan" 34 5 3 (.array (.object "WindowPlan$Port")) := ⟨R_A, T_A, 10, t_A, rfl, by decide, i_A, (gm 196 (by decide +kernel) (by decide +kernel)), t_A_ok, n_A, by decide +kernel, rfl, rfl⟩
theorem fo_A_39 : zFo cls GG "WindowPlan" 39 5 4 (.array .int) := ⟨R_A, T_A, 10, t_A, rfl, by decide, i_A, (gm 197 (by decide +kernel) (by decide +kernel)), t_A_ok, n_A, by decide +kernel, rfl, rfl⟩
theorem fo_O_9 : zFo cls GG "WindowPlan$Port" 9 1 0 (.array .int) := ⟨R_O, T_O, 2, t_O, rfl, by decide, i_O, (gm 185 (by decide +kernel) (by decide +kernel)), t_O_ok, n_O, by decide +kernel, rfl, rfl⟩
theorem fo_G_9 : zFo cls GG "WindowPlan$Program" 9 2 0 (.array .int) := ⟨R_G, T_G, 3, t_G, rfl, by decide, i_G, (gm 98 (by decide +kernel) (by decide +kernel)), t_G_ok, n_G, by decide +kernel, rfl, rfl⟩
theorem fo_G_15 : zFo cls GG "WindowPlan$Program" 15 2 1 (.array .int) := ⟨R_G, T_G, 3, t_G, rfl, by decide, i_G, (gm 101 (by decide +kernel) (by decide +kernel)), t_G_ok, n_G, by decide +kernel, rfl, rfl⟩
theorem fo_K_12 : zFo cls GG "WindowPlan$Task" 12 3 1 (.object "WindowPlan$Program") := ⟨R_K, T_K, 17, t_K, rfl, by decide, i_K, (gm 116 (by decide +kernel) (by decide +kernel)), t_K_ok, n_K, by decide +kernel, rfl, rfl⟩
theorem fo_K_28 : zFo cls GG "WindowPlan$Task" 28 3 0 (.int) := ⟨R_K, T_K, 17, t_K, rfl, by decide, i_K, (gm 114 (by decide +kernel) (by decide +kernel)), t_K_ok, n_K, by decide +kernel, rfl, rfl⟩
theorem fo_Wr_9 : zFo cls GG "WindowPlan$WindowRow" 9 4 0 (.array .int) := ⟨R_Wr, T_Wr, 3, t_Wr, rfl, by decide, i_Wr, (gm 57 (by decide +kernel) (by decide +kernel)), t_Wr_ok, n_Wr, by decide +kernel, rfl, rfl⟩
theorem fo_Wr_15 : zFo cls GG "WindowPlan$WindowRow" 15 4 1 (.array .int) := ⟨R_Wr, T_Wr, 3, t_Wr, rfl, by decide, i_Wr, (gm 58 (by decide +kernel) (by decide +kernel)), t_Wr_ok, n_Wr, by decide +kernel, rfl, rfl⟩
theorem fo_B_7 : zFo cls GG "WindowPlanModel" 7 6 0 (.array .int) := ⟨R_B, T_B, 31, t_B, rfl, by decide, i_B, (gm 438 (by decide +kernel) (by decide +kernel)), t_B_ok, n_B, by decide +kernel, rfl, rfl⟩
theorem fo_B_13 : zFo cls GG "WindowPlanModel" 13 6 1 (.array .int) := ⟨R_B, T_B, 31, t_B, rfl, by decide, i_B, (gm 439 (by decide +kernel) (by decide +kernel)), t_B_ok, n_B, by decide +kernel, rfl, rfl⟩
theorem fo_B_16 : zFo cls GG "WindowPlanModel" 16 6 3 (.array .int) := ⟨R_B, T_B, 31, t_B, rfl, by decide, i_B, (gm 441 (by decide +kernel) (by decide +kernel)), t_B_ok, n_B, by decide +kernel, rfl, rfl⟩
theorem fo_B_19 : zFo cls GG "WindowPlanModel" 19 6 4 (.array .int) := ⟨R_B, T_B, 31, t_B, rfl, by decide, i_B, (gm 442 (by decide +kernel) (by decide +kernel)), t_B_ok, n_B, by decide +kernel, rfl, rfl⟩
theorem fo_B_22 : zFo cls GG "WindowPlanModel" 22 6 6 (.array .int) := ⟨R_B, T_B, 31, t_B, rfl, by decide, i_B, (gm 444 (by decide +kernel) (by decide +kernel)), t_B_ok, n_B, by decide +kernel, rfl, rfl⟩
theorem fo_B_25 : zFo cls GG "WindowPlanModel" 25 6 7 (.array .int) := ⟨R_B, T_B, 31, t_B, rfl, by decide, i_B, (gm 445 (by decide +kernel) (by decide +kernel)), t_B_ok, n_B, by decide +kernel, rfl, rfl⟩
theorem fo_B_28 : zFo cls GG "WindowPlanModel" 28 6 8 (.array .int) := ⟨R_B, T_B, 31, t_B, rfl, by decide, i_B, (gm 446 (by decide +kernel) (by decide +kernel)), t_B_ok, n_B, by decide +kernel, rfl, rfl⟩
theorem fo_B_31 : zFo cls GG "WindowPlanModel" 31 6 9 (.array .int) := ⟨R_B, T_B, 31, t_B, rfl, by decide, i_B, (gm 447 (by decide +kernel) (by decide +kernel)), t_B_ok, n_B, by decide +kernel, rfl, rfl⟩
theorem fo_B_34 : zFo cls GG "WindowPlanModel" 34 6 10 (.array .int) := ⟨R_B, T_B, 31, t_B, rfl, by decide, i_B, (gm 448 (by decide +kernel) (by decide +kernel)), t_B_ok, n_B, by decide +kernel, rfl, rfl⟩
theorem fo_B_37 : zFo cls GG "WindowPlanModel" 37 6 11 (.array .int) := ⟨R_B, T_B, 31, t_B, rfl, by decide, i_B, (gm 449 (by decide +kernel) (by decide +kernel)), t_B_ok, n_B, by decide +kernel, rfl, rfl⟩
theorem fo_B_40 : zFo cls GG "WindowPlanModel" 40 6 12 (.array .int) := ⟨R_B, T_B, 31, t_B, rfl, by decide, i_B, (gm 450 (by decide +kernel) (by decide +kernel)), t_B_ok, n_B, by decide +kernel, rfl, rfl⟩
theorem fo_B_43 : zFo cls GG "WindowPlanModel" 43 6 13 (.array .int) := ⟨R_B, T_B, 31, t_B, rfl, by decide, i_B, (gm 451 (by decide +kernel) (by decide +kernel)), t_B_ok, n_B, by decide +kernel, rfl, rfl⟩
theorem fo_B_46 : zFo cls GG "WindowPlanModel" 46 6 14 (.array .int) := ⟨R_B, T_B, 31, t_B, rfl, by decide, i_B, (gm 452 (by decide +kernel) (by decide +kernel)), t_B_ok, n_B, by decide +kernel, rfl, rfl⟩
theorem fo_B_49 : zFo cls GG "WindowPlanModel" 49 6 15 (.array .int) := ⟨R_B, T_B, 31, t_B, rfl, by decide, i_B, (gm 453 (by decide +kernel) (by decide +kernel)), t_B_ok, n_B, by decide +kernel, rfl, rfl⟩
theorem fo_B_52 : zFo cls GG "WindowPlanModel" 52 6 16 (.array .int) := ⟨R_B, T_B, 31, t_B, rfl, by decide, i_B, (gm 454 (by decide +kernel) (by decide +kernel)), t_B_ok, n_B, by decide +kernel, rfl, rfl⟩
theorem fo_B_55 : zFo cls GG "WindowPlanModel" 55 6 17 (.array .int) := ⟨R_B, T_B, 31, t_B, rfl, by decide, i_B, (gm 455 (by decide +kernel) (by decide +kernel)), t_B_ok, n_B, by decide +kernel, rfl, rfl⟩
theorem fo_B_58 : zFo cls GG "WindowPlanModel" 58 6 18 (.array .int) := ⟨R_B, T_B, 31, t_B, rfl, by decide, i_B, (gm 456 (by decide +kernel) (by decide +kernel)), t_B_ok, n_B, by decide +kernel, rfl, rfl⟩
theorem fo_B_61 : zFo cls GG "WindowPlanModel" 61 6 19 (.array .int) := ⟨R_B, T_B, 31, t_B, rfl, by decide, i_B, (gm 457 (by decide +kernel) (by decide +kernel)), t_B_ok, n_B, by decide +kernel, rfl, rfl⟩
theorem fo_B_64 : zFo cls GG "WindowPlanModel" 64 6 20 (.array .int) := ⟨R_B, T_B, 31, t_B, rfl, by decide, i_B, (gm 458 (by decide +kernel) (by decide +kernel)), t_B_ok, n_B, by decide +kernel, rfl, rfl⟩
theorem fo_B_67 : zFo cls GG "WindowPlanModel" 67 6 21 (.array .int) := ⟨R_B, T_B, 31, t_B, rfl, by decide, i_B, (gm 459 (by decide +kernel) (by decide +kernel)), t_B_ok, n_B, by decide +kernel, rfl, rfl⟩
theorem fo_B_70 : zFo cls GG "WindowPlanModel" 70 6 22 (.array .int) := ⟨R_B, T_B, 31, t_B, rfl, by decide, i_B, (gm 460 (by decide +kernel) (by decide +kernel)), t_B_ok, n_B, by decide +kernel, rfl, rfl⟩
theorem fo_B_73 : zFo cls GG "WindowPlanModel" 73 6 23 (.array .int) := ⟨R_B, T_B, 31, t_B, rfl, by decide, i_B, (gm 461 (by decide +kernel) (by decide +kernel)), t_B_ok, n_B, by decide +kernel, rfl, rfl⟩
theorem fo_B_76 : zFo cls GG "WindowPlanModel" 76 6 25 (.array .int) := ⟨R_B, T_B, 31, t_B, rfl, by decide, i_B, (gm 463 (by decide +kernel) (by decide +kernel)), t_B_ok, n_B, by decide +kernel, rfl, rfl⟩
theorem fo_B_79 : zFo cls GG "WindowPlanModel" 79 6 26 (.array .int) := ⟨R_B, T_B, 31, t_B, rfl, by decide, i_B, (gm 464 (by decide +kernel) (by decide +kernel)), t_B_ok, n_B, by decide +kernel, rfl, rfl⟩
theorem fo_B_82 : zFo cls GG "WindowPlanModel" 82 6 27 (.array .int) := ⟨R_B, T_B, 31, t_B, rfl, by decide, i_B, (gm 465 (by decide +kernel) (by decide +kernel)), t_B_ok, n_B, by decide +kernel, rfl, rfl⟩
theorem nf_Lw_7 : zN1 cls GG "WindowPlanLaw" 7 5 10 [kn, kn, kn, kn, kn, ki, ki, ki, ki, kj] := ⟨R_A, T_A, t_A, rfl, i_A, t_A_ok, (gm 43 (by decide +kernel) (by decide +kernel)), (gm 44 (by decide +kernel) (by decide +kernel)), (gm 35 (by decide +kernel) (by decide +kernel)), rfl, fun j hj => by rcases (show j = 0 ∨ j = 1 ∨ j = 2 ∨ j = 3 ∨ j = 4 ∨ j = 5 ∨ j = 6 ∨ j = 7 ∨ j = 8 ∨ j = 9 by omega) with rfl | rfl | rfl | rfl | rfl | rfl | rfl | rfl | rfl | rfl <;> rfl⟩
theorem nf_A_7 : zN1 cls GG "WindowPlan" 7 4 3 [kn, kn, ki] := ⟨R_Wr, T_Wr, t_Wr, rfl, i_Wr, t_Wr_ok, (gm 51 (by decide +kernel) (by decide +kernel)), (gm 52 (by decide +kernel) (by decide +kernel)), (gm 36 (by decide +kernel) (by decide +kernel)), rfl, fun j hj => by rcases (show j = 0 ∨ j = 1 ∨ j = 2 by omega) with rfl | rfl | rfl <;> rfl⟩
theorem nf_A_16 : zN1 cls GG "WindowPlan" 16 0 2 [ki, ki] := ⟨R_P, T_P, t_P, rfl, i_P, t_P_ok, (gm 69 (by decide +kernel) (by decide +kernel)), (gm 71 (by decide +kernel) (by decide +kernel)), (gm 37 (by decide +kernel) (by decide +kernel)), rfl, fun j hj => by rcases (show j = 0 ∨ j = 1 by omega) with rfl | rfl <;> rfl⟩
theorem nf_A_23 : zN1 cls GG "WindowPlan" 23 3 17 [ki, kn, ki, ki, ki, ki, ki, ki, ki, kj, ki, ki, ki, ki, ki, ki, ki] := ⟨R_K, T_K, t_K, rfl, i_K, t_K_ok, (gm 85 (by decide +kernel) (by decide +kernel)), (gm 87 (by decide +kernel) (by decide +kernel)), (gm 38 (by decide +kernel) (by decide +kernel)), rfl, fun j hj => by rcases (show j = 0 ∨ j = 1 ∨ j = 2 ∨ j = 3 ∨ j = 4 ∨ j = 5 ∨ j = 6 ∨ j = 7 ∨ j = 8 ∨ j = 9 ∨ j = 10 ∨ j = 11 ∨ j = 12 ∨ j = 13 ∨ j = 14 ∨ j = 15 ∨ j = 16 by omega) with rfl | rfl | rfl | rfl | rfl | rfl | rfl | rfl | rfl | rfl | rfl | rfl | rfl | rfl | rfl | rfl | rfl <;> rfl⟩
theorem nf_K_9 : zN1 cls GG "WindowPlan$Task" 9 2 3 [kn, kn, ki] := ⟨R_G, T_G, t_G, rfl, i_G, t_G_ok, (gm 92 (by decide +kernel) (by decide +kernel)), (gm 93 (by decide +kernel) (by decide +kernel)), (gm 39 (by decide +kernel) (by decide +kernel)), rfl, fun j hj => by rcases (show j = 0 ∨ j = 1 ∨ j = 2 by omega) with rfl | rfl | rfl <;> rfl⟩
theorem nf_A_32 : zN1 cls GG "WindowPlan" 32 1 2 [kn, ki] := ⟨R_O, T_O, t_O, rfl, i_O, t_O_ok, (gm 178 (by decide +kernel) (by decide +kernel)), (gm 180 (by decide +kernel) (by decide +kernel)), (gm 40 (by decide +kernel) (by decide +kernel)), rfl, fun j hj => by rcases (show j = 0 ∨ j = 1 by omega) with rfl | rfl <;> rfl⟩
theorem nf_Lw_10 : zN1 cls GG "WindowPlanLaw" 10 6 31 [kn, kn, ki, kn, kn, ki, kn, kn, kn, kn, kn, kn, kn, kn, kn, kn, kn, kn, kn, kn, kn, kn, kn, kn, ki, kn, kn, kn, ki, ki, ki] := ⟨R_B, T_B, t_B, rfl, i_B, t_B_ok, (gm 432 (by decide +kernel) (by decide +kernel)), (gm 433 (by decide +kernel) (by decide +kernel)), (gm 41 (by decide +kernel) (by decide +kernel)), rfl, fun j hj => by rcases (show j = 0 ∨ j = 1 ∨ j = 2 ∨ j = 3 ∨ j = 4 ∨ j = 5 ∨ j = 6 ∨ j = 7 ∨ j = 8 ∨ j = 9 ∨ j = 10 ∨ j = 11 ∨ j = 12 ∨ j = 13 ∨ j = 14 ∨ j = 15 ∨ j = 16 ∨ j = 17 ∨ j = 18 ∨ j = 19 ∨ j = 20 ∨ j = 21 ∨ j = 22 ∨ j = 23 ∨ j = 24 ∨ j = 25 ∨ j = 26 ∨ j = 27 ∨ j = 28 ∨ j = 29 ∨ j = 30 by omega) with rfl | rfl | rfl | rfl | rfl | rfl | rfl | rfl | rfl | rfl | rfl | rfl | rfl | rfl | rfl | rfl | rfl | rfl | rfl | rfl | rfl | rfl | rfl | rfl | rfl | rfl | rfl | rfl | rfl | rfl | rfl <;> rfl⟩
theorem arr_ok : Cond.arrayClass .int ∈ GG := (gm 68 (by decide +kernel) (by decide +kernel))
theorem ci2_P : Cond.instanceMethod y_P_init ∈ GG := (gm 73 (by decide +kernel) (by decide +kernel))
theorem ci3_P : Cond.initialized y_P_init.cls ∈ GG := (gm 37 (by decide +kernel) (by decide +kernel))
theorem ci4_P : Cond.code y_P_init b_P_init 1 none ∈ GG := (gm 74 (by decide +kernel) (by decide +kernel))
theorem ci5_P : y_P_init.cls ≠ "java/lang/invoke/MethodHandle" ∧ y_P_init.cls ≠ "java/lang/invoke/VarHandle" ∧ (parseMethodDescriptor y_P_init.desc).map (fun d => d.parameters.length) = some 0 := by decide +kernel
theorem ci2_O : Cond.instanceMethod y_O_init ∈ GG := (gm 182 (by decide +kernel) (by decide +kernel))
theorem ci3_O : Cond.initialized y_O_init.cls ∈ GG := (gm 40 (by decide +kernel) (by decide +kernel))
theorem ci4_O : Cond.code y_O_init b_O_init 1 none ∈ GG := (gm 183 (by decide +kernel) (by decide +kernel))
theorem ci5_O : y_O_init.cls ≠ "java/lang/invoke/MethodHandle" ∧ y_O_init.cls ≠ "java/lang/invoke/VarHandle" ∧ (parseMethodDescriptor y_O_init.desc).map (fun d => d.parameters.length) = some 0 := by decide +kernel
theorem ci2_G : Cond.instanceMethod y_G_init ∈ GG := (gm 95 (by decide +kernel) (by decide +kernel))
theorem ci3_G : Cond.initialized y_G_init.cls ∈ GG := (gm 39 (by decide +kernel) (by decide +kernel))
theorem ci4_G : Cond.code y_G_init b_G_init 1 none ∈ GG := (gm 96 (by decide +kernel) (by decide +kernel))
theorem ci5_G : y_G_init.cls ≠ "java/lang/invoke/MethodHandle" ∧ y_G_init.cls ≠ "java/lang/invoke/VarHandle" ∧ (parseMethodDescriptor y_G_init.desc).map (fun d => d.parameters.length) = some 0 := by decide +kernel
theorem ci2_K : Cond.instanceMethod y_K_init ∈ GG := (gm 89 (by decide +kernel) (by decide +kernel))
theorem ci3_K : Cond.initialized y_K_init.cls ∈ GG := (gm 38 (by decide +kernel) (by decide +kernel))
theorem ci4_K : Cond.code y_K_init b_K_init 2 none ∈ GG := (gm 90 (by decide +kernel) (by decide +kernel))
theorem ci5_K : y_K_init.cls ≠ "java/lang/invoke/MethodHandle" ∧ y_K_init.cls ≠ "java/lang/invoke/VarHandle" ∧ (parseMethodDescriptor y_K_init.desc).map (fun d => d.parameters.length) = some 1 := by decide +kernel
theorem ci2_Wr : Cond.instanceMethod y_Wr_init ∈ GG := (gm 54 (by decide +kernel) (by decide +kernel))
theorem ci3_Wr : Cond.initialized y_Wr_init.cls ∈ GG := (gm 36 (by decide +kernel) (by decide +kernel))
theorem ci4_Wr : Cond.code y_Wr_init b_Wr_init 1 none ∈ GG := (gm 55 (by decide +kernel) (by decide +kernel))
theorem ci5_Wr : y_Wr_init.cls ≠ "java/lang/invoke/MethodHandle" ∧ y_Wr_init.cls ≠ "java/lang/invoke/VarHandle" ∧ (parseMethodDescriptor y_Wr_init.desc).map (fun d => d.parameters.length) = some 0 := by decide +kernel
theorem ci2_A : Cond.instanceMethod y_A_init ∈ GG := (gm 46 (by decide +kernel) (by decide +kernel))
theorem ci3_A : Cond.initialized y_A_init.cls ∈ GG := (gm 35 (by decide +kernel) (by decide +kernel))
theorem ci4_A : Cond.code y_A_init b_A_init 2 none ∈ GG := (gm 47 (by decide +kernel) (by decide +kernel))
theorem ci5_A : y_A_init.cls ≠ "java/lang/invoke/MethodHandle" ∧ y_A_init.cls ≠ "java/lang/invoke/VarHandle" ∧ (parseMethodDescriptor y_A_init.desc).map (fun d => d.parameters.length) = some 0 := by decide +kernel
theorem ci2_B : Cond.instanceMethod y_B_init ∈ GG := (gm 435 (by decide +kernel) (by decide +kernel))
theorem ci3_B : Cond.initialized y_B_init.cls ∈ GG := (gm 41 (by decide +kernel) (by decide +kernel))
theorem ci4_B : Cond.code y_B_init b_B_init 1 none ∈ GG := (gm 436 (by decide +kernel) (by decide +kernel))
theorem ci5_B : y_B_init.cls ≠ "java/lang/invoke/MethodHandle" ∧ y_B_init.cls ≠ "java/lang/invoke/VarHandle" ∧ (parseMethodDescriptor y_B_init.desc).map (fun d => d.parameters.length) = some 0 := by decide +kernel
theorem ci1_Lw_9 : Cond.methodLink "WindowPlanLaw" 9 y_A_init ∈ GG := (gm 45 (by decide +kernel) (by decide +kernel))
theorem ci1_A_29 : Cond.methodLink "WindowPlan" 29 y_K_init ∈ GG := (gm 88 (by decide +kernel) (by decide +kernel))
theorem ci1_Lw_12 : Cond.methodLink "WindowPlanLaw" 12 y_B_init ∈ GG := (gm 434 (by decide +kernel) (by decide +kernel))
