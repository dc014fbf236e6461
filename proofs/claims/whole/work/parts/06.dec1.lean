theorem d_A_start_50 : decode b_A_start 50 = .ok (.invokevirtual 112, 3) := by decide +kernel
theorem d_A_start_53 : decode b_A_start 53 = .ok (.invokevirtual 116, 3) := by decide +kernel
theorem d_A_start_56 : decode b_A_start 56 = .ok (.iconst 0, 1) := by decide +kernel
theorem d_A_start_57 : decode b_A_start 57 = .ok (.ireturn, 1) := by decide +kernel
theorem d_A_newTurn_0 : decode b_A_newTurn 0 = .ok (.aload_n 0, 1) := by decide +kernel
theorem d_A_newTurn_1 : decode b_A_newTurn 1 = .ok (.dup, 1) := by decide +kernel
theorem d_A_newTurn_2 : decode b_A_newTurn 2 = .ok (.getfield 140, 3) := by decide +kernel
theorem d_A_newTurn_5 : decode b_A_newTurn 5 = .ok (.lconst 1, 1) := by decide +kernel
theorem d_A_newTurn_6 : decode b_A_newTurn 6 = .ok (.ladd, 1) := by decide +kernel
theorem d_A_newTurn_7 : decode b_A_newTurn 7 = .ok (.putfield 140, 3) := by decide +kernel
theorem d_A_newTurn_10 : decode b_A_newTurn 10 = .ok (.aload_n 0, 1) := by decide +kernel
theorem d_A_newTurn_11 : decode b_A_newTurn 11 = .ok (.getfield 140, 3) := by decide +kernel
theorem d_A_newTurn_14 : decode b_A_newTurn 14 = .ok (.lreturn, 1) := by decide +kernel
theorem d_K_release_0 : decode b_K_release 0 = .ok (.aload_n 0, 1) := by decide +kernel
theorem d_K_release_1 : decode b_K_release 1 = .ok (.dup, 1) := by decide +kernel
theorem d_K_release_2 : decode b_K_release 2 = .ok (.getfield 43, 3) := by decide +kernel
theorem d_K_release_5 : decode b_K_release 5 = .ok (.iconst 1, 1) := by decide +kernel
theorem d_K_release_6 : decode b_K_release 6 = .ok (.iadd, 1) := by decide +kernel
theorem d_K_release_7 : decode b_K_release 7 = .ok (.putfield 43, 3) := by decide +kernel
theorem d_K_release_10 : decode b_K_release 10 = .ok (.aload_n 0, 1) := by decide +kernel
theorem d_K_release_11 : decode b_K_release 11 = .ok (.aload_n 0, 1) := by decide +kernel
theorem d_K_release_12 : decode b_K_release 12 = .ok (.getfield 40, 3) := by decide +kernel
theorem d_K_release_15 : decode b_K_release 15 = .ok (.ifCond .le 12, 3) := by decide +kernel
theorem d_K_release_18 : decode b_K_release 18 = .ok (.iload_n 1, 1) := by decide +kernel
theorem d_K_release_19 : decode b_K_release 19 = .ok (.aload_n 0, 1) := by decide +kernel
theorem d_K_release_20 : decode b_K_release 20 = .ok (.getfield 40, 3) := by decide +kernel
theorem d_K_release_23 : decode b_K_release 23 = .ok (.iadd, 1) := by decide +kernel
theorem d_K_release_24 : decode b_K_release 24 = .ok (.goto 4, 3) := by decide +kernel
theorem d_K_release_27 : decode b_K_release 27 = .ok (.iconst (-1), 1) := by decide +kernel
theorem d_K_release_28 : decode b_K_release 28 = .ok (.putfield 22, 3) := by decide +kernel
theorem d_K_release_31 : decode b_K_release 31 = .ok (.aload_n 0, 1) := by decide +kernel
theorem d_K_release_32 : decode b_K_release 32 = .ok (.lload_n 2, 1) := by decide +kernel
theorem d_K_release_33 : decode b_K_release 33 = .ok (.invokevirtual 46, 3) := by decide +kernel
theorem d_K_release_36 : decode b_K_release 36 = .ok (.aload_n 0, 1) := by decide +kernel
theorem d_K_release_37 : decode b_K_release 37 = .ok (.getfield 12, 3) := by decide +kernel
theorem d_K_release_40 : decode b_K_release 40 = .ok (.getfield 50, 3) := by decide +kernel
theorem d_K_release_43 : decode b_K_release 43 = .ok (.ifCond .ne 7, 3) := by decide +kernel
theorem d_K_release_46 : decode b_K_release 46 = .ok (.aload_n 0, 1) := by decide +kernel
theorem d_K_release_47 : decode b_K_release 47 = .ok (.invokevirtual 53, 3) := by decide +kernel
theorem d_K_release_50 : decode b_K_release 50 = .ok (.return_, 1) := by decide +kernel
theorem d_K_beginAnew_0 : decode b_K_beginAnew 0 = .ok (.aload_n 0, 1) := by decide +kernel
theorem d_K_beginAnew_1 : decode b_K_beginAnew 1 = .ok (.lload_n 1, 1) := by decide +kernel
theorem d_K_beginAnew_2 : decode b_K_beginAnew 2 = .ok (.invokevirtual 56, 3) := by decide +kernel
theorem d_K_beginAnew_5 : decode b_K_beginAnew 5 = .ok (.aload_n 0, 1) := by decide +kernel
theorem d_K_beginAnew_6 : decode b_K_beginAnew 6 = .ok (.iconst 0, 1) := by decide +kernel
theorem d_K_beginAnew_7 : decode b_K_beginAnew 7 = .ok (.putfield 59, 3) := by decide +kernel
theorem d_K_beginAnew_10 : decode b_K_beginAnew 10 = .ok (.aload_n 0, 1) := by decide +kernel
theorem d_K_beginAnew_11 : decode b_K_beginAnew 11 = .ok (.iconst 0, 1) := by decide +kernel
theorem d_K_beginAnew_12 : decode b_K_beginAnew 12 = .ok (.putfield 62, 3) := by decide +kernel
theorem d_K_beginAnew_15 : decode b_K_beginAnew 15 = .ok (.return_, 1) := by decide +kernel
theorem d_K_becomeReady_0 : decode b_K_becomeReady 0 = .ok (.aload_n 0, 1) := by decide +kernel
theorem d_K_becomeReady_1 : decode b_K_becomeReady 1 = .ok (.iconst 1, 1) := by decide +kernel
theorem d_K_becomeReady_2 : decode b_K_becomeReady 2 = .ok (.putfield 18, 3) := by decide +kernel
theorem d_K_becomeReady_5 : decode b_K_becomeReady 5 = .ok (.aload_n 0, 1) := by decide +kernel
theorem d_K_becomeReady_6 : decode b_K_becomeReady 6 = .ok (.lload_n 1, 1) := by decide +kernel
theorem d_K_becomeReady_7 : decode b_K_becomeReady 7 = .ok (.putfield 65, 3) := by decide +kernel
theorem d_K_becomeReady_10 : decode b_K_becomeReady 10 = .ok (.return_, 1) := by decide +kernel
theorem d_A_run_0 : decode b_A_run 0 = .ok (.iload_n 1, 1) := by decide +kernel
theorem d_A_run_1 : decode b_A_run 1 = .ok (.iconst 1, 1) := by decide +kernel
theorem d_A_run_2 : decode b_A_run 2 = .ok (.bipush 60, 2) := by decide +kernel
theorem d_A_run_4 : decode b_A_run 4 = .ok (.invokestatic 47, 3) := by decide +kernel
theorem d_A_run_7 : decode b_A_run 7 = .ok (.ifCond .ne 5, 3) := by decide +kernel
theorem d_A_run_10 : decode b_A_run 10 = .ok (.iconst (-1), 1) := by decide +kernel
theorem d_A_run_11 : decode b_A_run 11 = .ok (.ireturn, 1) := by decide +kernel
theorem d_A_run_12 : decode b_A_run 12 = .ok (.iconst 0, 1) := by decide +kernel
theorem d_A_run_13 : decode b_A_run 13 = .ok (.istore_n 2, 1) := by decide +kernel
theorem d_A_run_14 : decode b_A_run 14 = .ok (.iload_n 2, 1) := by decide +kernel
theorem d_A_run_15 : decode b_A_run 15 = .ok (.iload_n 1, 1) := by decide +kernel
theorem d_A_run_16 : decode b_A_run 16 = .ok (.if_icmp .ge 13, 3) := by decide +kernel
theorem d_A_run_19 : decode b_A_run 19 = .ok (.aload_n 0, 1) := by decide +kernel
theorem d_A_run_20 : decode b_A_run 20 = .ok (.invokevirtual 120, 3) := by decide +kernel
theorem d_A_run_23 : decode b_A_run 23 = .ok (.iinc 2 1, 3) := by decide +kernel
theorem d_A_run_26 : decode b_A_run 26 = .ok (.goto (-12), 3) := by decide +kernel
theorem d_A_run_29 : decode b_A_run 29 = .ok (.aload_n 0, 1) := by decide +kernel
theorem d_A_run_30 : decode b_A_run 30 = .ok (.getfield 103, 3) := by decide +kernel
theorem d_A_run_33 : decode b_A_run 33 = .ok (.ireturn, 1) := by decide +kernel
theorem d_A_tick_0 : decode b_A_tick 0 = .ok (.aload_n 0, 1) := by decide +kernel
theorem d_A_tick_1 : decode b_A_tick 1 = .ok (.invokevirtual 147, 3) := by decide +kernel
theorem d_A_tick_4 : decode b_A_tick 4 = .ok (.aload_n 0, 1) := by decide +kernel
theorem d_A_tick_5 : decode b_A_tick 5 = .ok (.invokevirtual 150, 3) := by decide +kernel
theorem d_A_tick_8 : decode b_A_tick 8 = .ok (.aload_n 0, 1) := by decide +kernel
theorem d_A_tick_9 : decode b_A_tick 9 = .ok (.invokevirtual 153, 3) := by decide +kernel
theorem d_A_tick_12 : decode b_A_tick 12 = .ok (.aload_n 0, 1) := by decide +kernel
theorem d_A_tick_13 : decode b_A_tick 13 = .ok (.dup, 1) := by decide +kernel
theorem d_A_tick_14 : decode b_A_tick 14 = .ok (.getfield 103, 3) := by decide +kernel
theorem d_A_tick_17 : decode b_A_tick 17 = .ok (.iconst 1, 1) := by decide +kernel
theorem d_A_tick_18 : decode b_A_tick 18 = .ok (.iadd, 1) := by decide +kernel
theorem d_A_tick_19 : decode b_A_tick 19 = .ok (.putfield 103, 3) := by decide +kernel
theorem d_A_tick_22 : decode b_A_tick 22 = .ok (.return_, 1) := by decide +kernel
theorem d_A_releaseDue_0 : decode b_A_releaseDue 0 = .ok (.iconst 0, 1) := by decide +kernel
theorem d_A_releaseDue_1 : decode b_A_releaseDue 1 = .ok (.istore_n 1, 1) := by decide +kernel
theorem d_A_releaseDue_2 : decode b_A_releaseDue 2 = .ok (.iload_n 1, 1) := by decide +kernel
theorem d_A_releaseDue_3 : decode b_A_releaseDue 3 = .ok (.aload_n 0, 1) := by decide +kernel
theorem d_A_releaseDue_4 : decode b_A_releaseDue 4 = .ok (.getfield 63, 3) := by decide +kernel
theorem d_A_releaseDue_7 : decode b_A_releaseDue 7 = .ok (.if_icmp .ge 90, 3) := by decide +kernel
theorem d_A_releaseDue_10 : decode b_A_releaseDue 10 = .ok (.aload_n 0, 1) := by decide +kernel
theorem d_A_releaseDue_11 : decode b_A_releaseDue 11 = .ok (.getfield 25, 3) := by decide +kernel
theorem d_A_releaseDue_14 : decode b_A_releaseDue 14 = .ok (.iload_n 1, 1) := by decide +kernel
theorem d_A_releaseDue_15 : decode b_A_releaseDue 15 = .ok (.aaload, 1) := by decide +kernel
theorem d_A_releaseDue_16 : decode b_A_releaseDue 16 = .ok (.astore_n 2, 1) := by decide +kernel
theorem d_A_releaseDue_17 : decode b_A_releaseDue 17 = .ok (.aload_n 2, 1) := by decide +kernel
theorem d_A_releaseDue_18 : decode b_A_releaseDue 18 = .ok (.getfield 100, 3) := by decide +kernel
theorem d_A_releaseDue_21 : decode b_A_releaseDue 21 = .ok (.ifCond .le 70, 3) := by decide +kernel
theorem d_A_releaseDue_24 : decode b_A_releaseDue 24 = .ok (.aload_n 0, 1) := by decide +kernel
theorem d_A_releaseDue_25 : decode b_A_releaseDue 25 = .ok (.aload_n 2, 1) := by decide +kernel
theorem d_A_releaseDue_26 : decode b_A_releaseDue 26 = .ok (.getfield 97, 3) := by decide +kernel
theorem d_A_releaseDue_29 : decode b_A_releaseDue 29 = .ok (.invokevirtual 88, 3) := by decide +kernel
theorem d_A_releaseDue_32 : decode b_A_releaseDue 32 = .ok (.ifCond .eq 59, 3) := by decide +kernel
theorem d_A_releaseDue_35 : decode b_A_releaseDue 35 = .ok (.aload_n 2, 1) := by decide +kernel
theorem d_A_releaseDue_36 : decode b_A_releaseDue 36 = .ok (.getfield 106, 3) := by decide +kernel
theorem d_A_releaseDue_39 : decode b_A_releaseDue 39 = .ok (.aload_n 0, 1) := by decide +kernel
theorem d_A_releaseDue_40 : decode b_A_releaseDue 40 = .ok (.getfield 103, 3) := by decide +kernel
theorem d_A_releaseDue_43 : decode b_A_releaseDue 43 = .ok (.if_icmp .ne 48, 3) := by decide +kernel
theorem d_A_releaseDue_46 : decode b_A_releaseDue 46 = .ok (.aload_n 2, 1) := by decide +kernel
theorem d_A_releaseDue_47 : decode b_A_releaseDue 47 = .ok (.getfield 109, 3) := by decide +kernel
theorem d_A_releaseDue_50 : decode b_A_releaseDue 50 = .ok (.ifCond .ne 18, 3) := by decide +kernel
theorem d_A_releaseDue_53 : decode b_A_releaseDue 53 = .ok (.aload_n 2, 1) := by decide +kernel
theorem d_A_releaseDue_54 : decode b_A_releaseDue 54 = .ok (.aload_n 0, 1) := by decide +kernel
theorem d_A_releaseDue_55 : decode b_A_releaseDue 55 = .ok (.getfield 103, 3) := by decide +kernel
theorem d_A_releaseDue_58 : decode b_A_releaseDue 58 = .ok (.aload_n 0, 1) := by decide +kernel
theorem d_A_releaseDue_59 : decode b_A_releaseDue 59 = .ok (.invokevirtual 112, 3) := by decide +kernel
theorem d_A_releaseDue_62 : decode b_A_releaseDue 62 = .ok (.invokevirtual 116, 3) := by decide +kernel
theorem d_A_releaseDue_65 : decode b_A_releaseDue 65 = .ok (.goto 13, 3) := by decide +kernel
theorem d_A_releaseDue_68 : decode b_A_releaseDue 68 = .ok (.aload_n 2, 1) := by decide +kernel
theorem d_A_releaseDue_69 : decode b_A_releaseDue 69 = .ok (.dup, 1) := by decide +kernel
theorem d_A_releaseDue_70 : decode b_A_releaseDue 70 = .ok (.getfield 156, 3) := by decide +kernel
theorem d_A_releaseDue_73 : decode b_A_releaseDue 73 = .ok (.iconst 1, 1) := by decide +kernel
theorem d_A_releaseDue_74 : decode b_A_releaseDue 74 = .ok (.iadd, 1) := by decide +kernel
theorem d_A_releaseDue_75 : decode b_A_releaseDue 75 = .ok (.putfield 156, 3) := by decide +kernel
theorem d_A_releaseDue_78 : decode b_A_releaseDue 78 = .ok (.aload_n 2, 1) := by decide +kernel
theorem d_A_releaseDue_79 : decode b_A_releaseDue 79 = .ok (.aload_n 0, 1) := by decide +kernel
theorem d_A_releaseDue_80 : decode b_A_releaseDue 80 = .ok (.getfield 103, 3) := by decide +kernel
theorem d_A_releaseDue_83 : decode b_A_releaseDue 83 = .ok (.aload_n 2, 1) := by decide +kernel
theorem d_A_releaseDue_84 : decode b_A_releaseDue 84 = .ok (.getfield 100, 3) := by decide +kernel
theorem d_A_releaseDue_87 : decode b_A_releaseDue 87 = .ok (.iadd, 1) := by decide +kernel
theorem d_A_releaseDue_88 : decode b_A_releaseDue 88 = .ok (.putfield 106, 3) := by decide +kernel
theorem d_A_releaseDue_91 : decode b_A_releaseDue 91 = .ok (.iinc 1 1, 3) := by decide +kernel
theorem d_A_releaseDue_94 : decode b_A_releaseDue 94 = .ok (.goto (-92), 3) := by decide +kernel
theorem d_A_releaseDue_97 : decode b_A_releaseDue 97 = .ok (.return_, 1) := by decide +kernel
theorem d_A_missDue_0 : decode b_A_missDue 0 = .ok (.iconst 0, 1) := by decide +kernel
theorem d_A_missDue_1 : decode b_A_missDue 1 = .ok (.istore_n 1, 1) := by decide +kernel
theorem d_A_missDue_2 : decode b_A_missDue 2 = .ok (.iload_n 1, 1) := by decide +kernel
theorem d_A_missDue_3 : decode b_A_missDue 3 = .ok (.aload_n 0, 1) := by decide +kernel
theorem d_A_missDue_4 : decode b_A_missDue 4 = .ok (.getfield 63, 3) := by decide +kernel
theorem d_A_missDue_7 : decode b_A_missDue 7 = .ok (.if_icmp .ge 50, 3) := by decide +kernel
theorem d_A_missDue_10 : decode b_A_missDue 10 = .ok (.aload_n 0, 1) := by decide +kernel
theorem d_A_missDue_11 : decode b_A_missDue 11 = .ok (.getfield 25, 3) := by decide +kernel
theorem d_A_missDue_14 : decode b_A_missDue 14 = .ok (.iload_n 1, 1) := by decide +kernel
theorem d_A_missDue_15 : decode b_A_missDue 15 = .ok (.aaload, 1) := by decide +kernel
theorem d_A_missDue_16 : decode b_A_missDue 16 = .ok (.astore_n 2, 1) := by decide +kernel
theorem d_A_missDue_17 : decode b_A_missDue 17 = .ok (.aload_n 0, 1) := by decide +kernel
theorem d_A_missDue_18 : decode b_A_missDue 18 = .ok (.aload_n 2, 1) := by decide +kernel
theorem d_A_missDue_19 : decode b_A_missDue 19 = .ok (.getfield 97, 3) := by decide +kernel
theorem d_A_missDue_22 : decode b_A_missDue 22 = .ok (.invokevirtual 88, 3) := by decide +kernel
theorem d_A_missDue_25 : decode b_A_missDue 25 = .ok (.ifCond .eq 26, 3) := by decide +kernel
theorem d_A_missDue_28 : decode b_A_missDue 28 = .ok (.aload_n 2, 1) := by decide +kernel
theorem d_A_missDue_29 : decode b_A_missDue 29 = .ok (.getfield 109, 3) := by decide +kernel
theorem d_A_missDue_32 : decode b_A_missDue 32 = .ok (.ifCond .eq 19, 3) := by decide +kernel
theorem d_A_missDue_35 : decode b_A_missDue 35 = .ok (.aload_n 2, 1) := by decide +kernel
theorem d_A_missDue_36 : decode b_A_missDue 36 = .ok (.getfield 159, 3) := by decide +kernel
theorem d_A_missDue_39 : decode b_A_missDue 39 = .ok (.aload_n 0, 1) := by decide +kernel
theorem d_A_missDue_40 : decode b_A_missDue 40 = .ok (.getfield 103, 3) := by decide +kernel
theorem d_A_missDue_43 : decode b_A_missDue 43 = .ok (.if_icmp .ne 8, 3) := by decide +kernel
theorem d_A_missDue_46 : decode b_A_missDue 46 = .ok (.aload_n 0, 1) := by decide +kernel
theorem d_A_missDue_47 : decode b_A_missDue 47 = .ok (.aload_n 2, 1) := by decide +kernel
theorem d_A_missDue_48 : decode b_A_missDue 48 = .ok (.invokevirtual 162, 3) := by decide +kernel
theorem d_A_missDue_51 : decode b_A_missDue 51 = .ok (.iinc 1 1, 3) := by decide +kernel
theorem d_A_missDue_54 : decode b_A_missDue 54 = .ok (.goto (-52), 3) := by decide +kernel
theorem d_A_missDue_57 : decode b_A_missDue 57 = .ok (.return_, 1) := by decide +kernel
theorem d_A_miss_0 : decode b_A_miss 0 = .ok (.aload_n 0, 1) := by decide +kernel
theorem d_A_miss_1 : decode b_A_miss 1 = .ok (.getfield 18, 3) := by decide +kernel
theorem d_A_miss_4 : decode b_A_miss 4 = .ok (.aload_n 1, 1) := by decide +kernel
theorem d_A_miss_5 : decode b_A_miss 5 = .ok (.getfield 97, 3) := by decide +kernel
theorem d_A_miss_8 : decode b_A_miss 8 = .ok (.aaload, 1) := by decide +kernel
theorem d_A_miss_9 : decode b_A_miss 9 = .ok (.astore_n 2, 1) := by decide +kernel
theorem d_A_miss_10 : decode b_A_miss 10 = .ok (.aload_n 1, 1) := by decide +kernel
theorem d_A_miss_11 : decode b_A_miss 11 = .ok (.dup, 1) := by decide +kernel
theorem d_A_miss_12 : decode b_A_miss 12 = .ok (.getfield 166, 3) := by decide +kernel
theorem d_A_miss_15 : decode b_A_miss 15 = .ok (.iconst 1, 1) := by decide +kernel
theorem d_A_miss_16 : decode b_A_miss 16 = .ok (.iadd, 1) := by decide +kernel
theorem d_A_miss_17 : decode b_A_miss 17 = .ok (.putfield 166, 3) := by decide +kernel
theorem d_A_miss_20 : decode b_A_miss 20 = .ok (.aload_n 1, 1) := by decide +kernel
theorem d_A_miss_21 : decode b_A_miss 21 = .ok (.iconst (-1), 1) := by decide +kernel
theorem d_A_miss_22 : decode b_A_miss 22 = .ok (.putfield 159, 3) := by decide +kernel
theorem d_A_miss_25 : decode b_A_miss 25 = .ok (.aload_n 2, 1) := by decide +kernel
theorem d_A_miss_26 : decode b_A_miss 26 = .ok (.getfield 85, 3) := by decide +kernel
theorem d_A_miss_29 : decode b_A_miss 29 = .ok (.iconst 1, 1) := by decide +kernel
theorem d_A_miss_30 : decode b_A_miss 30 = .ok (.if_icmp .ne 14, 3) := by decide +kernel
theorem d_A_miss_33 : decode b_A_miss 33 = .ok (.aload_n 1, 1) := by decide +kernel
theorem d_A_miss_34 : decode b_A_miss 34 = .ok (.aload_n 0, 1) := by decide +kernel
theorem d_A_miss_35 : decode b_A_miss 35 = .ok (.invokevirtual 112, 3) := by decide +kernel
theorem d_A_miss_38 : decode b_A_miss 38 = .ok (.invokevirtual 169, 3) := by decide +kernel
theorem d_A_miss_41 : decode b_A_miss 41 = .ok (.goto 24, 3) := by decide +kernel
theorem d_A_miss_44 : decode b_A_miss 44 = .ok (.aload_n 2, 1) := by decide +kernel
theorem d_A_miss_45 : decode b_A_miss 45 = .ok (.getfield 85, 3) := by decide +kernel
theorem d_A_miss_48 : decode b_A_miss 48 = .ok (.iconst 2, 1) := by decide +kernel
theorem d_A_miss_49 : decode b_A_miss 49 = .ok (.if_icmp .ne 16, 3) := by decide +kernel
theorem d_A_miss_52 : decode b_A_miss 52 = .ok (.aload_n 2, 1) := by decide +kernel
theorem d_A_miss_53 : decode b_A_miss 53 = .ok (.iconst 2, 1) := by decide +kernel
theorem d_A_miss_54 : decode b_A_miss 54 = .ok (.putfield 91, 3) := by decide +kernel
theorem d_A_miss_57 : decode b_A_miss 57 = .ok (.aload_n 0, 1) := by decide +kernel
theorem d_A_miss_58 : decode b_A_miss 58 = .ok (.aload_n 1, 1) := by decide +kernel
theorem d_A_miss_59 : decode b_A_miss 59 = .ok (.getfield 97, 3) := by decide +kernel
theorem d_A_miss_62 : decode b_A_miss 62 = .ok (.invokevirtual 94, 3) := by decide +kernel
theorem d_A_miss_65 : decode b_A_miss 65 = .ok (.return_, 1) := by decide +kernel
theorem d_A_giveProcessor_0 : decode b_A_giveProcessor 0 = .ok (.aload_n 0, 1) := by decide +kernel
theorem d_A_giveProcessor_1 : decode b_A_giveProcessor 1 = .ok (.getfield 10, 3) := by decide +kernel
theorem d_A_giveProcessor_4 : decode b_A_giveProcessor 4 = .ok (.aload_n 0, 1) := by decide +kernel
theorem d_A_giveProcessor_5 : decode b_A_giveProcessor 5 = .ok (.getfield 103, 3) := by decide +kernel
theorem d_A_giveProcessor_8 : decode b_A_giveProcessor 8 = .ok (.invokevirtual 128, 3) := by decide +kernel
theorem d_A_giveProcessor_11 : decode b_A_giveProcessor 11 = .ok (.istore_n 1, 1) := by decide +kernel
theorem d_A_giveProcessor_12 : decode b_A_giveProcessor 12 = .ok (.iload_n 1, 1) := by decide +kernel
theorem d_A_giveProcessor_13 : decode b_A_giveProcessor 13 = .ok (.iconst (-1), 1) := by decide +kernel
theorem d_A_giveProcessor_14 : decode b_A_giveProcessor 14 = .ok (.if_icmp .eq 11, 3) := by decide +kernel
theorem d_A_giveProcessor_17 : decode b_A_giveProcessor 17 = .ok (.aload_n 0, 1) := by decide +kernel
theorem d_A_giveProcessor_18 : decode b_A_giveProcessor 18 = .ok (.iload_n 1, 1) := by decide +kernel
theorem d_A_giveProcessor_19 : decode b_A_giveProcessor 19 = .ok (.invokevirtual 88, 3) := by decide +kernel
theorem d_A_giveProcessor_22 : decode b_A_giveProcessor 22 = .ok (.ifCond .ne 4, 3) := by decide +kernel
theorem d_A_giveProcessor_25 : decode b_A_giveProcessor 25 = .ok (.return_, 1) := by decide +kernel
theorem d_A_giveProcessor_26 : decode b_A_giveProcessor 26 = .ok (.iconst 0, 1) := by decide +kernel
theorem d_A_giveProcessor_27 : decode b_A_giveProcessor 27 = .ok (.istore_n 2, 1) := by decide +kernel
theorem d_A_giveProcessor_28 : decode b_A_giveProcessor 28 = .ok (.iload_n 2, 1) := by decide +kernel
theorem d_A_giveProcessor_29 : decode b_A_giveProcessor 29 = .ok (.bipush 64, 2) := by decide +kernel
theorem d_A_giveProcessor_31 : decode b_A_giveProcessor 31 = .ok (.if_icmp .gt 31, 3) := by decide +kernel
theorem d_A_giveProcessor_34 : decode b_A_giveProcessor 34 = .ok (.aload_n 0, 1) := by decide +kernel
theorem d_A_giveProcessor_35 : decode b_A_giveProcessor 35 = .ok (.iload_n 1, 1) := by decide +kernel
theorem d_A_giveProcessor_36 : decode b_A_giveProcessor 36 = .ok (.invokevirtual 173, 3) := by decide +kernel
theorem d_A_giveProcessor_39 : decode b_A_giveProcessor 39 = .ok (.astore_n 3, 1) := by decide +kernel
theorem d_A_giveProcessor_40 : decode b_A_giveProcessor 40 = .ok (.aload_n 3, 1) := by decide +kernel
theorem d_A_giveProcessor_41 : decode b_A_giveProcessor 41 = .ok (.ifnonnull 6, 3) := by decide +kernel
theorem d_A_giveProcessor_44 : decode b_A_giveProcessor 44 = .ok (.goto 18, 3) := by decide +kernel
theorem d_A_giveProcessor_47 : decode b_A_giveProcessor 47 = .ok (.aload_n 0, 1) := by decide +kernel
theorem d_A_giveProcessor_48 : decode b_A_giveProcessor 48 = .ok (.aload_n 3, 1) := by decide +kernel
theorem d_A_giveProcessor_49 : decode b_A_giveProcessor 49 = .ok (.invokevirtual 177, 3) := by decide +kernel
theorem d_A_giveProcessor_52 : decode b_A_giveProcessor 52 = .ok (.ifCond .eq 4, 3) := by decide +kernel
theorem d_A_giveProcessor_55 : decode b_A_giveProcessor 55 = .ok (.return_, 1) := by decide +kernel
theorem d_A_giveProcessor_56 : decode b_A_giveProcessor 56 = .ok (.iinc 2 1, 3) := by decide +kernel
theorem d_A_giveProcessor_59 : decode b_A_giveProcessor 59 = .ok (.goto (-31), 3) := by decide +kernel
theorem d_A_giveProcessor_62 : decode b_A_giveProcessor 62 = .ok (.aload_n 0, 1) := by decide +kernel
theorem d_A_giveProcessor_63 : decode b_A_giveProcessor 63 = .ok (.dup, 1) := by decide +kernel
theorem d_A_giveProcessor_64 : decode b_A_giveProcessor 64 = .ok (.getfield 137, 3) := by decide +kernel
theorem d_A_giveProcessor_67 : decode b_A_giveProcessor 67 = .ok (.iconst 1, 1) := by decide +kernel
theorem d_A_giveProcessor_68 : decode b_A_giveProcessor 68 = .ok (.iadd, 1) := by decide +kernel
theorem d_A_giveProcessor_69 : decode b_A_giveProcessor 69 = .ok (.putfield 137, 3) := by decide +kernel
theorem d_A_giveProcessor_72 : decode b_A_giveProcessor 72 = .ok (.return_, 1) := by decide +kernel
theorem d_Wr_partitionAt_0 : decode b_Wr_partitionAt 0 = .ok (.aload_n 0, 1) := by decide +kernel
theorem d_Wr_partitionAt_1 : decode b_Wr_partitionAt 1 = .ok (.getfield 18, 3) := by decide +kernel
theorem d_Wr_partitionAt_4 : decode b_Wr_partitionAt 4 = .ok (.ifCond .ne 7, 3) := by decide +kernel
theorem d_Wr_partitionAt_7 : decode b_Wr_partitionAt 7 = .ok (.iconst (-1), 1) := by decide +kernel
theorem d_Wr_partitionAt_8 : decode b_Wr_partitionAt 8 = .ok (.goto 17, 3) := by decide +kernel
theorem d_Wr_partitionAt_11 : decode b_Wr_partitionAt 11 = .ok (.aload_n 0, 1) := by decide +kernel
theorem d_Wr_partitionAt_12 : decode b_Wr_partitionAt 12 = .ok (.getfield 9, 3) := by decide +kernel
theorem d_Wr_partitionAt_15 : decode b_Wr_partitionAt 15 = .ok (.aload_n 0, 1) := by decide +kernel
theorem d_Wr_partitionAt_16 : decode b_Wr_partitionAt 16 = .ok (.aload_n 0, 1) := by decide +kernel
theorem d_Wr_partitionAt_17 : decode b_Wr_partitionAt 17 = .ok (.iload_n 1, 1) := by decide +kernel
theorem d_Wr_partitionAt_18 : decode b_Wr_partitionAt 18 = .ok (.invokevirtual 22, 3) := by decide +kernel
theorem d_Wr_partitionAt_21 : decode b_Wr_partitionAt 21 = .ok (.invokevirtual 26, 3) := by decide +kernel
theorem d_Wr_partitionAt_24 : decode b_Wr_partitionAt 24 = .ok (.iaload, 1) := by decide +kernel
theorem d_Wr_partitionAt_25 : decode b_Wr_partitionAt 25 = .ok (.ireturn, 1) := by decide +kernel
theorem d_Wr_offsetAt_0 : decode b_Wr_offsetAt 0 = .ok (.iload_n 1, 1) := by decide +kernel
theorem d_Wr_offsetAt_1 : decode b_Wr_offsetAt 1 = .ok (.aload_n 0, 1) := by decide +kernel
theorem d_Wr_offsetAt_2 : decode b_Wr_offsetAt 2 = .ok (.getfield 15, 3) := by decide +kernel
theorem d_Wr_offsetAt_5 : decode b_Wr_offsetAt 5 = .ok (.aload_n 0, 1) := by decide +kernel
theorem d_Wr_offsetAt_6 : decode b_Wr_offsetAt 6 = .ok (.getfield 18, 3) := by decide +kernel
theorem d_Wr_offsetAt_9 : decode b_Wr_offsetAt 9 = .ok (.iconst 1, 1) := by decide +kernel
theorem d_Wr_offsetAt_10 : decode b_Wr_offsetAt 10 = .ok (.isub, 1) := by decide +kernel
theorem d_Wr_offsetAt_11 : decode b_Wr_offsetAt 11 = .ok (.iaload, 1) := by decide +kernel
theorem d_Wr_offsetAt_12 : decode b_Wr_offsetAt 12 = .ok (.invokestatic 29, 3) := by decide +kernel
theorem d_Wr_offsetAt_15 : decode b_Wr_offsetAt 15 = .ok (.ireturn, 1) := by decide +kernel
theorem d_J_floorMod_0 : decode b_J_floorMod 0 = .ok (.iload_n 0, 1) := by decide +kernel
theorem d_J_floorMod_1 : decode b_J_floorMod 1 = .ok (.iload_n 1, 1) := by decide +kernel
theorem d_J_floorMod_2 : decode b_J_floorMod 2 = .ok (.irem, 1) := by decide +kernel
theorem d_J_floorMod_3 : decode b_J_floorMod 3 = .ok (.istore_n 2, 1) := by decide +kernel
theorem d_J_floorMod_4 : decode b_J_floorMod 4 = .ok (.iload_n 0, 1) := by decide +kernel
theorem d_J_floorMod_5 : decode b_J_floorMod 5 = .ok (.iload_n 1, 1) := by decide +kernel
theorem d_J_floorMod_6 : decode b_J_floorMod 6 = .ok (.ixor, 1) := by decide +kernel
theorem d_J_floorMod_7 : decode b_J_floorMod 7 = .ok (.ifCond .ge 11, 3) := by decide +kernel
theorem d_J_floorMod_10 : decode b_J_floorMod 10 = .ok (.iload_n 2, 1) := by decide +kernel
theorem d_J_floorMod_11 : decode b_J_floorMod 11 = .ok (.ifCond .eq 7, 3) := by decide +kernel
theorem d_J_floorMod_14 : decode b_J_floorMod 14 = .ok (.iload_n 2, 1) := by decide +kernel
theorem d_J_floorMod_15 : decode b_J_floorMod 15 = .ok (.iload_n 1, 1) := by decide +kernel
theorem d_J_floorMod_16 : decode b_J_floorMod 16 = .ok (.iadd, 1) := by decide +kernel
theorem d_J_floorMod_17 : decode b_J_floorMod 17 = .ok (.ireturn, 1) := by decide +kernel
theorem d_J_floorMod_18 : decode b_J_floorMod 18 = .ok (.iload_n 2, 1) := by decide +kernel
theorem d_J_floorMod_19 : decode b_J_floorMod 19 = .ok (.ireturn, 1) := by decide +kernel
theorem d_Wr_indexOf_0 : decode b_Wr_indexOf 0 = .ok (.iconst 0, 1) := by decide +kernel
theorem d_Wr_indexOf_1 : decode b_Wr_indexOf 1 = .ok (.istore_n 2, 1) := by decide +kernel
theorem d_Wr_indexOf_2 : decode b_Wr_indexOf 2 = .ok (.iload_n 2, 1) := by decide +kernel
theorem d_Wr_indexOf_3 : decode b_Wr_indexOf 3 = .ok (.aload_n 0, 1) := by decide +kernel
theorem d_Wr_indexOf_4 : decode b_Wr_indexOf 4 = .ok (.getfield 18, 3) := by decide +kernel
theorem d_Wr_indexOf_7 : decode b_Wr_indexOf 7 = .ok (.iconst 1, 1) := by decide +kernel
theorem d_Wr_indexOf_8 : decode b_Wr_indexOf 8 = .ok (.isub, 1) := by decide +kernel
theorem d_Wr_indexOf_9 : decode b_Wr_indexOf 9 = .ok (.if_icmp .ge 19, 3) := by decide +kernel
theorem d_Wr_indexOf_12 : decode b_Wr_indexOf 12 = .ok (.iload_n 1, 1) := by decide +kernel
theorem d_Wr_indexOf_13 : decode b_Wr_indexOf 13 = .ok (.aload_n 0, 1) := by decide +kernel
theorem d_Wr_indexOf_14 : decode b_Wr_indexOf 14 = .ok (.getfield 15, 3) := by decide +kernel
theorem d_Wr_indexOf_17 : decode b_Wr_indexOf 17 = .ok (.iload_n 2, 1) := by decide +kernel
theorem d_Wr_indexOf_18 : decode b_Wr_indexOf 18 = .ok (.iaload, 1) := by decide +kernel
theorem d_Wr_indexOf_19 : decode b_Wr_indexOf 19 = .ok (.if_icmp .lt 9, 3) := by decide +kernel
theorem d_Wr_indexOf_22 : decode b_Wr_indexOf 22 = .ok (.iinc 2 1, 3) := by decide +kernel
theorem d_Wr_indexOf_25 : decode b_Wr_indexOf 25 = .ok (.goto (-23), 3) := by decide +kernel
theorem d_Wr_indexOf_28 : decode b_Wr_indexOf 28 = .ok (.iload_n 2, 1) := by decide +kernel
theorem d_Wr_indexOf_29 : decode b_Wr_indexOf 29 = .ok (.ireturn, 1) := by decide +kernel
theorem d_A_firstReady_0 : decode b_A_firstReady 0 = .ok (.aconst_null, 1) := by decide +kernel
theorem d_A_firstReady_1 : decode b_A_firstReady 1 = .ok (.astore_n 2, 1) := by decide +kernel
theorem d_A_firstReady_2 : decode b_A_firstReady 2 = .ok (.iconst 0, 1) := by decide +kernel
theorem d_A_firstReady_3 : decode b_A_firstReady 3 = .ok (.istore_n 3, 1) := by decide +kernel
theorem d_A_firstReady_4 : decode b_A_firstReady 4 = .ok (.iload_n 3, 1) := by decide +kernel
theorem d_A_firstReady_5 : decode b_A_firstReady 5 = .ok (.aload_n 0, 1) := by decide +kernel
theorem d_A_firstReady_6 : decode b_A_firstReady 6 = .ok (.getfield 63, 3) := by decide +kernel
theorem d_A_firstReady_9 : decode b_A_firstReady 9 = .ok (.if_icmp .ge 47, 3) := by decide +kernel
theorem d_A_firstReady_12 : decode b_A_firstReady 12 = .ok (.aload_n 0, 1) := by decide +kernel
theorem d_A_firstReady_13 : decode b_A_firstReady 13 = .ok (.getfield 25, 3) := by decide +kernel
theorem d_A_firstReady_16 : decode b_A_firstReady 16 = .ok (.iload_n 3, 1) := by decide +kernel
theorem d_A_firstReady_17 : decode b_A_firstReady 17 = .ok (.aaload, 1) := by decide +kernel
theorem d_A_firstReady_18 : decode b_A_firstReady 18 = .ok (.astore 4, 2) := by decide +kernel
theorem d_A_firstReady_20 : decode b_A_firstReady 20 = .ok (.aload 4, 2) := by decide +kernel
theorem d_A_firstReady_22 : decode b_A_firstReady 22 = .ok (.getfield 97, 3) := by decide +kernel
theorem d_A_firstReady_25 : decode b_A_firstReady 25 = .ok (.iload_n 1, 1) := by decide +kernel
theorem d_A_firstReady_26 : decode b_A_firstReady 26 = .ok (.if_icmp .ne 24, 3) := by decide +kernel
theorem d_A_firstReady_29 : decode b_A_firstReady 29 = .ok (.aload 4, 2) := by decide +kernel
theorem d_A_firstReady_31 : decode b_A_firstReady 31 = .ok (.getfield 109, 3) := by decide +kernel
theorem d_A_firstReady_34 : decode b_A_firstReady 34 = .ok (.iconst 1, 1) := by decide +kernel
theorem d_A_firstReady_35 : decode b_A_firstReady 35 = .ok (.if_icmp .ne 15, 3) := by decide +kernel
theorem d_A_firstReady_38 : decode b_A_firstReady 38 = .ok (.aload 4, 2) := by decide +kernel
theorem d_A_firstReady_40 : decode b_A_firstReady 40 = .ok (.aload_n 2, 1) := by decide +kernel
theorem d_A_firstReady_41 : decode b_A_firstReady 41 = .ok (.invokevirtual 235, 3) := by decide +kernel
theorem d_A_firstReady_44 : decode b_A_firstReady 44 = .ok (.ifCond .eq 6, 3) := by decide +kernel
theorem d_A_firstReady_47 : decode b_A_firstReady 47 = .ok (.aload 4, 2) := by decide +kernel
theorem d_A_firstReady_49 : decode b_A_firstReady 49 = .ok (.astore_n 2, 1) := by decide +kernel
theorem d_A_firstReady_50 : decode b_A_firstReady 50 = .ok (.iinc 3 1, 3) := by decide +kernel
theorem d_A_firstReady_53 : decode b_A_firstReady 53 = .ok (.goto (-49), 3) := by decide +kernel
theorem d_A_firstReady_56 : decode b_A_firstReady 56 = .ok (.aload_n 2, 1) := by decide +kernel
theorem d_A_firstReady_57 : decode b_A_firstReady 57 = .ok (.areturn, 1) := by decide +kernel
theorem d_K_comesBefore_0 : decode b_K_comesBefore 0 = .ok (.aload_n 1, 1) := by decide +kernel
theorem d_K_comesBefore_1 : decode b_K_comesBefore 1 = .ok (.ifnonnull 5, 3) := by decide +kernel
theorem d_K_comesBefore_4 : decode b_K_comesBefore 4 = .ok (.iconst 1, 1) := by decide +kernel
theorem d_K_comesBefore_5 : decode b_K_comesBefore 5 = .ok (.ireturn, 1) := by decide +kernel
theorem d_K_comesBefore_6 : decode b_K_comesBefore 6 = .ok (.aload_n 0, 1) := by decide +kernel
theorem d_K_comesBefore_7 : decode b_K_comesBefore 7 = .ok (.getfield 34, 3) := by decide +kernel
theorem d_K_comesBefore_10 : decode b_K_comesBefore 10 = .ok (.aload_n 1, 1) := by decide +kernel
theorem d_K_comesBefore_11 : decode b_K_comesBefore 11 = .ok (.getfield 34, 3) := by decide +kernel
theorem d_K_comesBefore_14 : decode b_K_comesBefore 14 = .ok (.if_icmp .ne 23, 3) := by decide +kernel
theorem d_K_comesBefore_17 : decode b_K_comesBefore 17 = .ok (.aload_n 0, 1) := by decide +kernel
theorem d_K_comesBefore_18 : decode b_K_comesBefore 18 = .ok (.getfield 65, 3) := by decide +kernel
theorem d_K_comesBefore_21 : decode b_K_comesBefore 21 = .ok (.aload_n 1, 1) := by decide +kernel
theorem d_K_comesBefore_22 : decode b_K_comesBefore 22 = .ok (.getfield 65, 3) := by decide +kernel
theorem d_K_comesBefore_25 : decode b_K_comesBefore 25 = .ok (.lcmp, 1) := by decide +kernel
theorem d_K_comesBefore_26 : decode b_K_comesBefore 26 = .ok (.ifCond .ge 7, 3) := by decide +kernel
theorem d_K_comesBefore_29 : decode b_K_comesBefore 29 = .ok (.iconst 1, 1) := by decide +kernel
theorem d_K_comesBefore_30 : decode b_K_comesBefore 30 = .ok (.goto 23, 3) := by decide +kernel
theorem d_K_comesBefore_33 : decode b_K_comesBefore 33 = .ok (.iconst 0, 1) := by decide +kernel
theorem d_K_comesBefore_34 : decode b_K_comesBefore 34 = .ok (.goto 19, 3) := by decide +kernel
theorem d_K_comesBefore_37 : decode b_K_comesBefore 37 = .ok (.aload_n 0, 1) := by decide +kernel
theorem d_K_comesBefore_38 : decode b_K_comesBefore 38 = .ok (.getfield 34, 3) := by decide +kernel
theorem d_K_comesBefore_41 : decode b_K_comesBefore 41 = .ok (.aload_n 1, 1) := by decide +kernel
theorem d_K_comesBefore_42 : decode b_K_comesBefore 42 = .ok (.getfield 34, 3) := by decide +kernel
theorem d_K_comesBefore_45 : decode b_K_comesBefore 45 = .ok (.if_icmp .le 7, 3) := by decide +kernel
theorem d_K_comesBefore_48 : decode b_K_comesBefore 48 = .ok (.iconst 1, 1) := by decide +kernel
theorem d_K_comesBefore_49 : decode b_K_comesBefore 49 = .ok (.goto 4, 3) := by decide +kernel
theorem d_K_comesBefore_52 : decode b_K_comesBefore 52 = .ok (.iconst 0, 1) := by decide +kernel
theorem d_K_comesBefore_53 : decode b_K_comesBefore 53 = .ok (.ireturn, 1) := by decide +kernel
theorem d_A_doOrder_0 : decode b_A_doOrder 0 = .ok (.aload_n 1, 1) := by decide +kernel
theorem d_A_doOrder_1 : decode b_A_doOrder 1 = .ok (.getfield 77, 3) := by decide +kernel
theorem d_A_doOrder_4 : decode b_A_doOrder 4 = .ok (.getfield 181, 3) := by decide +kernel
theorem d_A_doOrder_7 : decode b_A_doOrder 7 = .ok (.aload_n 1, 1) := by decide +kernel
theorem d_A_doOrder_8 : decode b_A_doOrder 8 = .ok (.getfield 184, 3) := by decide +kernel
theorem d_A_doOrder_11 : decode b_A_doOrder 11 = .ok (.iaload, 1) := by decide +kernel
theorem d_A_doOrder_12 : decode b_A_doOrder 12 = .ok (.istore_n 2, 1) := by decide +kernel
theorem d_A_doOrder_13 : decode b_A_doOrder 13 = .ok (.aload_n 1, 1) := by decide +kernel
theorem d_A_doOrder_14 : decode b_A_doOrder 14 = .ok (.getfield 77, 3) := by decide +kernel
theorem d_A_doOrder_17 : decode b_A_doOrder 17 = .ok (.getfield 187, 3) := by decide +kernel
theorem d_A_doOrder_20 : decode b_A_doOrder 20 = .ok (.aload_n 1, 1) := by decide +kernel
theorem d_A_doOrder_21 : decode b_A_doOrder 21 = .ok (.getfield 184, 3) := by decide +kernel
theorem d_A_doOrder_24 : decode b_A_doOrder 24 = .ok (.iaload, 1) := by decide +kernel
theorem d_A_doOrder_25 : decode b_A_doOrder 25 = .ok (.tableswitch 65 0 3 #[31, 38, 47, 56], 31) := by decide +kernel
theorem d_A_doOrder_56 : decode b_A_doOrder 56 = .ok (.aload_n 1, 1) := by decide +kernel
theorem d_A_doOrder_57 : decode b_A_doOrder 57 = .ok (.iload_n 2, 1) := by decide +kernel
theorem d_A_doOrder_58 : decode b_A_doOrder 58 = .ok (.invokevirtual 190, 3) := by decide +kernel
theorem d_A_doOrder_61 : decode b_A_doOrder 61 = .ok (.iconst 1, 1) := by decide +kernel
theorem d_A_doOrder_62 : decode b_A_doOrder 62 = .ok (.ireturn, 1) := by decide +kernel
theorem d_A_doOrder_63 : decode b_A_doOrder 63 = .ok (.aload_n 0, 1) := by decide +kernel
theorem d_A_doOrder_64 : decode b_A_doOrder 64 = .ok (.aload_n 1, 1) := by decide +kernel
theorem d_A_doOrder_65 : decode b_A_doOrder 65 = .ok (.iload_n 2, 1) := by decide +kernel
theorem d_A_doOrder_66 : decode b_A_doOrder 66 = .ok (.invokevirtual 193, 3) := by decide +kernel
theorem d_A_doOrder_69 : decode b_A_doOrder 69 = .ok (.goto 27, 3) := by decide +kernel
theorem d_A_doOrder_72 : decode b_A_doOrder 72 = .ok (.aload_n 0, 1) := by decide +kernel
theorem d_A_doOrder_73 : decode b_A_doOrder 73 = .ok (.aload_n 1, 1) := by decide +kernel
theorem d_A_doOrder_74 : decode b_A_doOrder 74 = .ok (.iload_n 2, 1) := by decide +kernel
theorem d_A_doOrder_75 : decode b_A_doOrder 75 = .ok (.invokevirtual 197, 3) := by decide +kernel
theorem d_A_doOrder_78 : decode b_A_doOrder 78 = .ok (.goto 18, 3) := by decide +kernel
theorem d_A_doOrder_81 : decode b_A_doOrder 81 = .ok (.aload_n 0, 1) := by decide +kernel
theorem d_A_doOrder_82 : decode b_A_doOrder 82 = .ok (.aload_n 1, 1) := by decide +kernel
theorem d_A_doOrder_83 : decode b_A_doOrder 83 = .ok (.iload_n 2, 1) := by decide +kernel
theorem d_A_doOrder_84 : decode b_A_doOrder 84 = .ok (.invokevirtual 200, 3) := by decide +kernel
theorem d_A_doOrder_87 : decode b_A_doOrder 87 = .ok (.goto 9, 3) := by decide +kernel
theorem d_A_doOrder_90 : decode b_A_doOrder 90 = .ok (.aload_n 0, 1) := by decide +kernel
theorem d_A_doOrder_91 : decode b_A_doOrder 91 = .ok (.aload_n 1, 1) := by decide +kernel
theorem d_A_doOrder_92 : decode b_A_doOrder 92 = .ok (.iload_n 2, 1) := by decide +kernel
theorem d_A_doOrder_93 : decode b_A_doOrder 93 = .ok (.invokevirtual 203, 3) := by decide +kernel
theorem d_A_doOrder_96 : decode b_A_doOrder 96 = .ok (.iconst 0, 1) := by decide +kernel
theorem d_A_doOrder_97 : decode b_A_doOrder 97 = .ok (.ireturn, 1) := by decide +kernel
theorem d_K_work_0 : decode b_K_work 0 = .ok (.aload_n 0, 1) := by decide +kernel
theorem d_K_work_1 : decode b_K_work 1 = .ok (.dup, 1) := by decide +kernel
theorem d_K_work_2 : decode b_K_work 2 = .ok (.getfield 69, 3) := by decide +kernel
theorem d_K_work_5 : decode b_K_work 5 = .ok (.iconst 1, 1) := by decide +kernel
theorem d_K_work_6 : decode b_K_work 6 = .ok (.iadd, 1) := by decide +kernel
theorem d_K_work_7 : decode b_K_work 7 = .ok (.putfield 69, 3) := by decide +kernel
theorem d_K_work_10 : decode b_K_work 10 = .ok (.aload_n 0, 1) := by decide +kernel
theorem d_K_work_11 : decode b_K_work 11 = .ok (.dup, 1) := by decide +kernel
theorem d_K_work_12 : decode b_K_work 12 = .ok (.getfield 62, 3) := by decide +kernel
theorem d_K_work_15 : decode b_K_work 15 = .ok (.iconst 1, 1) := by decide +kernel
theorem d_K_work_16 : decode b_K_work 16 = .ok (.iadd, 1) := by decide +kernel
theorem d_K_work_17 : decode b_K_work 17 = .ok (.putfield 62, 3) := by decide +kernel
theorem d_K_work_20 : decode b_K_work 20 = .ok (.aload_n 0, 1) := by decide +kernel
theorem d_K_work_21 : decode b_K_work 21 = .ok (.getfield 62, 3) := by decide +kernel
theorem d_K_work_24 : decode b_K_work 24 = .ok (.iload_n 1, 1) := by decide +kernel
theorem d_K_work_25 : decode b_K_work 25 = .ok (.if_icmp .lt 7, 3) := by decide +kernel
theorem d_K_work_28 : decode b_K_work 28 = .ok (.aload_n 0, 1) := by decide +kernel
theorem d_K_work_29 : decode b_K_work 29 = .ok (.invokevirtual 72, 3) := by decide +kernel
theorem d_K_work_32 : decode b_K_work 32 = .ok (.return_, 1) := by decide +kernel
theorem d_K_advance_0 : decode b_K_advance 0 = .ok (.aload_n 0, 1) := by decide +kernel
theorem d_K_advance_1 : decode b_K_advance 1 = .ok (.dup, 1) := by decide +kernel
theorem d_K_advance_2 : decode b_K_advance 2 = .ok (.getfield 59, 3) := by decide +kernel
theorem d_K_advance_5 : decode b_K_advance 5 = .ok (.iconst 1, 1) := by decide +kernel
theorem d_K_advance_6 : decode b_K_advance 6 = .ok (.iadd, 1) := by decide +kernel
theorem d_K_advance_7 : decode b_K_advance 7 = .ok (.putfield 59, 3) := by decide +kernel
theorem d_K_advance_10 : decode b_K_advance 10 = .ok (.aload_n 0, 1) := by decide +kernel
theorem d_K_advance_11 : decode b_K_advance 11 = .ok (.iconst 0, 1) := by decide +kernel
theorem d_K_advance_12 : decode b_K_advance 12 = .ok (.putfield 62, 3) := by decide +kernel
theorem d_K_advance_15 : decode b_K_advance 15 = .ok (.aload_n 0, 1) := by decide +kernel
theorem d_K_advance_16 : decode b_K_advance 16 = .ok (.getfield 59, 3) := by decide +kernel
theorem d_K_advance_19 : decode b_K_advance 19 = .ok (.aload_n 0, 1) := by decide +kernel
theorem d_K_advance_20 : decode b_K_advance 20 = .ok (.getfield 12, 3) := by decide +kernel
theorem d_K_advance_23 : decode b_K_advance 23 = .ok (.getfield 50, 3) := by decide +kernel
theorem d_K_advance_26 : decode b_K_advance 26 = .ok (.if_icmp .lt 7, 3) := by decide +kernel
theorem d_K_advance_29 : decode b_K_advance 29 = .ok (.aload_n 0, 1) := by decide +kernel
theorem d_K_advance_30 : decode b_K_advance 30 = .ok (.invokevirtual 53, 3) := by decide +kernel
theorem d_K_advance_33 : decode b_K_advance 33 = .ok (.return_, 1) := by decide +kernel
theorem d_A_send_0 : decode b_A_send 0 = .ok (.aload_n 1, 1) := by decide +kernel
theorem d_A_send_1 : decode b_A_send 1 = .ok (.getfield 206, 3) := by decide +kernel
theorem d_A_send_4 : decode b_A_send 4 = .ok (.bipush 8, 2) := by decide +kernel
theorem d_A_send_6 : decode b_A_send 6 = .ok (.aload_n 1, 1) := by decide +kernel
theorem d_A_send_7 : decode b_A_send 7 = .ok (.getfield 209, 3) := by decide +kernel
theorem d_A_send_10 : decode b_A_send 10 = .ok (.imul, 1) := by decide +kernel
theorem d_A_send_11 : decode b_A_send 11 = .ok (.iadd, 1) := by decide +kernel
theorem d_A_send_12 : decode b_A_send 12 = .ok (.istore_n 3, 1) := by decide +kernel
theorem d_A_send_13 : decode b_A_send 13 = .ok (.aload_n 0, 1) := by decide +kernel
theorem d_A_send_14 : decode b_A_send 14 = .ok (.iconst 2, 1) := by decide +kernel
theorem d_A_send_15 : decode b_A_send 15 = .ok (.iload_n 2, 1) := by decide +kernel
theorem d_A_send_16 : decode b_A_send 16 = .ok (.invokevirtual 212, 3) := by decide +kernel
theorem d_A_send_19 : decode b_A_send 19 = .ok (.astore 4, 2) := by decide +kernel
theorem d_A_send_21 : decode b_A_send 21 = .ok (.aload 4, 2) := by decide +kernel
theorem d_A_send_23 : decode b_A_send 23 = .ok (.ifnull 26, 3) := by decide +kernel
theorem d_A_send_26 : decode b_A_send 26 = .ok (.aload 4, 2) := by decide +kernel
theorem d_A_send_28 : decode b_A_send 28 = .ok (.iload_n 3, 1) := by decide +kernel
theorem d_A_send_29 : decode b_A_send 29 = .ok (.putfield 216, 3) := by decide +kernel
theorem d_A_send_32 : decode b_A_send 32 = .ok (.aload 4, 2) := by decide +kernel
theorem d_A_send_34 : decode b_A_send 34 = .ok (.aload_n 0, 1) := by decide +kernel
theorem d_A_send_35 : decode b_A_send 35 = .ok (.invokevirtual 112, 3) := by decide +kernel
theorem d_A_send_38 : decode b_A_send 38 = .ok (.invokevirtual 219, 3) := by decide +kernel
theorem d_A_send_41 : decode b_A_send 41 = .ok (.aload 4, 2) := by decide +kernel
theorem d_A_send_43 : decode b_A_send 43 = .ok (.invokevirtual 222, 3) := by decide +kernel
theorem d_A_send_46 : decode b_A_send 46 = .ok (.goto 39, 3) := by decide +kernel
theorem d_A_send_49 : decode b_A_send 49 = .ok (.aload_n 0, 1) := by decide +kernel
theorem d_A_send_50 : decode b_A_send 50 = .ok (.getfield 34, 3) := by decide +kernel
theorem d_A_send_53 : decode b_A_send 53 = .ok (.iload_n 2, 1) := by decide +kernel
theorem d_A_send_54 : decode b_A_send 54 = .ok (.aaload, 1) := by decide +kernel
theorem d_A_send_55 : decode b_A_send 55 = .ok (.getfield 127, 3) := by decide +kernel
theorem d_A_send_58 : decode b_A_send 58 = .ok (.iconst 4, 1) := by decide +kernel
theorem d_A_send_59 : decode b_A_send 59 = .ok (.if_icmp .ne 16, 3) := by decide +kernel
theorem d_A_send_62 : decode b_A_send 62 = .ok (.aload_n 0, 1) := by decide +kernel
theorem d_A_send_63 : decode b_A_send 63 = .ok (.dup, 1) := by decide +kernel
theorem d_A_send_64 : decode b_A_send 64 = .ok (.getfield 134, 3) := by decide +kernel
theorem d_A_send_67 : decode b_A_send 67 = .ok (.iconst 1, 1) := by decide +kernel
theorem d_A_send_68 : decode b_A_send 68 = .ok (.iadd, 1) := by decide +kernel
theorem d_A_send_69 : decode b_A_send 69 = .ok (.putfield 134, 3) := by decide +kernel
theorem d_A_send_72 : decode b_A_send 72 = .ok (.goto 13, 3) := by decide +kernel
theorem d_A_send_75 : decode b_A_send 75 = .ok (.aload_n 0, 1) := by decide +kernel
theorem d_A_send_76 : decode b_A_send 76 = .ok (.getfield 34, 3) := by decide +kernel
theorem d_A_send_79 : decode b_A_send 79 = .ok (.iload_n 2, 1) := by decide +kernel
theorem d_A_send_80 : decode b_A_send 80 = .ok (.aaload, 1) := by decide +kernel
theorem d_A_send_81 : decode b_A_send 81 = .ok (.iload_n 3, 1) := by decide +kernel
theorem d_A_send_82 : decode b_A_send 82 = .ok (.invokevirtual 225, 3) := by decide +kernel
theorem d_A_send_85 : decode b_A_send 85 = .ok (.aload_n 1, 1) := by decide +kernel
theorem d_A_send_86 : decode b_A_send 86 = .ok (.invokevirtual 222, 3) := by decide +kernel
theorem d_A_send_89 : decode b_A_send 89 = .ok (.return_, 1) := by decide +kernel
theorem d_A_firstWaiting_0 : decode b_A_firstWaiting 0 = .ok (.aconst_null, 1) := by decide +kernel
theorem d_A_firstWaiting_1 : decode b_A_firstWaiting 1 = .ok (.astore_n 3, 1) := by decide +kernel
theorem d_A_firstWaiting_2 : decode b_A_firstWaiting 2 = .ok (.iconst 0, 1) := by decide +kernel
theorem d_A_firstWaiting_3 : decode b_A_firstWaiting 3 = .ok (.istore 4, 2) := by decide +kernel
theorem d_A_firstWaiting_5 : decode b_A_firstWaiting 5 = .ok (.iload 4, 2) := by decide +kernel
theorem d_A_firstWaiting_7 : decode b_A_firstWaiting 7 = .ok (.aload_n 0, 1) := by decide +kernel
theorem d_A_firstWaiting_8 : decode b_A_firstWaiting 8 = .ok (.getfield 63, 3) := by decide +kernel
theorem d_A_firstWaiting_11 : decode b_A_firstWaiting 11 = .ok (.if_icmp .ge 40, 3) := by decide +kernel
theorem d_A_firstWaiting_14 : decode b_A_firstWaiting 14 = .ok (.aload_n 0, 1) := by decide +kernel
theorem d_A_firstWaiting_15 : decode b_A_firstWaiting 15 = .ok (.getfield 25, 3) := by decide +kernel
theorem d_A_firstWaiting_18 : decode b_A_firstWaiting 18 = .ok (.iload 4, 2) := by decide +kernel
theorem d_A_firstWaiting_20 : decode b_A_firstWaiting 20 = .ok (.aaload, 1) := by decide +kernel
theorem d_A_firstWaiting_21 : decode b_A_firstWaiting 21 = .ok (.astore 5, 2) := by decide +kernel
