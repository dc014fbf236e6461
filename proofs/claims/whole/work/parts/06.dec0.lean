theorem d_A_init_0 : decode b_A_init 0 = .ok (.aload_n 0, 1) := by decide +kernel
theorem d_A_init_1 : decode b_A_init 1 = .ok (.invokespecial 1, 3) := by decide +kernel
theorem d_A_init_4 : decode b_A_init 4 = .ok (.aload_n 0, 1) := by decide +kernel
theorem d_A_init_5 : decode b_A_init 5 = .ok (.new 7, 3) := by decide +kernel
theorem d_A_init_8 : decode b_A_init 8 = .ok (.dup, 1) := by decide +kernel
theorem d_A_init_9 : decode b_A_init 9 = .ok (.invokespecial 9, 3) := by decide +kernel
theorem d_A_init_12 : decode b_A_init 12 = .ok (.putfield 10, 3) := by decide +kernel
theorem d_A_init_15 : decode b_A_init 15 = .ok (.aload_n 0, 1) := by decide +kernel
theorem d_A_init_16 : decode b_A_init 16 = .ok (.iconst 3, 1) := by decide +kernel
theorem d_A_init_17 : decode b_A_init 17 = .ok (.anewarray 16, 3) := by decide +kernel
theorem d_A_init_20 : decode b_A_init 20 = .ok (.putfield 18, 3) := by decide +kernel
theorem d_A_init_23 : decode b_A_init 23 = .ok (.iconst 0, 1) := by decide +kernel
theorem d_A_init_24 : decode b_A_init 24 = .ok (.istore_n 1, 1) := by decide +kernel
theorem d_A_init_25 : decode b_A_init 25 = .ok (.iload_n 1, 1) := by decide +kernel
theorem d_A_init_26 : decode b_A_init 26 = .ok (.iconst 3, 1) := by decide +kernel
theorem d_A_init_27 : decode b_A_init 27 = .ok (.if_icmp .ge 22, 3) := by decide +kernel
theorem d_A_init_30 : decode b_A_init 30 = .ok (.aload_n 0, 1) := by decide +kernel
theorem d_A_init_31 : decode b_A_init 31 = .ok (.getfield 18, 3) := by decide +kernel
theorem d_A_init_34 : decode b_A_init 34 = .ok (.iload_n 1, 1) := by decide +kernel
theorem d_A_init_35 : decode b_A_init 35 = .ok (.new 16, 3) := by decide +kernel
theorem d_A_init_38 : decode b_A_init 38 = .ok (.dup, 1) := by decide +kernel
theorem d_A_init_39 : decode b_A_init 39 = .ok (.invokespecial 22, 3) := by decide +kernel
theorem d_A_init_42 : decode b_A_init 42 = .ok (.aastore, 1) := by decide +kernel
theorem d_A_init_43 : decode b_A_init 43 = .ok (.iinc 1 1, 3) := by decide +kernel
theorem d_A_init_46 : decode b_A_init 46 = .ok (.goto (-21), 3) := by decide +kernel
theorem d_A_init_49 : decode b_A_init 49 = .ok (.aload_n 0, 1) := by decide +kernel
theorem d_A_init_50 : decode b_A_init 50 = .ok (.bipush 8, 2) := by decide +kernel
theorem d_A_init_52 : decode b_A_init 52 = .ok (.anewarray 23, 3) := by decide +kernel
theorem d_A_init_55 : decode b_A_init 55 = .ok (.putfield 25, 3) := by decide +kernel
theorem d_A_init_58 : decode b_A_init 58 = .ok (.iconst 0, 1) := by decide +kernel
theorem d_A_init_59 : decode b_A_init 59 = .ok (.istore_n 1, 1) := by decide +kernel
theorem d_A_init_60 : decode b_A_init 60 = .ok (.iload_n 1, 1) := by decide +kernel
theorem d_A_init_61 : decode b_A_init 61 = .ok (.bipush 8, 2) := by decide +kernel
theorem d_A_init_63 : decode b_A_init 63 = .ok (.if_icmp .ge 23, 3) := by decide +kernel
theorem d_A_init_66 : decode b_A_init 66 = .ok (.aload_n 0, 1) := by decide +kernel
theorem d_A_init_67 : decode b_A_init 67 = .ok (.getfield 25, 3) := by decide +kernel
theorem d_A_init_70 : decode b_A_init 70 = .ok (.iload_n 1, 1) := by decide +kernel
theorem d_A_init_71 : decode b_A_init 71 = .ok (.new 23, 3) := by decide +kernel
theorem d_A_init_74 : decode b_A_init 74 = .ok (.dup, 1) := by decide +kernel
theorem d_A_init_75 : decode b_A_init 75 = .ok (.iload_n 1, 1) := by decide +kernel
theorem d_A_init_76 : decode b_A_init 76 = .ok (.invokespecial 29, 3) := by decide +kernel
theorem d_A_init_79 : decode b_A_init 79 = .ok (.aastore, 1) := by decide +kernel
theorem d_A_init_80 : decode b_A_init 80 = .ok (.iinc 1 1, 3) := by decide +kernel
theorem d_A_init_83 : decode b_A_init 83 = .ok (.goto (-23), 3) := by decide +kernel
theorem d_A_init_86 : decode b_A_init 86 = .ok (.aload_n 0, 1) := by decide +kernel
theorem d_A_init_87 : decode b_A_init 87 = .ok (.iconst 4, 1) := by decide +kernel
theorem d_A_init_88 : decode b_A_init 88 = .ok (.anewarray 32, 3) := by decide +kernel
theorem d_A_init_91 : decode b_A_init 91 = .ok (.putfield 34, 3) := by decide +kernel
theorem d_A_init_94 : decode b_A_init 94 = .ok (.iconst 0, 1) := by decide +kernel
theorem d_A_init_95 : decode b_A_init 95 = .ok (.istore_n 1, 1) := by decide +kernel
theorem d_A_init_96 : decode b_A_init 96 = .ok (.iload_n 1, 1) := by decide +kernel
theorem d_A_init_97 : decode b_A_init 97 = .ok (.iconst 4, 1) := by decide +kernel
theorem d_A_init_98 : decode b_A_init 98 = .ok (.if_icmp .ge 22, 3) := by decide +kernel
theorem d_A_init_101 : decode b_A_init 101 = .ok (.aload_n 0, 1) := by decide +kernel
theorem d_A_init_102 : decode b_A_init 102 = .ok (.getfield 34, 3) := by decide +kernel
theorem d_A_init_105 : decode b_A_init 105 = .ok (.iload_n 1, 1) := by decide +kernel
theorem d_A_init_106 : decode b_A_init 106 = .ok (.new 32, 3) := by decide +kernel
theorem d_A_init_109 : decode b_A_init 109 = .ok (.dup, 1) := by decide +kernel
theorem d_A_init_110 : decode b_A_init 110 = .ok (.invokespecial 38, 3) := by decide +kernel
theorem d_A_init_113 : decode b_A_init 113 = .ok (.aastore, 1) := by decide +kernel
theorem d_A_init_114 : decode b_A_init 114 = .ok (.iinc 1 1, 3) := by decide +kernel
theorem d_A_init_117 : decode b_A_init 117 = .ok (.goto (-21), 3) := by decide +kernel
theorem d_A_init_120 : decode b_A_init 120 = .ok (.aload_n 0, 1) := by decide +kernel
theorem d_A_init_121 : decode b_A_init 121 = .ok (.iconst 4, 1) := by decide +kernel
theorem d_A_init_122 : decode b_A_init 122 = .ok (.newarray .int, 2) := by decide +kernel
theorem d_A_init_124 : decode b_A_init 124 = .ok (.putfield 39, 3) := by decide +kernel
theorem d_A_init_127 : decode b_A_init 127 = .ok (.return_, 1) := by decide +kernel
theorem d_Wr_init_0 : decode b_Wr_init 0 = .ok (.aload_n 0, 1) := by decide +kernel
theorem d_Wr_init_1 : decode b_Wr_init 1 = .ok (.invokespecial 3, 3) := by decide +kernel
theorem d_Wr_init_4 : decode b_Wr_init 4 = .ok (.aload_n 0, 1) := by decide +kernel
theorem d_Wr_init_5 : decode b_Wr_init 5 = .ok (.bipush 8, 2) := by decide +kernel
theorem d_Wr_init_7 : decode b_Wr_init 7 = .ok (.newarray .int, 2) := by decide +kernel
theorem d_Wr_init_9 : decode b_Wr_init 9 = .ok (.putfield 9, 3) := by decide +kernel
theorem d_Wr_init_12 : decode b_Wr_init 12 = .ok (.aload_n 0, 1) := by decide +kernel
theorem d_Wr_init_13 : decode b_Wr_init 13 = .ok (.bipush 8, 2) := by decide +kernel
theorem d_Wr_init_15 : decode b_Wr_init 15 = .ok (.newarray .int, 2) := by decide +kernel
theorem d_Wr_init_17 : decode b_Wr_init 17 = .ok (.putfield 15, 3) := by decide +kernel
theorem d_Wr_init_20 : decode b_Wr_init 20 = .ok (.return_, 1) := by decide +kernel
theorem d_P_init_0 : decode b_P_init 0 = .ok (.aload_n 0, 1) := by decide +kernel
theorem d_P_init_1 : decode b_P_init 1 = .ok (.invokespecial 3, 3) := by decide +kernel
theorem d_P_init_4 : decode b_P_init 4 = .ok (.aload_n 0, 1) := by decide +kernel
theorem d_P_init_5 : decode b_P_init 5 = .ok (.iconst 0, 1) := by decide +kernel
theorem d_P_init_6 : decode b_P_init 6 = .ok (.putfield 9, 3) := by decide +kernel
theorem d_P_init_9 : decode b_P_init 9 = .ok (.aload_n 0, 1) := by decide +kernel
theorem d_P_init_10 : decode b_P_init 10 = .ok (.iconst 0, 1) := by decide +kernel
theorem d_P_init_11 : decode b_P_init 11 = .ok (.putfield 15, 3) := by decide +kernel
theorem d_P_init_14 : decode b_P_init 14 = .ok (.return_, 1) := by decide +kernel
theorem d_K_init_0 : decode b_K_init 0 = .ok (.aload_n 0, 1) := by decide +kernel
theorem d_K_init_1 : decode b_K_init 1 = .ok (.invokespecial 3, 3) := by decide +kernel
theorem d_K_init_4 : decode b_K_init 4 = .ok (.aload_n 0, 1) := by decide +kernel
theorem d_K_init_5 : decode b_K_init 5 = .ok (.new 9, 3) := by decide +kernel
theorem d_K_init_8 : decode b_K_init 8 = .ok (.dup, 1) := by decide +kernel
theorem d_K_init_9 : decode b_K_init 9 = .ok (.invokespecial 11, 3) := by decide +kernel
theorem d_K_init_12 : decode b_K_init 12 = .ok (.putfield 12, 3) := by decide +kernel
theorem d_K_init_15 : decode b_K_init 15 = .ok (.aload_n 0, 1) := by decide +kernel
theorem d_K_init_16 : decode b_K_init 16 = .ok (.iconst 0, 1) := by decide +kernel
theorem d_K_init_17 : decode b_K_init 17 = .ok (.putfield 18, 3) := by decide +kernel
theorem d_K_init_20 : decode b_K_init 20 = .ok (.aload_n 0, 1) := by decide +kernel
theorem d_K_init_21 : decode b_K_init 21 = .ok (.iconst (-1), 1) := by decide +kernel
theorem d_K_init_22 : decode b_K_init 22 = .ok (.putfield 22, 3) := by decide +kernel
theorem d_K_init_25 : decode b_K_init 25 = .ok (.aload_n 0, 1) := by decide +kernel
theorem d_K_init_26 : decode b_K_init 26 = .ok (.iconst (-1), 1) := by decide +kernel
theorem d_K_init_27 : decode b_K_init 27 = .ok (.putfield 25, 3) := by decide +kernel
theorem d_K_init_30 : decode b_K_init 30 = .ok (.aload_n 0, 1) := by decide +kernel
theorem d_K_init_31 : decode b_K_init 31 = .ok (.iload_n 1, 1) := by decide +kernel
theorem d_K_init_32 : decode b_K_init 32 = .ok (.putfield 28, 3) := by decide +kernel
theorem d_K_init_35 : decode b_K_init 35 = .ok (.return_, 1) := by decide +kernel
theorem d_G_init_0 : decode b_G_init 0 = .ok (.aload_n 0, 1) := by decide +kernel
theorem d_G_init_1 : decode b_G_init 1 = .ok (.invokespecial 3, 3) := by decide +kernel
theorem d_G_init_4 : decode b_G_init 4 = .ok (.aload_n 0, 1) := by decide +kernel
theorem d_G_init_5 : decode b_G_init 5 = .ok (.bipush 8, 2) := by decide +kernel
theorem d_G_init_7 : decode b_G_init 7 = .ok (.newarray .int, 2) := by decide +kernel
theorem d_G_init_9 : decode b_G_init 9 = .ok (.putfield 9, 3) := by decide +kernel
theorem d_G_init_12 : decode b_G_init 12 = .ok (.aload_n 0, 1) := by decide +kernel
theorem d_G_init_13 : decode b_G_init 13 = .ok (.bipush 8, 2) := by decide +kernel
theorem d_G_init_15 : decode b_G_init 15 = .ok (.newarray .int, 2) := by decide +kernel
theorem d_G_init_17 : decode b_G_init 17 = .ok (.putfield 15, 3) := by decide +kernel
theorem d_G_init_20 : decode b_G_init 20 = .ok (.return_, 1) := by decide +kernel
theorem d_O_init_0 : decode b_O_init 0 = .ok (.aload_n 0, 1) := by decide +kernel
theorem d_O_init_1 : decode b_O_init 1 = .ok (.invokespecial 3, 3) := by decide +kernel
theorem d_O_init_4 : decode b_O_init 4 = .ok (.aload_n 0, 1) := by decide +kernel
theorem d_O_init_5 : decode b_O_init 5 = .ok (.iconst 4, 1) := by decide +kernel
theorem d_O_init_6 : decode b_O_init 6 = .ok (.newarray .int, 2) := by decide +kernel
theorem d_O_init_8 : decode b_O_init 8 = .ok (.putfield 9, 3) := by decide +kernel
theorem d_O_init_11 : decode b_O_init 11 = .ok (.return_, 1) := by decide +kernel
theorem d_A_window_0 : decode b_A_window 0 = .ok (.iload_n 1, 1) := by decide +kernel
theorem d_A_window_1 : decode b_A_window 1 = .ok (.invokestatic 43, 3) := by decide +kernel
theorem d_A_window_4 : decode b_A_window 4 = .ok (.ifCond .eq 20, 3) := by decide +kernel
theorem d_A_window_7 : decode b_A_window 7 = .ok (.iload_n 2, 1) := by decide +kernel
theorem d_A_window_8 : decode b_A_window 8 = .ok (.iconst 1, 1) := by decide +kernel
theorem d_A_window_9 : decode b_A_window 9 = .ok (.bipush 30, 2) := by decide +kernel
theorem d_A_window_11 : decode b_A_window 11 = .ok (.invokestatic 47, 3) := by decide +kernel
theorem d_A_window_14 : decode b_A_window 14 = .ok (.ifCond .eq 10, 3) := by decide +kernel
theorem d_A_window_17 : decode b_A_window 17 = .ok (.aload_n 0, 1) := by decide +kernel
theorem d_A_window_18 : decode b_A_window 18 = .ok (.invokevirtual 51, 3) := by decide +kernel
theorem d_A_window_21 : decode b_A_window 21 = .ok (.ifCond .ne 5, 3) := by decide +kernel
theorem d_A_window_24 : decode b_A_window 24 = .ok (.iconst (-1), 1) := by decide +kernel
theorem d_A_window_25 : decode b_A_window 25 = .ok (.ireturn, 1) := by decide +kernel
theorem d_A_window_26 : decode b_A_window 26 = .ok (.aload_n 0, 1) := by decide +kernel
theorem d_A_window_27 : decode b_A_window 27 = .ok (.getfield 10, 3) := by decide +kernel
theorem d_A_window_30 : decode b_A_window 30 = .ok (.getfield 55, 3) := by decide +kernel
theorem d_A_window_33 : decode b_A_window 33 = .ok (.bipush 8, 2) := by decide +kernel
theorem d_A_window_35 : decode b_A_window 35 = .ok (.if_icmp .ne 6, 3) := by decide +kernel
theorem d_A_window_38 : decode b_A_window 38 = .ok (.bipush (-2), 2) := by decide +kernel
theorem d_A_window_40 : decode b_A_window 40 = .ok (.ireturn, 1) := by decide +kernel
theorem d_A_window_41 : decode b_A_window 41 = .ok (.aload_n 0, 1) := by decide +kernel
theorem d_A_window_42 : decode b_A_window 42 = .ok (.getfield 10, 3) := by decide +kernel
theorem d_A_window_45 : decode b_A_window 45 = .ok (.iload_n 1, 1) := by decide +kernel
theorem d_A_window_46 : decode b_A_window 46 = .ok (.iload_n 2, 1) := by decide +kernel
theorem d_A_window_47 : decode b_A_window 47 = .ok (.invokevirtual 59, 3) := by decide +kernel
theorem d_A_window_50 : decode b_A_window 50 = .ok (.aload_n 0, 1) := by decide +kernel
theorem d_A_window_51 : decode b_A_window 51 = .ok (.getfield 10, 3) := by decide +kernel
theorem d_A_window_54 : decode b_A_window 54 = .ok (.getfield 55, 3) := by decide +kernel
theorem d_A_window_57 : decode b_A_window 57 = .ok (.ireturn, 1) := by decide +kernel
theorem d_A_isPartition_0 : decode b_A_isPartition 0 = .ok (.iload_n 0, 1) := by decide +kernel
theorem d_A_isPartition_1 : decode b_A_isPartition 1 = .ok (.iconst 0, 1) := by decide +kernel
theorem d_A_isPartition_2 : decode b_A_isPartition 2 = .ok (.iconst 2, 1) := by decide +kernel
theorem d_A_isPartition_3 : decode b_A_isPartition 3 = .ok (.invokestatic 47, 3) := by decide +kernel
theorem d_A_isPartition_6 : decode b_A_isPartition 6 = .ok (.ireturn, 1) := by decide +kernel
theorem d_A_within_0 : decode b_A_within 0 = .ok (.iload_n 0, 1) := by decide +kernel
theorem d_A_within_1 : decode b_A_within 1 = .ok (.iload_n 1, 1) := by decide +kernel
theorem d_A_within_2 : decode b_A_within 2 = .ok (.if_icmp .lt 12, 3) := by decide +kernel
theorem d_A_within_5 : decode b_A_within 5 = .ok (.iload_n 0, 1) := by decide +kernel
theorem d_A_within_6 : decode b_A_within 6 = .ok (.iload_n 2, 1) := by decide +kernel
theorem d_A_within_7 : decode b_A_within 7 = .ok (.if_icmp .gt 7, 3) := by decide +kernel
theorem d_A_within_10 : decode b_A_within 10 = .ok (.iconst 1, 1) := by decide +kernel
theorem d_A_within_11 : decode b_A_within 11 = .ok (.goto 4, 3) := by decide +kernel
theorem d_A_within_14 : decode b_A_within 14 = .ok (.iconst 0, 1) := by decide +kernel
theorem d_A_within_15 : decode b_A_within 15 = .ok (.ireturn, 1) := by decide +kernel
theorem d_A_allOff_0 : decode b_A_allOff 0 = .ok (.iconst 0, 1) := by decide +kernel
theorem d_A_allOff_1 : decode b_A_allOff 1 = .ok (.istore_n 1, 1) := by decide +kernel
theorem d_A_allOff_2 : decode b_A_allOff 2 = .ok (.iload_n 1, 1) := by decide +kernel
theorem d_A_allOff_3 : decode b_A_allOff 3 = .ok (.iconst 3, 1) := by decide +kernel
theorem d_A_allOff_4 : decode b_A_allOff 4 = .ok (.if_icmp .ge 23, 3) := by decide +kernel
theorem d_A_allOff_7 : decode b_A_allOff 7 = .ok (.aload_n 0, 1) := by decide +kernel
theorem d_A_allOff_8 : decode b_A_allOff 8 = .ok (.getfield 18, 3) := by decide +kernel
theorem d_A_allOff_11 : decode b_A_allOff 11 = .ok (.iload_n 1, 1) := by decide +kernel
theorem d_A_allOff_12 : decode b_A_allOff 12 = .ok (.aaload, 1) := by decide +kernel
theorem d_A_allOff_13 : decode b_A_allOff 13 = .ok (.getfield 91, 3) := by decide +kernel
theorem d_A_allOff_16 : decode b_A_allOff 16 = .ok (.ifCond .eq 5, 3) := by decide +kernel
theorem d_A_allOff_19 : decode b_A_allOff 19 = .ok (.iconst 0, 1) := by decide +kernel
theorem d_A_allOff_20 : decode b_A_allOff 20 = .ok (.ireturn, 1) := by decide +kernel
theorem d_A_allOff_21 : decode b_A_allOff 21 = .ok (.iinc 1 1, 3) := by decide +kernel
theorem d_A_allOff_24 : decode b_A_allOff 24 = .ok (.goto (-22), 3) := by decide +kernel
theorem d_A_allOff_27 : decode b_A_allOff 27 = .ok (.iconst 1, 1) := by decide +kernel
theorem d_A_allOff_28 : decode b_A_allOff 28 = .ok (.ireturn, 1) := by decide +kernel
theorem d_Wr_add_0 : decode b_Wr_add 0 = .ok (.aload_n 0, 1) := by decide +kernel
theorem d_Wr_add_1 : decode b_Wr_add 1 = .ok (.getfield 15, 3) := by decide +kernel
theorem d_Wr_add_4 : decode b_Wr_add 4 = .ok (.aload_n 0, 1) := by decide +kernel
theorem d_Wr_add_5 : decode b_Wr_add 5 = .ok (.getfield 18, 3) := by decide +kernel
theorem d_Wr_add_8 : decode b_Wr_add 8 = .ok (.aload_n 0, 1) := by decide +kernel
theorem d_Wr_add_9 : decode b_Wr_add 9 = .ok (.getfield 18, 3) := by decide +kernel
theorem d_Wr_add_12 : decode b_Wr_add 12 = .ok (.ifCond .ne 7, 3) := by decide +kernel
theorem d_Wr_add_15 : decode b_Wr_add 15 = .ok (.iload_n 2, 1) := by decide +kernel
theorem d_Wr_add_16 : decode b_Wr_add 16 = .ok (.goto 16, 3) := by decide +kernel
theorem d_Wr_add_19 : decode b_Wr_add 19 = .ok (.aload_n 0, 1) := by decide +kernel
theorem d_Wr_add_20 : decode b_Wr_add 20 = .ok (.getfield 15, 3) := by decide +kernel
theorem d_Wr_add_23 : decode b_Wr_add 23 = .ok (.aload_n 0, 1) := by decide +kernel
theorem d_Wr_add_24 : decode b_Wr_add 24 = .ok (.getfield 18, 3) := by decide +kernel
theorem d_Wr_add_27 : decode b_Wr_add 27 = .ok (.iconst 1, 1) := by decide +kernel
theorem d_Wr_add_28 : decode b_Wr_add 28 = .ok (.isub, 1) := by decide +kernel
theorem d_Wr_add_29 : decode b_Wr_add 29 = .ok (.iaload, 1) := by decide +kernel
theorem d_Wr_add_30 : decode b_Wr_add 30 = .ok (.iload_n 2, 1) := by decide +kernel
theorem d_Wr_add_31 : decode b_Wr_add 31 = .ok (.iadd, 1) := by decide +kernel
theorem d_Wr_add_32 : decode b_Wr_add 32 = .ok (.iastore, 1) := by decide +kernel
theorem d_Wr_add_33 : decode b_Wr_add 33 = .ok (.aload_n 0, 1) := by decide +kernel
theorem d_Wr_add_34 : decode b_Wr_add 34 = .ok (.getfield 9, 3) := by decide +kernel
theorem d_Wr_add_37 : decode b_Wr_add 37 = .ok (.aload_n 0, 1) := by decide +kernel
theorem d_Wr_add_38 : decode b_Wr_add 38 = .ok (.getfield 18, 3) := by decide +kernel
theorem d_Wr_add_41 : decode b_Wr_add 41 = .ok (.iload_n 1, 1) := by decide +kernel
theorem d_Wr_add_42 : decode b_Wr_add 42 = .ok (.iastore, 1) := by decide +kernel
theorem d_Wr_add_43 : decode b_Wr_add 43 = .ok (.aload_n 0, 1) := by decide +kernel
theorem d_Wr_add_44 : decode b_Wr_add 44 = .ok (.dup, 1) := by decide +kernel
theorem d_Wr_add_45 : decode b_Wr_add 45 = .ok (.getfield 18, 3) := by decide +kernel
theorem d_Wr_add_48 : decode b_Wr_add 48 = .ok (.iconst 1, 1) := by decide +kernel
theorem d_Wr_add_49 : decode b_Wr_add 49 = .ok (.iadd, 1) := by decide +kernel
theorem d_Wr_add_50 : decode b_Wr_add 50 = .ok (.putfield 18, 3) := by decide +kernel
theorem d_Wr_add_53 : decode b_Wr_add 53 = .ok (.return_, 1) := by decide +kernel
theorem d_A_process_0 : decode b_A_process 0 = .ok (.iload_n 1, 1) := by decide +kernel
theorem d_A_process_1 : decode b_A_process 1 = .ok (.invokestatic 43, 3) := by decide +kernel
theorem d_A_process_4 : decode b_A_process 4 = .ok (.ifCond .eq 13, 3) := by decide +kernel
theorem d_A_process_7 : decode b_A_process 7 = .ok (.iload_n 2, 1) := by decide +kernel
theorem d_A_process_8 : decode b_A_process 8 = .ok (.iconst 0, 1) := by decide +kernel
theorem d_A_process_9 : decode b_A_process 9 = .ok (.bipush 9, 2) := by decide +kernel
theorem d_A_process_11 : decode b_A_process 11 = .ok (.invokestatic 47, 3) := by decide +kernel
theorem d_A_process_14 : decode b_A_process 14 = .ok (.ifCond .ne 5, 3) := by decide +kernel
theorem d_A_process_17 : decode b_A_process 17 = .ok (.iconst (-1), 1) := by decide +kernel
theorem d_A_process_18 : decode b_A_process 18 = .ok (.ireturn, 1) := by decide +kernel
theorem d_A_process_19 : decode b_A_process 19 = .ok (.iload_n 3, 1) := by decide +kernel
theorem d_A_process_20 : decode b_A_process 20 = .ok (.iconst 0, 1) := by decide +kernel
theorem d_A_process_21 : decode b_A_process 21 = .ok (.bipush 60, 2) := by decide +kernel
theorem d_A_process_23 : decode b_A_process 23 = .ok (.invokestatic 47, 3) := by decide +kernel
theorem d_A_process_26 : decode b_A_process 26 = .ok (.ifCond .eq 21, 3) := by decide +kernel
theorem d_A_process_29 : decode b_A_process 29 = .ok (.iload 4, 2) := by decide +kernel
theorem d_A_process_31 : decode b_A_process 31 = .ok (.iconst 0, 1) := by decide +kernel
theorem d_A_process_32 : decode b_A_process 32 = .ok (.bipush 60, 2) := by decide +kernel
theorem d_A_process_34 : decode b_A_process 34 = .ok (.invokestatic 47, 3) := by decide +kernel
theorem d_A_process_37 : decode b_A_process 37 = .ok (.ifCond .eq 10, 3) := by decide +kernel
theorem d_A_process_40 : decode b_A_process 40 = .ok (.aload_n 0, 1) := by decide +kernel
theorem d_A_process_41 : decode b_A_process 41 = .ok (.invokevirtual 51, 3) := by decide +kernel
theorem d_A_process_44 : decode b_A_process 44 = .ok (.ifCond .ne 5, 3) := by decide +kernel
theorem d_A_process_47 : decode b_A_process 47 = .ok (.iconst (-1), 1) := by decide +kernel
theorem d_A_process_48 : decode b_A_process 48 = .ok (.ireturn, 1) := by decide +kernel
theorem d_A_process_49 : decode b_A_process 49 = .ok (.aload_n 0, 1) := by decide +kernel
theorem d_A_process_50 : decode b_A_process 50 = .ok (.getfield 63, 3) := by decide +kernel
theorem d_A_process_53 : decode b_A_process 53 = .ok (.bipush 8, 2) := by decide +kernel
theorem d_A_process_55 : decode b_A_process 55 = .ok (.if_icmp .ne 6, 3) := by decide +kernel
theorem d_A_process_58 : decode b_A_process 58 = .ok (.bipush (-2), 2) := by decide +kernel
theorem d_A_process_60 : decode b_A_process 60 = .ok (.ireturn, 1) := by decide +kernel
theorem d_A_process_61 : decode b_A_process 61 = .ok (.aload_n 0, 1) := by decide +kernel
theorem d_A_process_62 : decode b_A_process 62 = .ok (.getfield 25, 3) := by decide +kernel
theorem d_A_process_65 : decode b_A_process 65 = .ok (.aload_n 0, 1) := by decide +kernel
theorem d_A_process_66 : decode b_A_process 66 = .ok (.getfield 63, 3) := by decide +kernel
theorem d_A_process_69 : decode b_A_process 69 = .ok (.aaload, 1) := by decide +kernel
theorem d_A_process_70 : decode b_A_process 70 = .ok (.iload_n 1, 1) := by decide +kernel
theorem d_A_process_71 : decode b_A_process 71 = .ok (.iload_n 2, 1) := by decide +kernel
theorem d_A_process_72 : decode b_A_process 72 = .ok (.iload_n 3, 1) := by decide +kernel
theorem d_A_process_73 : decode b_A_process 73 = .ok (.iload 4, 2) := by decide +kernel
theorem d_A_process_75 : decode b_A_process 75 = .ok (.invokevirtual 66, 3) := by decide +kernel
theorem d_A_process_78 : decode b_A_process 78 = .ok (.aload_n 0, 1) := by decide +kernel
theorem d_A_process_79 : decode b_A_process 79 = .ok (.dup, 1) := by decide +kernel
theorem d_A_process_80 : decode b_A_process 80 = .ok (.getfield 63, 3) := by decide +kernel
theorem d_A_process_83 : decode b_A_process 83 = .ok (.iconst 1, 1) := by decide +kernel
theorem d_A_process_84 : decode b_A_process 84 = .ok (.iadd, 1) := by decide +kernel
theorem d_A_process_85 : decode b_A_process 85 = .ok (.putfield 63, 3) := by decide +kernel
theorem d_A_process_88 : decode b_A_process 88 = .ok (.aload_n 0, 1) := by decide +kernel
theorem d_A_process_89 : decode b_A_process 89 = .ok (.getfield 63, 3) := by decide +kernel
theorem d_A_process_92 : decode b_A_process 92 = .ok (.iconst 1, 1) := by decide +kernel
theorem d_A_process_93 : decode b_A_process 93 = .ok (.isub, 1) := by decide +kernel
theorem d_A_process_94 : decode b_A_process 94 = .ok (.ireturn, 1) := by decide +kernel
theorem d_K_define_0 : decode b_K_define 0 = .ok (.aload_n 0, 1) := by decide +kernel
theorem d_K_define_1 : decode b_K_define 1 = .ok (.iload_n 1, 1) := by decide +kernel
theorem d_K_define_2 : decode b_K_define 2 = .ok (.putfield 31, 3) := by decide +kernel
theorem d_K_define_5 : decode b_K_define 5 = .ok (.aload_n 0, 1) := by decide +kernel
theorem d_K_define_6 : decode b_K_define 6 = .ok (.iload_n 2, 1) := by decide +kernel
theorem d_K_define_7 : decode b_K_define 7 = .ok (.putfield 34, 3) := by decide +kernel
theorem d_K_define_10 : decode b_K_define 10 = .ok (.aload_n 0, 1) := by decide +kernel
theorem d_K_define_11 : decode b_K_define 11 = .ok (.iload_n 3, 1) := by decide +kernel
theorem d_K_define_12 : decode b_K_define 12 = .ok (.putfield 37, 3) := by decide +kernel
theorem d_K_define_15 : decode b_K_define 15 = .ok (.aload_n 0, 1) := by decide +kernel
theorem d_K_define_16 : decode b_K_define 16 = .ok (.iload 4, 2) := by decide +kernel
theorem d_K_define_18 : decode b_K_define 18 = .ok (.putfield 40, 3) := by decide +kernel
theorem d_K_define_21 : decode b_K_define 21 = .ok (.return_, 1) := by decide +kernel
theorem d_A_order_0 : decode b_A_order 0 = .ok (.aload_n 0, 1) := by decide +kernel
theorem d_A_order_1 : decode b_A_order 1 = .ok (.iload_n 1, 1) := by decide +kernel
theorem d_A_order_2 : decode b_A_order 2 = .ok (.invokevirtual 70, 3) := by decide +kernel
theorem d_A_order_5 : decode b_A_order 5 = .ok (.ifCond .eq 18, 3) := by decide +kernel
theorem d_A_order_8 : decode b_A_order 8 = .ok (.iload_n 2, 1) := by decide +kernel
theorem d_A_order_9 : decode b_A_order 9 = .ok (.iload_n 3, 1) := by decide +kernel
theorem d_A_order_10 : decode b_A_order 10 = .ok (.invokestatic 73, 3) := by decide +kernel
theorem d_A_order_13 : decode b_A_order 13 = .ok (.ifCond .eq 10, 3) := by decide +kernel
theorem d_A_order_16 : decode b_A_order 16 = .ok (.aload_n 0, 1) := by decide +kernel
theorem d_A_order_17 : decode b_A_order 17 = .ok (.invokevirtual 51, 3) := by decide +kernel
theorem d_A_order_20 : decode b_A_order 20 = .ok (.ifCond .ne 5, 3) := by decide +kernel
theorem d_A_order_23 : decode b_A_order 23 = .ok (.iconst (-1), 1) := by decide +kernel
theorem d_A_order_24 : decode b_A_order 24 = .ok (.ireturn, 1) := by decide +kernel
theorem d_A_order_25 : decode b_A_order 25 = .ok (.aload_n 0, 1) := by decide +kernel
theorem d_A_order_26 : decode b_A_order 26 = .ok (.getfield 25, 3) := by decide +kernel
theorem d_A_order_29 : decode b_A_order 29 = .ok (.iload_n 1, 1) := by decide +kernel
theorem d_A_order_30 : decode b_A_order 30 = .ok (.aaload, 1) := by decide +kernel
theorem d_A_order_31 : decode b_A_order 31 = .ok (.getfield 77, 3) := by decide +kernel
theorem d_A_order_34 : decode b_A_order 34 = .ok (.astore 4, 2) := by decide +kernel
theorem d_A_order_36 : decode b_A_order 36 = .ok (.aload 4, 2) := by decide +kernel
theorem d_A_order_38 : decode b_A_order 38 = .ok (.getfield 81, 3) := by decide +kernel
theorem d_A_order_41 : decode b_A_order 41 = .ok (.bipush 8, 2) := by decide +kernel
theorem d_A_order_43 : decode b_A_order 43 = .ok (.if_icmp .ne 6, 3) := by decide +kernel
theorem d_A_order_46 : decode b_A_order 46 = .ok (.bipush (-2), 2) := by decide +kernel
theorem d_A_order_48 : decode b_A_order 48 = .ok (.ireturn, 1) := by decide +kernel
theorem d_A_order_49 : decode b_A_order 49 = .ok (.aload 4, 2) := by decide +kernel
theorem d_A_order_51 : decode b_A_order 51 = .ok (.iload_n 2, 1) := by decide +kernel
theorem d_A_order_52 : decode b_A_order 52 = .ok (.iload_n 3, 1) := by decide +kernel
theorem d_A_order_53 : decode b_A_order 53 = .ok (.invokevirtual 84, 3) := by decide +kernel
theorem d_A_order_56 : decode b_A_order 56 = .ok (.aload 4, 2) := by decide +kernel
theorem d_A_order_58 : decode b_A_order 58 = .ok (.getfield 81, 3) := by decide +kernel
theorem d_A_order_61 : decode b_A_order 61 = .ok (.ireturn, 1) := by decide +kernel
theorem d_A_isProcess_0 : decode b_A_isProcess 0 = .ok (.iload_n 1, 1) := by decide +kernel
theorem d_A_isProcess_1 : decode b_A_isProcess 1 = .ok (.iconst 0, 1) := by decide +kernel
theorem d_A_isProcess_2 : decode b_A_isProcess 2 = .ok (.aload_n 0, 1) := by decide +kernel
theorem d_A_isProcess_3 : decode b_A_isProcess 3 = .ok (.getfield 63, 3) := by decide +kernel
theorem d_A_isProcess_6 : decode b_A_isProcess 6 = .ok (.iconst 1, 1) := by decide +kernel
theorem d_A_isProcess_7 : decode b_A_isProcess 7 = .ok (.isub, 1) := by decide +kernel
theorem d_A_isProcess_8 : decode b_A_isProcess 8 = .ok (.invokestatic 47, 3) := by decide +kernel
theorem d_A_isProcess_11 : decode b_A_isProcess 11 = .ok (.ireturn, 1) := by decide +kernel
theorem d_A_isOrder_0 : decode b_A_isOrder 0 = .ok (.iload_n 0, 1) := by decide +kernel
theorem d_A_isOrder_1 : decode b_A_isOrder 1 = .ok (.tableswitch 57 0 4 #[35, 43, 43, 50, 50], 35) := by decide +kernel
theorem d_A_isOrder_36 : decode b_A_isOrder 36 = .ok (.iload_n 1, 1) := by decide +kernel
theorem d_A_isOrder_37 : decode b_A_isOrder 37 = .ok (.iconst 1, 1) := by decide +kernel
theorem d_A_isOrder_38 : decode b_A_isOrder 38 = .ok (.bipush 20, 2) := by decide +kernel
theorem d_A_isOrder_40 : decode b_A_isOrder 40 = .ok (.invokestatic 47, 3) := by decide +kernel
theorem d_A_isOrder_43 : decode b_A_isOrder 43 = .ok (.ireturn, 1) := by decide +kernel
theorem d_A_isOrder_44 : decode b_A_isOrder 44 = .ok (.iload_n 1, 1) := by decide +kernel
theorem d_A_isOrder_45 : decode b_A_isOrder 45 = .ok (.iconst 0, 1) := by decide +kernel
theorem d_A_isOrder_46 : decode b_A_isOrder 46 = .ok (.iconst 3, 1) := by decide +kernel
theorem d_A_isOrder_47 : decode b_A_isOrder 47 = .ok (.invokestatic 47, 3) := by decide +kernel
theorem d_A_isOrder_50 : decode b_A_isOrder 50 = .ok (.ireturn, 1) := by decide +kernel
theorem d_A_isOrder_51 : decode b_A_isOrder 51 = .ok (.iload_n 1, 1) := by decide +kernel
theorem d_A_isOrder_52 : decode b_A_isOrder 52 = .ok (.iconst 0, 1) := by decide +kernel
theorem d_A_isOrder_53 : decode b_A_isOrder 53 = .ok (.iconst 3, 1) := by decide +kernel
theorem d_A_isOrder_54 : decode b_A_isOrder 54 = .ok (.invokestatic 47, 3) := by decide +kernel
theorem d_A_isOrder_57 : decode b_A_isOrder 57 = .ok (.ireturn, 1) := by decide +kernel
theorem d_A_isOrder_58 : decode b_A_isOrder 58 = .ok (.iconst 0, 1) := by decide +kernel
theorem d_A_isOrder_59 : decode b_A_isOrder 59 = .ok (.ireturn, 1) := by decide +kernel
theorem d_G_add_0 : decode b_G_add 0 = .ok (.aload_n 0, 1) := by decide +kernel
theorem d_G_add_1 : decode b_G_add 1 = .ok (.getfield 9, 3) := by decide +kernel
theorem d_G_add_4 : decode b_G_add 4 = .ok (.aload_n 0, 1) := by decide +kernel
theorem d_G_add_5 : decode b_G_add 5 = .ok (.getfield 18, 3) := by decide +kernel
theorem d_G_add_8 : decode b_G_add 8 = .ok (.iload_n 1, 1) := by decide +kernel
theorem d_G_add_9 : decode b_G_add 9 = .ok (.iastore, 1) := by decide +kernel
theorem d_G_add_10 : decode b_G_add 10 = .ok (.aload_n 0, 1) := by decide +kernel
theorem d_G_add_11 : decode b_G_add 11 = .ok (.getfield 15, 3) := by decide +kernel
theorem d_G_add_14 : decode b_G_add 14 = .ok (.aload_n 0, 1) := by decide +kernel
theorem d_G_add_15 : decode b_G_add 15 = .ok (.getfield 18, 3) := by decide +kernel
theorem d_G_add_18 : decode b_G_add 18 = .ok (.iload_n 2, 1) := by decide +kernel
theorem d_G_add_19 : decode b_G_add 19 = .ok (.iastore, 1) := by decide +kernel
theorem d_G_add_20 : decode b_G_add 20 = .ok (.aload_n 0, 1) := by decide +kernel
theorem d_G_add_21 : decode b_G_add 21 = .ok (.dup, 1) := by decide +kernel
theorem d_G_add_22 : decode b_G_add 22 = .ok (.getfield 18, 3) := by decide +kernel
theorem d_G_add_25 : decode b_G_add 25 = .ok (.iconst 1, 1) := by decide +kernel
theorem d_G_add_26 : decode b_G_add 26 = .ok (.iadd, 1) := by decide +kernel
theorem d_G_add_27 : decode b_G_add 27 = .ok (.putfield 18, 3) := by decide +kernel
theorem d_G_add_30 : decode b_G_add 30 = .ok (.return_, 1) := by decide +kernel
theorem d_A_action_0 : decode b_A_action 0 = .ok (.iload_n 1, 1) := by decide +kernel
theorem d_A_action_1 : decode b_A_action 1 = .ok (.invokestatic 43, 3) := by decide +kernel
theorem d_A_action_4 : decode b_A_action 4 = .ok (.ifCond .eq 12, 3) := by decide +kernel
theorem d_A_action_7 : decode b_A_action 7 = .ok (.iload_n 2, 1) := by decide +kernel
theorem d_A_action_8 : decode b_A_action 8 = .ok (.iconst 0, 1) := by decide +kernel
theorem d_A_action_9 : decode b_A_action 9 = .ok (.iconst 2, 1) := by decide +kernel
theorem d_A_action_10 : decode b_A_action 10 = .ok (.invokestatic 47, 3) := by decide +kernel
theorem d_A_action_13 : decode b_A_action 13 = .ok (.ifCond .ne 5, 3) := by decide +kernel
theorem d_A_action_16 : decode b_A_action 16 = .ok (.iconst (-1), 1) := by decide +kernel
theorem d_A_action_17 : decode b_A_action 17 = .ok (.ireturn, 1) := by decide +kernel
theorem d_A_action_18 : decode b_A_action 18 = .ok (.aload_n 0, 1) := by decide +kernel
theorem d_A_action_19 : decode b_A_action 19 = .ok (.getfield 18, 3) := by decide +kernel
theorem d_A_action_22 : decode b_A_action 22 = .ok (.iload_n 1, 1) := by decide +kernel
theorem d_A_action_23 : decode b_A_action 23 = .ok (.aaload, 1) := by decide +kernel
theorem d_A_action_24 : decode b_A_action 24 = .ok (.iload_n 2, 1) := by decide +kernel
theorem d_A_action_25 : decode b_A_action 25 = .ok (.putfield 85, 3) := by decide +kernel
theorem d_A_action_28 : decode b_A_action 28 = .ok (.iconst 0, 1) := by decide +kernel
theorem d_A_action_29 : decode b_A_action 29 = .ok (.ireturn, 1) := by decide +kernel
theorem d_A_on_0 : decode b_A_on 0 = .ok (.iload_n 1, 1) := by decide +kernel
theorem d_A_on_1 : decode b_A_on 1 = .ok (.invokestatic 43, 3) := by decide +kernel
theorem d_A_on_4 : decode b_A_on 4 = .ok (.ifCond .eq 11, 3) := by decide +kernel
theorem d_A_on_7 : decode b_A_on 7 = .ok (.aload_n 0, 1) := by decide +kernel
theorem d_A_on_8 : decode b_A_on 8 = .ok (.iload_n 1, 1) := by decide +kernel
theorem d_A_on_9 : decode b_A_on 9 = .ok (.invokevirtual 88, 3) := by decide +kernel
theorem d_A_on_12 : decode b_A_on 12 = .ok (.ifCond .eq 5, 3) := by decide +kernel
theorem d_A_on_15 : decode b_A_on 15 = .ok (.iconst (-1), 1) := by decide +kernel
theorem d_A_on_16 : decode b_A_on 16 = .ok (.ireturn, 1) := by decide +kernel
theorem d_A_on_17 : decode b_A_on 17 = .ok (.aload_n 0, 1) := by decide +kernel
theorem d_A_on_18 : decode b_A_on 18 = .ok (.getfield 18, 3) := by decide +kernel
theorem d_A_on_21 : decode b_A_on 21 = .ok (.iload_n 1, 1) := by decide +kernel
theorem d_A_on_22 : decode b_A_on 22 = .ok (.aaload, 1) := by decide +kernel
theorem d_A_on_23 : decode b_A_on 23 = .ok (.iconst 1, 1) := by decide +kernel
theorem d_A_on_24 : decode b_A_on 24 = .ok (.putfield 91, 3) := by decide +kernel
theorem d_A_on_27 : decode b_A_on 27 = .ok (.aload_n 0, 1) := by decide +kernel
theorem d_A_on_28 : decode b_A_on 28 = .ok (.iload_n 1, 1) := by decide +kernel
theorem d_A_on_29 : decode b_A_on 29 = .ok (.invokevirtual 94, 3) := by decide +kernel
theorem d_A_on_32 : decode b_A_on 32 = .ok (.iconst 0, 1) := by decide +kernel
theorem d_A_on_33 : decode b_A_on 33 = .ok (.istore_n 2, 1) := by decide +kernel
theorem d_A_on_34 : decode b_A_on 34 = .ok (.iload_n 2, 1) := by decide +kernel
theorem d_A_on_35 : decode b_A_on 35 = .ok (.aload_n 0, 1) := by decide +kernel
theorem d_A_on_36 : decode b_A_on 36 = .ok (.getfield 63, 3) := by decide +kernel
theorem d_A_on_39 : decode b_A_on 39 = .ok (.if_icmp .ge 47, 3) := by decide +kernel
theorem d_A_on_42 : decode b_A_on 42 = .ok (.aload_n 0, 1) := by decide +kernel
theorem d_A_on_43 : decode b_A_on 43 = .ok (.getfield 25, 3) := by decide +kernel
theorem d_A_on_46 : decode b_A_on 46 = .ok (.iload_n 2, 1) := by decide +kernel
theorem d_A_on_47 : decode b_A_on 47 = .ok (.aaload, 1) := by decide +kernel
theorem d_A_on_48 : decode b_A_on 48 = .ok (.getfield 97, 3) := by decide +kernel
theorem d_A_on_51 : decode b_A_on 51 = .ok (.iload_n 1, 1) := by decide +kernel
theorem d_A_on_52 : decode b_A_on 52 = .ok (.if_icmp .ne 28, 3) := by decide +kernel
theorem d_A_on_55 : decode b_A_on 55 = .ok (.aload_n 0, 1) := by decide +kernel
theorem d_A_on_56 : decode b_A_on 56 = .ok (.getfield 25, 3) := by decide +kernel
theorem d_A_on_59 : decode b_A_on 59 = .ok (.iload_n 2, 1) := by decide +kernel
theorem d_A_on_60 : decode b_A_on 60 = .ok (.aaload, 1) := by decide +kernel
theorem d_A_on_61 : decode b_A_on 61 = .ok (.getfield 100, 3) := by decide +kernel
theorem d_A_on_64 : decode b_A_on 64 = .ok (.ifCond .le 16, 3) := by decide +kernel
theorem d_A_on_67 : decode b_A_on 67 = .ok (.aload_n 0, 1) := by decide +kernel
theorem d_A_on_68 : decode b_A_on 68 = .ok (.getfield 25, 3) := by decide +kernel
theorem d_A_on_71 : decode b_A_on 71 = .ok (.iload_n 2, 1) := by decide +kernel
theorem d_A_on_72 : decode b_A_on 72 = .ok (.aaload, 1) := by decide +kernel
theorem d_A_on_73 : decode b_A_on 73 = .ok (.aload_n 0, 1) := by decide +kernel
theorem d_A_on_74 : decode b_A_on 74 = .ok (.getfield 103, 3) := by decide +kernel
theorem d_A_on_77 : decode b_A_on 77 = .ok (.putfield 106, 3) := by decide +kernel
theorem d_A_on_80 : decode b_A_on 80 = .ok (.iinc 2 1, 3) := by decide +kernel
theorem d_A_on_83 : decode b_A_on 83 = .ok (.goto (-49), 3) := by decide +kernel
theorem d_A_on_86 : decode b_A_on 86 = .ok (.iconst 0, 1) := by decide +kernel
theorem d_A_on_87 : decode b_A_on 87 = .ok (.ireturn, 1) := by decide +kernel
theorem d_A_isOn_0 : decode b_A_isOn 0 = .ok (.aload_n 0, 1) := by decide +kernel
theorem d_A_isOn_1 : decode b_A_isOn 1 = .ok (.getfield 18, 3) := by decide +kernel
theorem d_A_isOn_4 : decode b_A_isOn 4 = .ok (.iload_n 1, 1) := by decide +kernel
theorem d_A_isOn_5 : decode b_A_isOn 5 = .ok (.aaload, 1) := by decide +kernel
theorem d_A_isOn_6 : decode b_A_isOn 6 = .ok (.getfield 91, 3) := by decide +kernel
theorem d_A_isOn_9 : decode b_A_isOn 9 = .ok (.iconst 1, 1) := by decide +kernel
theorem d_A_isOn_10 : decode b_A_isOn 10 = .ok (.if_icmp .ne 7, 3) := by decide +kernel
theorem d_A_isOn_13 : decode b_A_isOn 13 = .ok (.iconst 1, 1) := by decide +kernel
theorem d_A_isOn_14 : decode b_A_isOn 14 = .ok (.goto 4, 3) := by decide +kernel
theorem d_A_isOn_17 : decode b_A_isOn 17 = .ok (.iconst 0, 1) := by decide +kernel
theorem d_A_isOn_18 : decode b_A_isOn 18 = .ok (.ireturn, 1) := by decide +kernel
theorem d_A_restAll_0 : decode b_A_restAll 0 = .ok (.iconst 0, 1) := by decide +kernel
theorem d_A_restAll_1 : decode b_A_restAll 1 = .ok (.istore_n 2, 1) := by decide +kernel
theorem d_A_restAll_2 : decode b_A_restAll 2 = .ok (.iload_n 2, 1) := by decide +kernel
theorem d_A_restAll_3 : decode b_A_restAll 3 = .ok (.aload_n 0, 1) := by decide +kernel
theorem d_A_restAll_4 : decode b_A_restAll 4 = .ok (.getfield 63, 3) := by decide +kernel
theorem d_A_restAll_7 : decode b_A_restAll 7 = .ok (.if_icmp .ge 31, 3) := by decide +kernel
theorem d_A_restAll_10 : decode b_A_restAll 10 = .ok (.aload_n 0, 1) := by decide +kernel
theorem d_A_restAll_11 : decode b_A_restAll 11 = .ok (.getfield 25, 3) := by decide +kernel
theorem d_A_restAll_14 : decode b_A_restAll 14 = .ok (.iload_n 2, 1) := by decide +kernel
theorem d_A_restAll_15 : decode b_A_restAll 15 = .ok (.aaload, 1) := by decide +kernel
theorem d_A_restAll_16 : decode b_A_restAll 16 = .ok (.getfield 97, 3) := by decide +kernel
theorem d_A_restAll_19 : decode b_A_restAll 19 = .ok (.iload_n 1, 1) := by decide +kernel
theorem d_A_restAll_20 : decode b_A_restAll 20 = .ok (.if_icmp .ne 12, 3) := by decide +kernel
theorem d_A_restAll_23 : decode b_A_restAll 23 = .ok (.aload_n 0, 1) := by decide +kernel
theorem d_A_restAll_24 : decode b_A_restAll 24 = .ok (.getfield 25, 3) := by decide +kernel
theorem d_A_restAll_27 : decode b_A_restAll 27 = .ok (.iload_n 2, 1) := by decide +kernel
theorem d_A_restAll_28 : decode b_A_restAll 28 = .ok (.aaload, 1) := by decide +kernel
theorem d_A_restAll_29 : decode b_A_restAll 29 = .ok (.invokevirtual 144, 3) := by decide +kernel
theorem d_A_restAll_32 : decode b_A_restAll 32 = .ok (.iinc 2 1, 3) := by decide +kernel
theorem d_A_restAll_35 : decode b_A_restAll 35 = .ok (.goto (-33), 3) := by decide +kernel
theorem d_A_restAll_38 : decode b_A_restAll 38 = .ok (.return_, 1) := by decide +kernel
theorem d_K_rest_0 : decode b_K_rest 0 = .ok (.aload_n 0, 1) := by decide +kernel
theorem d_K_rest_1 : decode b_K_rest 1 = .ok (.iconst 0, 1) := by decide +kernel
theorem d_K_rest_2 : decode b_K_rest 2 = .ok (.putfield 18, 3) := by decide +kernel
theorem d_K_rest_5 : decode b_K_rest 5 = .ok (.aload_n 0, 1) := by decide +kernel
theorem d_K_rest_6 : decode b_K_rest 6 = .ok (.iconst 0, 1) := by decide +kernel
theorem d_K_rest_7 : decode b_K_rest 7 = .ok (.putfield 59, 3) := by decide +kernel
theorem d_K_rest_10 : decode b_K_rest 10 = .ok (.aload_n 0, 1) := by decide +kernel
theorem d_K_rest_11 : decode b_K_rest 11 = .ok (.iconst 0, 1) := by decide +kernel
theorem d_K_rest_12 : decode b_K_rest 12 = .ok (.putfield 62, 3) := by decide +kernel
theorem d_K_rest_15 : decode b_K_rest 15 = .ok (.aload_n 0, 1) := by decide +kernel
theorem d_K_rest_16 : decode b_K_rest 16 = .ok (.iconst (-1), 1) := by decide +kernel
theorem d_K_rest_17 : decode b_K_rest 17 = .ok (.putfield 22, 3) := by decide +kernel
theorem d_K_rest_20 : decode b_K_rest 20 = .ok (.return_, 1) := by decide +kernel
theorem d_A_start_0 : decode b_A_start 0 = .ok (.aload_n 0, 1) := by decide +kernel
theorem d_A_start_1 : decode b_A_start 1 = .ok (.iload_n 1, 1) := by decide +kernel
theorem d_A_start_2 : decode b_A_start 2 = .ok (.invokevirtual 70, 3) := by decide +kernel
theorem d_A_start_5 : decode b_A_start 5 = .ok (.ifCond .ne 5, 3) := by decide +kernel
theorem d_A_start_8 : decode b_A_start 8 = .ok (.iconst (-1), 1) := by decide +kernel
theorem d_A_start_9 : decode b_A_start 9 = .ok (.ireturn, 1) := by decide +kernel
theorem d_A_start_10 : decode b_A_start 10 = .ok (.aload_n 0, 1) := by decide +kernel
theorem d_A_start_11 : decode b_A_start 11 = .ok (.getfield 25, 3) := by decide +kernel
theorem d_A_start_14 : decode b_A_start 14 = .ok (.iload_n 1, 1) := by decide +kernel
theorem d_A_start_15 : decode b_A_start 15 = .ok (.aaload, 1) := by decide +kernel
theorem d_A_start_16 : decode b_A_start 16 = .ok (.astore_n 2, 1) := by decide +kernel
theorem d_A_start_17 : decode b_A_start 17 = .ok (.aload_n 2, 1) := by decide +kernel
theorem d_A_start_18 : decode b_A_start 18 = .ok (.getfield 100, 3) := by decide +kernel
theorem d_A_start_21 : decode b_A_start 21 = .ok (.ifCond .gt 21, 3) := by decide +kernel
theorem d_A_start_24 : decode b_A_start 24 = .ok (.aload_n 2, 1) := by decide +kernel
theorem d_A_start_25 : decode b_A_start 25 = .ok (.getfield 109, 3) := by decide +kernel
theorem d_A_start_28 : decode b_A_start 28 = .ok (.ifCond .ne 14, 3) := by decide +kernel
theorem d_A_start_31 : decode b_A_start 31 = .ok (.aload_n 0, 1) := by decide +kernel
theorem d_A_start_32 : decode b_A_start 32 = .ok (.aload_n 2, 1) := by decide +kernel
theorem d_A_start_33 : decode b_A_start 33 = .ok (.getfield 97, 3) := by decide +kernel
theorem d_A_start_36 : decode b_A_start 36 = .ok (.invokevirtual 88, 3) := by decide +kernel
theorem d_A_start_39 : decode b_A_start 39 = .ok (.ifCond .ne 5, 3) := by decide +kernel
theorem d_A_start_42 : decode b_A_start 42 = .ok (.iconst (-1), 1) := by decide +kernel
theorem d_A_start_43 : decode b_A_start 43 = .ok (.ireturn, 1) := by decide +kernel
theorem d_A_start_44 : decode b_A_start 44 = .ok (.aload_n 2, 1) := by decide +kernel
theorem d_A_start_45 : decode b_A_start 45 = .ok (.aload_n 0, 1) := by decide +kernel
theorem d_A_start_46 : decode b_A_start 46 = .ok (.getfield 103, 3) := by decide +kernel
theorem d_A_start_49 : decode b_A_start 49 = .ok (.aload_n 0, 1) := by decide +kernel
