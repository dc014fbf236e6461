theorem d_B_process_34 : decode b_B_process 34 = .ok (.invokestatic 85, 3) := by decide +kernel
theorem d_B_process_37 : decode b_B_process 37 = .ok (.ifCond .eq 10, 3) := by decide +kernel
theorem d_B_process_40 : decode b_B_process 40 = .ok (.aload_n 0, 1) := by decide +kernel
theorem d_B_process_41 : decode b_B_process 41 = .ok (.invokevirtual 89, 3) := by decide +kernel
theorem d_B_process_44 : decode b_B_process 44 = .ok (.ifCond .ne 5, 3) := by decide +kernel
theorem d_B_process_47 : decode b_B_process 47 = .ok (.iconst (-1), 1) := by decide +kernel
theorem d_B_process_48 : decode b_B_process 48 = .ok (.ireturn, 1) := by decide +kernel
theorem d_B_process_49 : decode b_B_process 49 = .ok (.aload_n 0, 1) := by decide +kernel
theorem d_B_process_50 : decode b_B_process 50 = .ok (.getfield 97, 3) := by decide +kernel
theorem d_B_process_53 : decode b_B_process 53 = .ok (.bipush 8, 2) := by decide +kernel
theorem d_B_process_55 : decode b_B_process 55 = .ok (.if_icmp .ne 6, 3) := by decide +kernel
theorem d_B_process_58 : decode b_B_process 58 = .ok (.bipush (-2), 2) := by decide +kernel
theorem d_B_process_60 : decode b_B_process 60 = .ok (.ireturn, 1) := by decide +kernel
theorem d_B_process_61 : decode b_B_process 61 = .ok (.aload_n 0, 1) := by decide +kernel
theorem d_B_process_62 : decode b_B_process 62 = .ok (.getfield 97, 3) := by decide +kernel
theorem d_B_process_65 : decode b_B_process 65 = .ok (.istore 5, 2) := by decide +kernel
theorem d_B_process_67 : decode b_B_process 67 = .ok (.aload_n 0, 1) := by decide +kernel
theorem d_B_process_68 : decode b_B_process 68 = .ok (.getfield 22, 3) := by decide +kernel
theorem d_B_process_71 : decode b_B_process 71 = .ok (.iload 5, 2) := by decide +kernel
theorem d_B_process_73 : decode b_B_process 73 = .ok (.iload_n 1, 1) := by decide +kernel
theorem d_B_process_74 : decode b_B_process 74 = .ok (.iastore, 1) := by decide +kernel
theorem d_B_process_75 : decode b_B_process 75 = .ok (.aload_n 0, 1) := by decide +kernel
theorem d_B_process_76 : decode b_B_process 76 = .ok (.getfield 25, 3) := by decide +kernel
theorem d_B_process_79 : decode b_B_process 79 = .ok (.iload 5, 2) := by decide +kernel
theorem d_B_process_81 : decode b_B_process 81 = .ok (.iload_n 2, 1) := by decide +kernel
theorem d_B_process_82 : decode b_B_process 82 = .ok (.iastore, 1) := by decide +kernel
theorem d_B_process_83 : decode b_B_process 83 = .ok (.aload_n 0, 1) := by decide +kernel
theorem d_B_process_84 : decode b_B_process 84 = .ok (.getfield 28, 3) := by decide +kernel
theorem d_B_process_87 : decode b_B_process 87 = .ok (.iload 5, 2) := by decide +kernel
theorem d_B_process_89 : decode b_B_process 89 = .ok (.iload_n 3, 1) := by decide +kernel
theorem d_B_process_90 : decode b_B_process 90 = .ok (.iastore, 1) := by decide +kernel
theorem d_B_process_91 : decode b_B_process 91 = .ok (.aload_n 0, 1) := by decide +kernel
theorem d_B_process_92 : decode b_B_process 92 = .ok (.getfield 31, 3) := by decide +kernel
theorem d_B_process_95 : decode b_B_process 95 = .ok (.iload 5, 2) := by decide +kernel
theorem d_B_process_97 : decode b_B_process 97 = .ok (.iload 4, 2) := by decide +kernel
theorem d_B_process_99 : decode b_B_process 99 = .ok (.iastore, 1) := by decide +kernel
theorem d_B_process_100 : decode b_B_process 100 = .ok (.aload_n 0, 1) := by decide +kernel
theorem d_B_process_101 : decode b_B_process 101 = .ok (.getfield 55, 3) := by decide +kernel
theorem d_B_process_104 : decode b_B_process 104 = .ok (.iload 5, 2) := by decide +kernel
theorem d_B_process_106 : decode b_B_process 106 = .ok (.iconst (-1), 1) := by decide +kernel
theorem d_B_process_107 : decode b_B_process 107 = .ok (.iastore, 1) := by decide +kernel
theorem d_B_process_108 : decode b_B_process 108 = .ok (.aload_n 0, 1) := by decide +kernel
theorem d_B_process_109 : decode b_B_process 109 = .ok (.getfield 70, 3) := by decide +kernel
theorem d_B_process_112 : decode b_B_process 112 = .ok (.iload 5, 2) := by decide +kernel
theorem d_B_process_114 : decode b_B_process 114 = .ok (.iconst (-1), 1) := by decide +kernel
theorem d_B_process_115 : decode b_B_process 115 = .ok (.iastore, 1) := by decide +kernel
theorem d_B_process_116 : decode b_B_process 116 = .ok (.aload_n 0, 1) := by decide +kernel
theorem d_B_process_117 : decode b_B_process 117 = .ok (.dup, 1) := by decide +kernel
theorem d_B_process_118 : decode b_B_process 118 = .ok (.getfield 97, 3) := by decide +kernel
theorem d_B_process_121 : decode b_B_process 121 = .ok (.iconst 1, 1) := by decide +kernel
theorem d_B_process_122 : decode b_B_process 122 = .ok (.iadd, 1) := by decide +kernel
theorem d_B_process_123 : decode b_B_process 123 = .ok (.putfield 97, 3) := by decide +kernel
theorem d_B_process_126 : decode b_B_process 126 = .ok (.iload 5, 2) := by decide +kernel
theorem d_B_process_128 : decode b_B_process 128 = .ok (.ireturn, 1) := by decide +kernel
theorem d_B_order_0 : decode b_B_order 0 = .ok (.iload_n 1, 1) := by decide +kernel
theorem d_B_order_1 : decode b_B_order 1 = .ok (.iconst 0, 1) := by decide +kernel
theorem d_B_order_2 : decode b_B_order 2 = .ok (.aload_n 0, 1) := by decide +kernel
theorem d_B_order_3 : decode b_B_order 3 = .ok (.getfield 97, 3) := by decide +kernel
theorem d_B_order_6 : decode b_B_order 6 = .ok (.iconst 1, 1) := by decide +kernel
theorem d_B_order_7 : decode b_B_order 7 = .ok (.isub, 1) := by decide +kernel
theorem d_B_order_8 : decode b_B_order 8 = .ok (.invokestatic 85, 3) := by decide +kernel
theorem d_B_order_11 : decode b_B_order 11 = .ok (.ifCond .eq 19, 3) := by decide +kernel
theorem d_B_order_14 : decode b_B_order 14 = .ok (.iload_n 2, 1) := by decide +kernel
theorem d_B_order_15 : decode b_B_order 15 = .ok (.iconst 0, 1) := by decide +kernel
theorem d_B_order_16 : decode b_B_order 16 = .ok (.iconst 4, 1) := by decide +kernel
theorem d_B_order_17 : decode b_B_order 17 = .ok (.invokestatic 85, 3) := by decide +kernel
theorem d_B_order_20 : decode b_B_order 20 = .ok (.ifCond .eq 10, 3) := by decide +kernel
theorem d_B_order_23 : decode b_B_order 23 = .ok (.aload_n 0, 1) := by decide +kernel
theorem d_B_order_24 : decode b_B_order 24 = .ok (.invokevirtual 89, 3) := by decide +kernel
theorem d_B_order_27 : decode b_B_order 27 = .ok (.ifCond .ne 5, 3) := by decide +kernel
theorem d_B_order_30 : decode b_B_order 30 = .ok (.iconst (-1), 1) := by decide +kernel
theorem d_B_order_31 : decode b_B_order 31 = .ok (.ireturn, 1) := by decide +kernel
theorem d_B_order_32 : decode b_B_order 32 = .ok (.iload_n 2, 1) := by decide +kernel
theorem d_B_order_33 : decode b_B_order 33 = .ok (.ifCond .ne 16, 3) := by decide +kernel
theorem d_B_order_36 : decode b_B_order 36 = .ok (.iload_n 3, 1) := by decide +kernel
theorem d_B_order_37 : decode b_B_order 37 = .ok (.iconst 1, 1) := by decide +kernel
theorem d_B_order_38 : decode b_B_order 38 = .ok (.bipush 20, 2) := by decide +kernel
theorem d_B_order_40 : decode b_B_order 40 = .ok (.invokestatic 85, 3) := by decide +kernel
theorem d_B_order_43 : decode b_B_order 43 = .ok (.ifCond .ne 17, 3) := by decide +kernel
theorem d_B_order_46 : decode b_B_order 46 = .ok (.goto 12, 3) := by decide +kernel
theorem d_B_order_49 : decode b_B_order 49 = .ok (.iload_n 3, 1) := by decide +kernel
theorem d_B_order_50 : decode b_B_order 50 = .ok (.iconst 0, 1) := by decide +kernel
theorem d_B_order_51 : decode b_B_order 51 = .ok (.iconst 3, 1) := by decide +kernel
theorem d_B_order_52 : decode b_B_order 52 = .ok (.invokestatic 85, 3) := by decide +kernel
theorem d_B_order_55 : decode b_B_order 55 = .ok (.ifCond .ne 5, 3) := by decide +kernel
theorem d_B_order_58 : decode b_B_order 58 = .ok (.iconst (-1), 1) := by decide +kernel
theorem d_B_order_59 : decode b_B_order 59 = .ok (.ireturn, 1) := by decide +kernel
theorem d_B_order_60 : decode b_B_order 60 = .ok (.aload_n 0, 1) := by decide +kernel
theorem d_B_order_61 : decode b_B_order 61 = .ok (.getfield 34, 3) := by decide +kernel
theorem d_B_order_64 : decode b_B_order 64 = .ok (.iload_n 1, 1) := by decide +kernel
theorem d_B_order_65 : decode b_B_order 65 = .ok (.iaload, 1) := by decide +kernel
theorem d_B_order_66 : decode b_B_order 66 = .ok (.bipush 8, 2) := by decide +kernel
theorem d_B_order_68 : decode b_B_order 68 = .ok (.if_icmp .ne 6, 3) := by decide +kernel
theorem d_B_order_71 : decode b_B_order 71 = .ok (.bipush (-2), 2) := by decide +kernel
theorem d_B_order_73 : decode b_B_order 73 = .ok (.ireturn, 1) := by decide +kernel
theorem d_B_order_74 : decode b_B_order 74 = .ok (.aload_n 0, 1) := by decide +kernel
theorem d_B_order_75 : decode b_B_order 75 = .ok (.getfield 37, 3) := by decide +kernel
theorem d_B_order_78 : decode b_B_order 78 = .ok (.bipush 8, 2) := by decide +kernel
theorem d_B_order_80 : decode b_B_order 80 = .ok (.iload_n 1, 1) := by decide +kernel
theorem d_B_order_81 : decode b_B_order 81 = .ok (.imul, 1) := by decide +kernel
theorem d_B_order_82 : decode b_B_order 82 = .ok (.aload_n 0, 1) := by decide +kernel
theorem d_B_order_83 : decode b_B_order 83 = .ok (.getfield 34, 3) := by decide +kernel
theorem d_B_order_86 : decode b_B_order 86 = .ok (.iload_n 1, 1) := by decide +kernel
theorem d_B_order_87 : decode b_B_order 87 = .ok (.iaload, 1) := by decide +kernel
theorem d_B_order_88 : decode b_B_order 88 = .ok (.iadd, 1) := by decide +kernel
theorem d_B_order_89 : decode b_B_order 89 = .ok (.iload_n 2, 1) := by decide +kernel
theorem d_B_order_90 : decode b_B_order 90 = .ok (.iastore, 1) := by decide +kernel
theorem d_B_order_91 : decode b_B_order 91 = .ok (.aload_n 0, 1) := by decide +kernel
theorem d_B_order_92 : decode b_B_order 92 = .ok (.getfield 40, 3) := by decide +kernel
theorem d_B_order_95 : decode b_B_order 95 = .ok (.bipush 8, 2) := by decide +kernel
theorem d_B_order_97 : decode b_B_order 97 = .ok (.iload_n 1, 1) := by decide +kernel
theorem d_B_order_98 : decode b_B_order 98 = .ok (.imul, 1) := by decide +kernel
theorem d_B_order_99 : decode b_B_order 99 = .ok (.aload_n 0, 1) := by decide +kernel
theorem d_B_order_100 : decode b_B_order 100 = .ok (.getfield 34, 3) := by decide +kernel
theorem d_B_order_103 : decode b_B_order 103 = .ok (.iload_n 1, 1) := by decide +kernel
theorem d_B_order_104 : decode b_B_order 104 = .ok (.iaload, 1) := by decide +kernel
theorem d_B_order_105 : decode b_B_order 105 = .ok (.iadd, 1) := by decide +kernel
theorem d_B_order_106 : decode b_B_order 106 = .ok (.iload_n 3, 1) := by decide +kernel
theorem d_B_order_107 : decode b_B_order 107 = .ok (.iastore, 1) := by decide +kernel
theorem d_B_order_108 : decode b_B_order 108 = .ok (.aload_n 0, 1) := by decide +kernel
theorem d_B_order_109 : decode b_B_order 109 = .ok (.getfield 34, 3) := by decide +kernel
theorem d_B_order_112 : decode b_B_order 112 = .ok (.iload_n 1, 1) := by decide +kernel
theorem d_B_order_113 : decode b_B_order 113 = .ok (.dup2, 1) := by decide +kernel
theorem d_B_order_114 : decode b_B_order 114 = .ok (.iaload, 1) := by decide +kernel
theorem d_B_order_115 : decode b_B_order 115 = .ok (.iconst 1, 1) := by decide +kernel
theorem d_B_order_116 : decode b_B_order 116 = .ok (.iadd, 1) := by decide +kernel
theorem d_B_order_117 : decode b_B_order 117 = .ok (.iastore, 1) := by decide +kernel
theorem d_B_order_118 : decode b_B_order 118 = .ok (.aload_n 0, 1) := by decide +kernel
theorem d_B_order_119 : decode b_B_order 119 = .ok (.getfield 34, 3) := by decide +kernel
theorem d_B_order_122 : decode b_B_order 122 = .ok (.iload_n 1, 1) := by decide +kernel
theorem d_B_order_123 : decode b_B_order 123 = .ok (.iaload, 1) := by decide +kernel
theorem d_B_order_124 : decode b_B_order 124 = .ok (.ireturn, 1) := by decide +kernel
theorem d_B_action_0 : decode b_B_action 0 = .ok (.iload_n 1, 1) := by decide +kernel
theorem d_B_action_1 : decode b_B_action 1 = .ok (.iconst 0, 1) := by decide +kernel
theorem d_B_action_2 : decode b_B_action 2 = .ok (.iconst 2, 1) := by decide +kernel
theorem d_B_action_3 : decode b_B_action 3 = .ok (.invokestatic 85, 3) := by decide +kernel
theorem d_B_action_6 : decode b_B_action 6 = .ok (.ifCond .eq 12, 3) := by decide +kernel
theorem d_B_action_9 : decode b_B_action 9 = .ok (.iload_n 2, 1) := by decide +kernel
theorem d_B_action_10 : decode b_B_action 10 = .ok (.iconst 0, 1) := by decide +kernel
theorem d_B_action_11 : decode b_B_action 11 = .ok (.iconst 2, 1) := by decide +kernel
theorem d_B_action_12 : decode b_B_action 12 = .ok (.invokestatic 85, 3) := by decide +kernel
theorem d_B_action_15 : decode b_B_action 15 = .ok (.ifCond .ne 5, 3) := by decide +kernel
theorem d_B_action_18 : decode b_B_action 18 = .ok (.iconst (-1), 1) := by decide +kernel
theorem d_B_action_19 : decode b_B_action 19 = .ok (.ireturn, 1) := by decide +kernel
theorem d_B_action_20 : decode b_B_action 20 = .ok (.aload_n 0, 1) := by decide +kernel
theorem d_B_action_21 : decode b_B_action 21 = .ok (.getfield 19, 3) := by decide +kernel
theorem d_B_action_24 : decode b_B_action 24 = .ok (.iload_n 1, 1) := by decide +kernel
theorem d_B_action_25 : decode b_B_action 25 = .ok (.iload_n 2, 1) := by decide +kernel
theorem d_B_action_26 : decode b_B_action 26 = .ok (.iastore, 1) := by decide +kernel
theorem d_B_action_27 : decode b_B_action 27 = .ok (.iconst 0, 1) := by decide +kernel
theorem d_B_action_28 : decode b_B_action 28 = .ok (.ireturn, 1) := by decide +kernel
theorem d_B_on_0 : decode b_B_on 0 = .ok (.iload_n 1, 1) := by decide +kernel
theorem d_B_on_1 : decode b_B_on 1 = .ok (.iconst 0, 1) := by decide +kernel
theorem d_B_on_2 : decode b_B_on 2 = .ok (.iconst 2, 1) := by decide +kernel
theorem d_B_on_3 : decode b_B_on 3 = .ok (.invokestatic 85, 3) := by decide +kernel
theorem d_B_on_6 : decode b_B_on 6 = .ok (.ifCond .eq 13, 3) := by decide +kernel
theorem d_B_on_9 : decode b_B_on 9 = .ok (.aload_n 0, 1) := by decide +kernel
theorem d_B_on_10 : decode b_B_on 10 = .ok (.getfield 16, 3) := by decide +kernel
theorem d_B_on_13 : decode b_B_on 13 = .ok (.iload_n 1, 1) := by decide +kernel
theorem d_B_on_14 : decode b_B_on 14 = .ok (.iaload, 1) := by decide +kernel
theorem d_B_on_15 : decode b_B_on 15 = .ok (.iconst 1, 1) := by decide +kernel
theorem d_B_on_16 : decode b_B_on 16 = .ok (.if_icmp .ne 5, 3) := by decide +kernel
theorem d_B_on_19 : decode b_B_on 19 = .ok (.iconst (-1), 1) := by decide +kernel
theorem d_B_on_20 : decode b_B_on 20 = .ok (.ireturn, 1) := by decide +kernel
theorem d_B_on_21 : decode b_B_on 21 = .ok (.aload_n 0, 1) := by decide +kernel
theorem d_B_on_22 : decode b_B_on 22 = .ok (.getfield 16, 3) := by decide +kernel
theorem d_B_on_25 : decode b_B_on 25 = .ok (.iload_n 1, 1) := by decide +kernel
theorem d_B_on_26 : decode b_B_on 26 = .ok (.iconst 1, 1) := by decide +kernel
theorem d_B_on_27 : decode b_B_on 27 = .ok (.iastore, 1) := by decide +kernel
theorem d_B_on_28 : decode b_B_on 28 = .ok (.iconst 0, 1) := by decide +kernel
theorem d_B_on_29 : decode b_B_on 29 = .ok (.istore_n 2, 1) := by decide +kernel
theorem d_B_on_30 : decode b_B_on 30 = .ok (.iload_n 2, 1) := by decide +kernel
theorem d_B_on_31 : decode b_B_on 31 = .ok (.aload_n 0, 1) := by decide +kernel
theorem d_B_on_32 : decode b_B_on 32 = .ok (.getfield 97, 3) := by decide +kernel
theorem d_B_on_35 : decode b_B_on 35 = .ok (.if_icmp .ge 46, 3) := by decide +kernel
theorem d_B_on_38 : decode b_B_on 38 = .ok (.aload_n 0, 1) := by decide +kernel
theorem d_B_on_39 : decode b_B_on 39 = .ok (.getfield 22, 3) := by decide +kernel
theorem d_B_on_42 : decode b_B_on 42 = .ok (.iload_n 2, 1) := by decide +kernel
theorem d_B_on_43 : decode b_B_on 43 = .ok (.iaload, 1) := by decide +kernel
theorem d_B_on_44 : decode b_B_on 44 = .ok (.iload_n 1, 1) := by decide +kernel
theorem d_B_on_45 : decode b_B_on 45 = .ok (.if_icmp .eq 6, 3) := by decide +kernel
theorem d_B_on_48 : decode b_B_on 48 = .ok (.goto 27, 3) := by decide +kernel
theorem d_B_on_51 : decode b_B_on 51 = .ok (.aload_n 0, 1) := by decide +kernel
theorem d_B_on_52 : decode b_B_on 52 = .ok (.iload_n 2, 1) := by decide +kernel
theorem d_B_on_53 : decode b_B_on 53 = .ok (.invokevirtual 100, 3) := by decide +kernel
theorem d_B_on_56 : decode b_B_on 56 = .ok (.aload_n 0, 1) := by decide +kernel
theorem d_B_on_57 : decode b_B_on 57 = .ok (.getfield 28, 3) := by decide +kernel
theorem d_B_on_60 : decode b_B_on 60 = .ok (.iload_n 2, 1) := by decide +kernel
theorem d_B_on_61 : decode b_B_on 61 = .ok (.iaload, 1) := by decide +kernel
theorem d_B_on_62 : decode b_B_on 62 = .ok (.ifCond .le 13, 3) := by decide +kernel
theorem d_B_on_65 : decode b_B_on 65 = .ok (.aload_n 0, 1) := by decide +kernel
theorem d_B_on_66 : decode b_B_on 66 = .ok (.getfield 70, 3) := by decide +kernel
theorem d_B_on_69 : decode b_B_on 69 = .ok (.iload_n 2, 1) := by decide +kernel
theorem d_B_on_70 : decode b_B_on 70 = .ok (.aload_n 0, 1) := by decide +kernel
theorem d_B_on_71 : decode b_B_on 71 = .ok (.getfield 104, 3) := by decide +kernel
theorem d_B_on_74 : decode b_B_on 74 = .ok (.iastore, 1) := by decide +kernel
theorem d_B_on_75 : decode b_B_on 75 = .ok (.iinc 2 1, 3) := by decide +kernel
theorem d_B_on_78 : decode b_B_on 78 = .ok (.goto (-48), 3) := by decide +kernel
theorem d_B_on_81 : decode b_B_on 81 = .ok (.iconst 0, 1) := by decide +kernel
theorem d_B_on_82 : decode b_B_on 82 = .ok (.ireturn, 1) := by decide +kernel
theorem d_B_rest_0 : decode b_B_rest 0 = .ok (.aload_n 0, 1) := by decide +kernel
theorem d_B_rest_1 : decode b_B_rest 1 = .ok (.getfield 43, 3) := by decide +kernel
theorem d_B_rest_4 : decode b_B_rest 4 = .ok (.iload_n 1, 1) := by decide +kernel
theorem d_B_rest_5 : decode b_B_rest 5 = .ok (.iconst 0, 1) := by decide +kernel
theorem d_B_rest_6 : decode b_B_rest 6 = .ok (.iastore, 1) := by decide +kernel
theorem d_B_rest_7 : decode b_B_rest 7 = .ok (.aload_n 0, 1) := by decide +kernel
theorem d_B_rest_8 : decode b_B_rest 8 = .ok (.getfield 46, 3) := by decide +kernel
theorem d_B_rest_11 : decode b_B_rest 11 = .ok (.iload_n 1, 1) := by decide +kernel
theorem d_B_rest_12 : decode b_B_rest 12 = .ok (.iconst 0, 1) := by decide +kernel
theorem d_B_rest_13 : decode b_B_rest 13 = .ok (.iastore, 1) := by decide +kernel
theorem d_B_rest_14 : decode b_B_rest 14 = .ok (.aload_n 0, 1) := by decide +kernel
theorem d_B_rest_15 : decode b_B_rest 15 = .ok (.getfield 49, 3) := by decide +kernel
theorem d_B_rest_18 : decode b_B_rest 18 = .ok (.iload_n 1, 1) := by decide +kernel
theorem d_B_rest_19 : decode b_B_rest 19 = .ok (.iconst 0, 1) := by decide +kernel
theorem d_B_rest_20 : decode b_B_rest 20 = .ok (.iastore, 1) := by decide +kernel
theorem d_B_rest_21 : decode b_B_rest 21 = .ok (.aload_n 0, 1) := by decide +kernel
theorem d_B_rest_22 : decode b_B_rest 22 = .ok (.getfield 55, 3) := by decide +kernel
theorem d_B_rest_25 : decode b_B_rest 25 = .ok (.iload_n 1, 1) := by decide +kernel
theorem d_B_rest_26 : decode b_B_rest 26 = .ok (.iconst (-1), 1) := by decide +kernel
theorem d_B_rest_27 : decode b_B_rest 27 = .ok (.iastore, 1) := by decide +kernel
theorem d_B_rest_28 : decode b_B_rest 28 = .ok (.return_, 1) := by decide +kernel
theorem d_B_start_0 : decode b_B_start 0 = .ok (.iload_n 1, 1) := by decide +kernel
theorem d_B_start_1 : decode b_B_start 1 = .ok (.iconst 0, 1) := by decide +kernel
theorem d_B_start_2 : decode b_B_start 2 = .ok (.aload_n 0, 1) := by decide +kernel
theorem d_B_start_3 : decode b_B_start 3 = .ok (.getfield 97, 3) := by decide +kernel
theorem d_B_start_6 : decode b_B_start 6 = .ok (.iconst 1, 1) := by decide +kernel
theorem d_B_start_7 : decode b_B_start 7 = .ok (.isub, 1) := by decide +kernel
theorem d_B_start_8 : decode b_B_start 8 = .ok (.invokestatic 85, 3) := by decide +kernel
theorem d_B_start_11 : decode b_B_start 11 = .ok (.ifCond .eq 36, 3) := by decide +kernel
theorem d_B_start_14 : decode b_B_start 14 = .ok (.aload_n 0, 1) := by decide +kernel
theorem d_B_start_15 : decode b_B_start 15 = .ok (.getfield 28, 3) := by decide +kernel
theorem d_B_start_18 : decode b_B_start 18 = .ok (.iload_n 1, 1) := by decide +kernel
theorem d_B_start_19 : decode b_B_start 19 = .ok (.iaload, 1) := by decide +kernel
theorem d_B_start_20 : decode b_B_start 20 = .ok (.ifCond .gt 27, 3) := by decide +kernel
theorem d_B_start_23 : decode b_B_start 23 = .ok (.aload_n 0, 1) := by decide +kernel
theorem d_B_start_24 : decode b_B_start 24 = .ok (.getfield 43, 3) := by decide +kernel
theorem d_B_start_27 : decode b_B_start 27 = .ok (.iload_n 1, 1) := by decide +kernel
theorem d_B_start_28 : decode b_B_start 28 = .ok (.iaload, 1) := by decide +kernel
theorem d_B_start_29 : decode b_B_start 29 = .ok (.ifCond .ne 18, 3) := by decide +kernel
theorem d_B_start_32 : decode b_B_start 32 = .ok (.aload_n 0, 1) := by decide +kernel
theorem d_B_start_33 : decode b_B_start 33 = .ok (.getfield 16, 3) := by decide +kernel
theorem d_B_start_36 : decode b_B_start 36 = .ok (.aload_n 0, 1) := by decide +kernel
theorem d_B_start_37 : decode b_B_start 37 = .ok (.getfield 22, 3) := by decide +kernel
theorem d_B_start_40 : decode b_B_start 40 = .ok (.iload_n 1, 1) := by decide +kernel
theorem d_B_start_41 : decode b_B_start 41 = .ok (.iaload, 1) := by decide +kernel
theorem d_B_start_42 : decode b_B_start 42 = .ok (.iaload, 1) := by decide +kernel
theorem d_B_start_43 : decode b_B_start 43 = .ok (.iconst 1, 1) := by decide +kernel
theorem d_B_start_44 : decode b_B_start 44 = .ok (.if_icmp .eq 5, 3) := by decide +kernel
theorem d_B_start_47 : decode b_B_start 47 = .ok (.iconst (-1), 1) := by decide +kernel
theorem d_B_start_48 : decode b_B_start 48 = .ok (.ireturn, 1) := by decide +kernel
theorem d_B_start_49 : decode b_B_start 49 = .ok (.aload_n 0, 1) := by decide +kernel
theorem d_B_start_50 : decode b_B_start 50 = .ok (.iload_n 1, 1) := by decide +kernel
theorem d_B_start_51 : decode b_B_start 51 = .ok (.invokevirtual 114, 3) := by decide +kernel
theorem d_B_start_54 : decode b_B_start 54 = .ok (.iconst 0, 1) := by decide +kernel
theorem d_B_start_55 : decode b_B_start 55 = .ok (.ireturn, 1) := by decide +kernel
theorem d_B_release_0 : decode b_B_release 0 = .ok (.aload_n 0, 1) := by decide +kernel
theorem d_B_release_1 : decode b_B_release 1 = .ok (.getfield 52, 3) := by decide +kernel
theorem d_B_release_4 : decode b_B_release 4 = .ok (.iload_n 1, 1) := by decide +kernel
theorem d_B_release_5 : decode b_B_release 5 = .ok (.dup2, 1) := by decide +kernel
theorem d_B_release_6 : decode b_B_release 6 = .ok (.iaload, 1) := by decide +kernel
theorem d_B_release_7 : decode b_B_release 7 = .ok (.iconst 1, 1) := by decide +kernel
theorem d_B_release_8 : decode b_B_release 8 = .ok (.iadd, 1) := by decide +kernel
theorem d_B_release_9 : decode b_B_release 9 = .ok (.iastore, 1) := by decide +kernel
theorem d_B_release_10 : decode b_B_release 10 = .ok (.aload_n 0, 1) := by decide +kernel
theorem d_B_release_11 : decode b_B_release 11 = .ok (.getfield 34, 3) := by decide +kernel
theorem d_B_release_14 : decode b_B_release 14 = .ok (.iload_n 1, 1) := by decide +kernel
theorem d_B_release_15 : decode b_B_release 15 = .ok (.iaload, 1) := by decide +kernel
theorem d_B_release_16 : decode b_B_release 16 = .ok (.ifCond .ne 4, 3) := by decide +kernel
theorem d_B_release_19 : decode b_B_release 19 = .ok (.return_, 1) := by decide +kernel
theorem d_B_release_20 : decode b_B_release 20 = .ok (.aload_n 0, 1) := by decide +kernel
theorem d_B_release_21 : decode b_B_release 21 = .ok (.getfield 46, 3) := by decide +kernel
theorem d_B_release_24 : decode b_B_release 24 = .ok (.iload_n 1, 1) := by decide +kernel
theorem d_B_release_25 : decode b_B_release 25 = .ok (.iconst 0, 1) := by decide +kernel
theorem d_B_release_26 : decode b_B_release 26 = .ok (.iastore, 1) := by decide +kernel
theorem d_B_release_27 : decode b_B_release 27 = .ok (.aload_n 0, 1) := by decide +kernel
theorem d_B_release_28 : decode b_B_release 28 = .ok (.getfield 49, 3) := by decide +kernel
theorem d_B_release_31 : decode b_B_release 31 = .ok (.iload_n 1, 1) := by decide +kernel
theorem d_B_release_32 : decode b_B_release 32 = .ok (.iconst 0, 1) := by decide +kernel
theorem d_B_release_33 : decode b_B_release 33 = .ok (.iastore, 1) := by decide +kernel
theorem d_B_release_34 : decode b_B_release 34 = .ok (.aload_n 0, 1) := by decide +kernel
theorem d_B_release_35 : decode b_B_release 35 = .ok (.getfield 55, 3) := by decide +kernel
theorem d_B_release_38 : decode b_B_release 38 = .ok (.iload_n 1, 1) := by decide +kernel
theorem d_B_release_39 : decode b_B_release 39 = .ok (.aload_n 0, 1) := by decide +kernel
theorem d_B_release_40 : decode b_B_release 40 = .ok (.getfield 31, 3) := by decide +kernel
theorem d_B_release_43 : decode b_B_release 43 = .ok (.iload_n 1, 1) := by decide +kernel
theorem d_B_release_44 : decode b_B_release 44 = .ok (.iaload, 1) := by decide +kernel
theorem d_B_release_45 : decode b_B_release 45 = .ok (.ifCond .le 17, 3) := by decide +kernel
theorem d_B_release_48 : decode b_B_release 48 = .ok (.aload_n 0, 1) := by decide +kernel
theorem d_B_release_49 : decode b_B_release 49 = .ok (.getfield 104, 3) := by decide +kernel
theorem d_B_release_52 : decode b_B_release 52 = .ok (.aload_n 0, 1) := by decide +kernel
theorem d_B_release_53 : decode b_B_release 53 = .ok (.getfield 31, 3) := by decide +kernel
theorem d_B_release_56 : decode b_B_release 56 = .ok (.iload_n 1, 1) := by decide +kernel
theorem d_B_release_57 : decode b_B_release 57 = .ok (.iaload, 1) := by decide +kernel
theorem d_B_release_58 : decode b_B_release 58 = .ok (.iadd, 1) := by decide +kernel
theorem d_B_release_59 : decode b_B_release 59 = .ok (.goto 4, 3) := by decide +kernel
theorem d_B_release_62 : decode b_B_release 62 = .ok (.iconst (-1), 1) := by decide +kernel
theorem d_B_release_63 : decode b_B_release 63 = .ok (.iastore, 1) := by decide +kernel
theorem d_B_release_64 : decode b_B_release 64 = .ok (.aload_n 0, 1) := by decide +kernel
theorem d_B_release_65 : decode b_B_release 65 = .ok (.iload_n 1, 1) := by decide +kernel
theorem d_B_release_66 : decode b_B_release 66 = .ok (.iconst 1, 1) := by decide +kernel
theorem d_B_release_67 : decode b_B_release 67 = .ok (.invokevirtual 110, 3) := by decide +kernel
theorem d_B_release_70 : decode b_B_release 70 = .ok (.return_, 1) := by decide +kernel
theorem d_B_become_0 : decode b_B_become 0 = .ok (.aload_n 0, 1) := by decide +kernel
theorem d_B_become_1 : decode b_B_become 1 = .ok (.getfield 43, 3) := by decide +kernel
theorem d_B_become_4 : decode b_B_become 4 = .ok (.iload_n 1, 1) := by decide +kernel
theorem d_B_become_5 : decode b_B_become 5 = .ok (.iload_n 2, 1) := by decide +kernel
theorem d_B_become_6 : decode b_B_become 6 = .ok (.iastore, 1) := by decide +kernel
theorem d_B_become_7 : decode b_B_become 7 = .ok (.aload_n 0, 1) := by decide +kernel
theorem d_B_become_8 : decode b_B_become 8 = .ok (.dup, 1) := by decide +kernel
theorem d_B_become_9 : decode b_B_become 9 = .ok (.getfield 107, 3) := by decide +kernel
theorem d_B_become_12 : decode b_B_become 12 = .ok (.iconst 1, 1) := by decide +kernel
theorem d_B_become_13 : decode b_B_become 13 = .ok (.iadd, 1) := by decide +kernel
theorem d_B_become_14 : decode b_B_become 14 = .ok (.putfield 107, 3) := by decide +kernel
theorem d_B_become_17 : decode b_B_become 17 = .ok (.aload_n 0, 1) := by decide +kernel
theorem d_B_become_18 : decode b_B_become 18 = .ok (.getfield 73, 3) := by decide +kernel
theorem d_B_become_21 : decode b_B_become 21 = .ok (.iload_n 1, 1) := by decide +kernel
theorem d_B_become_22 : decode b_B_become 22 = .ok (.aload_n 0, 1) := by decide +kernel
theorem d_B_become_23 : decode b_B_become 23 = .ok (.getfield 107, 3) := by decide +kernel
theorem d_B_become_26 : decode b_B_become 26 = .ok (.iastore, 1) := by decide +kernel
theorem d_B_become_27 : decode b_B_become 27 = .ok (.return_, 1) := by decide +kernel
theorem d_B_run_0 : decode b_B_run 0 = .ok (.iload_n 1, 1) := by decide +kernel
theorem d_B_run_1 : decode b_B_run 1 = .ok (.iconst 1, 1) := by decide +kernel
theorem d_B_run_2 : decode b_B_run 2 = .ok (.bipush 60, 2) := by decide +kernel
theorem d_B_run_4 : decode b_B_run 4 = .ok (.invokestatic 85, 3) := by decide +kernel
theorem d_B_run_7 : decode b_B_run 7 = .ok (.ifCond .ne 5, 3) := by decide +kernel
theorem d_B_run_10 : decode b_B_run 10 = .ok (.iconst (-1), 1) := by decide +kernel
theorem d_B_run_11 : decode b_B_run 11 = .ok (.ireturn, 1) := by decide +kernel
theorem d_B_run_12 : decode b_B_run 12 = .ok (.iconst 0, 1) := by decide +kernel
theorem d_B_run_13 : decode b_B_run 13 = .ok (.istore_n 2, 1) := by decide +kernel
theorem d_B_run_14 : decode b_B_run 14 = .ok (.iload_n 2, 1) := by decide +kernel
theorem d_B_run_15 : decode b_B_run 15 = .ok (.iload_n 1, 1) := by decide +kernel
theorem d_B_run_16 : decode b_B_run 16 = .ok (.if_icmp .ge 107, 3) := by decide +kernel
theorem d_B_run_19 : decode b_B_run 19 = .ok (.aload_n 0, 1) := by decide +kernel
theorem d_B_run_20 : decode b_B_run 20 = .ok (.invokevirtual 142, 3) := by decide +kernel
theorem d_B_run_23 : decode b_B_run 23 = .ok (.aload_n 0, 1) := by decide +kernel
theorem d_B_run_24 : decode b_B_run 24 = .ok (.invokevirtual 145, 3) := by decide +kernel
theorem d_B_run_27 : decode b_B_run 27 = .ok (.aload_n 0, 1) := by decide +kernel
theorem d_B_run_28 : decode b_B_run 28 = .ok (.iconst 0, 1) := by decide +kernel
theorem d_B_run_29 : decode b_B_run 29 = .ok (.invokevirtual 148, 3) := by decide +kernel
theorem d_B_run_32 : decode b_B_run 32 = .ok (.istore_n 3, 1) := by decide +kernel
theorem d_B_run_33 : decode b_B_run 33 = .ok (.iload_n 3, 1) := by decide +kernel
theorem d_B_run_34 : decode b_B_run 34 = .ok (.ifCond .lt 73, 3) := by decide +kernel
theorem d_B_run_37 : decode b_B_run 37 = .ok (.aload_n 0, 1) := by decide +kernel
theorem d_B_run_38 : decode b_B_run 38 = .ok (.getfield 16, 3) := by decide +kernel
theorem d_B_run_41 : decode b_B_run 41 = .ok (.iload_n 3, 1) := by decide +kernel
theorem d_B_run_42 : decode b_B_run 42 = .ok (.iaload, 1) := by decide +kernel
theorem d_B_run_43 : decode b_B_run 43 = .ok (.iconst 1, 1) := by decide +kernel
theorem d_B_run_44 : decode b_B_run 44 = .ok (.if_icmp .ne 63, 3) := by decide +kernel
theorem d_B_run_47 : decode b_B_run 47 = .ok (.iconst 0, 1) := by decide +kernel
theorem d_B_run_48 : decode b_B_run 48 = .ok (.istore 4, 2) := by decide +kernel
theorem d_B_run_50 : decode b_B_run 50 = .ok (.aload_n 0, 1) := by decide +kernel
theorem d_B_run_51 : decode b_B_run 51 = .ok (.iconst 0, 1) := by decide +kernel
theorem d_B_run_52 : decode b_B_run 52 = .ok (.iload_n 3, 1) := by decide +kernel
theorem d_B_run_53 : decode b_B_run 53 = .ok (.invokevirtual 120, 3) := by decide +kernel
theorem d_B_run_56 : decode b_B_run 56 = .ok (.istore 5, 2) := by decide +kernel
theorem d_B_run_58 : decode b_B_run 58 = .ok (.iload 4, 2) := by decide +kernel
theorem d_B_run_60 : decode b_B_run 60 = .ok (.ifCond .ne 32, 3) := by decide +kernel
theorem d_B_run_63 : decode b_B_run 63 = .ok (.iload 5, 2) := by decide +kernel
theorem d_B_run_65 : decode b_B_run 65 = .ok (.ifCond .lt 27, 3) := by decide +kernel
theorem d_B_run_68 : decode b_B_run 68 = .ok (.aload_n 0, 1) := by decide +kernel
theorem d_B_run_69 : decode b_B_run 69 = .ok (.iload 5, 2) := by decide +kernel
theorem d_B_run_71 : decode b_B_run 71 = .ok (.invokevirtual 152, 3) := by decide +kernel
theorem d_B_run_74 : decode b_B_run 74 = .ok (.istore 4, 2) := by decide +kernel
theorem d_B_run_76 : decode b_B_run 76 = .ok (.iload 4, 2) := by decide +kernel
theorem d_B_run_78 : decode b_B_run 78 = .ok (.ifCond .ne (-20), 3) := by decide +kernel
theorem d_B_run_81 : decode b_B_run 81 = .ok (.aload_n 0, 1) := by decide +kernel
theorem d_B_run_82 : decode b_B_run 82 = .ok (.iconst 0, 1) := by decide +kernel
theorem d_B_run_83 : decode b_B_run 83 = .ok (.iload_n 3, 1) := by decide +kernel
theorem d_B_run_84 : decode b_B_run 84 = .ok (.invokevirtual 120, 3) := by decide +kernel
theorem d_B_run_87 : decode b_B_run 87 = .ok (.istore 5, 2) := by decide +kernel
theorem d_B_run_89 : decode b_B_run 89 = .ok (.goto (-31), 3) := by decide +kernel
theorem d_B_run_92 : decode b_B_run 92 = .ok (.iload 4, 2) := by decide +kernel
theorem d_B_run_94 : decode b_B_run 94 = .ok (.ifCond .ne 13, 3) := by decide +kernel
theorem d_B_run_97 : decode b_B_run 97 = .ok (.aload_n 0, 1) := by decide +kernel
theorem d_B_run_98 : decode b_B_run 98 = .ok (.dup, 1) := by decide +kernel
theorem d_B_run_99 : decode b_B_run 99 = .ok (.getfield 156, 3) := by decide +kernel
theorem d_B_run_102 : decode b_B_run 102 = .ok (.iconst 1, 1) := by decide +kernel
theorem d_B_run_103 : decode b_B_run 103 = .ok (.iadd, 1) := by decide +kernel
theorem d_B_run_104 : decode b_B_run 104 = .ok (.putfield 156, 3) := by decide +kernel
theorem d_B_run_107 : decode b_B_run 107 = .ok (.aload_n 0, 1) := by decide +kernel
theorem d_B_run_108 : decode b_B_run 108 = .ok (.dup, 1) := by decide +kernel
theorem d_B_run_109 : decode b_B_run 109 = .ok (.getfield 104, 3) := by decide +kernel
theorem d_B_run_112 : decode b_B_run 112 = .ok (.iconst 1, 1) := by decide +kernel
theorem d_B_run_113 : decode b_B_run 113 = .ok (.iadd, 1) := by decide +kernel
theorem d_B_run_114 : decode b_B_run 114 = .ok (.putfield 104, 3) := by decide +kernel
theorem d_B_run_117 : decode b_B_run 117 = .ok (.iinc 2 1, 3) := by decide +kernel
theorem d_B_run_120 : decode b_B_run 120 = .ok (.goto (-106), 3) := by decide +kernel
theorem d_B_run_123 : decode b_B_run 123 = .ok (.aload_n 0, 1) := by decide +kernel
theorem d_B_run_124 : decode b_B_run 124 = .ok (.getfield 104, 3) := by decide +kernel
theorem d_B_run_127 : decode b_B_run 127 = .ok (.ireturn, 1) := by decide +kernel
theorem d_B_releases_0 : decode b_B_releases 0 = .ok (.iconst 0, 1) := by decide +kernel
theorem d_B_releases_1 : decode b_B_releases 1 = .ok (.istore_n 1, 1) := by decide +kernel
theorem d_B_releases_2 : decode b_B_releases 2 = .ok (.iload_n 1, 1) := by decide +kernel
theorem d_B_releases_3 : decode b_B_releases 3 = .ok (.aload_n 0, 1) := by decide +kernel
theorem d_B_releases_4 : decode b_B_releases 4 = .ok (.getfield 97, 3) := by decide +kernel
theorem d_B_releases_7 : decode b_B_releases 7 = .ok (.if_icmp .ge 91, 3) := by decide +kernel
theorem d_B_releases_10 : decode b_B_releases 10 = .ok (.aload_n 0, 1) := by decide +kernel
theorem d_B_releases_11 : decode b_B_releases 11 = .ok (.getfield 16, 3) := by decide +kernel
theorem d_B_releases_14 : decode b_B_releases 14 = .ok (.aload_n 0, 1) := by decide +kernel
theorem d_B_releases_15 : decode b_B_releases 15 = .ok (.getfield 22, 3) := by decide +kernel
theorem d_B_releases_18 : decode b_B_releases 18 = .ok (.iload_n 1, 1) := by decide +kernel
theorem d_B_releases_19 : decode b_B_releases 19 = .ok (.iaload, 1) := by decide +kernel
theorem d_B_releases_20 : decode b_B_releases 20 = .ok (.iaload, 1) := by decide +kernel
theorem d_B_releases_21 : decode b_B_releases 21 = .ok (.iconst 1, 1) := by decide +kernel
theorem d_B_releases_22 : decode b_B_releases 22 = .ok (.if_icmp .ne 70, 3) := by decide +kernel
theorem d_B_releases_25 : decode b_B_releases 25 = .ok (.aload_n 0, 1) := by decide +kernel
theorem d_B_releases_26 : decode b_B_releases 26 = .ok (.getfield 28, 3) := by decide +kernel
theorem d_B_releases_29 : decode b_B_releases 29 = .ok (.iload_n 1, 1) := by decide +kernel
theorem d_B_releases_30 : decode b_B_releases 30 = .ok (.iaload, 1) := by decide +kernel
theorem d_B_releases_31 : decode b_B_releases 31 = .ok (.ifCond .eq 61, 3) := by decide +kernel
theorem d_B_releases_34 : decode b_B_releases 34 = .ok (.aload_n 0, 1) := by decide +kernel
theorem d_B_releases_35 : decode b_B_releases 35 = .ok (.getfield 70, 3) := by decide +kernel
theorem d_B_releases_38 : decode b_B_releases 38 = .ok (.iload_n 1, 1) := by decide +kernel
theorem d_B_releases_39 : decode b_B_releases 39 = .ok (.iaload, 1) := by decide +kernel
theorem d_B_releases_40 : decode b_B_releases 40 = .ok (.aload_n 0, 1) := by decide +kernel
theorem d_B_releases_41 : decode b_B_releases 41 = .ok (.getfield 104, 3) := by decide +kernel
theorem d_B_releases_44 : decode b_B_releases 44 = .ok (.if_icmp .eq 6, 3) := by decide +kernel
theorem d_B_releases_47 : decode b_B_releases 47 = .ok (.goto 45, 3) := by decide +kernel
theorem d_B_releases_50 : decode b_B_releases 50 = .ok (.aload_n 0, 1) := by decide +kernel
theorem d_B_releases_51 : decode b_B_releases 51 = .ok (.getfield 43, 3) := by decide +kernel
theorem d_B_releases_54 : decode b_B_releases 54 = .ok (.iload_n 1, 1) := by decide +kernel
theorem d_B_releases_55 : decode b_B_releases 55 = .ok (.iaload, 1) := by decide +kernel
theorem d_B_releases_56 : decode b_B_releases 56 = .ok (.ifCond .ne 11, 3) := by decide +kernel
theorem d_B_releases_59 : decode b_B_releases 59 = .ok (.aload_n 0, 1) := by decide +kernel
theorem d_B_releases_60 : decode b_B_releases 60 = .ok (.iload_n 1, 1) := by decide +kernel
theorem d_B_releases_61 : decode b_B_releases 61 = .ok (.invokevirtual 114, 3) := by decide +kernel
theorem d_B_releases_64 : decode b_B_releases 64 = .ok (.goto 13, 3) := by decide +kernel
theorem d_B_releases_67 : decode b_B_releases 67 = .ok (.aload_n 0, 1) := by decide +kernel
theorem d_B_releases_68 : decode b_B_releases 68 = .ok (.getfield 61, 3) := by decide +kernel
theorem d_B_releases_71 : decode b_B_releases 71 = .ok (.iload_n 1, 1) := by decide +kernel
theorem d_B_releases_72 : decode b_B_releases 72 = .ok (.dup2, 1) := by decide +kernel
theorem d_B_releases_73 : decode b_B_releases 73 = .ok (.iaload, 1) := by decide +kernel
theorem d_B_releases_74 : decode b_B_releases 74 = .ok (.iconst 1, 1) := by decide +kernel
theorem d_B_releases_75 : decode b_B_releases 75 = .ok (.iadd, 1) := by decide +kernel
theorem d_B_releases_76 : decode b_B_releases 76 = .ok (.iastore, 1) := by decide +kernel
theorem d_B_releases_77 : decode b_B_releases 77 = .ok (.aload_n 0, 1) := by decide +kernel
theorem d_B_releases_78 : decode b_B_releases 78 = .ok (.getfield 70, 3) := by decide +kernel
theorem d_B_releases_81 : decode b_B_releases 81 = .ok (.iload_n 1, 1) := by decide +kernel
theorem d_B_releases_82 : decode b_B_releases 82 = .ok (.dup2, 1) := by decide +kernel
theorem d_B_releases_83 : decode b_B_releases 83 = .ok (.iaload, 1) := by decide +kernel
theorem d_B_releases_84 : decode b_B_releases 84 = .ok (.aload_n 0, 1) := by decide +kernel
theorem d_B_releases_85 : decode b_B_releases 85 = .ok (.getfield 28, 3) := by decide +kernel
theorem d_B_releases_88 : decode b_B_releases 88 = .ok (.iload_n 1, 1) := by decide +kernel
theorem d_B_releases_89 : decode b_B_releases 89 = .ok (.iaload, 1) := by decide +kernel
theorem d_B_releases_90 : decode b_B_releases 90 = .ok (.iadd, 1) := by decide +kernel
theorem d_B_releases_91 : decode b_B_releases 91 = .ok (.iastore, 1) := by decide +kernel
theorem d_B_releases_92 : decode b_B_releases 92 = .ok (.iinc 1 1, 3) := by decide +kernel
theorem d_B_releases_95 : decode b_B_releases 95 = .ok (.goto (-93), 3) := by decide +kernel
theorem d_B_releases_98 : decode b_B_releases 98 = .ok (.return_, 1) := by decide +kernel
theorem d_B_monitor_0 : decode b_B_monitor 0 = .ok (.iconst 0, 1) := by decide +kernel
theorem d_B_monitor_1 : decode b_B_monitor 1 = .ok (.istore_n 1, 1) := by decide +kernel
theorem d_B_monitor_2 : decode b_B_monitor 2 = .ok (.iload_n 1, 1) := by decide +kernel
theorem d_B_monitor_3 : decode b_B_monitor 3 = .ok (.aload_n 0, 1) := by decide +kernel
theorem d_B_monitor_4 : decode b_B_monitor 4 = .ok (.getfield 97, 3) := by decide +kernel
theorem d_B_monitor_7 : decode b_B_monitor 7 = .ok (.if_icmp .ge 146, 3) := by decide +kernel
theorem d_B_monitor_10 : decode b_B_monitor 10 = .ok (.aload_n 0, 1) := by decide +kernel
theorem d_B_monitor_11 : decode b_B_monitor 11 = .ok (.getfield 22, 3) := by decide +kernel
theorem d_B_monitor_14 : decode b_B_monitor 14 = .ok (.iload_n 1, 1) := by decide +kernel
theorem d_B_monitor_15 : decode b_B_monitor 15 = .ok (.iaload, 1) := by decide +kernel
theorem d_B_monitor_16 : decode b_B_monitor 16 = .ok (.istore_n 2, 1) := by decide +kernel
theorem d_B_monitor_17 : decode b_B_monitor 17 = .ok (.aload_n 0, 1) := by decide +kernel
theorem d_B_monitor_18 : decode b_B_monitor 18 = .ok (.getfield 16, 3) := by decide +kernel
theorem d_B_monitor_21 : decode b_B_monitor 21 = .ok (.iload_n 2, 1) := by decide +kernel
theorem d_B_monitor_22 : decode b_B_monitor 22 = .ok (.iaload, 1) := by decide +kernel
theorem d_B_monitor_23 : decode b_B_monitor 23 = .ok (.iconst 1, 1) := by decide +kernel
theorem d_B_monitor_24 : decode b_B_monitor 24 = .ok (.if_icmp .ne 123, 3) := by decide +kernel
theorem d_B_monitor_27 : decode b_B_monitor 27 = .ok (.aload_n 0, 1) := by decide +kernel
theorem d_B_monitor_28 : decode b_B_monitor 28 = .ok (.getfield 43, 3) := by decide +kernel
theorem d_B_monitor_31 : decode b_B_monitor 31 = .ok (.iload_n 1, 1) := by decide +kernel
theorem d_B_monitor_32 : decode b_B_monitor 32 = .ok (.iaload, 1) := by decide +kernel
theorem d_B_monitor_33 : decode b_B_monitor 33 = .ok (.ifCond .eq 114, 3) := by decide +kernel
theorem d_B_monitor_36 : decode b_B_monitor 36 = .ok (.aload_n 0, 1) := by decide +kernel
theorem d_B_monitor_37 : decode b_B_monitor 37 = .ok (.getfield 55, 3) := by decide +kernel
theorem d_B_monitor_40 : decode b_B_monitor 40 = .ok (.iload_n 1, 1) := by decide +kernel
theorem d_B_monitor_41 : decode b_B_monitor 41 = .ok (.iaload, 1) := by decide +kernel
theorem d_B_monitor_42 : decode b_B_monitor 42 = .ok (.aload_n 0, 1) := by decide +kernel
theorem d_B_monitor_43 : decode b_B_monitor 43 = .ok (.getfield 104, 3) := by decide +kernel
theorem d_B_monitor_46 : decode b_B_monitor 46 = .ok (.if_icmp .eq 6, 3) := by decide +kernel
theorem d_B_monitor_49 : decode b_B_monitor 49 = .ok (.goto 98, 3) := by decide +kernel
theorem d_B_monitor_52 : decode b_B_monitor 52 = .ok (.aload_n 0, 1) := by decide +kernel
theorem d_B_monitor_53 : decode b_B_monitor 53 = .ok (.getfield 58, 3) := by decide +kernel
theorem d_B_monitor_56 : decode b_B_monitor 56 = .ok (.iload_n 1, 1) := by decide +kernel
theorem d_B_monitor_57 : decode b_B_monitor 57 = .ok (.dup2, 1) := by decide +kernel
theorem d_B_monitor_58 : decode b_B_monitor 58 = .ok (.iaload, 1) := by decide +kernel
theorem d_B_monitor_59 : decode b_B_monitor 59 = .ok (.iconst 1, 1) := by decide +kernel
theorem d_B_monitor_60 : decode b_B_monitor 60 = .ok (.iadd, 1) := by decide +kernel
theorem d_B_monitor_61 : decode b_B_monitor 61 = .ok (.iastore, 1) := by decide +kernel
theorem d_B_monitor_62 : decode b_B_monitor 62 = .ok (.aload_n 0, 1) := by decide +kernel
theorem d_B_monitor_63 : decode b_B_monitor 63 = .ok (.getfield 55, 3) := by decide +kernel
theorem d_B_monitor_66 : decode b_B_monitor 66 = .ok (.iload_n 1, 1) := by decide +kernel
theorem d_B_monitor_67 : decode b_B_monitor 67 = .ok (.iconst (-1), 1) := by decide +kernel
theorem d_B_monitor_68 : decode b_B_monitor 68 = .ok (.iastore, 1) := by decide +kernel
theorem d_B_monitor_69 : decode b_B_monitor 69 = .ok (.aload_n 0, 1) := by decide +kernel
theorem d_B_monitor_70 : decode b_B_monitor 70 = .ok (.getfield 19, 3) := by decide +kernel
theorem d_B_monitor_73 : decode b_B_monitor 73 = .ok (.iload_n 2, 1) := by decide +kernel
theorem d_B_monitor_74 : decode b_B_monitor 74 = .ok (.iaload, 1) := by decide +kernel
theorem d_B_monitor_75 : decode b_B_monitor 75 = .ok (.iconst 1, 1) := by decide +kernel
theorem d_B_monitor_76 : decode b_B_monitor 76 = .ok (.if_icmp .ne 23, 3) := by decide +kernel
theorem d_B_monitor_79 : decode b_B_monitor 79 = .ok (.aload_n 0, 1) := by decide +kernel
theorem d_B_monitor_80 : decode b_B_monitor 80 = .ok (.getfield 46, 3) := by decide +kernel
