theorem d_B_monitor_83 : decode b_B_monitor 83 = .ok (.iload_n 1, 1) := by decide +kernel
theorem d_B_monitor_84 : decode b_B_monitor 84 = .ok (.iconst 0, 1) := by decide +kernel
theorem d_B_monitor_85 : decode b_B_monitor 85 = .ok (.iastore, 1) := by decide +kernel
theorem d_B_monitor_86 : decode b_B_monitor 86 = .ok (.aload_n 0, 1) := by decide +kernel
theorem d_B_monitor_87 : decode b_B_monitor 87 = .ok (.getfield 49, 3) := by decide +kernel
theorem d_B_monitor_90 : decode b_B_monitor 90 = .ok (.iload_n 1, 1) := by decide +kernel
theorem d_B_monitor_91 : decode b_B_monitor 91 = .ok (.iconst 0, 1) := by decide +kernel
theorem d_B_monitor_92 : decode b_B_monitor 92 = .ok (.iastore, 1) := by decide +kernel
theorem d_B_monitor_93 : decode b_B_monitor 93 = .ok (.aload_n 0, 1) := by decide +kernel
theorem d_B_monitor_94 : decode b_B_monitor 94 = .ok (.iload_n 1, 1) := by decide +kernel
theorem d_B_monitor_95 : decode b_B_monitor 95 = .ok (.iconst 1, 1) := by decide +kernel
theorem d_B_monitor_96 : decode b_B_monitor 96 = .ok (.invokevirtual 110, 3) := by decide +kernel
theorem d_B_monitor_99 : decode b_B_monitor 99 = .ok (.aload_n 0, 1) := by decide +kernel
theorem d_B_monitor_100 : decode b_B_monitor 100 = .ok (.getfield 19, 3) := by decide +kernel
theorem d_B_monitor_103 : decode b_B_monitor 103 = .ok (.iload_n 2, 1) := by decide +kernel
theorem d_B_monitor_104 : decode b_B_monitor 104 = .ok (.iaload, 1) := by decide +kernel
theorem d_B_monitor_105 : decode b_B_monitor 105 = .ok (.iconst 2, 1) := by decide +kernel
theorem d_B_monitor_106 : decode b_B_monitor 106 = .ok (.if_icmp .ne 41, 3) := by decide +kernel
theorem d_B_monitor_109 : decode b_B_monitor 109 = .ok (.aload_n 0, 1) := by decide +kernel
theorem d_B_monitor_110 : decode b_B_monitor 110 = .ok (.getfield 16, 3) := by decide +kernel
theorem d_B_monitor_113 : decode b_B_monitor 113 = .ok (.iload_n 2, 1) := by decide +kernel
theorem d_B_monitor_114 : decode b_B_monitor 114 = .ok (.iconst 2, 1) := by decide +kernel
theorem d_B_monitor_115 : decode b_B_monitor 115 = .ok (.iastore, 1) := by decide +kernel
theorem d_B_monitor_116 : decode b_B_monitor 116 = .ok (.iconst 0, 1) := by decide +kernel
theorem d_B_monitor_117 : decode b_B_monitor 117 = .ok (.istore_n 3, 1) := by decide +kernel
theorem d_B_monitor_118 : decode b_B_monitor 118 = .ok (.iload_n 3, 1) := by decide +kernel
theorem d_B_monitor_119 : decode b_B_monitor 119 = .ok (.aload_n 0, 1) := by decide +kernel
theorem d_B_monitor_120 : decode b_B_monitor 120 = .ok (.getfield 97, 3) := by decide +kernel
theorem d_B_monitor_123 : decode b_B_monitor 123 = .ok (.if_icmp .ge 24, 3) := by decide +kernel
theorem d_B_monitor_126 : decode b_B_monitor 126 = .ok (.aload_n 0, 1) := by decide +kernel
theorem d_B_monitor_127 : decode b_B_monitor 127 = .ok (.getfield 22, 3) := by decide +kernel
theorem d_B_monitor_130 : decode b_B_monitor 130 = .ok (.iload_n 3, 1) := by decide +kernel
theorem d_B_monitor_131 : decode b_B_monitor 131 = .ok (.iaload, 1) := by decide +kernel
theorem d_B_monitor_132 : decode b_B_monitor 132 = .ok (.iload_n 2, 1) := by decide +kernel
theorem d_B_monitor_133 : decode b_B_monitor 133 = .ok (.if_icmp .ne 8, 3) := by decide +kernel
theorem d_B_monitor_136 : decode b_B_monitor 136 = .ok (.aload_n 0, 1) := by decide +kernel
theorem d_B_monitor_137 : decode b_B_monitor 137 = .ok (.iload_n 3, 1) := by decide +kernel
theorem d_B_monitor_138 : decode b_B_monitor 138 = .ok (.invokevirtual 100, 3) := by decide +kernel
theorem d_B_monitor_141 : decode b_B_monitor 141 = .ok (.iinc 3 1, 3) := by decide +kernel
theorem d_B_monitor_144 : decode b_B_monitor 144 = .ok (.goto (-26), 3) := by decide +kernel
theorem d_B_monitor_147 : decode b_B_monitor 147 = .ok (.iinc 1 1, 3) := by decide +kernel
theorem d_B_monitor_150 : decode b_B_monitor 150 = .ok (.goto (-148), 3) := by decide +kernel
theorem d_B_monitor_153 : decode b_B_monitor 153 = .ok (.return_, 1) := by decide +kernel
theorem d_B_holder_0 : decode b_B_holder 0 = .ok (.iconst 0, 1) := by decide +kernel
theorem d_B_holder_1 : decode b_B_holder 1 = .ok (.istore_n 2, 1) := by decide +kernel
theorem d_B_holder_2 : decode b_B_holder 2 = .ok (.iconst 0, 1) := by decide +kernel
theorem d_B_holder_3 : decode b_B_holder 3 = .ok (.istore_n 3, 1) := by decide +kernel
theorem d_B_holder_4 : decode b_B_holder 4 = .ok (.iload_n 3, 1) := by decide +kernel
theorem d_B_holder_5 : decode b_B_holder 5 = .ok (.aload_n 0, 1) := by decide +kernel
theorem d_B_holder_6 : decode b_B_holder 6 = .ok (.getfield 93, 3) := by decide +kernel
theorem d_B_holder_9 : decode b_B_holder 9 = .ok (.if_icmp .ge 18, 3) := by decide +kernel
theorem d_B_holder_12 : decode b_B_holder 12 = .ok (.iload_n 2, 1) := by decide +kernel
theorem d_B_holder_13 : decode b_B_holder 13 = .ok (.aload_n 0, 1) := by decide +kernel
theorem d_B_holder_14 : decode b_B_holder 14 = .ok (.getfield 13, 3) := by decide +kernel
theorem d_B_holder_17 : decode b_B_holder 17 = .ok (.iload_n 3, 1) := by decide +kernel
theorem d_B_holder_18 : decode b_B_holder 18 = .ok (.iaload, 1) := by decide +kernel
theorem d_B_holder_19 : decode b_B_holder 19 = .ok (.iadd, 1) := by decide +kernel
theorem d_B_holder_20 : decode b_B_holder 20 = .ok (.istore_n 2, 1) := by decide +kernel
theorem d_B_holder_21 : decode b_B_holder 21 = .ok (.iinc 3 1, 3) := by decide +kernel
theorem d_B_holder_24 : decode b_B_holder 24 = .ok (.goto (-20), 3) := by decide +kernel
theorem d_B_holder_27 : decode b_B_holder 27 = .ok (.iload_n 2, 1) := by decide +kernel
theorem d_B_holder_28 : decode b_B_holder 28 = .ok (.ifCond .ne 5, 3) := by decide +kernel
theorem d_B_holder_31 : decode b_B_holder 31 = .ok (.iconst (-1), 1) := by decide +kernel
theorem d_B_holder_32 : decode b_B_holder 32 = .ok (.ireturn, 1) := by decide +kernel
theorem d_B_holder_33 : decode b_B_holder 33 = .ok (.aload_n 0, 1) := by decide +kernel
theorem d_B_holder_34 : decode b_B_holder 34 = .ok (.getfield 104, 3) := by decide +kernel
theorem d_B_holder_37 : decode b_B_holder 37 = .ok (.iload_n 2, 1) := by decide +kernel
theorem d_B_holder_38 : decode b_B_holder 38 = .ok (.irem, 1) := by decide +kernel
theorem d_B_holder_39 : decode b_B_holder 39 = .ok (.istore_n 3, 1) := by decide +kernel
theorem d_B_holder_40 : decode b_B_holder 40 = .ok (.iconst 0, 1) := by decide +kernel
theorem d_B_holder_41 : decode b_B_holder 41 = .ok (.istore 4, 2) := by decide +kernel
theorem d_B_holder_43 : decode b_B_holder 43 = .ok (.iload_n 3, 1) := by decide +kernel
theorem d_B_holder_44 : decode b_B_holder 44 = .ok (.aload_n 0, 1) := by decide +kernel
theorem d_B_holder_45 : decode b_B_holder 45 = .ok (.getfield 13, 3) := by decide +kernel
theorem d_B_holder_48 : decode b_B_holder 48 = .ok (.iload 4, 2) := by decide +kernel
theorem d_B_holder_50 : decode b_B_holder 50 = .ok (.iaload, 1) := by decide +kernel
theorem d_B_holder_51 : decode b_B_holder 51 = .ok (.if_icmp .lt 19, 3) := by decide +kernel
theorem d_B_holder_54 : decode b_B_holder 54 = .ok (.iload_n 3, 1) := by decide +kernel
theorem d_B_holder_55 : decode b_B_holder 55 = .ok (.aload_n 0, 1) := by decide +kernel
theorem d_B_holder_56 : decode b_B_holder 56 = .ok (.getfield 13, 3) := by decide +kernel
theorem d_B_holder_59 : decode b_B_holder 59 = .ok (.iload 4, 2) := by decide +kernel
theorem d_B_holder_61 : decode b_B_holder 61 = .ok (.iaload, 1) := by decide +kernel
theorem d_B_holder_62 : decode b_B_holder 62 = .ok (.isub, 1) := by decide +kernel
theorem d_B_holder_63 : decode b_B_holder 63 = .ok (.istore_n 3, 1) := by decide +kernel
theorem d_B_holder_64 : decode b_B_holder 64 = .ok (.iinc 4 1, 3) := by decide +kernel
theorem d_B_holder_67 : decode b_B_holder 67 = .ok (.goto (-24), 3) := by decide +kernel
theorem d_B_holder_70 : decode b_B_holder 70 = .ok (.iload_n 1, 1) := by decide +kernel
theorem d_B_holder_71 : decode b_B_holder 71 = .ok (.ifCond .eq 15, 3) := by decide +kernel
theorem d_B_holder_74 : decode b_B_holder 74 = .ok (.aload_n 0, 1) := by decide +kernel
theorem d_B_holder_75 : decode b_B_holder 75 = .ok (.getfield 13, 3) := by decide +kernel
theorem d_B_holder_78 : decode b_B_holder 78 = .ok (.iload 4, 2) := by decide +kernel
theorem d_B_holder_80 : decode b_B_holder 80 = .ok (.iaload, 1) := by decide +kernel
theorem d_B_holder_81 : decode b_B_holder 81 = .ok (.iload_n 3, 1) := by decide +kernel
theorem d_B_holder_82 : decode b_B_holder 82 = .ok (.isub, 1) := by decide +kernel
theorem d_B_holder_83 : decode b_B_holder 83 = .ok (.goto 10, 3) := by decide +kernel
theorem d_B_holder_86 : decode b_B_holder 86 = .ok (.aload_n 0, 1) := by decide +kernel
theorem d_B_holder_87 : decode b_B_holder 87 = .ok (.getfield 7, 3) := by decide +kernel
theorem d_B_holder_90 : decode b_B_holder 90 = .ok (.iload 4, 2) := by decide +kernel
theorem d_B_holder_92 : decode b_B_holder 92 = .ok (.iaload, 1) := by decide +kernel
theorem d_B_holder_93 : decode b_B_holder 93 = .ok (.ireturn, 1) := by decide +kernel
theorem d_B_first_0 : decode b_B_first 0 = .ok (.iconst (-1), 1) := by decide +kernel
theorem d_B_first_1 : decode b_B_first 1 = .ok (.istore_n 3, 1) := by decide +kernel
theorem d_B_first_2 : decode b_B_first 2 = .ok (.iconst 0, 1) := by decide +kernel
theorem d_B_first_3 : decode b_B_first 3 = .ok (.istore 4, 2) := by decide +kernel
theorem d_B_first_5 : decode b_B_first 5 = .ok (.iload 4, 2) := by decide +kernel
theorem d_B_first_7 : decode b_B_first 7 = .ok (.aload_n 0, 1) := by decide +kernel
theorem d_B_first_8 : decode b_B_first 8 = .ok (.getfield 97, 3) := by decide +kernel
theorem d_B_first_11 : decode b_B_first 11 = .ok (.if_icmp .ge 168, 3) := by decide +kernel
theorem d_B_first_14 : decode b_B_first 14 = .ok (.iload_n 1, 1) := by decide +kernel
theorem d_B_first_15 : decode b_B_first 15 = .ok (.ifCond .ne 33, 3) := by decide +kernel
theorem d_B_first_18 : decode b_B_first 18 = .ok (.aload_n 0, 1) := by decide +kernel
theorem d_B_first_19 : decode b_B_first 19 = .ok (.getfield 43, 3) := by decide +kernel
theorem d_B_first_22 : decode b_B_first 22 = .ok (.iload 4, 2) := by decide +kernel
theorem d_B_first_24 : decode b_B_first 24 = .ok (.iaload, 1) := by decide +kernel
theorem d_B_first_25 : decode b_B_first 25 = .ok (.iconst 1, 1) := by decide +kernel
theorem d_B_first_26 : decode b_B_first 26 = .ok (.if_icmp .ne 18, 3) := by decide +kernel
theorem d_B_first_29 : decode b_B_first 29 = .ok (.aload_n 0, 1) := by decide +kernel
theorem d_B_first_30 : decode b_B_first 30 = .ok (.getfield 22, 3) := by decide +kernel
theorem d_B_first_33 : decode b_B_first 33 = .ok (.iload 4, 2) := by decide +kernel
theorem d_B_first_35 : decode b_B_first 35 = .ok (.iaload, 1) := by decide +kernel
theorem d_B_first_36 : decode b_B_first 36 = .ok (.iload_n 2, 1) := by decide +kernel
theorem d_B_first_37 : decode b_B_first 37 = .ok (.if_icmp .ne 7, 3) := by decide +kernel
theorem d_B_first_40 : decode b_B_first 40 = .ok (.iconst 1, 1) := by decide +kernel
theorem d_B_first_41 : decode b_B_first 41 = .ok (.goto 67, 3) := by decide +kernel
theorem d_B_first_44 : decode b_B_first 44 = .ok (.iconst 0, 1) := by decide +kernel
theorem d_B_first_45 : decode b_B_first 45 = .ok (.goto 63, 3) := by decide +kernel
theorem d_B_first_48 : decode b_B_first 48 = .ok (.aload_n 0, 1) := by decide +kernel
theorem d_B_first_49 : decode b_B_first 49 = .ok (.getfield 43, 3) := by decide +kernel
theorem d_B_first_52 : decode b_B_first 52 = .ok (.iload 4, 2) := by decide +kernel
theorem d_B_first_54 : decode b_B_first 54 = .ok (.iaload, 1) := by decide +kernel
theorem d_B_first_55 : decode b_B_first 55 = .ok (.iconst 2, 1) := by decide +kernel
theorem d_B_first_56 : decode b_B_first 56 = .ok (.if_icmp .ne 51, 3) := by decide +kernel
theorem d_B_first_59 : decode b_B_first 59 = .ok (.aload_n 0, 1) := by decide +kernel
theorem d_B_first_60 : decode b_B_first 60 = .ok (.getfield 37, 3) := by decide +kernel
theorem d_B_first_63 : decode b_B_first 63 = .ok (.bipush 8, 2) := by decide +kernel
theorem d_B_first_65 : decode b_B_first 65 = .ok (.iload 4, 2) := by decide +kernel
theorem d_B_first_67 : decode b_B_first 67 = .ok (.imul, 1) := by decide +kernel
theorem d_B_first_68 : decode b_B_first 68 = .ok (.aload_n 0, 1) := by decide +kernel
theorem d_B_first_69 : decode b_B_first 69 = .ok (.getfield 46, 3) := by decide +kernel
theorem d_B_first_72 : decode b_B_first 72 = .ok (.iload 4, 2) := by decide +kernel
theorem d_B_first_74 : decode b_B_first 74 = .ok (.iaload, 1) := by decide +kernel
theorem d_B_first_75 : decode b_B_first 75 = .ok (.iadd, 1) := by decide +kernel
theorem d_B_first_76 : decode b_B_first 76 = .ok (.iaload, 1) := by decide +kernel
theorem d_B_first_77 : decode b_B_first 77 = .ok (.iload_n 1, 1) := by decide +kernel
theorem d_B_first_78 : decode b_B_first 78 = .ok (.if_icmp .ne 29, 3) := by decide +kernel
theorem d_B_first_81 : decode b_B_first 81 = .ok (.aload_n 0, 1) := by decide +kernel
theorem d_B_first_82 : decode b_B_first 82 = .ok (.getfield 40, 3) := by decide +kernel
theorem d_B_first_85 : decode b_B_first 85 = .ok (.bipush 8, 2) := by decide +kernel
theorem d_B_first_87 : decode b_B_first 87 = .ok (.iload 4, 2) := by decide +kernel
theorem d_B_first_89 : decode b_B_first 89 = .ok (.imul, 1) := by decide +kernel
theorem d_B_first_90 : decode b_B_first 90 = .ok (.aload_n 0, 1) := by decide +kernel
theorem d_B_first_91 : decode b_B_first 91 = .ok (.getfield 46, 3) := by decide +kernel
theorem d_B_first_94 : decode b_B_first 94 = .ok (.iload 4, 2) := by decide +kernel
theorem d_B_first_96 : decode b_B_first 96 = .ok (.iaload, 1) := by decide +kernel
theorem d_B_first_97 : decode b_B_first 97 = .ok (.iadd, 1) := by decide +kernel
theorem d_B_first_98 : decode b_B_first 98 = .ok (.iaload, 1) := by decide +kernel
theorem d_B_first_99 : decode b_B_first 99 = .ok (.iload_n 2, 1) := by decide +kernel
theorem d_B_first_100 : decode b_B_first 100 = .ok (.if_icmp .ne 7, 3) := by decide +kernel
theorem d_B_first_103 : decode b_B_first 103 = .ok (.iconst 1, 1) := by decide +kernel
theorem d_B_first_104 : decode b_B_first 104 = .ok (.goto 4, 3) := by decide +kernel
theorem d_B_first_107 : decode b_B_first 107 = .ok (.iconst 0, 1) := by decide +kernel
theorem d_B_first_108 : decode b_B_first 108 = .ok (.istore 5, 2) := by decide +kernel
theorem d_B_first_110 : decode b_B_first 110 = .ok (.iload 5, 2) := by decide +kernel
theorem d_B_first_112 : decode b_B_first 112 = .ok (.ifCond .ne 6, 3) := by decide +kernel
theorem d_B_first_115 : decode b_B_first 115 = .ok (.goto 58, 3) := by decide +kernel
theorem d_B_first_118 : decode b_B_first 118 = .ok (.iload_n 3, 1) := by decide +kernel
theorem d_B_first_119 : decode b_B_first 119 = .ok (.ifCond .lt 51, 3) := by decide +kernel
theorem d_B_first_122 : decode b_B_first 122 = .ok (.aload_n 0, 1) := by decide +kernel
theorem d_B_first_123 : decode b_B_first 123 = .ok (.getfield 25, 3) := by decide +kernel
theorem d_B_first_126 : decode b_B_first 126 = .ok (.iload 4, 2) := by decide +kernel
theorem d_B_first_128 : decode b_B_first 128 = .ok (.iaload, 1) := by decide +kernel
theorem d_B_first_129 : decode b_B_first 129 = .ok (.aload_n 0, 1) := by decide +kernel
theorem d_B_first_130 : decode b_B_first 130 = .ok (.getfield 25, 3) := by decide +kernel
theorem d_B_first_133 : decode b_B_first 133 = .ok (.iload_n 3, 1) := by decide +kernel
theorem d_B_first_134 : decode b_B_first 134 = .ok (.iaload, 1) := by decide +kernel
theorem d_B_first_135 : decode b_B_first 135 = .ok (.if_icmp .gt 35, 3) := by decide +kernel
theorem d_B_first_138 : decode b_B_first 138 = .ok (.aload_n 0, 1) := by decide +kernel
theorem d_B_first_139 : decode b_B_first 139 = .ok (.getfield 25, 3) := by decide +kernel
theorem d_B_first_142 : decode b_B_first 142 = .ok (.iload 4, 2) := by decide +kernel
theorem d_B_first_144 : decode b_B_first 144 = .ok (.iaload, 1) := by decide +kernel
theorem d_B_first_145 : decode b_B_first 145 = .ok (.aload_n 0, 1) := by decide +kernel
theorem d_B_first_146 : decode b_B_first 146 = .ok (.getfield 25, 3) := by decide +kernel
theorem d_B_first_149 : decode b_B_first 149 = .ok (.iload_n 3, 1) := by decide +kernel
theorem d_B_first_150 : decode b_B_first 150 = .ok (.iaload, 1) := by decide +kernel
theorem d_B_first_151 : decode b_B_first 151 = .ok (.if_icmp .ne 22, 3) := by decide +kernel
theorem d_B_first_154 : decode b_B_first 154 = .ok (.aload_n 0, 1) := by decide +kernel
theorem d_B_first_155 : decode b_B_first 155 = .ok (.getfield 73, 3) := by decide +kernel
theorem d_B_first_158 : decode b_B_first 158 = .ok (.iload 4, 2) := by decide +kernel
theorem d_B_first_160 : decode b_B_first 160 = .ok (.iaload, 1) := by decide +kernel
theorem d_B_first_161 : decode b_B_first 161 = .ok (.aload_n 0, 1) := by decide +kernel
theorem d_B_first_162 : decode b_B_first 162 = .ok (.getfield 73, 3) := by decide +kernel
theorem d_B_first_165 : decode b_B_first 165 = .ok (.iload_n 3, 1) := by decide +kernel
theorem d_B_first_166 : decode b_B_first 166 = .ok (.iaload, 1) := by decide +kernel
theorem d_B_first_167 : decode b_B_first 167 = .ok (.if_icmp .ge 6, 3) := by decide +kernel
theorem d_B_first_170 : decode b_B_first 170 = .ok (.iload 4, 2) := by decide +kernel
theorem d_B_first_172 : decode b_B_first 172 = .ok (.istore_n 3, 1) := by decide +kernel
theorem d_B_first_173 : decode b_B_first 173 = .ok (.iinc 4 1, 3) := by decide +kernel
theorem d_B_first_176 : decode b_B_first 176 = .ok (.goto (-171), 3) := by decide +kernel
theorem d_B_first_179 : decode b_B_first 179 = .ok (.iload_n 3, 1) := by decide +kernel
theorem d_B_first_180 : decode b_B_first 180 = .ok (.ireturn, 1) := by decide +kernel
theorem d_B_one_0 : decode b_B_one 0 = .ok (.bipush 8, 2) := by decide +kernel
theorem d_B_one_2 : decode b_B_one 2 = .ok (.iload_n 1, 1) := by decide +kernel
theorem d_B_one_3 : decode b_B_one 3 = .ok (.imul, 1) := by decide +kernel
theorem d_B_one_4 : decode b_B_one 4 = .ok (.aload_n 0, 1) := by decide +kernel
theorem d_B_one_5 : decode b_B_one 5 = .ok (.getfield 46, 3) := by decide +kernel
theorem d_B_one_8 : decode b_B_one 8 = .ok (.iload_n 1, 1) := by decide +kernel
theorem d_B_one_9 : decode b_B_one 9 = .ok (.iaload, 1) := by decide +kernel
theorem d_B_one_10 : decode b_B_one 10 = .ok (.iadd, 1) := by decide +kernel
theorem d_B_one_11 : decode b_B_one 11 = .ok (.istore_n 2, 1) := by decide +kernel
theorem d_B_one_12 : decode b_B_one 12 = .ok (.aload_n 0, 1) := by decide +kernel
theorem d_B_one_13 : decode b_B_one 13 = .ok (.getfield 40, 3) := by decide +kernel
theorem d_B_one_16 : decode b_B_one 16 = .ok (.iload_n 2, 1) := by decide +kernel
theorem d_B_one_17 : decode b_B_one 17 = .ok (.iaload, 1) := by decide +kernel
theorem d_B_one_18 : decode b_B_one 18 = .ok (.istore_n 3, 1) := by decide +kernel
theorem d_B_one_19 : decode b_B_one 19 = .ok (.aload_n 0, 1) := by decide +kernel
theorem d_B_one_20 : decode b_B_one 20 = .ok (.getfield 37, 3) := by decide +kernel
theorem d_B_one_23 : decode b_B_one 23 = .ok (.iload_n 2, 1) := by decide +kernel
theorem d_B_one_24 : decode b_B_one 24 = .ok (.iaload, 1) := by decide +kernel
theorem d_B_one_25 : decode b_B_one 25 = .ok (.ifCond .ne 40, 3) := by decide +kernel
theorem d_B_one_28 : decode b_B_one 28 = .ok (.aload_n 0, 1) := by decide +kernel
theorem d_B_one_29 : decode b_B_one 29 = .ok (.getfield 64, 3) := by decide +kernel
theorem d_B_one_32 : decode b_B_one 32 = .ok (.iload_n 1, 1) := by decide +kernel
theorem d_B_one_33 : decode b_B_one 33 = .ok (.dup2, 1) := by decide +kernel
theorem d_B_one_34 : decode b_B_one 34 = .ok (.iaload, 1) := by decide +kernel
theorem d_B_one_35 : decode b_B_one 35 = .ok (.iconst 1, 1) := by decide +kernel
theorem d_B_one_36 : decode b_B_one 36 = .ok (.iadd, 1) := by decide +kernel
theorem d_B_one_37 : decode b_B_one 37 = .ok (.iastore, 1) := by decide +kernel
theorem d_B_one_38 : decode b_B_one 38 = .ok (.aload_n 0, 1) := by decide +kernel
theorem d_B_one_39 : decode b_B_one 39 = .ok (.getfield 49, 3) := by decide +kernel
theorem d_B_one_42 : decode b_B_one 42 = .ok (.iload_n 1, 1) := by decide +kernel
theorem d_B_one_43 : decode b_B_one 43 = .ok (.dup2, 1) := by decide +kernel
theorem d_B_one_44 : decode b_B_one 44 = .ok (.iaload, 1) := by decide +kernel
theorem d_B_one_45 : decode b_B_one 45 = .ok (.iconst 1, 1) := by decide +kernel
theorem d_B_one_46 : decode b_B_one 46 = .ok (.iadd, 1) := by decide +kernel
theorem d_B_one_47 : decode b_B_one 47 = .ok (.iastore, 1) := by decide +kernel
theorem d_B_one_48 : decode b_B_one 48 = .ok (.aload_n 0, 1) := by decide +kernel
theorem d_B_one_49 : decode b_B_one 49 = .ok (.getfield 49, 3) := by decide +kernel
theorem d_B_one_52 : decode b_B_one 52 = .ok (.iload_n 1, 1) := by decide +kernel
theorem d_B_one_53 : decode b_B_one 53 = .ok (.iaload, 1) := by decide +kernel
theorem d_B_one_54 : decode b_B_one 54 = .ok (.iload_n 3, 1) := by decide +kernel
theorem d_B_one_55 : decode b_B_one 55 = .ok (.if_icmp .ne 8, 3) := by decide +kernel
theorem d_B_one_58 : decode b_B_one 58 = .ok (.aload_n 0, 1) := by decide +kernel
theorem d_B_one_59 : decode b_B_one 59 = .ok (.iload_n 1, 1) := by decide +kernel
theorem d_B_one_60 : decode b_B_one 60 = .ok (.invokevirtual 117, 3) := by decide +kernel
theorem d_B_one_63 : decode b_B_one 63 = .ok (.iconst 1, 1) := by decide +kernel
theorem d_B_one_64 : decode b_B_one 64 = .ok (.ireturn, 1) := by decide +kernel
theorem d_B_one_65 : decode b_B_one 65 = .ok (.aload_n 0, 1) := by decide +kernel
theorem d_B_one_66 : decode b_B_one 66 = .ok (.getfield 37, 3) := by decide +kernel
theorem d_B_one_69 : decode b_B_one 69 = .ok (.iload_n 2, 1) := by decide +kernel
theorem d_B_one_70 : decode b_B_one 70 = .ok (.iaload, 1) := by decide +kernel
theorem d_B_one_71 : decode b_B_one 71 = .ok (.iconst 1, 1) := by decide +kernel
theorem d_B_one_72 : decode b_B_one 72 = .ok (.if_icmp .ne 12, 3) := by decide +kernel
theorem d_B_one_75 : decode b_B_one 75 = .ok (.aload_n 0, 1) := by decide +kernel
theorem d_B_one_76 : decode b_B_one 76 = .ok (.iload_n 1, 1) := by decide +kernel
theorem d_B_one_77 : decode b_B_one 77 = .ok (.iload_n 3, 1) := by decide +kernel
theorem d_B_one_78 : decode b_B_one 78 = .ok (.invokevirtual 130, 3) := by decide +kernel
theorem d_B_one_81 : decode b_B_one 81 = .ok (.goto 47, 3) := by decide +kernel
theorem d_B_one_84 : decode b_B_one 84 = .ok (.aload_n 0, 1) := by decide +kernel
theorem d_B_one_85 : decode b_B_one 85 = .ok (.getfield 37, 3) := by decide +kernel
theorem d_B_one_88 : decode b_B_one 88 = .ok (.iload_n 2, 1) := by decide +kernel
theorem d_B_one_89 : decode b_B_one 89 = .ok (.iaload, 1) := by decide +kernel
theorem d_B_one_90 : decode b_B_one 90 = .ok (.iconst 2, 1) := by decide +kernel
theorem d_B_one_91 : decode b_B_one 91 = .ok (.if_icmp .ne 12, 3) := by decide +kernel
theorem d_B_one_94 : decode b_B_one 94 = .ok (.aload_n 0, 1) := by decide +kernel
theorem d_B_one_95 : decode b_B_one 95 = .ok (.iload_n 1, 1) := by decide +kernel
theorem d_B_one_96 : decode b_B_one 96 = .ok (.iload_n 3, 1) := by decide +kernel
theorem d_B_one_97 : decode b_B_one 97 = .ok (.invokevirtual 133, 3) := by decide +kernel
theorem d_B_one_100 : decode b_B_one 100 = .ok (.goto 28, 3) := by decide +kernel
theorem d_B_one_103 : decode b_B_one 103 = .ok (.aload_n 0, 1) := by decide +kernel
theorem d_B_one_104 : decode b_B_one 104 = .ok (.getfield 37, 3) := by decide +kernel
theorem d_B_one_107 : decode b_B_one 107 = .ok (.iload_n 2, 1) := by decide +kernel
theorem d_B_one_108 : decode b_B_one 108 = .ok (.iaload, 1) := by decide +kernel
theorem d_B_one_109 : decode b_B_one 109 = .ok (.iconst 3, 1) := by decide +kernel
theorem d_B_one_110 : decode b_B_one 110 = .ok (.if_icmp .ne 12, 3) := by decide +kernel
theorem d_B_one_113 : decode b_B_one 113 = .ok (.aload_n 0, 1) := by decide +kernel
theorem d_B_one_114 : decode b_B_one 114 = .ok (.iload_n 1, 1) := by decide +kernel
theorem d_B_one_115 : decode b_B_one 115 = .ok (.iload_n 3, 1) := by decide +kernel
theorem d_B_one_116 : decode b_B_one 116 = .ok (.invokevirtual 136, 3) := by decide +kernel
theorem d_B_one_119 : decode b_B_one 119 = .ok (.goto 9, 3) := by decide +kernel
theorem d_B_one_122 : decode b_B_one 122 = .ok (.aload_n 0, 1) := by decide +kernel
theorem d_B_one_123 : decode b_B_one 123 = .ok (.iload_n 1, 1) := by decide +kernel
theorem d_B_one_124 : decode b_B_one 124 = .ok (.iload_n 3, 1) := by decide +kernel
theorem d_B_one_125 : decode b_B_one 125 = .ok (.invokevirtual 139, 3) := by decide +kernel
theorem d_B_one_128 : decode b_B_one 128 = .ok (.iconst 0, 1) := by decide +kernel
theorem d_B_one_129 : decode b_B_one 129 = .ok (.ireturn, 1) := by decide +kernel
theorem d_B_advance_0 : decode b_B_advance 0 = .ok (.aload_n 0, 1) := by decide +kernel
theorem d_B_advance_1 : decode b_B_advance 1 = .ok (.getfield 46, 3) := by decide +kernel
theorem d_B_advance_4 : decode b_B_advance 4 = .ok (.iload_n 1, 1) := by decide +kernel
theorem d_B_advance_5 : decode b_B_advance 5 = .ok (.dup2, 1) := by decide +kernel
theorem d_B_advance_6 : decode b_B_advance 6 = .ok (.iaload, 1) := by decide +kernel
theorem d_B_advance_7 : decode b_B_advance 7 = .ok (.iconst 1, 1) := by decide +kernel
theorem d_B_advance_8 : decode b_B_advance 8 = .ok (.iadd, 1) := by decide +kernel
theorem d_B_advance_9 : decode b_B_advance 9 = .ok (.iastore, 1) := by decide +kernel
theorem d_B_advance_10 : decode b_B_advance 10 = .ok (.aload_n 0, 1) := by decide +kernel
theorem d_B_advance_11 : decode b_B_advance 11 = .ok (.getfield 49, 3) := by decide +kernel
theorem d_B_advance_14 : decode b_B_advance 14 = .ok (.iload_n 1, 1) := by decide +kernel
theorem d_B_advance_15 : decode b_B_advance 15 = .ok (.iconst 0, 1) := by decide +kernel
theorem d_B_advance_16 : decode b_B_advance 16 = .ok (.iastore, 1) := by decide +kernel
theorem d_B_advance_17 : decode b_B_advance 17 = .ok (.aload_n 0, 1) := by decide +kernel
theorem d_B_advance_18 : decode b_B_advance 18 = .ok (.getfield 46, 3) := by decide +kernel
theorem d_B_advance_21 : decode b_B_advance 21 = .ok (.iload_n 1, 1) := by decide +kernel
theorem d_B_advance_22 : decode b_B_advance 22 = .ok (.iaload, 1) := by decide +kernel
theorem d_B_advance_23 : decode b_B_advance 23 = .ok (.aload_n 0, 1) := by decide +kernel
theorem d_B_advance_24 : decode b_B_advance 24 = .ok (.getfield 34, 3) := by decide +kernel
theorem d_B_advance_27 : decode b_B_advance 27 = .ok (.iload_n 1, 1) := by decide +kernel
theorem d_B_advance_28 : decode b_B_advance 28 = .ok (.iaload, 1) := by decide +kernel
theorem d_B_advance_29 : decode b_B_advance 29 = .ok (.if_icmp .ne 8, 3) := by decide +kernel
theorem d_B_advance_32 : decode b_B_advance 32 = .ok (.aload_n 0, 1) := by decide +kernel
theorem d_B_advance_33 : decode b_B_advance 33 = .ok (.iload_n 1, 1) := by decide +kernel
theorem d_B_advance_34 : decode b_B_advance 34 = .ok (.invokevirtual 100, 3) := by decide +kernel
theorem d_B_advance_37 : decode b_B_advance 37 = .ok (.return_, 1) := by decide +kernel
theorem d_B_send_0 : decode b_B_send 0 = .ok (.iload_n 1, 1) := by decide +kernel
theorem d_B_send_1 : decode b_B_send 1 = .ok (.bipush 8, 2) := by decide +kernel
theorem d_B_send_3 : decode b_B_send 3 = .ok (.aload_n 0, 1) := by decide +kernel
theorem d_B_send_4 : decode b_B_send 4 = .ok (.getfield 52, 3) := by decide +kernel
theorem d_B_send_7 : decode b_B_send 7 = .ok (.iload_n 1, 1) := by decide +kernel
theorem d_B_send_8 : decode b_B_send 8 = .ok (.iaload, 1) := by decide +kernel
theorem d_B_send_9 : decode b_B_send 9 = .ok (.imul, 1) := by decide +kernel
theorem d_B_send_10 : decode b_B_send 10 = .ok (.iadd, 1) := by decide +kernel
theorem d_B_send_11 : decode b_B_send 11 = .ok (.istore_n 3, 1) := by decide +kernel
theorem d_B_send_12 : decode b_B_send 12 = .ok (.aload_n 0, 1) := by decide +kernel
theorem d_B_send_13 : decode b_B_send 13 = .ok (.iconst 2, 1) := by decide +kernel
theorem d_B_send_14 : decode b_B_send 14 = .ok (.iload_n 2, 1) := by decide +kernel
theorem d_B_send_15 : decode b_B_send 15 = .ok (.invokevirtual 120, 3) := by decide +kernel
theorem d_B_send_18 : decode b_B_send 18 = .ok (.istore 4, 2) := by decide +kernel
theorem d_B_send_20 : decode b_B_send 20 = .ok (.iload 4, 2) := by decide +kernel
theorem d_B_send_22 : decode b_B_send 22 = .ok (.ifCond .lt 20, 3) := by decide +kernel
theorem d_B_send_25 : decode b_B_send 25 = .ok (.aload_n 0, 1) := by decide +kernel
theorem d_B_send_26 : decode b_B_send 26 = .ok (.getfield 67, 3) := by decide +kernel
theorem d_B_send_29 : decode b_B_send 29 = .ok (.iload 4, 2) := by decide +kernel
theorem d_B_send_31 : decode b_B_send 31 = .ok (.iload_n 3, 1) := by decide +kernel
theorem d_B_send_32 : decode b_B_send 32 = .ok (.iastore, 1) := by decide +kernel
theorem d_B_send_33 : decode b_B_send 33 = .ok (.aload_n 0, 1) := by decide +kernel
theorem d_B_send_34 : decode b_B_send 34 = .ok (.iload 4, 2) := by decide +kernel
theorem d_B_send_36 : decode b_B_send 36 = .ok (.invokevirtual 124, 3) := by decide +kernel
theorem d_B_send_39 : decode b_B_send 39 = .ok (.goto 52, 3) := by decide +kernel
theorem d_B_send_42 : decode b_B_send 42 = .ok (.aload_n 0, 1) := by decide +kernel
theorem d_B_send_43 : decode b_B_send 43 = .ok (.getfield 79, 3) := by decide +kernel
theorem d_B_send_46 : decode b_B_send 46 = .ok (.iload_n 2, 1) := by decide +kernel
theorem d_B_send_47 : decode b_B_send 47 = .ok (.iaload, 1) := by decide +kernel
theorem d_B_send_48 : decode b_B_send 48 = .ok (.iconst 4, 1) := by decide +kernel
theorem d_B_send_49 : decode b_B_send 49 = .ok (.if_icmp .ne 16, 3) := by decide +kernel
theorem d_B_send_52 : decode b_B_send 52 = .ok (.aload_n 0, 1) := by decide +kernel
theorem d_B_send_53 : decode b_B_send 53 = .ok (.dup, 1) := by decide +kernel
theorem d_B_send_54 : decode b_B_send 54 = .ok (.getfield 127, 3) := by decide +kernel
theorem d_B_send_57 : decode b_B_send 57 = .ok (.iconst 1, 1) := by decide +kernel
theorem d_B_send_58 : decode b_B_send 58 = .ok (.iadd, 1) := by decide +kernel
theorem d_B_send_59 : decode b_B_send 59 = .ok (.putfield 127, 3) := by decide +kernel
theorem d_B_send_62 : decode b_B_send 62 = .ok (.goto 29, 3) := by decide +kernel
theorem d_B_send_65 : decode b_B_send 65 = .ok (.aload_n 0, 1) := by decide +kernel
theorem d_B_send_66 : decode b_B_send 66 = .ok (.getfield 76, 3) := by decide +kernel
theorem d_B_send_69 : decode b_B_send 69 = .ok (.iconst 4, 1) := by decide +kernel
theorem d_B_send_70 : decode b_B_send 70 = .ok (.iload_n 2, 1) := by decide +kernel
theorem d_B_send_71 : decode b_B_send 71 = .ok (.imul, 1) := by decide +kernel
theorem d_B_send_72 : decode b_B_send 72 = .ok (.aload_n 0, 1) := by decide +kernel
theorem d_B_send_73 : decode b_B_send 73 = .ok (.getfield 79, 3) := by decide +kernel
theorem d_B_send_76 : decode b_B_send 76 = .ok (.iload_n 2, 1) := by decide +kernel
theorem d_B_send_77 : decode b_B_send 77 = .ok (.iaload, 1) := by decide +kernel
theorem d_B_send_78 : decode b_B_send 78 = .ok (.iadd, 1) := by decide +kernel
theorem d_B_send_79 : decode b_B_send 79 = .ok (.iload_n 3, 1) := by decide +kernel
theorem d_B_send_80 : decode b_B_send 80 = .ok (.iastore, 1) := by decide +kernel
theorem d_B_send_81 : decode b_B_send 81 = .ok (.aload_n 0, 1) := by decide +kernel
theorem d_B_send_82 : decode b_B_send 82 = .ok (.getfield 79, 3) := by decide +kernel
theorem d_B_send_85 : decode b_B_send 85 = .ok (.iload_n 2, 1) := by decide +kernel
theorem d_B_send_86 : decode b_B_send 86 = .ok (.dup2, 1) := by decide +kernel
theorem d_B_send_87 : decode b_B_send 87 = .ok (.iaload, 1) := by decide +kernel
theorem d_B_send_88 : decode b_B_send 88 = .ok (.iconst 1, 1) := by decide +kernel
theorem d_B_send_89 : decode b_B_send 89 = .ok (.iadd, 1) := by decide +kernel
theorem d_B_send_90 : decode b_B_send 90 = .ok (.iastore, 1) := by decide +kernel
theorem d_B_send_91 : decode b_B_send 91 = .ok (.aload_n 0, 1) := by decide +kernel
theorem d_B_send_92 : decode b_B_send 92 = .ok (.iload_n 1, 1) := by decide +kernel
theorem d_B_send_93 : decode b_B_send 93 = .ok (.invokevirtual 117, 3) := by decide +kernel
theorem d_B_send_96 : decode b_B_send 96 = .ok (.return_, 1) := by decide +kernel
theorem d_B_wake_0 : decode b_B_wake 0 = .ok (.aload_n 0, 1) := by decide +kernel
theorem d_B_wake_1 : decode b_B_wake 1 = .ok (.iload_n 1, 1) := by decide +kernel
theorem d_B_wake_2 : decode b_B_wake 2 = .ok (.iconst 1, 1) := by decide +kernel
theorem d_B_wake_3 : decode b_B_wake 3 = .ok (.invokevirtual 110, 3) := by decide +kernel
theorem d_B_wake_6 : decode b_B_wake 6 = .ok (.aload_n 0, 1) := by decide +kernel
theorem d_B_wake_7 : decode b_B_wake 7 = .ok (.iload_n 1, 1) := by decide +kernel
theorem d_B_wake_8 : decode b_B_wake 8 = .ok (.invokevirtual 117, 3) := by decide +kernel
theorem d_B_wake_11 : decode b_B_wake 11 = .ok (.return_, 1) := by decide +kernel
theorem d_B_take_0 : decode b_B_take 0 = .ok (.aload_n 0, 1) := by decide +kernel
theorem d_B_take_1 : decode b_B_take 1 = .ok (.getfield 79, 3) := by decide +kernel
theorem d_B_take_4 : decode b_B_take 4 = .ok (.iload_n 2, 1) := by decide +kernel
theorem d_B_take_5 : decode b_B_take 5 = .ok (.iaload, 1) := by decide +kernel
theorem d_B_take_6 : decode b_B_take 6 = .ok (.ifCond .ne 10, 3) := by decide +kernel
theorem d_B_take_9 : decode b_B_take 9 = .ok (.aload_n 0, 1) := by decide +kernel
theorem d_B_take_10 : decode b_B_take 10 = .ok (.iload_n 1, 1) := by decide +kernel
theorem d_B_take_11 : decode b_B_take 11 = .ok (.iconst 2, 1) := by decide +kernel
theorem d_B_take_12 : decode b_B_take 12 = .ok (.invokevirtual 110, 3) := by decide +kernel
theorem d_B_take_15 : decode b_B_take 15 = .ok (.return_, 1) := by decide +kernel
theorem d_B_take_16 : decode b_B_take 16 = .ok (.aload_n 0, 1) := by decide +kernel
theorem d_B_take_17 : decode b_B_take 17 = .ok (.getfield 67, 3) := by decide +kernel
theorem d_B_take_20 : decode b_B_take 20 = .ok (.iload_n 1, 1) := by decide +kernel
theorem d_B_take_21 : decode b_B_take 21 = .ok (.aload_n 0, 1) := by decide +kernel
theorem d_B_take_22 : decode b_B_take 22 = .ok (.getfield 76, 3) := by decide +kernel
theorem d_B_take_25 : decode b_B_take 25 = .ok (.iconst 4, 1) := by decide +kernel
theorem d_B_take_26 : decode b_B_take 26 = .ok (.iload_n 2, 1) := by decide +kernel
theorem d_B_take_27 : decode b_B_take 27 = .ok (.imul, 1) := by decide +kernel
theorem d_B_take_28 : decode b_B_take 28 = .ok (.iaload, 1) := by decide +kernel
theorem d_B_take_29 : decode b_B_take 29 = .ok (.iastore, 1) := by decide +kernel
theorem d_B_take_30 : decode b_B_take 30 = .ok (.iconst 1, 1) := by decide +kernel
theorem d_B_take_31 : decode b_B_take 31 = .ok (.istore_n 3, 1) := by decide +kernel
theorem d_B_take_32 : decode b_B_take 32 = .ok (.iload_n 3, 1) := by decide +kernel
theorem d_B_take_33 : decode b_B_take 33 = .ok (.iconst 4, 1) := by decide +kernel
theorem d_B_take_34 : decode b_B_take 34 = .ok (.if_icmp .ge 31, 3) := by decide +kernel
theorem d_B_take_37 : decode b_B_take 37 = .ok (.aload_n 0, 1) := by decide +kernel
theorem d_B_take_38 : decode b_B_take 38 = .ok (.getfield 76, 3) := by decide +kernel
theorem d_B_take_41 : decode b_B_take 41 = .ok (.iconst 4, 1) := by decide +kernel
theorem d_B_take_42 : decode b_B_take 42 = .ok (.iload_n 2, 1) := by decide +kernel
theorem d_B_take_43 : decode b_B_take 43 = .ok (.imul, 1) := by decide +kernel
theorem d_B_take_44 : decode b_B_take 44 = .ok (.iload_n 3, 1) := by decide +kernel
theorem d_B_take_45 : decode b_B_take 45 = .ok (.iadd, 1) := by decide +kernel
theorem d_B_take_46 : decode b_B_take 46 = .ok (.iconst 1, 1) := by decide +kernel
theorem d_B_take_47 : decode b_B_take 47 = .ok (.isub, 1) := by decide +kernel
theorem d_B_take_48 : decode b_B_take 48 = .ok (.aload_n 0, 1) := by decide +kernel
theorem d_B_take_49 : decode b_B_take 49 = .ok (.getfield 76, 3) := by decide +kernel
theorem d_B_take_52 : decode b_B_take 52 = .ok (.iconst 4, 1) := by decide +kernel
theorem d_B_take_53 : decode b_B_take 53 = .ok (.iload_n 2, 1) := by decide +kernel
theorem d_B_take_54 : decode b_B_take 54 = .ok (.imul, 1) := by decide +kernel
theorem d_B_take_55 : decode b_B_take 55 = .ok (.iload_n 3, 1) := by decide +kernel
theorem d_B_take_56 : decode b_B_take 56 = .ok (.iadd, 1) := by decide +kernel
theorem d_B_take_57 : decode b_B_take 57 = .ok (.iaload, 1) := by decide +kernel
theorem d_B_take_58 : decode b_B_take 58 = .ok (.iastore, 1) := by decide +kernel
theorem d_B_take_59 : decode b_B_take 59 = .ok (.iinc 3 1, 3) := by decide +kernel
theorem d_B_take_62 : decode b_B_take 62 = .ok (.goto (-30), 3) := by decide +kernel
theorem d_B_take_65 : decode b_B_take 65 = .ok (.aload_n 0, 1) := by decide +kernel
theorem d_B_take_66 : decode b_B_take 66 = .ok (.getfield 79, 3) := by decide +kernel
theorem d_B_take_69 : decode b_B_take 69 = .ok (.iload_n 2, 1) := by decide +kernel
theorem d_B_take_70 : decode b_B_take 70 = .ok (.dup2, 1) := by decide +kernel
theorem d_B_take_71 : decode b_B_take 71 = .ok (.iaload, 1) := by decide +kernel
theorem d_B_take_72 : decode b_B_take 72 = .ok (.iconst 1, 1) := by decide +kernel
theorem d_B_take_73 : decode b_B_take 73 = .ok (.isub, 1) := by decide +kernel
theorem d_B_take_74 : decode b_B_take 74 = .ok (.iastore, 1) := by decide +kernel
theorem d_B_take_75 : decode b_B_take 75 = .ok (.aload_n 0, 1) := by decide +kernel
theorem d_B_take_76 : decode b_B_take 76 = .ok (.iload_n 1, 1) := by decide +kernel
theorem d_B_take_77 : decode b_B_take 77 = .ok (.invokevirtual 117, 3) := by decide +kernel
theorem d_B_take_80 : decode b_B_take 80 = .ok (.return_, 1) := by decide +kernel
theorem d_B_up_0 : decode b_B_up 0 = .ok (.aload_n 0, 1) := by decide +kernel
theorem d_B_up_1 : decode b_B_up 1 = .ok (.iconst 4, 1) := by decide +kernel
theorem d_B_up_2 : decode b_B_up 2 = .ok (.iload_n 2, 1) := by decide +kernel
theorem d_B_up_3 : decode b_B_up 3 = .ok (.invokevirtual 120, 3) := by decide +kernel
theorem d_B_up_6 : decode b_B_up 6 = .ok (.istore_n 3, 1) := by decide +kernel
theorem d_B_up_7 : decode b_B_up 7 = .ok (.iload_n 3, 1) := by decide +kernel
theorem d_B_up_8 : decode b_B_up 8 = .ok (.ifCond .lt 11, 3) := by decide +kernel
theorem d_B_up_11 : decode b_B_up 11 = .ok (.aload_n 0, 1) := by decide +kernel
theorem d_B_up_12 : decode b_B_up 12 = .ok (.iload_n 3, 1) := by decide +kernel
theorem d_B_up_13 : decode b_B_up 13 = .ok (.invokevirtual 124, 3) := by decide +kernel
theorem d_B_up_16 : decode b_B_up 16 = .ok (.goto 24, 3) := by decide +kernel
theorem d_B_up_19 : decode b_B_up 19 = .ok (.aload_n 0, 1) := by decide +kernel
theorem d_B_up_20 : decode b_B_up 20 = .ok (.getfield 82, 3) := by decide +kernel
theorem d_B_up_23 : decode b_B_up 23 = .ok (.iload_n 2, 1) := by decide +kernel
theorem d_B_up_24 : decode b_B_up 24 = .ok (.iaload, 1) := by decide +kernel
theorem d_B_up_25 : decode b_B_up 25 = .ok (.bipush 9, 2) := by decide +kernel
theorem d_B_up_27 : decode b_B_up 27 = .ok (.if_icmp .ge 13, 3) := by decide +kernel
theorem d_B_up_30 : decode b_B_up 30 = .ok (.aload_n 0, 1) := by decide +kernel
theorem d_B_up_31 : decode b_B_up 31 = .ok (.getfield 82, 3) := by decide +kernel
theorem d_B_up_34 : decode b_B_up 34 = .ok (.iload_n 2, 1) := by decide +kernel
theorem d_B_up_35 : decode b_B_up 35 = .ok (.dup2, 1) := by decide +kernel
theorem d_B_up_36 : decode b_B_up 36 = .ok (.iaload, 1) := by decide +kernel
theorem d_B_up_37 : decode b_B_up 37 = .ok (.iconst 1, 1) := by decide +kernel
theorem d_B_up_38 : decode b_B_up 38 = .ok (.iadd, 1) := by decide +kernel
theorem d_B_up_39 : decode b_B_up 39 = .ok (.iastore, 1) := by decide +kernel
theorem d_B_up_40 : decode b_B_up 40 = .ok (.aload_n 0, 1) := by decide +kernel
theorem d_B_up_41 : decode b_B_up 41 = .ok (.iload_n 1, 1) := by decide +kernel
theorem d_B_up_42 : decode b_B_up 42 = .ok (.invokevirtual 117, 3) := by decide +kernel
theorem d_B_up_45 : decode b_B_up 45 = .ok (.return_, 1) := by decide +kernel
theorem d_B_down_0 : decode b_B_down 0 = .ok (.aload_n 0, 1) := by decide +kernel
theorem d_B_down_1 : decode b_B_down 1 = .ok (.getfield 82, 3) := by decide +kernel
theorem d_B_down_4 : decode b_B_down 4 = .ok (.iload_n 2, 1) := by decide +kernel
theorem d_B_down_5 : decode b_B_down 5 = .ok (.iaload, 1) := by decide +kernel
theorem d_B_down_6 : decode b_B_down 6 = .ok (.ifCond .ne 10, 3) := by decide +kernel
theorem d_B_down_9 : decode b_B_down 9 = .ok (.aload_n 0, 1) := by decide +kernel
theorem d_B_down_10 : decode b_B_down 10 = .ok (.iload_n 1, 1) := by decide +kernel
theorem d_B_down_11 : decode b_B_down 11 = .ok (.iconst 2, 1) := by decide +kernel
theorem d_B_down_12 : decode b_B_down 12 = .ok (.invokevirtual 110, 3) := by decide +kernel
theorem d_B_down_15 : decode b_B_down 15 = .ok (.return_, 1) := by decide +kernel
theorem d_B_down_16 : decode b_B_down 16 = .ok (.aload_n 0, 1) := by decide +kernel
theorem d_B_down_17 : decode b_B_down 17 = .ok (.getfield 82, 3) := by decide +kernel
theorem d_B_down_20 : decode b_B_down 20 = .ok (.iload_n 2, 1) := by decide +kernel
theorem d_B_down_21 : decode b_B_down 21 = .ok (.dup2, 1) := by decide +kernel
theorem d_B_down_22 : decode b_B_down 22 = .ok (.iaload, 1) := by decide +kernel
theorem d_B_down_23 : decode b_B_down 23 = .ok (.iconst 1, 1) := by decide +kernel
theorem d_B_down_24 : decode b_B_down 24 = .ok (.isub, 1) := by decide +kernel
theorem d_B_down_25 : decode b_B_down 25 = .ok (.iastore, 1) := by decide +kernel
theorem d_B_down_26 : decode b_B_down 26 = .ok (.aload_n 0, 1) := by decide +kernel
theorem d_B_down_27 : decode b_B_down 27 = .ok (.iload_n 1, 1) := by decide +kernel
theorem d_B_down_28 : decode b_B_down 28 = .ok (.invokevirtual 117, 3) := by decide +kernel
theorem d_B_down_31 : decode b_B_down 31 = .ok (.return_, 1) := by decide +kernel
theorem d_B_partition_0 : decode b_B_partition 0 = .ok (.iload_n 1, 1) := by decide +kernel
theorem d_B_partition_1 : decode b_B_partition 1 = .ok (.iconst 0, 1) := by decide +kernel
theorem d_B_partition_2 : decode b_B_partition 2 = .ok (.iconst 2, 1) := by decide +kernel
theorem d_B_partition_3 : decode b_B_partition 3 = .ok (.invokestatic 85, 3) := by decide +kernel
theorem d_B_partition_6 : decode b_B_partition 6 = .ok (.ifCond .eq 12, 3) := by decide +kernel
theorem d_B_partition_9 : decode b_B_partition 9 = .ok (.aload_n 0, 1) := by decide +kernel
theorem d_B_partition_10 : decode b_B_partition 10 = .ok (.getfield 16, 3) := by decide +kernel
theorem d_B_partition_13 : decode b_B_partition 13 = .ok (.iload_n 1, 1) := by decide +kernel
theorem d_B_partition_14 : decode b_B_partition 14 = .ok (.iaload, 1) := by decide +kernel
theorem d_B_partition_15 : decode b_B_partition 15 = .ok (.goto 4, 3) := by decide +kernel
theorem d_B_partition_18 : decode b_B_partition 18 = .ok (.iconst (-1), 1) := by decide +kernel
