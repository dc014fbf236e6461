theorem d_B_partition_19 : decode b_B_partition 19 = .ok (.ireturn, 1) := by decide +kernel
theorem d_B_state_0 : decode b_B_state 0 = .ok (.iload_n 1, 1) := by decide +kernel
theorem d_B_state_1 : decode b_B_state 1 = .ok (.iconst 0, 1) := by decide +kernel
theorem d_B_state_2 : decode b_B_state 2 = .ok (.aload_n 0, 1) := by decide +kernel
theorem d_B_state_3 : decode b_B_state 3 = .ok (.getfield 97, 3) := by decide +kernel
theorem d_B_state_6 : decode b_B_state 6 = .ok (.iconst 1, 1) := by decide +kernel
theorem d_B_state_7 : decode b_B_state 7 = .ok (.isub, 1) := by decide +kernel
theorem d_B_state_8 : decode b_B_state 8 = .ok (.invokestatic 85, 3) := by decide +kernel
theorem d_B_state_11 : decode b_B_state 11 = .ok (.ifCond .ne 5, 3) := by decide +kernel
theorem d_B_state_14 : decode b_B_state 14 = .ok (.iconst (-1), 1) := by decide +kernel
theorem d_B_state_15 : decode b_B_state 15 = .ok (.ireturn, 1) := by decide +kernel
theorem d_B_state_16 : decode b_B_state 16 = .ok (.iload_n 2, 1) := by decide +kernel
theorem d_B_state_17 : decode b_B_state 17 = .ok (.tableswitch 125 0 9 #[55, 62, 69, 76, 83, 90, 97, 104, 111, 118], 55) := by decide +kernel
theorem d_B_state_72 : decode b_B_state 72 = .ok (.aload_n 0, 1) := by decide +kernel
theorem d_B_state_73 : decode b_B_state 73 = .ok (.getfield 43, 3) := by decide +kernel
theorem d_B_state_76 : decode b_B_state 76 = .ok (.iload_n 1, 1) := by decide +kernel
theorem d_B_state_77 : decode b_B_state 77 = .ok (.iaload, 1) := by decide +kernel
theorem d_B_state_78 : decode b_B_state 78 = .ok (.ireturn, 1) := by decide +kernel
theorem d_B_state_79 : decode b_B_state 79 = .ok (.aload_n 0, 1) := by decide +kernel
theorem d_B_state_80 : decode b_B_state 80 = .ok (.getfield 46, 3) := by decide +kernel
theorem d_B_state_83 : decode b_B_state 83 = .ok (.iload_n 1, 1) := by decide +kernel
theorem d_B_state_84 : decode b_B_state 84 = .ok (.iaload, 1) := by decide +kernel
theorem d_B_state_85 : decode b_B_state 85 = .ok (.ireturn, 1) := by decide +kernel
theorem d_B_state_86 : decode b_B_state 86 = .ok (.aload_n 0, 1) := by decide +kernel
theorem d_B_state_87 : decode b_B_state 87 = .ok (.getfield 49, 3) := by decide +kernel
theorem d_B_state_90 : decode b_B_state 90 = .ok (.iload_n 1, 1) := by decide +kernel
theorem d_B_state_91 : decode b_B_state 91 = .ok (.iaload, 1) := by decide +kernel
theorem d_B_state_92 : decode b_B_state 92 = .ok (.ireturn, 1) := by decide +kernel
theorem d_B_state_93 : decode b_B_state 93 = .ok (.aload_n 0, 1) := by decide +kernel
theorem d_B_state_94 : decode b_B_state 94 = .ok (.getfield 52, 3) := by decide +kernel
theorem d_B_state_97 : decode b_B_state 97 = .ok (.iload_n 1, 1) := by decide +kernel
theorem d_B_state_98 : decode b_B_state 98 = .ok (.iaload, 1) := by decide +kernel
theorem d_B_state_99 : decode b_B_state 99 = .ok (.ireturn, 1) := by decide +kernel
theorem d_B_state_100 : decode b_B_state 100 = .ok (.aload_n 0, 1) := by decide +kernel
theorem d_B_state_101 : decode b_B_state 101 = .ok (.getfield 55, 3) := by decide +kernel
theorem d_B_state_104 : decode b_B_state 104 = .ok (.iload_n 1, 1) := by decide +kernel
theorem d_B_state_105 : decode b_B_state 105 = .ok (.iaload, 1) := by decide +kernel
theorem d_B_state_106 : decode b_B_state 106 = .ok (.ireturn, 1) := by decide +kernel
theorem d_B_state_107 : decode b_B_state 107 = .ok (.aload_n 0, 1) := by decide +kernel
theorem d_B_state_108 : decode b_B_state 108 = .ok (.getfield 58, 3) := by decide +kernel
theorem d_B_state_111 : decode b_B_state 111 = .ok (.iload_n 1, 1) := by decide +kernel
theorem d_B_state_112 : decode b_B_state 112 = .ok (.iaload, 1) := by decide +kernel
theorem d_B_state_113 : decode b_B_state 113 = .ok (.ireturn, 1) := by decide +kernel
theorem d_B_state_114 : decode b_B_state 114 = .ok (.aload_n 0, 1) := by decide +kernel
theorem d_B_state_115 : decode b_B_state 115 = .ok (.getfield 61, 3) := by decide +kernel
theorem d_B_state_118 : decode b_B_state 118 = .ok (.iload_n 1, 1) := by decide +kernel
theorem d_B_state_119 : decode b_B_state 119 = .ok (.iaload, 1) := by decide +kernel
theorem d_B_state_120 : decode b_B_state 120 = .ok (.ireturn, 1) := by decide +kernel
theorem d_B_state_121 : decode b_B_state 121 = .ok (.aload_n 0, 1) := by decide +kernel
theorem d_B_state_122 : decode b_B_state 122 = .ok (.getfield 64, 3) := by decide +kernel
theorem d_B_state_125 : decode b_B_state 125 = .ok (.iload_n 1, 1) := by decide +kernel
theorem d_B_state_126 : decode b_B_state 126 = .ok (.iaload, 1) := by decide +kernel
theorem d_B_state_127 : decode b_B_state 127 = .ok (.ireturn, 1) := by decide +kernel
theorem d_B_state_128 : decode b_B_state 128 = .ok (.aload_n 0, 1) := by decide +kernel
theorem d_B_state_129 : decode b_B_state 129 = .ok (.getfield 67, 3) := by decide +kernel
theorem d_B_state_132 : decode b_B_state 132 = .ok (.iload_n 1, 1) := by decide +kernel
theorem d_B_state_133 : decode b_B_state 133 = .ok (.iaload, 1) := by decide +kernel
theorem d_B_state_134 : decode b_B_state 134 = .ok (.ireturn, 1) := by decide +kernel
theorem d_B_state_135 : decode b_B_state 135 = .ok (.aload_n 0, 1) := by decide +kernel
theorem d_B_state_136 : decode b_B_state 136 = .ok (.getfield 70, 3) := by decide +kernel
theorem d_B_state_139 : decode b_B_state 139 = .ok (.iload_n 1, 1) := by decide +kernel
theorem d_B_state_140 : decode b_B_state 140 = .ok (.iaload, 1) := by decide +kernel
theorem d_B_state_141 : decode b_B_state 141 = .ok (.ireturn, 1) := by decide +kernel
theorem d_B_state_142 : decode b_B_state 142 = .ok (.iconst (-1), 1) := by decide +kernel
theorem d_B_state_143 : decode b_B_state 143 = .ok (.ireturn, 1) := by decide +kernel
theorem d_B_port_0 : decode b_B_port 0 = .ok (.iload_n 1, 1) := by decide +kernel
theorem d_B_port_1 : decode b_B_port 1 = .ok (.iconst 0, 1) := by decide +kernel
theorem d_B_port_2 : decode b_B_port 2 = .ok (.iconst 3, 1) := by decide +kernel
theorem d_B_port_3 : decode b_B_port 3 = .ok (.invokestatic 85, 3) := by decide +kernel
theorem d_B_port_6 : decode b_B_port 6 = .ok (.ifCond .eq 12, 3) := by decide +kernel
theorem d_B_port_9 : decode b_B_port 9 = .ok (.aload_n 0, 1) := by decide +kernel
theorem d_B_port_10 : decode b_B_port 10 = .ok (.getfield 79, 3) := by decide +kernel
theorem d_B_port_13 : decode b_B_port 13 = .ok (.iload_n 1, 1) := by decide +kernel
theorem d_B_port_14 : decode b_B_port 14 = .ok (.iaload, 1) := by decide +kernel
theorem d_B_port_15 : decode b_B_port 15 = .ok (.goto 4, 3) := by decide +kernel
theorem d_B_port_18 : decode b_B_port 18 = .ok (.iconst (-1), 1) := by decide +kernel
theorem d_B_port_19 : decode b_B_port 19 = .ok (.ireturn, 1) := by decide +kernel
theorem d_B_semaphore_0 : decode b_B_semaphore 0 = .ok (.iload_n 1, 1) := by decide +kernel
theorem d_B_semaphore_1 : decode b_B_semaphore 1 = .ok (.iconst 0, 1) := by decide +kernel
theorem d_B_semaphore_2 : decode b_B_semaphore 2 = .ok (.iconst 3, 1) := by decide +kernel
theorem d_B_semaphore_3 : decode b_B_semaphore 3 = .ok (.invokestatic 85, 3) := by decide +kernel
theorem d_B_semaphore_6 : decode b_B_semaphore 6 = .ok (.ifCond .eq 12, 3) := by decide +kernel
theorem d_B_semaphore_9 : decode b_B_semaphore 9 = .ok (.aload_n 0, 1) := by decide +kernel
theorem d_B_semaphore_10 : decode b_B_semaphore 10 = .ok (.getfield 82, 3) := by decide +kernel
theorem d_B_semaphore_13 : decode b_B_semaphore 13 = .ok (.iload_n 1, 1) := by decide +kernel
theorem d_B_semaphore_14 : decode b_B_semaphore 14 = .ok (.iaload, 1) := by decide +kernel
theorem d_B_semaphore_15 : decode b_B_semaphore 15 = .ok (.goto 4, 3) := by decide +kernel
theorem d_B_semaphore_18 : decode b_B_semaphore 18 = .ok (.iconst (-1), 1) := by decide +kernel
theorem d_B_semaphore_19 : decode b_B_semaphore 19 = .ok (.ireturn, 1) := by decide +kernel
theorem d_B_count_0 : decode b_B_count 0 = .ok (.iload_n 1, 1) := by decide +kernel
theorem d_B_count_1 : decode b_B_count 1 = .ok (.tableswitch 80 0 6 #[43, 48, 54, 60, 65, 70, 75], 43) := by decide +kernel
theorem d_B_count_44 : decode b_B_count 44 = .ok (.aload_n 0, 1) := by decide +kernel
theorem d_B_count_45 : decode b_B_count 45 = .ok (.getfield 104, 3) := by decide +kernel
theorem d_B_count_48 : decode b_B_count 48 = .ok (.ireturn, 1) := by decide +kernel
theorem d_B_count_49 : decode b_B_count 49 = .ok (.aload_n 0, 1) := by decide +kernel
theorem d_B_count_50 : decode b_B_count 50 = .ok (.iconst 0, 1) := by decide +kernel
theorem d_B_count_51 : decode b_B_count 51 = .ok (.invokevirtual 148, 3) := by decide +kernel
theorem d_B_count_54 : decode b_B_count 54 = .ok (.ireturn, 1) := by decide +kernel
theorem d_B_count_55 : decode b_B_count 55 = .ok (.aload_n 0, 1) := by decide +kernel
theorem d_B_count_56 : decode b_B_count 56 = .ok (.iconst 1, 1) := by decide +kernel
theorem d_B_count_57 : decode b_B_count 57 = .ok (.invokevirtual 148, 3) := by decide +kernel
theorem d_B_count_60 : decode b_B_count 60 = .ok (.ireturn, 1) := by decide +kernel
theorem d_B_count_61 : decode b_B_count 61 = .ok (.aload_n 0, 1) := by decide +kernel
theorem d_B_count_62 : decode b_B_count 62 = .ok (.getfield 127, 3) := by decide +kernel
theorem d_B_count_65 : decode b_B_count 65 = .ok (.ireturn, 1) := by decide +kernel
theorem d_B_count_66 : decode b_B_count 66 = .ok (.aload_n 0, 1) := by decide +kernel
theorem d_B_count_67 : decode b_B_count 67 = .ok (.getfield 156, 3) := by decide +kernel
theorem d_B_count_70 : decode b_B_count 70 = .ok (.ireturn, 1) := by decide +kernel
theorem d_B_count_71 : decode b_B_count 71 = .ok (.aload_n 0, 1) := by decide +kernel
theorem d_B_count_72 : decode b_B_count 72 = .ok (.getfield 97, 3) := by decide +kernel
theorem d_B_count_75 : decode b_B_count 75 = .ok (.ireturn, 1) := by decide +kernel
theorem d_B_count_76 : decode b_B_count 76 = .ok (.aload_n 0, 1) := by decide +kernel
theorem d_B_count_77 : decode b_B_count 77 = .ok (.getfield 93, 3) := by decide +kernel
theorem d_B_count_80 : decode b_B_count 80 = .ok (.ireturn, 1) := by decide +kernel
theorem d_B_count_81 : decode b_B_count 81 = .ok (.iconst (-1), 1) := by decide +kernel
theorem d_B_count_82 : decode b_B_count 82 = .ok (.ireturn, 1) := by decide +kernel
theorem d_Lw_law_0 : decode code 0 = .ok (.new 7, 3) := by decide +kernel
theorem d_Lw_law_3 : decode code 3 = .ok (.dup, 1) := by decide +kernel
theorem d_Lw_law_4 : decode code 4 = .ok (.invokespecial 9, 3) := by decide +kernel
theorem d_Lw_law_7 : decode code 7 = .ok (.astore_n 1, 1) := by decide +kernel
theorem d_Lw_law_8 : decode code 8 = .ok (.new 10, 3) := by decide +kernel
theorem d_Lw_law_11 : decode code 11 = .ok (.dup, 1) := by decide +kernel
theorem d_Lw_law_12 : decode code 12 = .ok (.invokespecial 12, 3) := by decide +kernel
theorem d_Lw_law_15 : decode code 15 = .ok (.astore_n 2, 1) := by decide +kernel
theorem d_Lw_law_16 : decode code 16 = .ok (.iconst 0, 1) := by decide +kernel
theorem d_Lw_law_17 : decode code 17 = .ok (.istore_n 3, 1) := by decide +kernel
theorem d_Lw_law_18 : decode code 18 = .ok (.iload_n 3, 1) := by decide +kernel
theorem d_Lw_law_19 : decode code 19 = .ok (.aload_n 0, 1) := by decide +kernel
theorem d_Lw_law_20 : decode code 20 = .ok (.arraylength, 1) := by decide +kernel
theorem d_Lw_law_21 : decode code 21 = .ok (.iconst 5, 1) := by decide +kernel
theorem d_Lw_law_22 : decode code 22 = .ok (.isub, 1) := by decide +kernel
theorem d_Lw_law_23 : decode code 23 = .ok (.if_icmp .gt 435, 3) := by decide +kernel
theorem d_Lw_law_26 : decode code 26 = .ok (.aload_n 0, 1) := by decide +kernel
theorem d_Lw_law_27 : decode code 27 = .ok (.iload_n 3, 1) := by decide +kernel
theorem d_Lw_law_28 : decode code 28 = .ok (.iaload, 1) := by decide +kernel
theorem d_Lw_law_29 : decode code 29 = .ok (.bipush 15, 2) := by decide +kernel
theorem d_Lw_law_31 : decode code 31 = .ok (.iand, 1) := by decide +kernel
theorem d_Lw_law_32 : decode code 32 = .ok (.tableswitch 420 0 11 #[64, 97, 150, 193, 226, 249, 272, 295, 318, 351, 374, 397], 64) := by decide +kernel
theorem d_Lw_law_96 : decode code 96 = .ok (.aload_n 1, 1) := by decide +kernel
theorem d_Lw_law_97 : decode code 97 = .ok (.aload_n 0, 1) := by decide +kernel
theorem d_Lw_law_98 : decode code 98 = .ok (.iload_n 3, 1) := by decide +kernel
theorem d_Lw_law_99 : decode code 99 = .ok (.iconst 1, 1) := by decide +kernel
theorem d_Lw_law_100 : decode code 100 = .ok (.iadd, 1) := by decide +kernel
theorem d_Lw_law_101 : decode code 101 = .ok (.iaload, 1) := by decide +kernel
theorem d_Lw_law_102 : decode code 102 = .ok (.aload_n 0, 1) := by decide +kernel
theorem d_Lw_law_103 : decode code 103 = .ok (.iload_n 3, 1) := by decide +kernel
theorem d_Lw_law_104 : decode code 104 = .ok (.iconst 2, 1) := by decide +kernel
theorem d_Lw_law_105 : decode code 105 = .ok (.iadd, 1) := by decide +kernel
theorem d_Lw_law_106 : decode code 106 = .ok (.iaload, 1) := by decide +kernel
theorem d_Lw_law_107 : decode code 107 = .ok (.invokevirtual 13, 3) := by decide +kernel
theorem d_Lw_law_110 : decode code 110 = .ok (.aload_n 2, 1) := by decide +kernel
theorem d_Lw_law_111 : decode code 111 = .ok (.aload_n 0, 1) := by decide +kernel
theorem d_Lw_law_112 : decode code 112 = .ok (.iload_n 3, 1) := by decide +kernel
theorem d_Lw_law_113 : decode code 113 = .ok (.iconst 1, 1) := by decide +kernel
theorem d_Lw_law_114 : decode code 114 = .ok (.iadd, 1) := by decide +kernel
theorem d_Lw_law_115 : decode code 115 = .ok (.iaload, 1) := by decide +kernel
theorem d_Lw_law_116 : decode code 116 = .ok (.aload_n 0, 1) := by decide +kernel
theorem d_Lw_law_117 : decode code 117 = .ok (.iload_n 3, 1) := by decide +kernel
theorem d_Lw_law_118 : decode code 118 = .ok (.iconst 2, 1) := by decide +kernel
theorem d_Lw_law_119 : decode code 119 = .ok (.iadd, 1) := by decide +kernel
theorem d_Lw_law_120 : decode code 120 = .ok (.iaload, 1) := by decide +kernel
theorem d_Lw_law_121 : decode code 121 = .ok (.invokevirtual 17, 3) := by decide +kernel
theorem d_Lw_law_124 : decode code 124 = .ok (.if_icmp .eq 328, 3) := by decide +kernel
theorem d_Lw_law_127 : decode code 127 = .ok (.iconst 0, 1) := by decide +kernel
theorem d_Lw_law_128 : decode code 128 = .ok (.ireturn, 1) := by decide +kernel
theorem d_Lw_law_129 : decode code 129 = .ok (.aload_n 1, 1) := by decide +kernel
theorem d_Lw_law_130 : decode code 130 = .ok (.aload_n 0, 1) := by decide +kernel
theorem d_Lw_law_131 : decode code 131 = .ok (.iload_n 3, 1) := by decide +kernel
theorem d_Lw_law_132 : decode code 132 = .ok (.iconst 1, 1) := by decide +kernel
theorem d_Lw_law_133 : decode code 133 = .ok (.iadd, 1) := by decide +kernel
theorem d_Lw_law_134 : decode code 134 = .ok (.iaload, 1) := by decide +kernel
theorem d_Lw_law_135 : decode code 135 = .ok (.aload_n 0, 1) := by decide +kernel
theorem d_Lw_law_136 : decode code 136 = .ok (.iload_n 3, 1) := by decide +kernel
theorem d_Lw_law_137 : decode code 137 = .ok (.iconst 2, 1) := by decide +kernel
theorem d_Lw_law_138 : decode code 138 = .ok (.iadd, 1) := by decide +kernel
theorem d_Lw_law_139 : decode code 139 = .ok (.iaload, 1) := by decide +kernel
theorem d_Lw_law_140 : decode code 140 = .ok (.aload_n 0, 1) := by decide +kernel
theorem d_Lw_law_141 : decode code 141 = .ok (.iload_n 3, 1) := by decide +kernel
theorem d_Lw_law_142 : decode code 142 = .ok (.iconst 3, 1) := by decide +kernel
theorem d_Lw_law_143 : decode code 143 = .ok (.iadd, 1) := by decide +kernel
theorem d_Lw_law_144 : decode code 144 = .ok (.iaload, 1) := by decide +kernel
theorem d_Lw_law_145 : decode code 145 = .ok (.aload_n 0, 1) := by decide +kernel
theorem d_Lw_law_146 : decode code 146 = .ok (.iload_n 3, 1) := by decide +kernel
theorem d_Lw_law_147 : decode code 147 = .ok (.iconst 4, 1) := by decide +kernel
theorem d_Lw_law_148 : decode code 148 = .ok (.iadd, 1) := by decide +kernel
theorem d_Lw_law_149 : decode code 149 = .ok (.iaload, 1) := by decide +kernel
theorem d_Lw_law_150 : decode code 150 = .ok (.invokevirtual 18, 3) := by decide +kernel
theorem d_Lw_law_153 : decode code 153 = .ok (.aload_n 2, 1) := by decide +kernel
theorem d_Lw_law_154 : decode code 154 = .ok (.aload_n 0, 1) := by decide +kernel
theorem d_Lw_law_155 : decode code 155 = .ok (.iload_n 3, 1) := by decide +kernel
theorem d_Lw_law_156 : decode code 156 = .ok (.iconst 1, 1) := by decide +kernel
theorem d_Lw_law_157 : decode code 157 = .ok (.iadd, 1) := by decide +kernel
theorem d_Lw_law_158 : decode code 158 = .ok (.iaload, 1) := by decide +kernel
theorem d_Lw_law_159 : decode code 159 = .ok (.aload_n 0, 1) := by decide +kernel
theorem d_Lw_law_160 : decode code 160 = .ok (.iload_n 3, 1) := by decide +kernel
theorem d_Lw_law_161 : decode code 161 = .ok (.iconst 2, 1) := by decide +kernel
theorem d_Lw_law_162 : decode code 162 = .ok (.iadd, 1) := by decide +kernel
theorem d_Lw_law_163 : decode code 163 = .ok (.iaload, 1) := by decide +kernel
theorem d_Lw_law_164 : decode code 164 = .ok (.aload_n 0, 1) := by decide +kernel
theorem d_Lw_law_165 : decode code 165 = .ok (.iload_n 3, 1) := by decide +kernel
theorem d_Lw_law_166 : decode code 166 = .ok (.iconst 3, 1) := by decide +kernel
theorem d_Lw_law_167 : decode code 167 = .ok (.iadd, 1) := by decide +kernel
theorem d_Lw_law_168 : decode code 168 = .ok (.iaload, 1) := by decide +kernel
theorem d_Lw_law_169 : decode code 169 = .ok (.aload_n 0, 1) := by decide +kernel
theorem d_Lw_law_170 : decode code 170 = .ok (.iload_n 3, 1) := by decide +kernel
theorem d_Lw_law_171 : decode code 171 = .ok (.iconst 4, 1) := by decide +kernel
theorem d_Lw_law_172 : decode code 172 = .ok (.iadd, 1) := by decide +kernel
theorem d_Lw_law_173 : decode code 173 = .ok (.iaload, 1) := by decide +kernel
theorem d_Lw_law_174 : decode code 174 = .ok (.invokevirtual 22, 3) := by decide +kernel
theorem d_Lw_law_177 : decode code 177 = .ok (.if_icmp .eq 275, 3) := by decide +kernel
theorem d_Lw_law_180 : decode code 180 = .ok (.iconst 0, 1) := by decide +kernel
theorem d_Lw_law_181 : decode code 181 = .ok (.ireturn, 1) := by decide +kernel
theorem d_Lw_law_182 : decode code 182 = .ok (.aload_n 1, 1) := by decide +kernel
theorem d_Lw_law_183 : decode code 183 = .ok (.aload_n 0, 1) := by decide +kernel
theorem d_Lw_law_184 : decode code 184 = .ok (.iload_n 3, 1) := by decide +kernel
theorem d_Lw_law_185 : decode code 185 = .ok (.iconst 1, 1) := by decide +kernel
theorem d_Lw_law_186 : decode code 186 = .ok (.iadd, 1) := by decide +kernel
theorem d_Lw_law_187 : decode code 187 = .ok (.iaload, 1) := by decide +kernel
theorem d_Lw_law_188 : decode code 188 = .ok (.aload_n 0, 1) := by decide +kernel
theorem d_Lw_law_189 : decode code 189 = .ok (.iload_n 3, 1) := by decide +kernel
theorem d_Lw_law_190 : decode code 190 = .ok (.iconst 2, 1) := by decide +kernel
theorem d_Lw_law_191 : decode code 191 = .ok (.iadd, 1) := by decide +kernel
theorem d_Lw_law_192 : decode code 192 = .ok (.iaload, 1) := by decide +kernel
theorem d_Lw_law_193 : decode code 193 = .ok (.aload_n 0, 1) := by decide +kernel
theorem d_Lw_law_194 : decode code 194 = .ok (.iload_n 3, 1) := by decide +kernel
theorem d_Lw_law_195 : decode code 195 = .ok (.iconst 3, 1) := by decide +kernel
theorem d_Lw_law_196 : decode code 196 = .ok (.iadd, 1) := by decide +kernel
theorem d_Lw_law_197 : decode code 197 = .ok (.iaload, 1) := by decide +kernel
theorem d_Lw_law_198 : decode code 198 = .ok (.invokevirtual 23, 3) := by decide +kernel
theorem d_Lw_law_201 : decode code 201 = .ok (.aload_n 2, 1) := by decide +kernel
theorem d_Lw_law_202 : decode code 202 = .ok (.aload_n 0, 1) := by decide +kernel
theorem d_Lw_law_203 : decode code 203 = .ok (.iload_n 3, 1) := by decide +kernel
theorem d_Lw_law_204 : decode code 204 = .ok (.iconst 1, 1) := by decide +kernel
theorem d_Lw_law_205 : decode code 205 = .ok (.iadd, 1) := by decide +kernel
theorem d_Lw_law_206 : decode code 206 = .ok (.iaload, 1) := by decide +kernel
theorem d_Lw_law_207 : decode code 207 = .ok (.aload_n 0, 1) := by decide +kernel
theorem d_Lw_law_208 : decode code 208 = .ok (.iload_n 3, 1) := by decide +kernel
theorem d_Lw_law_209 : decode code 209 = .ok (.iconst 2, 1) := by decide +kernel
theorem d_Lw_law_210 : decode code 210 = .ok (.iadd, 1) := by decide +kernel
theorem d_Lw_law_211 : decode code 211 = .ok (.iaload, 1) := by decide +kernel
theorem d_Lw_law_212 : decode code 212 = .ok (.aload_n 0, 1) := by decide +kernel
theorem d_Lw_law_213 : decode code 213 = .ok (.iload_n 3, 1) := by decide +kernel
theorem d_Lw_law_214 : decode code 214 = .ok (.iconst 3, 1) := by decide +kernel
theorem d_Lw_law_215 : decode code 215 = .ok (.iadd, 1) := by decide +kernel
theorem d_Lw_law_216 : decode code 216 = .ok (.iaload, 1) := by decide +kernel
theorem d_Lw_law_217 : decode code 217 = .ok (.invokevirtual 27, 3) := by decide +kernel
theorem d_Lw_law_220 : decode code 220 = .ok (.if_icmp .eq 232, 3) := by decide +kernel
theorem d_Lw_law_223 : decode code 223 = .ok (.iconst 0, 1) := by decide +kernel
theorem d_Lw_law_224 : decode code 224 = .ok (.ireturn, 1) := by decide +kernel
theorem d_Lw_law_225 : decode code 225 = .ok (.aload_n 1, 1) := by decide +kernel
theorem d_Lw_law_226 : decode code 226 = .ok (.aload_n 0, 1) := by decide +kernel
theorem d_Lw_law_227 : decode code 227 = .ok (.iload_n 3, 1) := by decide +kernel
theorem d_Lw_law_228 : decode code 228 = .ok (.iconst 1, 1) := by decide +kernel
theorem d_Lw_law_229 : decode code 229 = .ok (.iadd, 1) := by decide +kernel
theorem d_Lw_law_230 : decode code 230 = .ok (.iaload, 1) := by decide +kernel
theorem d_Lw_law_231 : decode code 231 = .ok (.aload_n 0, 1) := by decide +kernel
theorem d_Lw_law_232 : decode code 232 = .ok (.iload_n 3, 1) := by decide +kernel
theorem d_Lw_law_233 : decode code 233 = .ok (.iconst 2, 1) := by decide +kernel
theorem d_Lw_law_234 : decode code 234 = .ok (.iadd, 1) := by decide +kernel
theorem d_Lw_law_235 : decode code 235 = .ok (.iaload, 1) := by decide +kernel
theorem d_Lw_law_236 : decode code 236 = .ok (.invokevirtual 28, 3) := by decide +kernel
theorem d_Lw_law_239 : decode code 239 = .ok (.aload_n 2, 1) := by decide +kernel
theorem d_Lw_law_240 : decode code 240 = .ok (.aload_n 0, 1) := by decide +kernel
theorem d_Lw_law_241 : decode code 241 = .ok (.iload_n 3, 1) := by decide +kernel
theorem d_Lw_law_242 : decode code 242 = .ok (.iconst 1, 1) := by decide +kernel
theorem d_Lw_law_243 : decode code 243 = .ok (.iadd, 1) := by decide +kernel
theorem d_Lw_law_244 : decode code 244 = .ok (.iaload, 1) := by decide +kernel
theorem d_Lw_law_245 : decode code 245 = .ok (.aload_n 0, 1) := by decide +kernel
theorem d_Lw_law_246 : decode code 246 = .ok (.iload_n 3, 1) := by decide +kernel
theorem d_Lw_law_247 : decode code 247 = .ok (.iconst 2, 1) := by decide +kernel
theorem d_Lw_law_248 : decode code 248 = .ok (.iadd, 1) := by decide +kernel
theorem d_Lw_law_249 : decode code 249 = .ok (.iaload, 1) := by decide +kernel
theorem d_Lw_law_250 : decode code 250 = .ok (.invokevirtual 31, 3) := by decide +kernel
theorem d_Lw_law_253 : decode code 253 = .ok (.if_icmp .eq 199, 3) := by decide +kernel
theorem d_Lw_law_256 : decode code 256 = .ok (.iconst 0, 1) := by decide +kernel
theorem d_Lw_law_257 : decode code 257 = .ok (.ireturn, 1) := by decide +kernel
theorem d_Lw_law_258 : decode code 258 = .ok (.aload_n 1, 1) := by decide +kernel
theorem d_Lw_law_259 : decode code 259 = .ok (.aload_n 0, 1) := by decide +kernel
theorem d_Lw_law_260 : decode code 260 = .ok (.iload_n 3, 1) := by decide +kernel
theorem d_Lw_law_261 : decode code 261 = .ok (.iconst 1, 1) := by decide +kernel
theorem d_Lw_law_262 : decode code 262 = .ok (.iadd, 1) := by decide +kernel
theorem d_Lw_law_263 : decode code 263 = .ok (.iaload, 1) := by decide +kernel
theorem d_Lw_law_264 : decode code 264 = .ok (.invokevirtual 32, 3) := by decide +kernel
theorem d_Lw_law_267 : decode code 267 = .ok (.aload_n 2, 1) := by decide +kernel
theorem d_Lw_law_268 : decode code 268 = .ok (.aload_n 0, 1) := by decide +kernel
theorem d_Lw_law_269 : decode code 269 = .ok (.iload_n 3, 1) := by decide +kernel
theorem d_Lw_law_270 : decode code 270 = .ok (.iconst 1, 1) := by decide +kernel
theorem d_Lw_law_271 : decode code 271 = .ok (.iadd, 1) := by decide +kernel
theorem d_Lw_law_272 : decode code 272 = .ok (.iaload, 1) := by decide +kernel
theorem d_Lw_law_273 : decode code 273 = .ok (.invokevirtual 36, 3) := by decide +kernel
theorem d_Lw_law_276 : decode code 276 = .ok (.if_icmp .eq 176, 3) := by decide +kernel
theorem d_Lw_law_279 : decode code 279 = .ok (.iconst 0, 1) := by decide +kernel
theorem d_Lw_law_280 : decode code 280 = .ok (.ireturn, 1) := by decide +kernel
theorem d_Lw_law_281 : decode code 281 = .ok (.aload_n 1, 1) := by decide +kernel
theorem d_Lw_law_282 : decode code 282 = .ok (.aload_n 0, 1) := by decide +kernel
theorem d_Lw_law_283 : decode code 283 = .ok (.iload_n 3, 1) := by decide +kernel
theorem d_Lw_law_284 : decode code 284 = .ok (.iconst 1, 1) := by decide +kernel
theorem d_Lw_law_285 : decode code 285 = .ok (.iadd, 1) := by decide +kernel
theorem d_Lw_law_286 : decode code 286 = .ok (.iaload, 1) := by decide +kernel
theorem d_Lw_law_287 : decode code 287 = .ok (.invokevirtual 37, 3) := by decide +kernel
theorem d_Lw_law_290 : decode code 290 = .ok (.aload_n 2, 1) := by decide +kernel
theorem d_Lw_law_291 : decode code 291 = .ok (.aload_n 0, 1) := by decide +kernel
theorem d_Lw_law_292 : decode code 292 = .ok (.iload_n 3, 1) := by decide +kernel
theorem d_Lw_law_293 : decode code 293 = .ok (.iconst 1, 1) := by decide +kernel
theorem d_Lw_law_294 : decode code 294 = .ok (.iadd, 1) := by decide +kernel
theorem d_Lw_law_295 : decode code 295 = .ok (.iaload, 1) := by decide +kernel
theorem d_Lw_law_296 : decode code 296 = .ok (.invokevirtual 40, 3) := by decide +kernel
theorem d_Lw_law_299 : decode code 299 = .ok (.if_icmp .eq 153, 3) := by decide +kernel
theorem d_Lw_law_302 : decode code 302 = .ok (.iconst 0, 1) := by decide +kernel
theorem d_Lw_law_303 : decode code 303 = .ok (.ireturn, 1) := by decide +kernel
theorem d_Lw_law_304 : decode code 304 = .ok (.aload_n 1, 1) := by decide +kernel
theorem d_Lw_law_305 : decode code 305 = .ok (.aload_n 0, 1) := by decide +kernel
theorem d_Lw_law_306 : decode code 306 = .ok (.iload_n 3, 1) := by decide +kernel
theorem d_Lw_law_307 : decode code 307 = .ok (.iconst 1, 1) := by decide +kernel
theorem d_Lw_law_308 : decode code 308 = .ok (.iadd, 1) := by decide +kernel
theorem d_Lw_law_309 : decode code 309 = .ok (.iaload, 1) := by decide +kernel
theorem d_Lw_law_310 : decode code 310 = .ok (.invokevirtual 41, 3) := by decide +kernel
theorem d_Lw_law_313 : decode code 313 = .ok (.aload_n 2, 1) := by decide +kernel
theorem d_Lw_law_314 : decode code 314 = .ok (.aload_n 0, 1) := by decide +kernel
theorem d_Lw_law_315 : decode code 315 = .ok (.iload_n 3, 1) := by decide +kernel
theorem d_Lw_law_316 : decode code 316 = .ok (.iconst 1, 1) := by decide +kernel
theorem d_Lw_law_317 : decode code 317 = .ok (.iadd, 1) := by decide +kernel
theorem d_Lw_law_318 : decode code 318 = .ok (.iaload, 1) := by decide +kernel
theorem d_Lw_law_319 : decode code 319 = .ok (.invokevirtual 44, 3) := by decide +kernel
theorem d_Lw_law_322 : decode code 322 = .ok (.if_icmp .eq 130, 3) := by decide +kernel
theorem d_Lw_law_325 : decode code 325 = .ok (.iconst 0, 1) := by decide +kernel
theorem d_Lw_law_326 : decode code 326 = .ok (.ireturn, 1) := by decide +kernel
theorem d_Lw_law_327 : decode code 327 = .ok (.aload_n 1, 1) := by decide +kernel
theorem d_Lw_law_328 : decode code 328 = .ok (.aload_n 0, 1) := by decide +kernel
theorem d_Lw_law_329 : decode code 329 = .ok (.iload_n 3, 1) := by decide +kernel
theorem d_Lw_law_330 : decode code 330 = .ok (.iconst 1, 1) := by decide +kernel
theorem d_Lw_law_331 : decode code 331 = .ok (.iadd, 1) := by decide +kernel
theorem d_Lw_law_332 : decode code 332 = .ok (.iaload, 1) := by decide +kernel
theorem d_Lw_law_333 : decode code 333 = .ok (.invokevirtual 45, 3) := by decide +kernel
theorem d_Lw_law_336 : decode code 336 = .ok (.aload_n 2, 1) := by decide +kernel
theorem d_Lw_law_337 : decode code 337 = .ok (.aload_n 0, 1) := by decide +kernel
theorem d_Lw_law_338 : decode code 338 = .ok (.iload_n 3, 1) := by decide +kernel
theorem d_Lw_law_339 : decode code 339 = .ok (.iconst 1, 1) := by decide +kernel
theorem d_Lw_law_340 : decode code 340 = .ok (.iadd, 1) := by decide +kernel
theorem d_Lw_law_341 : decode code 341 = .ok (.iaload, 1) := by decide +kernel
theorem d_Lw_law_342 : decode code 342 = .ok (.invokevirtual 48, 3) := by decide +kernel
theorem d_Lw_law_345 : decode code 345 = .ok (.if_icmp .eq 107, 3) := by decide +kernel
theorem d_Lw_law_348 : decode code 348 = .ok (.iconst 0, 1) := by decide +kernel
theorem d_Lw_law_349 : decode code 349 = .ok (.ireturn, 1) := by decide +kernel
theorem d_Lw_law_350 : decode code 350 = .ok (.aload_n 1, 1) := by decide +kernel
theorem d_Lw_law_351 : decode code 351 = .ok (.aload_n 0, 1) := by decide +kernel
theorem d_Lw_law_352 : decode code 352 = .ok (.iload_n 3, 1) := by decide +kernel
theorem d_Lw_law_353 : decode code 353 = .ok (.iconst 1, 1) := by decide +kernel
theorem d_Lw_law_354 : decode code 354 = .ok (.iadd, 1) := by decide +kernel
theorem d_Lw_law_355 : decode code 355 = .ok (.iaload, 1) := by decide +kernel
theorem d_Lw_law_356 : decode code 356 = .ok (.aload_n 0, 1) := by decide +kernel
theorem d_Lw_law_357 : decode code 357 = .ok (.iload_n 3, 1) := by decide +kernel
theorem d_Lw_law_358 : decode code 358 = .ok (.iconst 2, 1) := by decide +kernel
theorem d_Lw_law_359 : decode code 359 = .ok (.iadd, 1) := by decide +kernel
theorem d_Lw_law_360 : decode code 360 = .ok (.iaload, 1) := by decide +kernel
theorem d_Lw_law_361 : decode code 361 = .ok (.invokevirtual 49, 3) := by decide +kernel
theorem d_Lw_law_364 : decode code 364 = .ok (.aload_n 2, 1) := by decide +kernel
theorem d_Lw_law_365 : decode code 365 = .ok (.aload_n 0, 1) := by decide +kernel
theorem d_Lw_law_366 : decode code 366 = .ok (.iload_n 3, 1) := by decide +kernel
theorem d_Lw_law_367 : decode code 367 = .ok (.iconst 1, 1) := by decide +kernel
theorem d_Lw_law_368 : decode code 368 = .ok (.iadd, 1) := by decide +kernel
theorem d_Lw_law_369 : decode code 369 = .ok (.iaload, 1) := by decide +kernel
theorem d_Lw_law_370 : decode code 370 = .ok (.aload_n 0, 1) := by decide +kernel
theorem d_Lw_law_371 : decode code 371 = .ok (.iload_n 3, 1) := by decide +kernel
theorem d_Lw_law_372 : decode code 372 = .ok (.iconst 2, 1) := by decide +kernel
theorem d_Lw_law_373 : decode code 373 = .ok (.iadd, 1) := by decide +kernel
theorem d_Lw_law_374 : decode code 374 = .ok (.iaload, 1) := by decide +kernel
theorem d_Lw_law_375 : decode code 375 = .ok (.invokevirtual 52, 3) := by decide +kernel
theorem d_Lw_law_378 : decode code 378 = .ok (.if_icmp .eq 74, 3) := by decide +kernel
theorem d_Lw_law_381 : decode code 381 = .ok (.iconst 0, 1) := by decide +kernel
theorem d_Lw_law_382 : decode code 382 = .ok (.ireturn, 1) := by decide +kernel
theorem d_Lw_law_383 : decode code 383 = .ok (.aload_n 1, 1) := by decide +kernel
theorem d_Lw_law_384 : decode code 384 = .ok (.aload_n 0, 1) := by decide +kernel
theorem d_Lw_law_385 : decode code 385 = .ok (.iload_n 3, 1) := by decide +kernel
theorem d_Lw_law_386 : decode code 386 = .ok (.iconst 1, 1) := by decide +kernel
theorem d_Lw_law_387 : decode code 387 = .ok (.iadd, 1) := by decide +kernel
theorem d_Lw_law_388 : decode code 388 = .ok (.iaload, 1) := by decide +kernel
theorem d_Lw_law_389 : decode code 389 = .ok (.invokevirtual 53, 3) := by decide +kernel
theorem d_Lw_law_392 : decode code 392 = .ok (.aload_n 2, 1) := by decide +kernel
theorem d_Lw_law_393 : decode code 393 = .ok (.aload_n 0, 1) := by decide +kernel
theorem d_Lw_law_394 : decode code 394 = .ok (.iload_n 3, 1) := by decide +kernel
theorem d_Lw_law_395 : decode code 395 = .ok (.iconst 1, 1) := by decide +kernel
theorem d_Lw_law_396 : decode code 396 = .ok (.iadd, 1) := by decide +kernel
theorem d_Lw_law_397 : decode code 397 = .ok (.iaload, 1) := by decide +kernel
theorem d_Lw_law_398 : decode code 398 = .ok (.invokevirtual 56, 3) := by decide +kernel
theorem d_Lw_law_401 : decode code 401 = .ok (.if_icmp .eq 51, 3) := by decide +kernel
theorem d_Lw_law_404 : decode code 404 = .ok (.iconst 0, 1) := by decide +kernel
theorem d_Lw_law_405 : decode code 405 = .ok (.ireturn, 1) := by decide +kernel
theorem d_Lw_law_406 : decode code 406 = .ok (.aload_n 1, 1) := by decide +kernel
theorem d_Lw_law_407 : decode code 407 = .ok (.aload_n 0, 1) := by decide +kernel
theorem d_Lw_law_408 : decode code 408 = .ok (.iload_n 3, 1) := by decide +kernel
theorem d_Lw_law_409 : decode code 409 = .ok (.iconst 1, 1) := by decide +kernel
theorem d_Lw_law_410 : decode code 410 = .ok (.iadd, 1) := by decide +kernel
theorem d_Lw_law_411 : decode code 411 = .ok (.iaload, 1) := by decide +kernel
theorem d_Lw_law_412 : decode code 412 = .ok (.invokevirtual 57, 3) := by decide +kernel
theorem d_Lw_law_415 : decode code 415 = .ok (.aload_n 2, 1) := by decide +kernel
theorem d_Lw_law_416 : decode code 416 = .ok (.aload_n 0, 1) := by decide +kernel
theorem d_Lw_law_417 : decode code 417 = .ok (.iload_n 3, 1) := by decide +kernel
theorem d_Lw_law_418 : decode code 418 = .ok (.iconst 1, 1) := by decide +kernel
theorem d_Lw_law_419 : decode code 419 = .ok (.iadd, 1) := by decide +kernel
theorem d_Lw_law_420 : decode code 420 = .ok (.iaload, 1) := by decide +kernel
theorem d_Lw_law_421 : decode code 421 = .ok (.invokevirtual 60, 3) := by decide +kernel
theorem d_Lw_law_424 : decode code 424 = .ok (.if_icmp .eq 28, 3) := by decide +kernel
theorem d_Lw_law_427 : decode code 427 = .ok (.iconst 0, 1) := by decide +kernel
theorem d_Lw_law_428 : decode code 428 = .ok (.ireturn, 1) := by decide +kernel
theorem d_Lw_law_429 : decode code 429 = .ok (.aload_n 1, 1) := by decide +kernel
theorem d_Lw_law_430 : decode code 430 = .ok (.aload_n 0, 1) := by decide +kernel
theorem d_Lw_law_431 : decode code 431 = .ok (.iload_n 3, 1) := by decide +kernel
theorem d_Lw_law_432 : decode code 432 = .ok (.iconst 1, 1) := by decide +kernel
theorem d_Lw_law_433 : decode code 433 = .ok (.iadd, 1) := by decide +kernel
theorem d_Lw_law_434 : decode code 434 = .ok (.iaload, 1) := by decide +kernel
theorem d_Lw_law_435 : decode code 435 = .ok (.invokevirtual 61, 3) := by decide +kernel
theorem d_Lw_law_438 : decode code 438 = .ok (.aload_n 2, 1) := by decide +kernel
theorem d_Lw_law_439 : decode code 439 = .ok (.aload_n 0, 1) := by decide +kernel
theorem d_Lw_law_440 : decode code 440 = .ok (.iload_n 3, 1) := by decide +kernel
theorem d_Lw_law_441 : decode code 441 = .ok (.iconst 1, 1) := by decide +kernel
theorem d_Lw_law_442 : decode code 442 = .ok (.iadd, 1) := by decide +kernel
theorem d_Lw_law_443 : decode code 443 = .ok (.iaload, 1) := by decide +kernel
theorem d_Lw_law_444 : decode code 444 = .ok (.invokevirtual 64, 3) := by decide +kernel
theorem d_Lw_law_447 : decode code 447 = .ok (.if_icmp .eq 5, 3) := by decide +kernel
theorem d_Lw_law_450 : decode code 450 = .ok (.iconst 0, 1) := by decide +kernel
theorem d_Lw_law_451 : decode code 451 = .ok (.ireturn, 1) := by decide +kernel
theorem d_Lw_law_452 : decode code 452 = .ok (.iinc 3 5, 3) := by decide +kernel
theorem d_Lw_law_455 : decode code 455 = .ok (.goto (-437), 3) := by decide +kernel
theorem d_Lw_law_458 : decode code 458 = .ok (.iconst 1, 1) := by decide +kernel
theorem d_Lw_law_459 : decode code 459 = .ok (.ireturn, 1) := by decide +kernel
