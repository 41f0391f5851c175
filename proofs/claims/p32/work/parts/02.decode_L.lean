theorem dL_cell_0 : decode cL_cell 0 = .ok (.iload_n 1, 1) := by decide +kernel
theorem dL_cell_1 : decode cL_cell 1 = .ok (.aload_n 0, 1) := by decide +kernel
theorem dL_cell_2 : decode cL_cell 2 = .ok (.arraylength, 1) := by decide +kernel
theorem dL_cell_3 : decode cL_cell 3 = .ok (.if_icmp .ge 9, 3) := by decide +kernel
theorem dL_cell_6 : decode cL_cell 6 = .ok (.aload_n 0, 1) := by decide +kernel
theorem dL_cell_7 : decode cL_cell 7 = .ok (.iload_n 1, 1) := by decide +kernel
theorem dL_cell_8 : decode cL_cell 8 = .ok (.iaload, 1) := by decide +kernel
theorem dL_cell_9 : decode cL_cell 9 = .ok (.goto 12, 3) := by decide +kernel
theorem dL_cell_12 : decode cL_cell 12 = .ok (.ldc 7, 2) := by decide +kernel
theorem dL_cell_14 : decode cL_cell 14 = .ok (.iload_n 1, 1) := by decide +kernel
theorem dL_cell_15 : decode cL_cell 15 = .ok (.iconst 1, 1) := by decide +kernel
theorem dL_cell_16 : decode cL_cell 16 = .ok (.iadd, 1) := by decide +kernel
theorem dL_cell_17 : decode cL_cell 17 = .ok (.imul, 1) := by decide +kernel
theorem dL_cell_18 : decode cL_cell 18 = .ok (.ldc 8, 2) := by decide +kernel
theorem dL_cell_20 : decode cL_cell 20 = .ok (.iadd, 1) := by decide +kernel
theorem dL_cell_21 : decode cL_cell 21 = .ok (.ireturn, 1) := by decide +kernel
theorem dL_low_0 : decode cL_low 0 = .ok (.iload_n 0, 1) := by decide +kernel
theorem dL_low_1 : decode cL_low 1 = .ok (.ldc 9, 2) := by decide +kernel
theorem dL_low_3 : decode cL_low 3 = .ok (.iand, 1) := by decide +kernel
theorem dL_low_4 : decode cL_low 4 = .ok (.iload_n 1, 1) := by decide +kernel
theorem dL_low_5 : decode cL_low 5 = .ok (.irem, 1) := by decide +kernel
theorem dL_low_6 : decode cL_low 6 = .ok (.ireturn, 1) := by decide +kernel
theorem dL_in_0 : decode cL_in 0 = .ok (.iconst 0, 1) := by decide +kernel
theorem dL_in_1 : decode cL_in 1 = .ok (.istore_n 2, 1) := by decide +kernel
theorem dL_in_2 : decode cL_in 2 = .ok (.iload_n 2, 1) := by decide +kernel
theorem dL_in_3 : decode cL_in 3 = .ok (.iconst 5, 1) := by decide +kernel
theorem dL_in_4 : decode cL_in 4 = .ok (.if_icmp .ge 22, 3) := by decide +kernel
theorem dL_in_7 : decode cL_in 7 = .ok (.aload_n 1, 1) := by decide +kernel
theorem dL_in_8 : decode cL_in 8 = .ok (.iconst 3, 1) := by decide +kernel
theorem dL_in_9 : decode cL_in 9 = .ok (.iload_n 2, 1) := by decide +kernel
theorem dL_in_10 : decode cL_in 10 = .ok (.imul, 1) := by decide +kernel
theorem dL_in_11 : decode cL_in 11 = .ok (.iconst 2, 1) := by decide +kernel
theorem dL_in_12 : decode cL_in 12 = .ok (.iadd, 1) := by decide +kernel
theorem dL_in_13 : decode cL_in 13 = .ok (.iaload, 1) := by decide +kernel
theorem dL_in_14 : decode cL_in 14 = .ok (.iload_n 0, 1) := by decide +kernel
theorem dL_in_15 : decode cL_in 15 = .ok (.if_icmp .ne 5, 3) := by decide +kernel
theorem dL_in_18 : decode cL_in 18 = .ok (.iload_n 2, 1) := by decide +kernel
theorem dL_in_19 : decode cL_in 19 = .ok (.ireturn, 1) := by decide +kernel
theorem dL_in_20 : decode cL_in 20 = .ok (.iinc 2 1, 3) := by decide +kernel
theorem dL_in_23 : decode cL_in 23 = .ok (.goto (-21), 3) := by decide +kernel
theorem dL_in_26 : decode cL_in 26 = .ok (.bipush (-6), 2) := by decide +kernel
theorem dL_in_28 : decode cL_in 28 = .ok (.ireturn, 1) := by decide +kernel
theorem dL_threads_0 : decode cL_threads 0 = .ok (.iconst 0, 1) := by decide +kernel
theorem dL_threads_1 : decode cL_threads 1 = .ok (.istore_n 2, 1) := by decide +kernel
theorem dL_threads_2 : decode cL_threads 2 = .ok (.iconst 0, 1) := by decide +kernel
theorem dL_threads_3 : decode cL_threads 3 = .ok (.istore_n 3, 1) := by decide +kernel
theorem dL_threads_4 : decode cL_threads 4 = .ok (.iload_n 3, 1) := by decide +kernel
theorem dL_threads_5 : decode cL_threads 5 = .ok (.bipush 12, 2) := by decide +kernel
theorem dL_threads_7 : decode cL_threads 7 = .ok (.if_icmp .ge 27, 3) := by decide +kernel
theorem dL_threads_10 : decode cL_threads 10 = .ok (.iload_n 0, 1) := by decide +kernel
theorem dL_threads_11 : decode cL_threads 11 = .ok (.iconst 1, 1) := by decide +kernel
theorem dL_threads_12 : decode cL_threads 12 = .ok (.aload_n 1, 1) := by decide +kernel
theorem dL_threads_13 : decode cL_threads 13 = .ok (.iconst 2, 1) := by decide +kernel
theorem dL_threads_14 : decode cL_threads 14 = .ok (.iload_n 3, 1) := by decide +kernel
theorem dL_threads_15 : decode cL_threads 15 = .ok (.imul, 1) := by decide +kernel
theorem dL_threads_16 : decode cL_threads 16 = .ok (.iaload, 1) := by decide +kernel
theorem dL_threads_17 : decode cL_threads 17 = .ok (.ishl, 1) := by decide +kernel
theorem dL_threads_18 : decode cL_threads 18 = .ok (.iand, 1) := by decide +kernel
theorem dL_threads_19 : decode cL_threads 19 = .ok (.ifCond .eq 9, 3) := by decide +kernel
theorem dL_threads_22 : decode cL_threads 22 = .ok (.iload_n 2, 1) := by decide +kernel
theorem dL_threads_23 : decode cL_threads 23 = .ok (.iconst 1, 1) := by decide +kernel
theorem dL_threads_24 : decode cL_threads 24 = .ok (.iload_n 3, 1) := by decide +kernel
theorem dL_threads_25 : decode cL_threads 25 = .ok (.ishl, 1) := by decide +kernel
theorem dL_threads_26 : decode cL_threads 26 = .ok (.ior, 1) := by decide +kernel
theorem dL_threads_27 : decode cL_threads 27 = .ok (.istore_n 2, 1) := by decide +kernel
theorem dL_threads_28 : decode cL_threads 28 = .ok (.iinc 3 1, 3) := by decide +kernel
theorem dL_threads_31 : decode cL_threads 31 = .ok (.goto (-27), 3) := by decide +kernel
theorem dL_threads_34 : decode cL_threads 34 = .ok (.iload_n 2, 1) := by decide +kernel
theorem dL_threads_35 : decode cL_threads 35 = .ok (.ireturn, 1) := by decide +kernel
theorem dL_why_0 : decode cL_why 0 = .ok (.aload_n 1, 1) := by decide +kernel
theorem dL_why_1 : decode cL_why 1 = .ok (.iconst 0, 1) := by decide +kernel
theorem dL_why_2 : decode cL_why 2 = .ok (.iaload, 1) := by decide +kernel
theorem dL_why_3 : decode cL_why 3 = .ok (.ifCond .ne 6, 3) := by decide +kernel
theorem dL_why_6 : decode cL_why 6 = .ok (.bipush 10, 2) := by decide +kernel
theorem dL_why_8 : decode cL_why 8 = .ok (.ireturn, 1) := by decide +kernel
theorem dL_why_9 : decode cL_why 9 = .ok (.iconst 0, 1) := by decide +kernel
theorem dL_why_10 : decode cL_why 10 = .ok (.istore 5, 2) := by decide +kernel
theorem dL_why_12 : decode cL_why 12 = .ok (.iload 5, 2) := by decide +kernel
theorem dL_why_14 : decode cL_why 14 = .ok (.bipush 12, 2) := by decide +kernel
theorem dL_why_16 : decode cL_why 16 = .ok (.if_icmp .ge 34, 3) := by decide +kernel
theorem dL_why_19 : decode cL_why 19 = .ok (.iload_n 0, 1) := by decide +kernel
theorem dL_why_20 : decode cL_why 20 = .ok (.ifCond .eq 30, 3) := by decide +kernel
theorem dL_why_23 : decode cL_why 23 = .ok (.aload_n 3, 1) := by decide +kernel
theorem dL_why_24 : decode cL_why 24 = .ok (.iconst 2, 1) := by decide +kernel
theorem dL_why_25 : decode cL_why 25 = .ok (.iload 5, 2) := by decide +kernel
theorem dL_why_27 : decode cL_why 27 = .ok (.imul, 1) := by decide +kernel
theorem dL_why_28 : decode cL_why 28 = .ok (.iconst 1, 1) := by decide +kernel
theorem dL_why_29 : decode cL_why 29 = .ok (.iadd, 1) := by decide +kernel
theorem dL_why_30 : decode cL_why 30 = .ok (.iaload, 1) := by decide +kernel
theorem dL_why_31 : decode cL_why 31 = .ok (.ifCond .ne 13, 3) := by decide +kernel
theorem dL_why_34 : decode cL_why 34 = .ok (.sipush 200, 3) := by decide +kernel
theorem dL_why_37 : decode cL_why 37 = .ok (.iload 5, 2) := by decide +kernel
theorem dL_why_39 : decode cL_why 39 = .ok (.iadd, 1) := by decide +kernel
theorem dL_why_40 : decode cL_why 40 = .ok (.bipush 6, 2) := by decide +kernel
theorem dL_why_42 : decode cL_why 42 = .ok (.iadd, 1) := by decide +kernel
theorem dL_why_43 : decode cL_why 43 = .ok (.ireturn, 1) := by decide +kernel
theorem dL_why_44 : decode cL_why 44 = .ok (.iinc 5 1, 3) := by decide +kernel
theorem dL_why_47 : decode cL_why 47 = .ok (.goto (-35), 3) := by decide +kernel
theorem dL_why_50 : decode cL_why 50 = .ok (.aload 4, 2) := by decide +kernel
theorem dL_why_52 : decode cL_why 52 = .ok (.iconst 3, 1) := by decide +kernel
theorem dL_why_53 : decode cL_why 53 = .ok (.aload_n 1, 1) := by decide +kernel
theorem dL_why_54 : decode cL_why 54 = .ok (.iconst 1, 1) := by decide +kernel
theorem dL_why_55 : decode cL_why 55 = .ok (.iaload, 1) := by decide +kernel
theorem dL_why_56 : decode cL_why 56 = .ok (.imul, 1) := by decide +kernel
theorem dL_why_57 : decode cL_why 57 = .ok (.iconst 1, 1) := by decide +kernel
theorem dL_why_58 : decode cL_why 58 = .ok (.iadd, 1) := by decide +kernel
theorem dL_why_59 : decode cL_why 59 = .ok (.iaload, 1) := by decide +kernel
theorem dL_why_60 : decode cL_why 60 = .ok (.istore 5, 2) := by decide +kernel
theorem dL_why_62 : decode cL_why 62 = .ok (.aload 4, 2) := by decide +kernel
theorem dL_why_64 : decode cL_why 64 = .ok (.iconst 3, 1) := by decide +kernel
theorem dL_why_65 : decode cL_why 65 = .ok (.aload_n 1, 1) := by decide +kernel
theorem dL_why_66 : decode cL_why 66 = .ok (.iconst 1, 1) := by decide +kernel
theorem dL_why_67 : decode cL_why 67 = .ok (.iaload, 1) := by decide +kernel
theorem dL_why_68 : decode cL_why 68 = .ok (.imul, 1) := by decide +kernel
theorem dL_why_69 : decode cL_why 69 = .ok (.iconst 2, 1) := by decide +kernel
theorem dL_why_70 : decode cL_why 70 = .ok (.iadd, 1) := by decide +kernel
theorem dL_why_71 : decode cL_why 71 = .ok (.iaload, 1) := by decide +kernel
theorem dL_why_72 : decode cL_why 72 = .ok (.istore 6, 2) := by decide +kernel
theorem dL_why_74 : decode cL_why 74 = .ok (.iconst 4, 1) := by decide +kernel
theorem dL_why_75 : decode cL_why 75 = .ok (.aload_n 1, 1) := by decide +kernel
theorem dL_why_76 : decode cL_why 76 = .ok (.iconst 2, 1) := by decide +kernel
theorem dL_why_77 : decode cL_why 77 = .ok (.iaload, 1) := by decide +kernel
theorem dL_why_78 : decode cL_why 78 = .ok (.isub, 1) := by decide +kernel
theorem dL_why_79 : decode cL_why 79 = .ok (.istore 7, 2) := by decide +kernel
theorem dL_why_81 : decode cL_why 81 = .ok (.iload_n 0, 1) := by decide +kernel
theorem dL_why_82 : decode cL_why 82 = .ok (.ifCond .eq 29, 3) := by decide +kernel
theorem dL_why_85 : decode cL_why 85 = .ok (.aload_n 1, 1) := by decide +kernel
theorem dL_why_86 : decode cL_why 86 = .ok (.iconst 3, 1) := by decide +kernel
theorem dL_why_87 : decode cL_why 87 = .ok (.iaload, 1) := by decide +kernel
theorem dL_why_88 : decode cL_why 88 = .ok (.iload 5, 2) := by decide +kernel
theorem dL_why_90 : decode cL_why 90 = .ok (.isub, 1) := by decide +kernel
theorem dL_why_91 : decode cL_why 91 = .ok (.iload 7, 2) := by decide +kernel
theorem dL_why_93 : decode cL_why 93 = .ok (.if_icmp .gt 14, 3) := by decide +kernel
theorem dL_why_96 : decode cL_why 96 = .ok (.iload 5, 2) := by decide +kernel
theorem dL_why_98 : decode cL_why 98 = .ok (.aload_n 1, 1) := by decide +kernel
theorem dL_why_99 : decode cL_why 99 = .ok (.iconst 3, 1) := by decide +kernel
theorem dL_why_100 : decode cL_why 100 = .ok (.iaload, 1) := by decide +kernel
theorem dL_why_101 : decode cL_why 101 = .ok (.isub, 1) := by decide +kernel
theorem dL_why_102 : decode cL_why 102 = .ok (.iload 7, 2) := by decide +kernel
theorem dL_why_104 : decode cL_why 104 = .ok (.if_icmp .le 7, 3) := by decide +kernel
theorem dL_why_107 : decode cL_why 107 = .ok (.sipush 306, 3) := by decide +kernel
theorem dL_why_110 : decode cL_why 110 = .ok (.ireturn, 1) := by decide +kernel
theorem dL_why_111 : decode cL_why 111 = .ok (.iload_n 0, 1) := by decide +kernel
theorem dL_why_112 : decode cL_why 112 = .ok (.ifCond .eq 29, 3) := by decide +kernel
theorem dL_why_115 : decode cL_why 115 = .ok (.aload_n 1, 1) := by decide +kernel
theorem dL_why_116 : decode cL_why 116 = .ok (.iconst 4, 1) := by decide +kernel
theorem dL_why_117 : decode cL_why 117 = .ok (.iaload, 1) := by decide +kernel
theorem dL_why_118 : decode cL_why 118 = .ok (.iload 6, 2) := by decide +kernel
theorem dL_why_120 : decode cL_why 120 = .ok (.isub, 1) := by decide +kernel
theorem dL_why_121 : decode cL_why 121 = .ok (.iload 7, 2) := by decide +kernel
theorem dL_why_123 : decode cL_why 123 = .ok (.if_icmp .gt 14, 3) := by decide +kernel
theorem dL_why_126 : decode cL_why 126 = .ok (.iload 6, 2) := by decide +kernel
theorem dL_why_128 : decode cL_why 128 = .ok (.aload_n 1, 1) := by decide +kernel
theorem dL_why_129 : decode cL_why 129 = .ok (.iconst 4, 1) := by decide +kernel
theorem dL_why_130 : decode cL_why 130 = .ok (.iaload, 1) := by decide +kernel
theorem dL_why_131 : decode cL_why 131 = .ok (.isub, 1) := by decide +kernel
theorem dL_why_132 : decode cL_why 132 = .ok (.iload 7, 2) := by decide +kernel
theorem dL_why_134 : decode cL_why 134 = .ok (.if_icmp .le 7, 3) := by decide +kernel
theorem dL_why_137 : decode cL_why 137 = .ok (.sipush 307, 3) := by decide +kernel
theorem dL_why_140 : decode cL_why 140 = .ok (.ireturn, 1) := by decide +kernel
theorem dL_why_141 : decode cL_why 141 = .ok (.iload 5, 2) := by decide +kernel
theorem dL_why_143 : decode cL_why 143 = .ok (.aload_n 2, 1) := by decide +kernel
theorem dL_why_144 : decode cL_why 144 = .ok (.invokestatic 10, 3) := by decide +kernel
theorem dL_why_147 : decode cL_why 147 = .ok (.istore 8, 2) := by decide +kernel
theorem dL_why_149 : decode cL_why 149 = .ok (.bipush 10, 2) := by decide +kernel
theorem dL_why_151 : decode cL_why 151 = .ok (.iload 6, 2) := by decide +kernel
theorem dL_why_153 : decode cL_why 153 = .ok (.iadd, 1) := by decide +kernel
theorem dL_why_154 : decode cL_why 154 = .ok (.aload_n 2, 1) := by decide +kernel
theorem dL_why_155 : decode cL_why 155 = .ok (.invokestatic 10, 3) := by decide +kernel
theorem dL_why_158 : decode cL_why 158 = .ok (.istore 9, 2) := by decide +kernel
theorem dL_why_160 : decode cL_why 160 = .ok (.iload 8, 2) := by decide +kernel
theorem dL_why_162 : decode cL_why 162 = .ok (.ifCond .lt 18, 3) := by decide +kernel
theorem dL_why_165 : decode cL_why 165 = .ok (.iload 9, 2) := by decide +kernel
theorem dL_why_167 : decode cL_why 167 = .ok (.ifCond .lt 13, 3) := by decide +kernel
theorem dL_why_170 : decode cL_why 170 = .ok (.sipush 400, 3) := by decide +kernel
theorem dL_why_173 : decode cL_why 173 = .ok (.iload 8, 2) := by decide +kernel
theorem dL_why_175 : decode cL_why 175 = .ok (.iadd, 1) := by decide +kernel
theorem dL_why_176 : decode cL_why 176 = .ok (.bipush 6, 2) := by decide +kernel
theorem dL_why_178 : decode cL_why 178 = .ok (.iadd, 1) := by decide +kernel
theorem dL_why_179 : decode cL_why 179 = .ok (.ireturn, 1) := by decide +kernel
theorem dL_why_180 : decode cL_why 180 = .ok (.iload 8, 2) := by decide +kernel
theorem dL_why_182 : decode cL_why 182 = .ok (.ifCond .ge 11, 3) := by decide +kernel
theorem dL_why_185 : decode cL_why 185 = .ok (.iload 9, 2) := by decide +kernel
theorem dL_why_187 : decode cL_why 187 = .ok (.ifCond .ge 6, 3) := by decide +kernel
theorem dL_why_190 : decode cL_why 190 = .ok (.bipush 50, 2) := by decide +kernel
theorem dL_why_192 : decode cL_why 192 = .ok (.ireturn, 1) := by decide +kernel
theorem dL_why_193 : decode cL_why 193 = .ok (.iload 8, 2) := by decide +kernel
theorem dL_why_195 : decode cL_why 195 = .ok (.ifCond .ge 8, 3) := by decide +kernel
theorem dL_why_198 : decode cL_why 198 = .ok (.iload 9, 2) := by decide +kernel
theorem dL_why_200 : decode cL_why 200 = .ok (.goto 5, 3) := by decide +kernel
theorem dL_why_203 : decode cL_why 203 = .ok (.iload 8, 2) := by decide +kernel
theorem dL_why_205 : decode cL_why 205 = .ok (.istore 8, 2) := by decide +kernel
theorem dL_why_207 : decode cL_why 207 = .ok (.aload_n 2, 1) := by decide +kernel
theorem dL_why_208 : decode cL_why 208 = .ok (.iconst 3, 1) := by decide +kernel
theorem dL_why_209 : decode cL_why 209 = .ok (.iload 8, 2) := by decide +kernel
theorem dL_why_211 : decode cL_why 211 = .ok (.imul, 1) := by decide +kernel
theorem dL_why_212 : decode cL_why 212 = .ok (.iconst 1, 1) := by decide +kernel
theorem dL_why_213 : decode cL_why 213 = .ok (.iadd, 1) := by decide +kernel
theorem dL_why_214 : decode cL_why 214 = .ok (.iaload, 1) := by decide +kernel
theorem dL_why_215 : decode cL_why 215 = .ok (.ifCond .ne 15, 3) := by decide +kernel
theorem dL_why_218 : decode cL_why 218 = .ok (.sipush 600, 3) := by decide +kernel
theorem dL_why_221 : decode cL_why 221 = .ok (.iload 8, 2) := by decide +kernel
theorem dL_why_223 : decode cL_why 223 = .ok (.iadd, 1) := by decide +kernel
theorem dL_why_224 : decode cL_why 224 = .ok (.bipush 6, 2) := by decide +kernel
theorem dL_why_226 : decode cL_why 226 = .ok (.iadd, 1) := by decide +kernel
theorem dL_why_227 : decode cL_why 227 = .ok (.goto 4, 3) := by decide +kernel
theorem dL_why_230 : decode cL_why 230 = .ok (.iconst 0, 1) := by decide +kernel
theorem dL_why_231 : decode cL_why 231 = .ok (.ireturn, 1) := by decide +kernel
theorem dL_reason_0 : decode cL_reason 0 = .ok (.iload_n 0, 1) := by decide +kernel
theorem dL_reason_1 : decode cL_reason 1 = .ok (.bipush 100, 2) := by decide +kernel
theorem dL_reason_3 : decode cL_reason 3 = .ok (.if_icmp .ge 10, 3) := by decide +kernel
theorem dL_reason_6 : decode cL_reason 6 = .ok (.iload_n 0, 1) := by decide +kernel
theorem dL_reason_7 : decode cL_reason 7 = .ok (.bipush 10, 2) := by decide +kernel
theorem dL_reason_9 : decode cL_reason 9 = .ok (.idiv, 1) := by decide +kernel
theorem dL_reason_10 : decode cL_reason 10 = .ok (.goto 7, 3) := by decide +kernel
theorem dL_reason_13 : decode cL_reason 13 = .ok (.iload_n 0, 1) := by decide +kernel
theorem dL_reason_14 : decode cL_reason 14 = .ok (.bipush 100, 2) := by decide +kernel
theorem dL_reason_16 : decode cL_reason 16 = .ok (.idiv, 1) := by decide +kernel
theorem dL_reason_17 : decode cL_reason 17 = .ok (.ireturn, 1) := by decide +kernel
theorem dL_number_0 : decode cL_number 0 = .ok (.iload_n 0, 1) := by decide +kernel
theorem dL_number_1 : decode cL_number 1 = .ok (.bipush 100, 2) := by decide +kernel
theorem dL_number_3 : decode cL_number 3 = .ok (.if_icmp .ge 8, 3) := by decide +kernel
theorem dL_number_6 : decode cL_number 6 = .ok (.bipush (-6), 2) := by decide +kernel
theorem dL_number_8 : decode cL_number 8 = .ok (.goto 10, 3) := by decide +kernel
theorem dL_number_11 : decode cL_number 11 = .ok (.iload_n 0, 1) := by decide +kernel
theorem dL_number_12 : decode cL_number 12 = .ok (.bipush 100, 2) := by decide +kernel
theorem dL_number_14 : decode cL_number 14 = .ok (.irem, 1) := by decide +kernel
theorem dL_number_15 : decode cL_number 15 = .ok (.bipush 6, 2) := by decide +kernel
theorem dL_number_17 : decode cL_number 17 = .ok (.isub, 1) := by decide +kernel
theorem dL_number_18 : decode cL_number 18 = .ok (.ireturn, 1) := by decide +kernel
theorem dL_pick_0 : decode cL_pick 0 = .ok (.iconst 3, 1) := by decide +kernel
theorem dL_pick_1 : decode cL_pick 1 = .ok (.aload_n 0, 1) := by decide +kernel
theorem dL_pick_2 : decode cL_pick 2 = .ok (.iconst 1, 1) := by decide +kernel
theorem dL_pick_3 : decode cL_pick 3 = .ok (.iaload, 1) := by decide +kernel
theorem dL_pick_4 : decode cL_pick 4 = .ok (.imul, 1) := by decide +kernel
theorem dL_pick_5 : decode cL_pick 5 = .ok (.istore 4, 2) := by decide +kernel
theorem dL_pick_7 : decode cL_pick 7 = .ok (.aload_n 3, 1) := by decide +kernel
theorem dL_pick_8 : decode cL_pick 8 = .ok (.iload 4, 2) := by decide +kernel
theorem dL_pick_10 : decode cL_pick 10 = .ok (.iconst 1, 1) := by decide +kernel
theorem dL_pick_11 : decode cL_pick 11 = .ok (.iadd, 1) := by decide +kernel
theorem dL_pick_12 : decode cL_pick 12 = .ok (.iaload, 1) := by decide +kernel
theorem dL_pick_13 : decode cL_pick 13 = .ok (.aload_n 1, 1) := by decide +kernel
theorem dL_pick_14 : decode cL_pick 14 = .ok (.invokestatic 10, 3) := by decide +kernel
theorem dL_pick_17 : decode cL_pick 17 = .ok (.istore 5, 2) := by decide +kernel
theorem dL_pick_19 : decode cL_pick 19 = .ok (.iload 5, 2) := by decide +kernel
theorem dL_pick_21 : decode cL_pick 21 = .ok (.ifCond .ge 19, 3) := by decide +kernel
theorem dL_pick_24 : decode cL_pick 24 = .ok (.bipush 10, 2) := by decide +kernel
theorem dL_pick_26 : decode cL_pick 26 = .ok (.aload_n 3, 1) := by decide +kernel
theorem dL_pick_27 : decode cL_pick 27 = .ok (.iload 4, 2) := by decide +kernel
theorem dL_pick_29 : decode cL_pick 29 = .ok (.iconst 2, 1) := by decide +kernel
theorem dL_pick_30 : decode cL_pick 30 = .ok (.iadd, 1) := by decide +kernel
theorem dL_pick_31 : decode cL_pick 31 = .ok (.iaload, 1) := by decide +kernel
theorem dL_pick_32 : decode cL_pick 32 = .ok (.iadd, 1) := by decide +kernel
theorem dL_pick_33 : decode cL_pick 33 = .ok (.aload_n 1, 1) := by decide +kernel
theorem dL_pick_34 : decode cL_pick 34 = .ok (.invokestatic 10, 3) := by decide +kernel
theorem dL_pick_37 : decode cL_pick 37 = .ok (.goto 5, 3) := by decide +kernel
theorem dL_pick_40 : decode cL_pick 40 = .ok (.iload 5, 2) := by decide +kernel
theorem dL_pick_42 : decode cL_pick 42 = .ok (.istore 6, 2) := by decide +kernel
theorem dL_pick_44 : decode cL_pick 44 = .ok (.iconst 0, 1) := by decide +kernel
theorem dL_pick_45 : decode cL_pick 45 = .ok (.istore 7, 2) := by decide +kernel
theorem dL_pick_47 : decode cL_pick 47 = .ok (.iload 7, 2) := by decide +kernel
theorem dL_pick_49 : decode cL_pick 49 = .ok (.bipush 12, 2) := by decide +kernel
theorem dL_pick_51 : decode cL_pick 51 = .ok (.if_icmp .ge 53, 3) := by decide +kernel
theorem dL_pick_54 : decode cL_pick 54 = .ok (.aload_n 2, 1) := by decide +kernel
theorem dL_pick_55 : decode cL_pick 55 = .ok (.iconst 2, 1) := by decide +kernel
theorem dL_pick_56 : decode cL_pick 56 = .ok (.iload 7, 2) := by decide +kernel
theorem dL_pick_58 : decode cL_pick 58 = .ok (.imul, 1) := by decide +kernel
theorem dL_pick_59 : decode cL_pick 59 = .ok (.iconst 1, 1) := by decide +kernel
theorem dL_pick_60 : decode cL_pick 60 = .ok (.iadd, 1) := by decide +kernel
theorem dL_pick_61 : decode cL_pick 61 = .ok (.dup2, 1) := by decide +kernel
theorem dL_pick_62 : decode cL_pick 62 = .ok (.iaload, 1) := by decide +kernel
theorem dL_pick_63 : decode cL_pick 63 = .ok (.aload_n 0, 1) := by decide +kernel
theorem dL_pick_64 : decode cL_pick 64 = .ok (.iconst 5, 1) := by decide +kernel
theorem dL_pick_65 : decode cL_pick 65 = .ok (.iaload, 1) := by decide +kernel
theorem dL_pick_66 : decode cL_pick 66 = .ok (.aload_n 2, 1) := by decide +kernel
theorem dL_pick_67 : decode cL_pick 67 = .ok (.iconst 2, 1) := by decide +kernel
theorem dL_pick_68 : decode cL_pick 68 = .ok (.iload 7, 2) := by decide +kernel
theorem dL_pick_70 : decode cL_pick 70 = .ok (.imul, 1) := by decide +kernel
theorem dL_pick_71 : decode cL_pick 71 = .ok (.iaload, 1) := by decide +kernel
theorem dL_pick_72 : decode cL_pick 72 = .ok (.ishr, 1) := by decide +kernel
theorem dL_pick_73 : decode cL_pick 73 = .ok (.iconst 1, 1) := by decide +kernel
theorem dL_pick_74 : decode cL_pick 74 = .ok (.iand, 1) := by decide +kernel
theorem dL_pick_75 : decode cL_pick 75 = .ok (.aload_n 3, 1) := by decide +kernel
theorem dL_pick_76 : decode cL_pick 76 = .ok (.iload 4, 2) := by decide +kernel
theorem dL_pick_78 : decode cL_pick 78 = .ok (.iaload, 1) := by decide +kernel
theorem dL_pick_79 : decode cL_pick 79 = .ok (.aload_n 2, 1) := by decide +kernel
theorem dL_pick_80 : decode cL_pick 80 = .ok (.iconst 2, 1) := by decide +kernel
theorem dL_pick_81 : decode cL_pick 81 = .ok (.iload 7, 2) := by decide +kernel
theorem dL_pick_83 : decode cL_pick 83 = .ok (.imul, 1) := by decide +kernel
theorem dL_pick_84 : decode cL_pick 84 = .ok (.iaload, 1) := by decide +kernel
theorem dL_pick_85 : decode cL_pick 85 = .ok (.ishr, 1) := by decide +kernel
theorem dL_pick_86 : decode cL_pick 86 = .ok (.iconst 1, 1) := by decide +kernel
theorem dL_pick_87 : decode cL_pick 87 = .ok (.iand, 1) := by decide +kernel
theorem dL_pick_88 : decode cL_pick 88 = .ok (.if_icmp .ne 7, 3) := by decide +kernel
theorem dL_pick_91 : decode cL_pick 91 = .ok (.iconst 0, 1) := by decide +kernel
theorem dL_pick_92 : decode cL_pick 92 = .ok (.goto 4, 3) := by decide +kernel
theorem dL_pick_95 : decode cL_pick 95 = .ok (.iconst 1, 1) := by decide +kernel
theorem dL_pick_96 : decode cL_pick 96 = .ok (.isub, 1) := by decide +kernel
theorem dL_pick_97 : decode cL_pick 97 = .ok (.iastore, 1) := by decide +kernel
theorem dL_pick_98 : decode cL_pick 98 = .ok (.iinc 7 1, 3) := by decide +kernel
theorem dL_pick_101 : decode cL_pick 101 = .ok (.goto (-54), 3) := by decide +kernel
theorem dL_pick_104 : decode cL_pick 104 = .ok (.aload_n 0, 1) := by decide +kernel
theorem dL_pick_105 : decode cL_pick 105 = .ok (.iconst 3, 1) := by decide +kernel
theorem dL_pick_106 : decode cL_pick 106 = .ok (.aload_n 3, 1) := by decide +kernel
theorem dL_pick_107 : decode cL_pick 107 = .ok (.iload 4, 2) := by decide +kernel
theorem dL_pick_109 : decode cL_pick 109 = .ok (.iconst 1, 1) := by decide +kernel
theorem dL_pick_110 : decode cL_pick 110 = .ok (.iadd, 1) := by decide +kernel
theorem dL_pick_111 : decode cL_pick 111 = .ok (.iaload, 1) := by decide +kernel
theorem dL_pick_112 : decode cL_pick 112 = .ok (.iastore, 1) := by decide +kernel
theorem dL_pick_113 : decode cL_pick 113 = .ok (.aload_n 0, 1) := by decide +kernel
theorem dL_pick_114 : decode cL_pick 114 = .ok (.iconst 4, 1) := by decide +kernel
theorem dL_pick_115 : decode cL_pick 115 = .ok (.aload_n 3, 1) := by decide +kernel
theorem dL_pick_116 : decode cL_pick 116 = .ok (.iload 4, 2) := by decide +kernel
theorem dL_pick_118 : decode cL_pick 118 = .ok (.iconst 2, 1) := by decide +kernel
theorem dL_pick_119 : decode cL_pick 119 = .ok (.iadd, 1) := by decide +kernel
theorem dL_pick_120 : decode cL_pick 120 = .ok (.iaload, 1) := by decide +kernel
theorem dL_pick_121 : decode cL_pick 121 = .ok (.iastore, 1) := by decide +kernel
theorem dL_pick_122 : decode cL_pick 122 = .ok (.aload_n 0, 1) := by decide +kernel
theorem dL_pick_123 : decode cL_pick 123 = .ok (.iconst 5, 1) := by decide +kernel
theorem dL_pick_124 : decode cL_pick 124 = .ok (.aload_n 3, 1) := by decide +kernel
theorem dL_pick_125 : decode cL_pick 125 = .ok (.iload 4, 2) := by decide +kernel
theorem dL_pick_127 : decode cL_pick 127 = .ok (.iaload, 1) := by decide +kernel
theorem dL_pick_128 : decode cL_pick 128 = .ok (.iastore, 1) := by decide +kernel
theorem dL_pick_129 : decode cL_pick 129 = .ok (.aload_n 1, 1) := by decide +kernel
theorem dL_pick_130 : decode cL_pick 130 = .ok (.iconst 3, 1) := by decide +kernel
theorem dL_pick_131 : decode cL_pick 131 = .ok (.iload 6, 2) := by decide +kernel
theorem dL_pick_133 : decode cL_pick 133 = .ok (.imul, 1) := by decide +kernel
theorem dL_pick_134 : decode cL_pick 134 = .ok (.iconst 2, 1) := by decide +kernel
theorem dL_pick_135 : decode cL_pick 135 = .ok (.iadd, 1) := by decide +kernel
theorem dL_pick_136 : decode cL_pick 136 = .ok (.iload 5, 2) := by decide +kernel
theorem dL_pick_138 : decode cL_pick 138 = .ok (.ifCond .ge 12, 3) := by decide +kernel
theorem dL_pick_141 : decode cL_pick 141 = .ok (.aload_n 3, 1) := by decide +kernel
theorem dL_pick_142 : decode cL_pick 142 = .ok (.iload 4, 2) := by decide +kernel
theorem dL_pick_144 : decode cL_pick 144 = .ok (.iconst 1, 1) := by decide +kernel
theorem dL_pick_145 : decode cL_pick 145 = .ok (.iadd, 1) := by decide +kernel
theorem dL_pick_146 : decode cL_pick 146 = .ok (.iaload, 1) := by decide +kernel
theorem dL_pick_147 : decode cL_pick 147 = .ok (.goto 12, 3) := by decide +kernel
theorem dL_pick_150 : decode cL_pick 150 = .ok (.bipush 10, 2) := by decide +kernel
theorem dL_pick_152 : decode cL_pick 152 = .ok (.aload_n 3, 1) := by decide +kernel
theorem dL_pick_153 : decode cL_pick 153 = .ok (.iload 4, 2) := by decide +kernel
theorem dL_pick_155 : decode cL_pick 155 = .ok (.iconst 2, 1) := by decide +kernel
theorem dL_pick_156 : decode cL_pick 156 = .ok (.iadd, 1) := by decide +kernel
theorem dL_pick_157 : decode cL_pick 157 = .ok (.iaload, 1) := by decide +kernel
theorem dL_pick_158 : decode cL_pick 158 = .ok (.iadd, 1) := by decide +kernel
theorem dL_pick_159 : decode cL_pick 159 = .ok (.iastore, 1) := by decide +kernel
theorem dL_pick_160 : decode cL_pick 160 = .ok (.aload_n 1, 1) := by decide +kernel
theorem dL_pick_161 : decode cL_pick 161 = .ok (.iconst 3, 1) := by decide +kernel
theorem dL_pick_162 : decode cL_pick 162 = .ok (.iload 6, 2) := by decide +kernel
theorem dL_pick_164 : decode cL_pick 164 = .ok (.imul, 1) := by decide +kernel
theorem dL_pick_165 : decode cL_pick 165 = .ok (.iconst 1, 1) := by decide +kernel
theorem dL_pick_166 : decode cL_pick 166 = .ok (.iadd, 1) := by decide +kernel
theorem dL_pick_167 : decode cL_pick 167 = .ok (.dup2, 1) := by decide +kernel
theorem dL_pick_168 : decode cL_pick 168 = .ok (.iaload, 1) := by decide +kernel
theorem dL_pick_169 : decode cL_pick 169 = .ok (.iconst 1, 1) := by decide +kernel
theorem dL_pick_170 : decode cL_pick 170 = .ok (.isub, 1) := by decide +kernel
theorem dL_pick_171 : decode cL_pick 171 = .ok (.iastore, 1) := by decide +kernel
theorem dL_pick_172 : decode cL_pick 172 = .ok (.aload_n 0, 1) := by decide +kernel
theorem dL_pick_173 : decode cL_pick 173 = .ok (.iconst 1, 1) := by decide +kernel
theorem dL_pick_174 : decode cL_pick 174 = .ok (.aload_n 0, 1) := by decide +kernel
theorem dL_pick_175 : decode cL_pick 175 = .ok (.iconst 1, 1) := by decide +kernel
theorem dL_pick_176 : decode cL_pick 176 = .ok (.iaload, 1) := by decide +kernel
theorem dL_pick_177 : decode cL_pick 177 = .ok (.iconst 1, 1) := by decide +kernel
theorem dL_pick_178 : decode cL_pick 178 = .ok (.iadd, 1) := by decide +kernel
theorem dL_pick_179 : decode cL_pick 179 = .ok (.aload_n 0, 1) := by decide +kernel
theorem dL_pick_180 : decode cL_pick 180 = .ok (.iconst 0, 1) := by decide +kernel
theorem dL_pick_181 : decode cL_pick 181 = .ok (.iaload, 1) := by decide +kernel
theorem dL_pick_182 : decode cL_pick 182 = .ok (.irem, 1) := by decide +kernel
theorem dL_pick_183 : decode cL_pick 183 = .ok (.iastore, 1) := by decide +kernel
theorem dL_pick_184 : decode cL_pick 184 = .ok (.iload 6, 2) := by decide +kernel
theorem dL_pick_186 : decode cL_pick 186 = .ok (.ireturn, 1) := by decide +kernel
theorem dL_then_0 : decode cL_then 0 = .ok (.bipush 12, 2) := by decide +kernel
theorem dL_then_2 : decode cL_then 2 = .ok (.newarray .int, 2) := by decide +kernel
theorem dL_then_4 : decode cL_then 4 = .ok (.astore 5, 2) := by decide +kernel
theorem dL_then_6 : decode cL_then 6 = .ok (.bipush 15, 2) := by decide +kernel
theorem dL_then_8 : decode cL_then 8 = .ok (.newarray .int, 2) := by decide +kernel
theorem dL_then_10 : decode cL_then 10 = .ok (.astore 6, 2) := by decide +kernel
theorem dL_then_12 : decode cL_then 12 = .ok (.bipush 24, 2) := by decide +kernel
theorem dL_then_14 : decode cL_then 14 = .ok (.newarray .int, 2) := by decide +kernel
theorem dL_then_16 : decode cL_then 16 = .ok (.astore 7, 2) := by decide +kernel
theorem dL_then_18 : decode cL_then 18 = .ok (.iconst 0, 1) := by decide +kernel
theorem dL_then_19 : decode cL_then 19 = .ok (.istore 8, 2) := by decide +kernel
theorem dL_then_21 : decode cL_then 21 = .ok (.iload 8, 2) := by decide +kernel
theorem dL_then_23 : decode cL_then 23 = .ok (.bipush 24, 2) := by decide +kernel
theorem dL_then_25 : decode cL_then 25 = .ok (.if_icmp .ge 50, 3) := by decide +kernel
theorem dL_then_28 : decode cL_then 28 = .ok (.aload 7, 2) := by decide +kernel
theorem dL_then_30 : decode cL_then 30 = .ok (.iload 8, 2) := by decide +kernel
theorem dL_then_32 : decode cL_then 32 = .ok (.aload_n 3, 1) := by decide +kernel
theorem dL_then_33 : decode cL_then 33 = .ok (.iload 8, 2) := by decide +kernel
theorem dL_then_35 : decode cL_then 35 = .ok (.iaload, 1) := by decide +kernel
theorem dL_then_36 : decode cL_then 36 = .ok (.iastore, 1) := by decide +kernel
theorem dL_then_37 : decode cL_then 37 = .ok (.iload 8, 2) := by decide +kernel
theorem dL_then_39 : decode cL_then 39 = .ok (.bipush 15, 2) := by decide +kernel
theorem dL_then_41 : decode cL_then 41 = .ok (.if_icmp .ge 12, 3) := by decide +kernel
theorem dL_then_44 : decode cL_then 44 = .ok (.aload 6, 2) := by decide +kernel
theorem dL_then_46 : decode cL_then 46 = .ok (.iload 8, 2) := by decide +kernel
theorem dL_then_48 : decode cL_then 48 = .ok (.aload_n 2, 1) := by decide +kernel
theorem dL_then_49 : decode cL_then 49 = .ok (.iload 8, 2) := by decide +kernel
theorem dL_then_51 : decode cL_then 51 = .ok (.iaload, 1) := by decide +kernel
theorem dL_then_52 : decode cL_then 52 = .ok (.iastore, 1) := by decide +kernel
theorem dL_then_53 : decode cL_then 53 = .ok (.iload 8, 2) := by decide +kernel
theorem dL_then_55 : decode cL_then 55 = .ok (.bipush 12, 2) := by decide +kernel
theorem dL_then_57 : decode cL_then 57 = .ok (.if_icmp .ge 12, 3) := by decide +kernel
theorem dL_then_60 : decode cL_then 60 = .ok (.aload 5, 2) := by decide +kernel
theorem dL_then_62 : decode cL_then 62 = .ok (.iload 8, 2) := by decide +kernel
theorem dL_then_64 : decode cL_then 64 = .ok (.aload_n 1, 1) := by decide +kernel
theorem dL_then_65 : decode cL_then 65 = .ok (.iload 8, 2) := by decide +kernel
theorem dL_then_67 : decode cL_then 67 = .ok (.iaload, 1) := by decide +kernel
theorem dL_then_68 : decode cL_then 68 = .ok (.iastore, 1) := by decide +kernel
theorem dL_then_69 : decode cL_then 69 = .ok (.iinc 8 1, 3) := by decide +kernel
theorem dL_then_72 : decode cL_then 72 = .ok (.goto (-51), 3) := by decide +kernel
theorem dL_then_75 : decode cL_then 75 = .ok (.iload_n 0, 1) := by decide +kernel
theorem dL_then_76 : decode cL_then 76 = .ok (.ifCond .ne 9, 3) := by decide +kernel
theorem dL_then_79 : decode cL_then 79 = .ok (.sipush 200, 3) := by decide +kernel
theorem dL_then_82 : decode cL_then 82 = .ok (.goto 17, 3) := by decide +kernel
theorem dL_then_85 : decode cL_then 85 = .ok (.iload_n 0, 1) := by decide +kernel
theorem dL_then_86 : decode cL_then 86 = .ok (.iconst 1, 1) := by decide +kernel
theorem dL_then_87 : decode cL_then 87 = .ok (.if_icmp .ne 9, 3) := by decide +kernel
theorem dL_then_90 : decode cL_then 90 = .ok (.sipush 999, 3) := by decide +kernel
theorem dL_then_93 : decode cL_then 93 = .ok (.goto 6, 3) := by decide +kernel
theorem dL_then_96 : decode cL_then 96 = .ok (.aload_n 1, 1) := by decide +kernel
theorem dL_then_97 : decode cL_then 97 = .ok (.iconst 0, 1) := by decide +kernel
theorem dL_then_98 : decode cL_then 98 = .ok (.iaload, 1) := by decide +kernel
theorem dL_then_99 : decode cL_then 99 = .ok (.istore 8, 2) := by decide +kernel
theorem dL_then_101 : decode cL_then 101 = .ok (.iload_n 0, 1) := by decide +kernel
theorem dL_then_102 : decode cL_then 102 = .ok (.iconst 2, 1) := by decide +kernel
theorem dL_then_103 : decode cL_then 103 = .ok (.if_icmp .ne 8, 3) := by decide +kernel
theorem dL_then_106 : decode cL_then 106 = .ok (.aload 5, 2) := by decide +kernel
theorem dL_then_108 : decode cL_then 108 = .ok (.iconst 1, 1) := by decide +kernel
theorem dL_then_109 : decode cL_then 109 = .ok (.iconst 0, 1) := by decide +kernel
theorem dL_then_110 : decode cL_then 110 = .ok (.iastore, 1) := by decide +kernel
theorem dL_then_111 : decode cL_then 111 = .ok (.iconst 0, 1) := by decide +kernel
theorem dL_then_112 : decode cL_then 112 = .ok (.istore 9, 2) := by decide +kernel
theorem dL_then_114 : decode cL_then 114 = .ok (.iload_n 0, 1) := by decide +kernel
theorem dL_then_115 : decode cL_then 115 = .ok (.iconst 1, 1) := by decide +kernel
theorem dL_then_116 : decode cL_then 116 = .ok (.if_icmp .eq 7, 3) := by decide +kernel
theorem dL_then_119 : decode cL_then 119 = .ok (.iconst 1, 1) := by decide +kernel
theorem dL_then_120 : decode cL_then 120 = .ok (.goto 4, 3) := by decide +kernel
theorem dL_then_123 : decode cL_then 123 = .ok (.iconst 0, 1) := by decide +kernel
theorem dL_then_124 : decode cL_then 124 = .ok (.aload 5, 2) := by decide +kernel
theorem dL_then_126 : decode cL_then 126 = .ok (.aload 6, 2) := by decide +kernel
theorem dL_then_128 : decode cL_then 128 = .ok (.aload 7, 2) := by decide +kernel
theorem dL_then_130 : decode cL_then 130 = .ok (.aload 4, 2) := by decide +kernel
theorem dL_then_132 : decode cL_then 132 = .ok (.invokestatic 16, 3) := by decide +kernel
theorem dL_then_135 : decode cL_then 135 = .ok (.istore 10, 2) := by decide +kernel
theorem dL_then_137 : decode cL_then 137 = .ok (.iload 9, 2) := by decide +kernel
theorem dL_then_139 : decode cL_then 139 = .ok (.iload 8, 2) := by decide +kernel
theorem dL_then_141 : decode cL_then 141 = .ok (.if_icmp .ge 49, 3) := by decide +kernel
theorem dL_then_144 : decode cL_then 144 = .ok (.iload 10, 2) := by decide +kernel
theorem dL_then_146 : decode cL_then 146 = .ok (.ifCond .ne 44, 3) := by decide +kernel
theorem dL_then_149 : decode cL_then 149 = .ok (.aload 5, 2) := by decide +kernel
theorem dL_then_151 : decode cL_then 151 = .ok (.aload 6, 2) := by decide +kernel
theorem dL_then_153 : decode cL_then 153 = .ok (.aload 7, 2) := by decide +kernel
theorem dL_then_155 : decode cL_then 155 = .ok (.aload 4, 2) := by decide +kernel
theorem dL_then_157 : decode cL_then 157 = .ok (.invokestatic 20, 3) := by decide +kernel
theorem dL_then_160 : decode cL_then 160 = .ok (.pop, 1) := by decide +kernel
theorem dL_then_161 : decode cL_then 161 = .ok (.iinc 9 1, 3) := by decide +kernel
theorem dL_then_164 : decode cL_then 164 = .ok (.iload_n 0, 1) := by decide +kernel
theorem dL_then_165 : decode cL_then 165 = .ok (.iconst 1, 1) := by decide +kernel
theorem dL_then_166 : decode cL_then 166 = .ok (.if_icmp .eq 7, 3) := by decide +kernel
theorem dL_then_169 : decode cL_then 169 = .ok (.iconst 1, 1) := by decide +kernel
theorem dL_then_170 : decode cL_then 170 = .ok (.goto 4, 3) := by decide +kernel
theorem dL_then_173 : decode cL_then 173 = .ok (.iconst 0, 1) := by decide +kernel
theorem dL_then_174 : decode cL_then 174 = .ok (.aload 5, 2) := by decide +kernel
theorem dL_then_176 : decode cL_then 176 = .ok (.aload 6, 2) := by decide +kernel
theorem dL_then_178 : decode cL_then 178 = .ok (.aload 7, 2) := by decide +kernel
theorem dL_then_180 : decode cL_then 180 = .ok (.aload 4, 2) := by decide +kernel
theorem dL_then_182 : decode cL_then 182 = .ok (.invokestatic 16, 3) := by decide +kernel
theorem dL_then_185 : decode cL_then 185 = .ok (.istore 10, 2) := by decide +kernel
theorem dL_then_187 : decode cL_then 187 = .ok (.goto (-50), 3) := by decide +kernel
theorem dL_then_190 : decode cL_then 190 = .ok (.iload_n 0, 1) := by decide +kernel
theorem dL_then_191 : decode cL_then 191 = .ok (.ifCond .ne 6, 3) := by decide +kernel
theorem dL_then_194 : decode cL_then 194 = .ok (.iload 9, 2) := by decide +kernel
theorem dL_then_196 : decode cL_then 196 = .ok (.ireturn, 1) := by decide +kernel
theorem dL_then_197 : decode cL_then 197 = .ok (.iload_n 0, 1) := by decide +kernel
theorem dL_then_198 : decode cL_then 198 = .ok (.iconst 1, 1) := by decide +kernel
theorem dL_then_199 : decode cL_then 199 = .ok (.if_icmp .ne 31, 3) := by decide +kernel
theorem dL_then_202 : decode cL_then 202 = .ok (.iload 9, 2) := by decide +kernel
theorem dL_then_204 : decode cL_then 204 = .ok (.iload 8, 2) := by decide +kernel
theorem dL_then_206 : decode cL_then 206 = .ok (.if_icmp .ge 21, 3) := by decide +kernel
theorem dL_then_209 : decode cL_then 209 = .ok (.iload 10, 2) := by decide +kernel
theorem dL_then_211 : decode cL_then 211 = .ok (.invokestatic 24, 3) := by decide +kernel
theorem dL_then_214 : decode cL_then 214 = .ok (.bipush 6, 2) := by decide +kernel
theorem dL_then_216 : decode cL_then 216 = .ok (.if_icmp .ne 11, 3) := by decide +kernel
theorem dL_then_219 : decode cL_then 219 = .ok (.iload 10, 2) := by decide +kernel
theorem dL_then_221 : decode cL_then 221 = .ok (.invokestatic 28, 3) := by decide +kernel
theorem dL_then_224 : decode cL_then 224 = .ok (.goto 5, 3) := by decide +kernel
theorem dL_then_227 : decode cL_then 227 = .ok (.bipush (-6), 2) := by decide +kernel
theorem dL_then_229 : decode cL_then 229 = .ok (.ireturn, 1) := by decide +kernel
theorem dL_then_230 : decode cL_then 230 = .ok (.iconst 0, 1) := by decide +kernel
theorem dL_then_231 : decode cL_then 231 = .ok (.istore 11, 2) := by decide +kernel
theorem dL_then_233 : decode cL_then 233 = .ok (.iload 11, 2) := by decide +kernel
theorem dL_then_235 : decode cL_then 235 = .ok (.iconst 5, 1) := by decide +kernel
theorem dL_then_236 : decode cL_then 236 = .ok (.if_icmp .ge 31, 3) := by decide +kernel
theorem dL_then_239 : decode cL_then 239 = .ok (.aload 6, 2) := by decide +kernel
theorem dL_then_241 : decode cL_then 241 = .ok (.iconst 3, 1) := by decide +kernel
theorem dL_then_242 : decode cL_then 242 = .ok (.iload 11, 2) := by decide +kernel
theorem dL_then_244 : decode cL_then 244 = .ok (.imul, 1) := by decide +kernel
theorem dL_then_245 : decode cL_then 245 = .ok (.iconst 2, 1) := by decide +kernel
theorem dL_then_246 : decode cL_then 246 = .ok (.iadd, 1) := by decide +kernel
theorem dL_then_247 : decode cL_then 247 = .ok (.iaload, 1) := by decide +kernel
theorem dL_then_248 : decode cL_then 248 = .ok (.aload_n 2, 1) := by decide +kernel
theorem dL_then_249 : decode cL_then 249 = .ok (.iconst 3, 1) := by decide +kernel
theorem dL_then_250 : decode cL_then 250 = .ok (.iload 11, 2) := by decide +kernel
theorem dL_then_252 : decode cL_then 252 = .ok (.imul, 1) := by decide +kernel
theorem dL_then_253 : decode cL_then 253 = .ok (.iconst 2, 1) := by decide +kernel
theorem dL_then_254 : decode cL_then 254 = .ok (.iadd, 1) := by decide +kernel
theorem dL_then_255 : decode cL_then 255 = .ok (.iaload, 1) := by decide +kernel
theorem dL_then_256 : decode cL_then 256 = .ok (.if_icmp .eq 5, 3) := by decide +kernel
theorem dL_then_259 : decode cL_then 259 = .ok (.iconst 0, 1) := by decide +kernel
theorem dL_then_260 : decode cL_then 260 = .ok (.ireturn, 1) := by decide +kernel
theorem dL_then_261 : decode cL_then 261 = .ok (.iinc 11 1, 3) := by decide +kernel
theorem dL_then_264 : decode cL_then 264 = .ok (.goto (-31), 3) := by decide +kernel
theorem dL_then_267 : decode cL_then 267 = .ok (.aload_n 1, 1) := by decide +kernel
theorem dL_then_268 : decode cL_then 268 = .ok (.iconst 0, 1) := by decide +kernel
theorem dL_then_269 : decode cL_then 269 = .ok (.iaload, 1) := by decide +kernel
theorem dL_then_270 : decode cL_then 270 = .ok (.ifCond .le 14, 3) := by decide +kernel
theorem dL_then_273 : decode cL_then 273 = .ok (.iload 9, 2) := by decide +kernel
theorem dL_then_275 : decode cL_then 275 = .ok (.iload 8, 2) := by decide +kernel
theorem dL_then_277 : decode cL_then 277 = .ok (.if_icmp .ne 7, 3) := by decide +kernel
theorem dL_then_280 : decode cL_then 280 = .ok (.iconst 1, 1) := by decide +kernel
theorem dL_then_281 : decode cL_then 281 = .ok (.goto 4, 3) := by decide +kernel
theorem dL_then_284 : decode cL_then 284 = .ok (.iconst 0, 1) := by decide +kernel
theorem dL_then_285 : decode cL_then 285 = .ok (.ireturn, 1) := by decide +kernel
theorem dL_same_0 : decode cL_same 0 = .ok (.iconst 0, 1) := by decide +kernel
theorem dL_same_1 : decode cL_same 1 = .ok (.istore 7, 2) := by decide +kernel
theorem dL_same_3 : decode cL_same 3 = .ok (.iload 7, 2) := by decide +kernel
theorem dL_same_5 : decode cL_same 5 = .ok (.bipush 12, 2) := by decide +kernel
theorem dL_same_7 : decode cL_same 7 = .ok (.if_icmp .ge 24, 3) := by decide +kernel
theorem dL_same_10 : decode cL_same 10 = .ok (.aload_n 0, 1) := by decide +kernel
theorem dL_same_11 : decode cL_same 11 = .ok (.iload 7, 2) := by decide +kernel
theorem dL_same_13 : decode cL_same 13 = .ok (.invokevirtual 31, 3) := by decide +kernel
theorem dL_same_16 : decode cL_same 16 = .ok (.aload_n 2, 1) := by decide +kernel
theorem dL_same_17 : decode cL_same 17 = .ok (.iload 7, 2) := by decide +kernel
theorem dL_same_19 : decode cL_same 19 = .ok (.iaload, 1) := by decide +kernel
theorem dL_same_20 : decode cL_same 20 = .ok (.if_icmp .eq 5, 3) := by decide +kernel
theorem dL_same_23 : decode cL_same 23 = .ok (.iconst 0, 1) := by decide +kernel
theorem dL_same_24 : decode cL_same 24 = .ok (.ireturn, 1) := by decide +kernel
theorem dL_same_25 : decode cL_same 25 = .ok (.iinc 7 1, 3) := by decide +kernel
theorem dL_same_28 : decode cL_same 28 = .ok (.goto (-25), 3) := by decide +kernel
theorem dL_same_31 : decode cL_same 31 = .ok (.iconst 0, 1) := by decide +kernel
theorem dL_same_32 : decode cL_same 32 = .ok (.istore 7, 2) := by decide +kernel
theorem dL_same_34 : decode cL_same 34 = .ok (.iload 7, 2) := by decide +kernel
theorem dL_same_36 : decode cL_same 36 = .ok (.iconst 5, 1) := by decide +kernel
theorem dL_same_37 : decode cL_same 37 = .ok (.if_icmp .ge 105, 3) := by decide +kernel
theorem dL_same_40 : decode cL_same 40 = .ok (.aload_n 3, 1) := by decide +kernel
theorem dL_same_41 : decode cL_same 41 = .ok (.iconst 3, 1) := by decide +kernel
theorem dL_same_42 : decode cL_same 42 = .ok (.iload 7, 2) := by decide +kernel
theorem dL_same_44 : decode cL_same 44 = .ok (.imul, 1) := by decide +kernel
theorem dL_same_45 : decode cL_same 45 = .ok (.iconst 2, 1) := by decide +kernel
theorem dL_same_46 : decode cL_same 46 = .ok (.iadd, 1) := by decide +kernel
theorem dL_same_47 : decode cL_same 47 = .ok (.iaload, 1) := by decide +kernel
theorem dL_same_48 : decode cL_same 48 = .ok (.istore 8, 2) := by decide +kernel
theorem dL_same_50 : decode cL_same 50 = .ok (.aload_n 0, 1) := by decide +kernel
theorem dL_same_51 : decode cL_same 51 = .ok (.iload 7, 2) := by decide +kernel
theorem dL_same_53 : decode cL_same 53 = .ok (.iconst 0, 1) := by decide +kernel
theorem dL_same_54 : decode cL_same 54 = .ok (.invokevirtual 36, 3) := by decide +kernel
theorem dL_same_57 : decode cL_same 57 = .ok (.aload_n 3, 1) := by decide +kernel
theorem dL_same_58 : decode cL_same 58 = .ok (.iconst 3, 1) := by decide +kernel
theorem dL_same_59 : decode cL_same 59 = .ok (.iload 7, 2) := by decide +kernel
theorem dL_same_61 : decode cL_same 61 = .ok (.imul, 1) := by decide +kernel
theorem dL_same_62 : decode cL_same 62 = .ok (.iaload, 1) := by decide +kernel
theorem dL_same_63 : decode cL_same 63 = .ok (.if_icmp .ne 71, 3) := by decide +kernel
theorem dL_same_66 : decode cL_same 66 = .ok (.aload_n 0, 1) := by decide +kernel
theorem dL_same_67 : decode cL_same 67 = .ok (.iload 7, 2) := by decide +kernel
theorem dL_same_69 : decode cL_same 69 = .ok (.iconst 1, 1) := by decide +kernel
theorem dL_same_70 : decode cL_same 70 = .ok (.invokevirtual 36, 3) := by decide +kernel
theorem dL_same_73 : decode cL_same 73 = .ok (.aload_n 3, 1) := by decide +kernel
theorem dL_same_74 : decode cL_same 74 = .ok (.iconst 3, 1) := by decide +kernel
theorem dL_same_75 : decode cL_same 75 = .ok (.iload 7, 2) := by decide +kernel
theorem dL_same_77 : decode cL_same 77 = .ok (.imul, 1) := by decide +kernel
theorem dL_same_78 : decode cL_same 78 = .ok (.iconst 1, 1) := by decide +kernel
theorem dL_same_79 : decode cL_same 79 = .ok (.iadd, 1) := by decide +kernel
theorem dL_same_80 : decode cL_same 80 = .ok (.iaload, 1) := by decide +kernel
theorem dL_same_81 : decode cL_same 81 = .ok (.if_icmp .ne 53, 3) := by decide +kernel
theorem dL_same_84 : decode cL_same 84 = .ok (.aload_n 0, 1) := by decide +kernel
theorem dL_same_85 : decode cL_same 85 = .ok (.iload 7, 2) := by decide +kernel
theorem dL_same_87 : decode cL_same 87 = .ok (.iconst 2, 1) := by decide +kernel
theorem dL_same_88 : decode cL_same 88 = .ok (.invokevirtual 36, 3) := by decide +kernel
theorem dL_same_91 : decode cL_same 91 = .ok (.iload 8, 2) := by decide +kernel
theorem dL_same_93 : decode cL_same 93 = .ok (.ifCond .ge 8, 3) := by decide +kernel
theorem dL_same_96 : decode cL_same 96 = .ok (.bipush (-6), 2) := by decide +kernel
theorem dL_same_98 : decode cL_same 98 = .ok (.goto 8, 3) := by decide +kernel
theorem dL_same_101 : decode cL_same 101 = .ok (.iload 8, 2) := by decide +kernel
theorem dL_same_103 : decode cL_same 103 = .ok (.bipush 10, 2) := by decide +kernel
theorem dL_same_105 : decode cL_same 105 = .ok (.idiv, 1) := by decide +kernel
theorem dL_same_106 : decode cL_same 106 = .ok (.if_icmp .ne 28, 3) := by decide +kernel
theorem dL_same_109 : decode cL_same 109 = .ok (.aload_n 0, 1) := by decide +kernel
theorem dL_same_110 : decode cL_same 110 = .ok (.iload 7, 2) := by decide +kernel
theorem dL_same_112 : decode cL_same 112 = .ok (.iconst 3, 1) := by decide +kernel
theorem dL_same_113 : decode cL_same 113 = .ok (.invokevirtual 36, 3) := by decide +kernel
theorem dL_same_116 : decode cL_same 116 = .ok (.iload 8, 2) := by decide +kernel
theorem dL_same_118 : decode cL_same 118 = .ok (.ifCond .ge 8, 3) := by decide +kernel
theorem dL_same_121 : decode cL_same 121 = .ok (.bipush (-6), 2) := by decide +kernel
theorem dL_same_123 : decode cL_same 123 = .ok (.goto 8, 3) := by decide +kernel
theorem dL_same_126 : decode cL_same 126 = .ok (.iload 8, 2) := by decide +kernel
theorem dL_same_128 : decode cL_same 128 = .ok (.bipush 10, 2) := by decide +kernel
theorem dL_same_130 : decode cL_same 130 = .ok (.irem, 1) := by decide +kernel
theorem dL_same_131 : decode cL_same 131 = .ok (.if_icmp .eq 5, 3) := by decide +kernel
theorem dL_same_134 : decode cL_same 134 = .ok (.iconst 0, 1) := by decide +kernel
theorem dL_same_135 : decode cL_same 135 = .ok (.ireturn, 1) := by decide +kernel
theorem dL_same_136 : decode cL_same 136 = .ok (.iinc 7 1, 3) := by decide +kernel
theorem dL_same_139 : decode cL_same 139 = .ok (.goto (-105), 3) := by decide +kernel
theorem dL_same_142 : decode cL_same 142 = .ok (.iconst 0, 1) := by decide +kernel
theorem dL_same_143 : decode cL_same 143 = .ok (.istore 7, 2) := by decide +kernel
theorem dL_same_145 : decode cL_same 145 = .ok (.iload 7, 2) := by decide +kernel
theorem dL_same_147 : decode cL_same 147 = .ok (.iconst 4, 1) := by decide +kernel
theorem dL_same_148 : decode cL_same 148 = .ok (.if_icmp .ge 52, 3) := by decide +kernel
theorem dL_same_151 : decode cL_same 151 = .ok (.aload_n 0, 1) := by decide +kernel
theorem dL_same_152 : decode cL_same 152 = .ok (.iconst 0, 1) := by decide +kernel
theorem dL_same_153 : decode cL_same 153 = .ok (.iload 7, 2) := by decide +kernel
theorem dL_same_155 : decode cL_same 155 = .ok (.invokevirtual 40, 3) := by decide +kernel
theorem dL_same_158 : decode cL_same 158 = .ok (.iload 7, 2) := by decide +kernel
theorem dL_same_160 : decode cL_same 160 = .ok (.aload_n 3, 1) := by decide +kernel
theorem dL_same_161 : decode cL_same 161 = .ok (.invokestatic 10, 3) := by decide +kernel
theorem dL_same_164 : decode cL_same 164 = .ok (.if_icmp .ne 28, 3) := by decide +kernel
theorem dL_same_167 : decode cL_same 167 = .ok (.iload 7, 2) := by decide +kernel
theorem dL_same_169 : decode cL_same 169 = .ok (.iconst 2, 1) := by decide +kernel
theorem dL_same_170 : decode cL_same 170 = .ok (.if_icmp .ge 24, 3) := by decide +kernel
theorem dL_same_173 : decode cL_same 173 = .ok (.aload_n 0, 1) := by decide +kernel
theorem dL_same_174 : decode cL_same 174 = .ok (.iconst 1, 1) := by decide +kernel
theorem dL_same_175 : decode cL_same 175 = .ok (.iload 7, 2) := by decide +kernel
theorem dL_same_177 : decode cL_same 177 = .ok (.invokevirtual 40, 3) := by decide +kernel
theorem dL_same_180 : decode cL_same 180 = .ok (.bipush 10, 2) := by decide +kernel
theorem dL_same_182 : decode cL_same 182 = .ok (.iload 7, 2) := by decide +kernel
theorem dL_same_184 : decode cL_same 184 = .ok (.iadd, 1) := by decide +kernel
theorem dL_same_185 : decode cL_same 185 = .ok (.aload_n 3, 1) := by decide +kernel
theorem dL_same_186 : decode cL_same 186 = .ok (.invokestatic 10, 3) := by decide +kernel
theorem dL_same_189 : decode cL_same 189 = .ok (.if_icmp .eq 5, 3) := by decide +kernel
theorem dL_same_192 : decode cL_same 192 = .ok (.iconst 0, 1) := by decide +kernel
theorem dL_same_193 : decode cL_same 193 = .ok (.ireturn, 1) := by decide +kernel
theorem dL_same_194 : decode cL_same 194 = .ok (.iinc 7 1, 3) := by decide +kernel
theorem dL_same_197 : decode cL_same 197 = .ok (.goto (-52), 3) := by decide +kernel
theorem dL_same_200 : decode cL_same 200 = .ok (.iconst 0, 1) := by decide +kernel
theorem dL_same_201 : decode cL_same 201 = .ok (.istore 7, 2) := by decide +kernel
theorem dL_same_203 : decode cL_same 203 = .ok (.iload 7, 2) := by decide +kernel
theorem dL_same_205 : decode cL_same 205 = .ok (.bipush 12, 2) := by decide +kernel
theorem dL_same_207 : decode cL_same 207 = .ok (.if_icmp .ge 213, 3) := by decide +kernel
theorem dL_same_210 : decode cL_same 210 = .ok (.iconst 0, 1) := by decide +kernel
theorem dL_same_211 : decode cL_same 211 = .ok (.istore 8, 2) := by decide +kernel
theorem dL_same_213 : decode cL_same 213 = .ok (.iconst 0, 1) := by decide +kernel
theorem dL_same_214 : decode cL_same 214 = .ok (.istore 9, 2) := by decide +kernel
theorem dL_same_216 : decode cL_same 216 = .ok (.iconst 0, 1) := by decide +kernel
theorem dL_same_217 : decode cL_same 217 = .ok (.istore 10, 2) := by decide +kernel
theorem dL_same_219 : decode cL_same 219 = .ok (.iload 10, 2) := by decide +kernel
theorem dL_same_221 : decode cL_same 221 = .ok (.aload_n 2, 1) := by decide +kernel
theorem dL_same_222 : decode cL_same 222 = .ok (.bipush 7, 2) := by decide +kernel
theorem dL_same_224 : decode cL_same 224 = .ok (.iaload, 1) := by decide +kernel
theorem dL_same_225 : decode cL_same 225 = .ok (.if_icmp .ge 117, 3) := by decide +kernel
theorem dL_same_228 : decode cL_same 228 = .ok (.aload 6, 2) := by decide +kernel
theorem dL_same_230 : decode cL_same 230 = .ok (.iconst 2, 1) := by decide +kernel
theorem dL_same_231 : decode cL_same 231 = .ok (.iload 10, 2) := by decide +kernel
theorem dL_same_233 : decode cL_same 233 = .ok (.imul, 1) := by decide +kernel
theorem dL_same_234 : decode cL_same 234 = .ok (.iconst 1, 1) := by decide +kernel
theorem dL_same_235 : decode cL_same 235 = .ok (.iadd, 1) := by decide +kernel
theorem dL_same_236 : decode cL_same 236 = .ok (.iaload, 1) := by decide +kernel
theorem dL_same_237 : decode cL_same 237 = .ok (.istore 11, 2) := by decide +kernel
theorem dL_same_239 : decode cL_same 239 = .ok (.iload 10, 2) := by decide +kernel
theorem dL_same_241 : decode cL_same 241 = .ok (.ifCond .le 30, 3) := by decide +kernel
theorem dL_same_244 : decode cL_same 244 = .ok (.iload 11, 2) := by decide +kernel
theorem dL_same_246 : decode cL_same 246 = .ok (.aload 6, 2) := by decide +kernel
theorem dL_same_248 : decode cL_same 248 = .ok (.iconst 2, 1) := by decide +kernel
theorem dL_same_249 : decode cL_same 249 = .ok (.iload 10, 2) := by decide +kernel
theorem dL_same_251 : decode cL_same 251 = .ok (.imul, 1) := by decide +kernel
theorem dL_same_252 : decode cL_same 252 = .ok (.iconst 1, 1) := by decide +kernel
theorem dL_same_253 : decode cL_same 253 = .ok (.isub, 1) := by decide +kernel
theorem dL_same_254 : decode cL_same 254 = .ok (.iaload, 1) := by decide +kernel
theorem dL_same_255 : decode cL_same 255 = .ok (.ixor, 1) := by decide +kernel
theorem dL_same_256 : decode cL_same 256 = .ok (.iload 7, 2) := by decide +kernel
theorem dL_same_258 : decode cL_same 258 = .ok (.ishr, 1) := by decide +kernel
theorem dL_same_259 : decode cL_same 259 = .ok (.iconst 1, 1) := by decide +kernel
theorem dL_same_260 : decode cL_same 260 = .ok (.iand, 1) := by decide +kernel
theorem dL_same_261 : decode cL_same 261 = .ok (.ifCond .ne 10, 3) := by decide +kernel
theorem dL_same_264 : decode cL_same 264 = .ok (.iload 9, 2) := by decide +kernel
theorem dL_same_266 : decode cL_same 266 = .ok (.iconst 1, 1) := by decide +kernel
theorem dL_same_267 : decode cL_same 267 = .ok (.iadd, 1) := by decide +kernel
theorem dL_same_268 : decode cL_same 268 = .ok (.goto 4, 3) := by decide +kernel
theorem dL_same_271 : decode cL_same 271 = .ok (.iconst 1, 1) := by decide +kernel
theorem dL_same_272 : decode cL_same 272 = .ok (.istore 9, 2) := by decide +kernel
theorem dL_same_274 : decode cL_same 274 = .ok (.iload 9, 2) := by decide +kernel
theorem dL_same_276 : decode cL_same 276 = .ok (.iload 8, 2) := by decide +kernel
theorem dL_same_278 : decode cL_same 278 = .ok (.if_icmp .le 8, 3) := by decide +kernel
theorem dL_same_281 : decode cL_same 281 = .ok (.iload 9, 2) := by decide +kernel
theorem dL_same_283 : decode cL_same 283 = .ok (.goto 5, 3) := by decide +kernel
theorem dL_same_286 : decode cL_same 286 = .ok (.iload 8, 2) := by decide +kernel
theorem dL_same_288 : decode cL_same 288 = .ok (.istore 8, 2) := by decide +kernel
theorem dL_same_290 : decode cL_same 290 = .ok (.aload_n 0, 1) := by decide +kernel
theorem dL_same_291 : decode cL_same 291 = .ok (.aload_n 2, 1) := by decide +kernel
theorem dL_same_292 : decode cL_same 292 = .ok (.bipush 7, 2) := by decide +kernel
theorem dL_same_294 : decode cL_same 294 = .ok (.iaload, 1) := by decide +kernel
theorem dL_same_295 : decode cL_same 295 = .ok (.iconst 1, 1) := by decide +kernel
theorem dL_same_296 : decode cL_same 296 = .ok (.isub, 1) := by decide +kernel
theorem dL_same_297 : decode cL_same 297 = .ok (.iload 10, 2) := by decide +kernel
theorem dL_same_299 : decode cL_same 299 = .ok (.isub, 1) := by decide +kernel
theorem dL_same_300 : decode cL_same 300 = .ok (.iload 7, 2) := by decide +kernel
theorem dL_same_302 : decode cL_same 302 = .ok (.invokevirtual 43, 3) := by decide +kernel
theorem dL_same_305 : decode cL_same 305 = .ok (.iload 11, 2) := by decide +kernel
theorem dL_same_307 : decode cL_same 307 = .ok (.iload 7, 2) := by decide +kernel
theorem dL_same_309 : decode cL_same 309 = .ok (.ishr, 1) := by decide +kernel
theorem dL_same_310 : decode cL_same 310 = .ok (.iconst 1, 1) := by decide +kernel
theorem dL_same_311 : decode cL_same 311 = .ok (.iand, 1) := by decide +kernel
theorem dL_same_312 : decode cL_same 312 = .ok (.iconst 1, 1) := by decide +kernel
theorem dL_same_313 : decode cL_same 313 = .ok (.if_icmp .ne 11, 3) := by decide +kernel
theorem dL_same_316 : decode cL_same 316 = .ok (.bipush 100, 2) := by decide +kernel
theorem dL_same_318 : decode cL_same 318 = .ok (.iload 7, 2) := by decide +kernel
theorem dL_same_320 : decode cL_same 320 = .ok (.iadd, 1) := by decide +kernel
theorem dL_same_321 : decode cL_same 321 = .ok (.goto 10, 3) := by decide +kernel
theorem dL_same_324 : decode cL_same 324 = .ok (.aload 6, 2) := by decide +kernel
theorem dL_same_326 : decode cL_same 326 = .ok (.iconst 2, 1) := by decide +kernel
theorem dL_same_327 : decode cL_same 327 = .ok (.iload 10, 2) := by decide +kernel
theorem dL_same_329 : decode cL_same 329 = .ok (.imul, 1) := by decide +kernel
theorem dL_same_330 : decode cL_same 330 = .ok (.iaload, 1) := by decide +kernel
theorem dL_same_331 : decode cL_same 331 = .ok (.if_icmp .eq 5, 3) := by decide +kernel
theorem dL_same_334 : decode cL_same 334 = .ok (.iconst 0, 1) := by decide +kernel
theorem dL_same_335 : decode cL_same 335 = .ok (.ireturn, 1) := by decide +kernel
theorem dL_same_336 : decode cL_same 336 = .ok (.iinc 10 1, 3) := by decide +kernel
theorem dL_same_339 : decode cL_same 339 = .ok (.goto (-120), 3) := by decide +kernel
theorem dL_same_342 : decode cL_same 342 = .ok (.aload_n 0, 1) := by decide +kernel
theorem dL_same_343 : decode cL_same 343 = .ok (.iload 7, 2) := by decide +kernel
theorem dL_same_345 : decode cL_same 345 = .ok (.iconst 0, 1) := by decide +kernel
theorem dL_same_346 : decode cL_same 346 = .ok (.invokevirtual 46, 3) := by decide +kernel
theorem dL_same_349 : decode cL_same 349 = .ok (.aload 4, 2) := by decide +kernel
theorem dL_same_351 : decode cL_same 351 = .ok (.iconst 2, 1) := by decide +kernel
theorem dL_same_352 : decode cL_same 352 = .ok (.iload 7, 2) := by decide +kernel
theorem dL_same_354 : decode cL_same 354 = .ok (.imul, 1) := by decide +kernel
theorem dL_same_355 : decode cL_same 355 = .ok (.iaload, 1) := by decide +kernel
theorem dL_same_356 : decode cL_same 356 = .ok (.if_icmp .ne 56, 3) := by decide +kernel
theorem dL_same_359 : decode cL_same 359 = .ok (.aload_n 0, 1) := by decide +kernel
theorem dL_same_360 : decode cL_same 360 = .ok (.iload 7, 2) := by decide +kernel
theorem dL_same_362 : decode cL_same 362 = .ok (.iconst 1, 1) := by decide +kernel
theorem dL_same_363 : decode cL_same 363 = .ok (.invokevirtual 46, 3) := by decide +kernel
theorem dL_same_366 : decode cL_same 366 = .ok (.aload 4, 2) := by decide +kernel
theorem dL_same_368 : decode cL_same 368 = .ok (.iconst 2, 1) := by decide +kernel
theorem dL_same_369 : decode cL_same 369 = .ok (.iload 7, 2) := by decide +kernel
theorem dL_same_371 : decode cL_same 371 = .ok (.imul, 1) := by decide +kernel
theorem dL_same_372 : decode cL_same 372 = .ok (.iconst 1, 1) := by decide +kernel
theorem dL_same_373 : decode cL_same 373 = .ok (.iadd, 1) := by decide +kernel
theorem dL_same_374 : decode cL_same 374 = .ok (.iaload, 1) := by decide +kernel
theorem dL_same_375 : decode cL_same 375 = .ok (.if_icmp .ne 37, 3) := by decide +kernel
theorem dL_same_378 : decode cL_same 378 = .ok (.aload_n 0, 1) := by decide +kernel
theorem dL_same_379 : decode cL_same 379 = .ok (.iload 7, 2) := by decide +kernel
theorem dL_same_381 : decode cL_same 381 = .ok (.iconst 2, 1) := by decide +kernel
theorem dL_same_382 : decode cL_same 382 = .ok (.invokevirtual 46, 3) := by decide +kernel
theorem dL_same_385 : decode cL_same 385 = .ok (.aload_n 2, 1) := by decide +kernel
theorem dL_same_386 : decode cL_same 386 = .ok (.iconst 5, 1) := by decide +kernel
theorem dL_same_387 : decode cL_same 387 = .ok (.iaload, 1) := by decide +kernel
theorem dL_same_388 : decode cL_same 388 = .ok (.aload 4, 2) := by decide +kernel
theorem dL_same_390 : decode cL_same 390 = .ok (.iconst 2, 1) := by decide +kernel
theorem dL_same_391 : decode cL_same 391 = .ok (.iload 7, 2) := by decide +kernel
theorem dL_same_393 : decode cL_same 393 = .ok (.imul, 1) := by decide +kernel
theorem dL_same_394 : decode cL_same 394 = .ok (.iaload, 1) := by decide +kernel
theorem dL_same_395 : decode cL_same 395 = .ok (.ishr, 1) := by decide +kernel
theorem dL_same_396 : decode cL_same 396 = .ok (.iconst 1, 1) := by decide +kernel
theorem dL_same_397 : decode cL_same 397 = .ok (.iand, 1) := by decide +kernel
theorem dL_same_398 : decode cL_same 398 = .ok (.if_icmp .ne 14, 3) := by decide +kernel
theorem dL_same_401 : decode cL_same 401 = .ok (.aload_n 0, 1) := by decide +kernel
theorem dL_same_402 : decode cL_same 402 = .ok (.iload 7, 2) := by decide +kernel
theorem dL_same_404 : decode cL_same 404 = .ok (.invokevirtual 49, 3) := by decide +kernel
theorem dL_same_407 : decode cL_same 407 = .ok (.iload 8, 2) := by decide +kernel
theorem dL_same_409 : decode cL_same 409 = .ok (.if_icmp .eq 5, 3) := by decide +kernel
theorem dL_same_412 : decode cL_same 412 = .ok (.iconst 0, 1) := by decide +kernel
theorem dL_same_413 : decode cL_same 413 = .ok (.ireturn, 1) := by decide +kernel
theorem dL_same_414 : decode cL_same 414 = .ok (.iinc 7 1, 3) := by decide +kernel
theorem dL_same_417 : decode cL_same 417 = .ok (.goto (-214), 3) := by decide +kernel
theorem dL_same_420 : decode cL_same 420 = .ok (.iconst 0, 1) := by decide +kernel
theorem dL_same_421 : decode cL_same 421 = .ok (.istore 7, 2) := by decide +kernel
theorem dL_same_423 : decode cL_same 423 = .ok (.iload 7, 2) := by decide +kernel
theorem dL_same_425 : decode cL_same 425 = .ok (.aload_n 2, 1) := by decide +kernel
theorem dL_same_426 : decode cL_same 426 = .ok (.iconst 0, 1) := by decide +kernel
theorem dL_same_427 : decode cL_same 427 = .ok (.iaload, 1) := by decide +kernel
theorem dL_same_428 : decode cL_same 428 = .ok (.if_icmp .ge 69, 3) := by decide +kernel
theorem dL_same_431 : decode cL_same 431 = .ok (.iconst 0, 1) := by decide +kernel
theorem dL_same_432 : decode cL_same 432 = .ok (.istore 8, 2) := by decide +kernel
theorem dL_same_434 : decode cL_same 434 = .ok (.iload 8, 2) := by decide +kernel
theorem dL_same_436 : decode cL_same 436 = .ok (.iconst 3, 1) := by decide +kernel
theorem dL_same_437 : decode cL_same 437 = .ok (.if_icmp .ge 54, 3) := by decide +kernel
theorem dL_same_440 : decode cL_same 440 = .ok (.aload_n 0, 1) := by decide +kernel
theorem dL_same_441 : decode cL_same 441 = .ok (.iload 7, 2) := by decide +kernel
theorem dL_same_443 : decode cL_same 443 = .ok (.iload 8, 2) := by decide +kernel
theorem dL_same_445 : decode cL_same 445 = .ok (.invokevirtual 52, 3) := by decide +kernel
theorem dL_same_448 : decode cL_same 448 = .ok (.aload 5, 2) := by decide +kernel
theorem dL_same_450 : decode cL_same 450 = .ok (.iconst 3, 1) := by decide +kernel
theorem dL_same_451 : decode cL_same 451 = .ok (.iload 7, 2) := by decide +kernel
theorem dL_same_453 : decode cL_same 453 = .ok (.imul, 1) := by decide +kernel
theorem dL_same_454 : decode cL_same 454 = .ok (.iload 8, 2) := by decide +kernel
theorem dL_same_456 : decode cL_same 456 = .ok (.iadd, 1) := by decide +kernel
theorem dL_same_457 : decode cL_same 457 = .ok (.iaload, 1) := by decide +kernel
theorem dL_same_458 : decode cL_same 458 = .ok (.if_icmp .ne 25, 3) := by decide +kernel
theorem dL_same_461 : decode cL_same 461 = .ok (.aload_n 0, 1) := by decide +kernel
theorem dL_same_462 : decode cL_same 462 = .ok (.iload 7, 2) := by decide +kernel
theorem dL_same_464 : decode cL_same 464 = .ok (.iconst 3, 1) := by decide +kernel
theorem dL_same_465 : decode cL_same 465 = .ok (.invokevirtual 52, 3) := by decide +kernel
theorem dL_same_468 : decode cL_same 468 = .ok (.aload 5, 2) := by decide +kernel
theorem dL_same_470 : decode cL_same 470 = .ok (.iconst 3, 1) := by decide +kernel
theorem dL_same_471 : decode cL_same 471 = .ok (.iload 7, 2) := by decide +kernel
theorem dL_same_473 : decode cL_same 473 = .ok (.imul, 1) := by decide +kernel
theorem dL_same_474 : decode cL_same 474 = .ok (.iaload, 1) := by decide +kernel
theorem dL_same_475 : decode cL_same 475 = .ok (.aload 4, 2) := by decide +kernel
theorem dL_same_477 : decode cL_same 477 = .ok (.invokestatic 55, 3) := by decide +kernel
theorem dL_same_480 : decode cL_same 480 = .ok (.if_icmp .eq 5, 3) := by decide +kernel
theorem dL_same_483 : decode cL_same 483 = .ok (.iconst 0, 1) := by decide +kernel
theorem dL_same_484 : decode cL_same 484 = .ok (.ireturn, 1) := by decide +kernel
theorem dL_same_485 : decode cL_same 485 = .ok (.iinc 8 1, 3) := by decide +kernel
theorem dL_same_488 : decode cL_same 488 = .ok (.goto (-54), 3) := by decide +kernel
theorem dL_same_491 : decode cL_same 491 = .ok (.iinc 7 1, 3) := by decide +kernel
theorem dL_same_494 : decode cL_same 494 = .ok (.goto (-71), 3) := by decide +kernel
theorem dL_same_497 : decode cL_same 497 = .ok (.aload_n 0, 1) := by decide +kernel
theorem dL_same_498 : decode cL_same 498 = .ok (.invokevirtual 58, 3) := by decide +kernel
theorem dL_same_501 : decode cL_same 501 = .ok (.iconst 1, 1) := by decide +kernel
theorem dL_same_502 : decode cL_same 502 = .ok (.aload_n 2, 1) := by decide +kernel
theorem dL_same_503 : decode cL_same 503 = .ok (.aload_n 3, 1) := by decide +kernel
theorem dL_same_504 : decode cL_same 504 = .ok (.aload 4, 2) := by decide +kernel
theorem dL_same_506 : decode cL_same 506 = .ok (.aload 5, 2) := by decide +kernel
theorem dL_same_508 : decode cL_same 508 = .ok (.invokestatic 16, 3) := by decide +kernel
theorem dL_same_511 : decode cL_same 511 = .ok (.invokestatic 24, 3) := by decide +kernel
theorem dL_same_514 : decode cL_same 514 = .ok (.if_icmp .ne 28, 3) := by decide +kernel
theorem dL_same_517 : decode cL_same 517 = .ok (.aload_n 0, 1) := by decide +kernel
theorem dL_same_518 : decode cL_same 518 = .ok (.aload_n 2, 1) := by decide +kernel
theorem dL_same_519 : decode cL_same 519 = .ok (.iconst 0, 1) := by decide +kernel
theorem dL_same_520 : decode cL_same 520 = .ok (.iaload, 1) := by decide +kernel
theorem dL_same_521 : decode cL_same 521 = .ok (.iconst 0, 1) := by decide +kernel
theorem dL_same_522 : decode cL_same 522 = .ok (.invokevirtual 52, 3) := by decide +kernel
theorem dL_same_525 : decode cL_same 525 = .ok (.iconst (-1), 1) := by decide +kernel
theorem dL_same_526 : decode cL_same 526 = .ok (.if_icmp .ne 16, 3) := by decide +kernel
theorem dL_same_529 : decode cL_same 529 = .ok (.aload_n 0, 1) := by decide +kernel
theorem dL_same_530 : decode cL_same 530 = .ok (.aload_n 2, 1) := by decide +kernel
theorem dL_same_531 : decode cL_same 531 = .ok (.bipush 7, 2) := by decide +kernel
theorem dL_same_533 : decode cL_same 533 = .ok (.iaload, 1) := by decide +kernel
theorem dL_same_534 : decode cL_same 534 = .ok (.iconst 0, 1) := by decide +kernel
theorem dL_same_535 : decode cL_same 535 = .ok (.invokevirtual 43, 3) := by decide +kernel
theorem dL_same_538 : decode cL_same 538 = .ok (.iconst (-1), 1) := by decide +kernel
theorem dL_same_539 : decode cL_same 539 = .ok (.if_icmp .eq 5, 3) := by decide +kernel
theorem dL_same_542 : decode cL_same 542 = .ok (.iconst 0, 1) := by decide +kernel
theorem dL_same_543 : decode cL_same 543 = .ok (.ireturn, 1) := by decide +kernel
theorem dL_same_544 : decode cL_same 544 = .ok (.iload_n 1, 1) := by decide +kernel
theorem dL_same_545 : decode cL_same 545 = .ok (.iconst 4, 1) := by decide +kernel
theorem dL_same_546 : decode cL_same 546 = .ok (.invokestatic 62, 3) := by decide +kernel
theorem dL_same_549 : decode cL_same 549 = .ok (.ifCond .gt 54, 3) := by decide +kernel
theorem dL_same_552 : decode cL_same 552 = .ok (.aload_n 0, 1) := by decide +kernel
theorem dL_same_553 : decode cL_same 553 = .ok (.invokevirtual 65, 3) := by decide +kernel
theorem dL_same_556 : decode cL_same 556 = .ok (.iconst 0, 1) := by decide +kernel
theorem dL_same_557 : decode cL_same 557 = .ok (.aload_n 2, 1) := by decide +kernel
theorem dL_same_558 : decode cL_same 558 = .ok (.aload_n 3, 1) := by decide +kernel
theorem dL_same_559 : decode cL_same 559 = .ok (.aload 4, 2) := by decide +kernel
theorem dL_same_561 : decode cL_same 561 = .ok (.aload 5, 2) := by decide +kernel
theorem dL_same_563 : decode cL_same 563 = .ok (.invokestatic 68, 3) := by decide +kernel
theorem dL_same_566 : decode cL_same 566 = .ok (.if_icmp .ne 41, 3) := by decide +kernel
theorem dL_same_569 : decode cL_same 569 = .ok (.aload_n 0, 1) := by decide +kernel
theorem dL_same_570 : decode cL_same 570 = .ok (.invokevirtual 72, 3) := by decide +kernel
theorem dL_same_573 : decode cL_same 573 = .ok (.iconst 1, 1) := by decide +kernel
theorem dL_same_574 : decode cL_same 574 = .ok (.aload_n 2, 1) := by decide +kernel
theorem dL_same_575 : decode cL_same 575 = .ok (.aload_n 3, 1) := by decide +kernel
theorem dL_same_576 : decode cL_same 576 = .ok (.aload 4, 2) := by decide +kernel
theorem dL_same_578 : decode cL_same 578 = .ok (.aload 5, 2) := by decide +kernel
theorem dL_same_580 : decode cL_same 580 = .ok (.invokestatic 68, 3) := by decide +kernel
theorem dL_same_583 : decode cL_same 583 = .ok (.if_icmp .ne 24, 3) := by decide +kernel
theorem dL_same_586 : decode cL_same 586 = .ok (.aload_n 0, 1) := by decide +kernel
theorem dL_same_587 : decode cL_same 587 = .ok (.invokevirtual 75, 3) := by decide +kernel
theorem dL_same_590 : decode cL_same 590 = .ok (.iconst 2, 1) := by decide +kernel
theorem dL_same_591 : decode cL_same 591 = .ok (.aload_n 2, 1) := by decide +kernel
theorem dL_same_592 : decode cL_same 592 = .ok (.aload_n 3, 1) := by decide +kernel
theorem dL_same_593 : decode cL_same 593 = .ok (.aload 4, 2) := by decide +kernel
theorem dL_same_595 : decode cL_same 595 = .ok (.aload 5, 2) := by decide +kernel
theorem dL_same_597 : decode cL_same 597 = .ok (.invokestatic 68, 3) := by decide +kernel
theorem dL_same_600 : decode cL_same 600 = .ok (.if_icmp .ne 7, 3) := by decide +kernel
theorem dL_same_603 : decode cL_same 603 = .ok (.iconst 1, 1) := by decide +kernel
theorem dL_same_604 : decode cL_same 604 = .ok (.goto 4, 3) := by decide +kernel
theorem dL_same_607 : decode cL_same 607 = .ok (.iconst 0, 1) := by decide +kernel
theorem dL_same_608 : decode cL_same 608 = .ok (.ireturn, 1) := by decide +kernel
theorem dL_law_0 : decode cL_law 0 = .ok (.new 32, 3) := by decide +kernel
theorem dL_law_3 : decode cL_law 3 = .ok (.dup, 1) := by decide +kernel
theorem dL_law_4 : decode cL_law 4 = .ok (.invokespecial 78, 3) := by decide +kernel
theorem dL_law_7 : decode cL_law 7 = .ok (.astore_n 1, 1) := by decide +kernel
theorem dL_law_8 : decode cL_law 8 = .ok (.bipush 12, 2) := by decide +kernel
theorem dL_law_10 : decode cL_law 10 = .ok (.newarray .int, 2) := by decide +kernel
theorem dL_law_12 : decode cL_law 12 = .ok (.astore_n 2, 1) := by decide +kernel
theorem dL_law_13 : decode cL_law 13 = .ok (.bipush 15, 2) := by decide +kernel
theorem dL_law_15 : decode cL_law 15 = .ok (.newarray .int, 2) := by decide +kernel
theorem dL_law_17 : decode cL_law 17 = .ok (.astore_n 3, 1) := by decide +kernel
theorem dL_law_18 : decode cL_law 18 = .ok (.bipush 24, 2) := by decide +kernel
theorem dL_law_20 : decode cL_law 20 = .ok (.newarray .int, 2) := by decide +kernel
theorem dL_law_22 : decode cL_law 22 = .ok (.astore 4, 2) := by decide +kernel
theorem dL_law_24 : decode cL_law 24 = .ok (.bipush 48, 2) := by decide +kernel
theorem dL_law_26 : decode cL_law 26 = .ok (.newarray .int, 2) := by decide +kernel
theorem dL_law_28 : decode cL_law 28 = .ok (.astore 5, 2) := by decide +kernel
theorem dL_law_30 : decode cL_law 30 = .ok (.bipush 42, 2) := by decide +kernel
theorem dL_law_32 : decode cL_law 32 = .ok (.newarray .int, 2) := by decide +kernel
theorem dL_law_34 : decode cL_law 34 = .ok (.astore 6, 2) := by decide +kernel
theorem dL_law_36 : decode cL_law 36 = .ok (.bipush 60, 2) := by decide +kernel
theorem dL_law_38 : decode cL_law 38 = .ok (.newarray .int, 2) := by decide +kernel
theorem dL_law_40 : decode cL_law 40 = .ok (.astore 7, 2) := by decide +kernel
theorem dL_law_42 : decode cL_law 42 = .ok (.bipush 60, 2) := by decide +kernel
theorem dL_law_44 : decode cL_law 44 = .ok (.newarray .int, 2) := by decide +kernel
theorem dL_law_46 : decode cL_law 46 = .ok (.astore 8, 2) := by decide +kernel
theorem dL_law_48 : decode cL_law 48 = .ok (.aload_n 2, 1) := by decide +kernel
theorem dL_law_49 : decode cL_law 49 = .ok (.iconst 2, 1) := by decide +kernel
theorem dL_law_50 : decode cL_law 50 = .ok (.iconst 1, 1) := by decide +kernel
theorem dL_law_51 : decode cL_law 51 = .ok (.iastore, 1) := by decide +kernel
theorem dL_law_52 : decode cL_law 52 = .ok (.aload_n 2, 1) := by decide +kernel
theorem dL_law_53 : decode cL_law 53 = .ok (.bipush 10, 2) := by decide +kernel
theorem dL_law_55 : decode cL_law 55 = .ok (.bipush (-6), 2) := by decide +kernel
theorem dL_law_57 : decode cL_law 57 = .ok (.iastore, 1) := by decide +kernel
theorem dL_law_58 : decode cL_law 58 = .ok (.iconst 0, 1) := by decide +kernel
theorem dL_law_59 : decode cL_law 59 = .ok (.istore 9, 2) := by decide +kernel
theorem dL_law_61 : decode cL_law 61 = .ok (.iload 9, 2) := by decide +kernel
theorem dL_law_63 : decode cL_law 63 = .ok (.iconst 5, 1) := by decide +kernel
theorem dL_law_64 : decode cL_law 64 = .ok (.if_icmp .ge 36, 3) := by decide +kernel
theorem dL_law_67 : decode cL_law 67 = .ok (.aload_n 3, 1) := by decide +kernel
theorem dL_law_68 : decode cL_law 68 = .ok (.iconst 3, 1) := by decide +kernel
theorem dL_law_69 : decode cL_law 69 = .ok (.iload 9, 2) := by decide +kernel
theorem dL_law_71 : decode cL_law 71 = .ok (.imul, 1) := by decide +kernel
theorem dL_law_72 : decode cL_law 72 = .ok (.iload 9, 2) := by decide +kernel
theorem dL_law_74 : decode cL_law 74 = .ok (.iastore, 1) := by decide +kernel
theorem dL_law_75 : decode cL_law 75 = .ok (.aload_n 3, 1) := by decide +kernel
theorem dL_law_76 : decode cL_law 76 = .ok (.iconst 3, 1) := by decide +kernel
theorem dL_law_77 : decode cL_law 77 = .ok (.iload 9, 2) := by decide +kernel
theorem dL_law_79 : decode cL_law 79 = .ok (.imul, 1) := by decide +kernel
theorem dL_law_80 : decode cL_law 80 = .ok (.iconst 1, 1) := by decide +kernel
theorem dL_law_81 : decode cL_law 81 = .ok (.iadd, 1) := by decide +kernel
theorem dL_law_82 : decode cL_law 82 = .ok (.bipush 20, 2) := by decide +kernel
theorem dL_law_84 : decode cL_law 84 = .ok (.iastore, 1) := by decide +kernel
theorem dL_law_85 : decode cL_law 85 = .ok (.aload_n 3, 1) := by decide +kernel
theorem dL_law_86 : decode cL_law 86 = .ok (.iconst 3, 1) := by decide +kernel
theorem dL_law_87 : decode cL_law 87 = .ok (.iload 9, 2) := by decide +kernel
theorem dL_law_89 : decode cL_law 89 = .ok (.imul, 1) := by decide +kernel
theorem dL_law_90 : decode cL_law 90 = .ok (.iconst 2, 1) := by decide +kernel
theorem dL_law_91 : decode cL_law 91 = .ok (.iadd, 1) := by decide +kernel
theorem dL_law_92 : decode cL_law 92 = .ok (.iconst (-1), 1) := by decide +kernel
theorem dL_law_93 : decode cL_law 93 = .ok (.iastore, 1) := by decide +kernel
theorem dL_law_94 : decode cL_law 94 = .ok (.iinc 9 1, 3) := by decide +kernel
theorem dL_law_97 : decode cL_law 97 = .ok (.goto (-36), 3) := by decide +kernel
theorem dL_law_100 : decode cL_law 100 = .ok (.iconst 0, 1) := by decide +kernel
theorem dL_law_101 : decode cL_law 101 = .ok (.istore 9, 2) := by decide +kernel
theorem dL_law_103 : decode cL_law 103 = .ok (.iload 9, 2) := by decide +kernel
theorem dL_law_105 : decode cL_law 105 = .ok (.bipush 12, 2) := by decide +kernel
theorem dL_law_107 : decode cL_law 107 = .ok (.if_icmp .ge 32, 3) := by decide +kernel
theorem dL_law_110 : decode cL_law 110 = .ok (.aload 4, 2) := by decide +kernel
theorem dL_law_112 : decode cL_law 112 = .ok (.iconst 2, 1) := by decide +kernel
theorem dL_law_113 : decode cL_law 113 = .ok (.iload 9, 2) := by decide +kernel
theorem dL_law_115 : decode cL_law 115 = .ok (.imul, 1) := by decide +kernel
theorem dL_law_116 : decode cL_law 116 = .ok (.iload 9, 2) := by decide +kernel
theorem dL_law_118 : decode cL_law 118 = .ok (.bipush 6, 2) := by decide +kernel
theorem dL_law_120 : decode cL_law 120 = .ok (.irem, 1) := by decide +kernel
theorem dL_law_121 : decode cL_law 121 = .ok (.iastore, 1) := by decide +kernel
theorem dL_law_122 : decode cL_law 122 = .ok (.aload 4, 2) := by decide +kernel
theorem dL_law_124 : decode cL_law 124 = .ok (.iconst 2, 1) := by decide +kernel
theorem dL_law_125 : decode cL_law 125 = .ok (.iload 9, 2) := by decide +kernel
theorem dL_law_127 : decode cL_law 127 = .ok (.imul, 1) := by decide +kernel
theorem dL_law_128 : decode cL_law 128 = .ok (.iconst 1, 1) := by decide +kernel
theorem dL_law_129 : decode cL_law 129 = .ok (.iadd, 1) := by decide +kernel
theorem dL_law_130 : decode cL_law 130 = .ok (.bipush 60, 2) := by decide +kernel
theorem dL_law_132 : decode cL_law 132 = .ok (.iastore, 1) := by decide +kernel
theorem dL_law_133 : decode cL_law 133 = .ok (.iinc 9 1, 3) := by decide +kernel
theorem dL_law_136 : decode cL_law 136 = .ok (.goto (-33), 3) := by decide +kernel
theorem dL_law_139 : decode cL_law 139 = .ok (.iconst 0, 1) := by decide +kernel
theorem dL_law_140 : decode cL_law 140 = .ok (.istore 9, 2) := by decide +kernel
theorem dL_law_142 : decode cL_law 142 = .ok (.iload 9, 2) := by decide +kernel
theorem dL_law_144 : decode cL_law 144 = .ok (.bipush 44, 2) := by decide +kernel
theorem dL_law_146 : decode cL_law 146 = .ok (.if_icmp .ge 1724, 3) := by decide +kernel
theorem dL_law_149 : decode cL_law 149 = .ok (.aload_n 0, 1) := by decide +kernel
theorem dL_law_150 : decode cL_law 150 = .ok (.iconst 2, 1) := by decide +kernel
theorem dL_law_151 : decode cL_law 151 = .ok (.iload 9, 2) := by decide +kernel
theorem dL_law_153 : decode cL_law 153 = .ok (.imul, 1) := by decide +kernel
theorem dL_law_154 : decode cL_law 154 = .ok (.invokestatic 79, 3) := by decide +kernel
theorem dL_law_157 : decode cL_law 157 = .ok (.istore 10, 2) := by decide +kernel
theorem dL_law_159 : decode cL_law 159 = .ok (.aload_n 0, 1) := by decide +kernel
theorem dL_law_160 : decode cL_law 160 = .ok (.iconst 2, 1) := by decide +kernel
theorem dL_law_161 : decode cL_law 161 = .ok (.iload 9, 2) := by decide +kernel
theorem dL_law_163 : decode cL_law 163 = .ok (.imul, 1) := by decide +kernel
theorem dL_law_164 : decode cL_law 164 = .ok (.iconst 1, 1) := by decide +kernel
theorem dL_law_165 : decode cL_law 165 = .ok (.iadd, 1) := by decide +kernel
theorem dL_law_166 : decode cL_law 166 = .ok (.invokestatic 79, 3) := by decide +kernel
theorem dL_law_169 : decode cL_law 169 = .ok (.istore 11, 2) := by decide +kernel
theorem dL_law_171 : decode cL_law 171 = .ok (.iload 9, 2) := by decide +kernel
theorem dL_law_173 : decode cL_law 173 = .ok (.iconst 2, 1) := by decide +kernel
theorem dL_law_174 : decode cL_law 174 = .ok (.if_icmp .ge 7, 3) := by decide +kernel
theorem dL_law_177 : decode cL_law 177 = .ok (.iconst 0, 1) := by decide +kernel
theorem dL_law_178 : decode cL_law 178 = .ok (.goto 21, 3) := by decide +kernel
theorem dL_law_181 : decode cL_law 181 = .ok (.iload 9, 2) := by decide +kernel
theorem dL_law_183 : decode cL_law 183 = .ok (.iconst 5, 1) := by decide +kernel
theorem dL_law_184 : decode cL_law 184 = .ok (.if_icmp .ge 8, 3) := by decide +kernel
theorem dL_law_187 : decode cL_law 187 = .ok (.bipush 8, 2) := by decide +kernel
theorem dL_law_189 : decode cL_law 189 = .ok (.goto 10, 3) := by decide +kernel
theorem dL_law_192 : decode cL_law 192 = .ok (.iload 10, 2) := by decide +kernel
theorem dL_law_194 : decode cL_law 194 = .ok (.bipush 18, 2) := by decide +kernel
theorem dL_law_196 : decode cL_law 196 = .ok (.invokestatic 62, 3) := by decide +kernel
theorem dL_law_199 : decode cL_law 199 = .ok (.istore 12, 2) := by decide +kernel
theorem dL_law_201 : decode cL_law 201 = .ok (.iload 9, 2) := by decide +kernel
theorem dL_law_203 : decode cL_law 203 = .ok (.iconst 2, 1) := by decide +kernel
theorem dL_law_204 : decode cL_law 204 = .ok (.if_icmp .ge 8, 3) := by decide +kernel
theorem dL_law_207 : decode cL_law 207 = .ok (.iload 9, 2) := by decide +kernel
theorem dL_law_209 : decode cL_law 209 = .ok (.goto 9, 3) := by decide +kernel
theorem dL_law_212 : decode cL_law 212 = .ok (.iload 11, 2) := by decide +kernel
theorem dL_law_214 : decode cL_law 214 = .ok (.iconst 5, 1) := by decide +kernel
theorem dL_law_215 : decode cL_law 215 = .ok (.invokestatic 62, 3) := by decide +kernel
theorem dL_law_218 : decode cL_law 218 = .ok (.istore 13, 2) := by decide +kernel
theorem dL_law_220 : decode cL_law 220 = .ok (.iload 11, 2) := by decide +kernel
theorem dL_law_222 : decode cL_law 222 = .ok (.iconst 3, 1) := by decide +kernel
theorem dL_law_223 : decode cL_law 223 = .ok (.ishr, 1) := by decide +kernel
theorem dL_law_224 : decode cL_law 224 = .ok (.iconst 2, 1) := by decide +kernel
theorem dL_law_225 : decode cL_law 225 = .ok (.invokestatic 62, 3) := by decide +kernel
theorem dL_law_228 : decode cL_law 228 = .ok (.istore 14, 2) := by decide +kernel
theorem dL_law_230 : decode cL_law 230 = .ok (.iload 11, 2) := by decide +kernel
theorem dL_law_232 : decode cL_law 232 = .ok (.iconst 4, 1) := by decide +kernel
theorem dL_law_233 : decode cL_law 233 = .ok (.ishr, 1) := by decide +kernel
theorem dL_law_234 : decode cL_law 234 = .ok (.iload 14, 2) := by decide +kernel
theorem dL_law_236 : decode cL_law 236 = .ok (.ifCond .ne 7, 3) := by decide +kernel
theorem dL_law_239 : decode cL_law 239 = .ok (.iconst 4, 1) := by decide +kernel
theorem dL_law_240 : decode cL_law 240 = .ok (.goto 4, 3) := by decide +kernel
theorem dL_law_243 : decode cL_law 243 = .ok (.iconst 2, 1) := by decide +kernel
theorem dL_law_244 : decode cL_law 244 = .ok (.invokestatic 62, 3) := by decide +kernel
theorem dL_law_247 : decode cL_law 247 = .ok (.istore 15, 2) := by decide +kernel
theorem dL_law_249 : decode cL_law 249 = .ok (.iload 11, 2) := by decide +kernel
theorem dL_law_251 : decode cL_law 251 = .ok (.bipush 6, 2) := by decide +kernel
theorem dL_law_253 : decode cL_law 253 = .ok (.ishr, 1) := by decide +kernel
theorem dL_law_254 : decode cL_law 254 = .ok (.bipush 12, 2) := by decide +kernel
theorem dL_law_256 : decode cL_law 256 = .ok (.invokestatic 62, 3) := by decide +kernel
theorem dL_law_259 : decode cL_law 259 = .ok (.istore 16, 2) := by decide +kernel
theorem dL_law_261 : decode cL_law 261 = .ok (.iload 11, 2) := by decide +kernel
theorem dL_law_263 : decode cL_law 263 = .ok (.bipush 9, 2) := by decide +kernel
theorem dL_law_265 : decode cL_law 265 = .ok (.ishr, 1) := by decide +kernel
theorem dL_law_266 : decode cL_law 266 = .ok (.bipush 25, 2) := by decide +kernel
theorem dL_law_268 : decode cL_law 268 = .ok (.invokestatic 62, 3) := by decide +kernel
theorem dL_law_271 : decode cL_law 271 = .ok (.istore 17, 2) := by decide +kernel
theorem dL_law_273 : decode cL_law 273 = .ok (.iconst 1, 1) := by decide +kernel
theorem dL_law_274 : decode cL_law 274 = .ok (.istore 18, 2) := by decide +kernel
theorem dL_law_276 : decode cL_law 276 = .ok (.iload 12, 2) := by decide +kernel
theorem dL_law_278 : decode cL_law 278 = .ok (.iconst 2, 1) := by decide +kernel
theorem dL_law_279 : decode cL_law 279 = .ok (.if_icmp .ge 141, 3) := by decide +kernel
theorem dL_law_282 : decode cL_law 282 = .ok (.aload_n 3, 1) := by decide +kernel
theorem dL_law_283 : decode cL_law 283 = .ok (.iconst 3, 1) := by decide +kernel
theorem dL_law_284 : decode cL_law 284 = .ok (.iload 13, 2) := by decide +kernel
theorem dL_law_286 : decode cL_law 286 = .ok (.imul, 1) := by decide +kernel
theorem dL_law_287 : decode cL_law 287 = .ok (.iconst 2, 1) := by decide +kernel
theorem dL_law_288 : decode cL_law 288 = .ok (.iadd, 1) := by decide +kernel
theorem dL_law_289 : decode cL_law 289 = .ok (.iaload, 1) := by decide +kernel
theorem dL_law_290 : decode cL_law 290 = .ok (.ifCond .ge 22, 3) := by decide +kernel
theorem dL_law_293 : decode cL_law 293 = .ok (.bipush 10, 2) := by decide +kernel
theorem dL_law_295 : decode cL_law 295 = .ok (.iload 14, 2) := by decide +kernel
theorem dL_law_297 : decode cL_law 297 = .ok (.imul, 1) := by decide +kernel
theorem dL_law_298 : decode cL_law 298 = .ok (.iload 15, 2) := by decide +kernel
theorem dL_law_300 : decode cL_law 300 = .ok (.iadd, 1) := by decide +kernel
theorem dL_law_301 : decode cL_law 301 = .ok (.aload_n 3, 1) := by decide +kernel
theorem dL_law_302 : decode cL_law 302 = .ok (.invokestatic 10, 3) := by decide +kernel
theorem dL_law_305 : decode cL_law 305 = .ok (.ifCond .ge 7, 3) := by decide +kernel
theorem dL_law_308 : decode cL_law 308 = .ok (.iconst 1, 1) := by decide +kernel
theorem dL_law_309 : decode cL_law 309 = .ok (.goto 4, 3) := by decide +kernel
theorem dL_law_312 : decode cL_law 312 = .ok (.iconst 0, 1) := by decide +kernel
theorem dL_law_313 : decode cL_law 313 = .ok (.istore 19, 2) := by decide +kernel
theorem dL_law_315 : decode cL_law 315 = .ok (.iconst 1, 1) := by decide +kernel
theorem dL_law_316 : decode cL_law 316 = .ok (.istore 20, 2) := by decide +kernel
theorem dL_law_318 : decode cL_law 318 = .ok (.iconst 0, 1) := by decide +kernel
theorem dL_law_319 : decode cL_law 319 = .ok (.istore 21, 2) := by decide +kernel
theorem dL_law_321 : decode cL_law 321 = .ok (.iload 21, 2) := by decide +kernel
theorem dL_law_323 : decode cL_law 323 = .ok (.iconst 5, 1) := by decide +kernel
theorem dL_law_324 : decode cL_law 324 = .ok (.if_icmp .ge 30, 3) := by decide +kernel
theorem dL_law_327 : decode cL_law 327 = .ok (.iload 20, 2) := by decide +kernel
theorem dL_law_329 : decode cL_law 329 = .ok (.aload_n 3, 1) := by decide +kernel
theorem dL_law_330 : decode cL_law 330 = .ok (.iconst 3, 1) := by decide +kernel
theorem dL_law_331 : decode cL_law 331 = .ok (.iload 21, 2) := by decide +kernel
theorem dL_law_333 : decode cL_law 333 = .ok (.imul, 1) := by decide +kernel
theorem dL_law_334 : decode cL_law 334 = .ok (.iconst 2, 1) := by decide +kernel
theorem dL_law_335 : decode cL_law 335 = .ok (.iadd, 1) := by decide +kernel
theorem dL_law_336 : decode cL_law 336 = .ok (.iaload, 1) := by decide +kernel
theorem dL_law_337 : decode cL_law 337 = .ok (.ifCond .ge 7, 3) := by decide +kernel
theorem dL_law_340 : decode cL_law 340 = .ok (.iconst 0, 1) := by decide +kernel
theorem dL_law_341 : decode cL_law 341 = .ok (.goto 4, 3) := by decide +kernel
theorem dL_law_344 : decode cL_law 344 = .ok (.iconst 1, 1) := by decide +kernel
theorem dL_law_345 : decode cL_law 345 = .ok (.iadd, 1) := by decide +kernel
theorem dL_law_346 : decode cL_law 346 = .ok (.istore 20, 2) := by decide +kernel
theorem dL_law_348 : decode cL_law 348 = .ok (.iinc 21 1, 3) := by decide +kernel
theorem dL_law_351 : decode cL_law 351 = .ok (.goto (-30), 3) := by decide +kernel
theorem dL_law_354 : decode cL_law 354 = .ok (.aload_n 1, 1) := by decide +kernel
theorem dL_law_355 : decode cL_law 355 = .ok (.iload 13, 2) := by decide +kernel
theorem dL_law_357 : decode cL_law 357 = .ok (.iload 14, 2) := by decide +kernel
theorem dL_law_359 : decode cL_law 359 = .ok (.iload 15, 2) := by decide +kernel
theorem dL_law_361 : decode cL_law 361 = .ok (.invokevirtual 83, 3) := by decide +kernel
theorem dL_law_364 : decode cL_law 364 = .ok (.iload 19, 2) := by decide +kernel
theorem dL_law_366 : decode cL_law 366 = .ok (.ifCond .eq 8, 3) := by decide +kernel
theorem dL_law_369 : decode cL_law 369 = .ok (.iload 20, 2) := by decide +kernel
theorem dL_law_371 : decode cL_law 371 = .ok (.goto 5, 3) := by decide +kernel
theorem dL_law_374 : decode cL_law 374 = .ok (.bipush (-3), 2) := by decide +kernel
theorem dL_law_376 : decode cL_law 376 = .ok (.if_icmp .eq 5, 3) := by decide +kernel
theorem dL_law_379 : decode cL_law 379 = .ok (.iconst 0, 1) := by decide +kernel
theorem dL_law_380 : decode cL_law 380 = .ok (.ireturn, 1) := by decide +kernel
theorem dL_law_381 : decode cL_law 381 = .ok (.aload_n 3, 1) := by decide +kernel
theorem dL_law_382 : decode cL_law 382 = .ok (.iconst 3, 1) := by decide +kernel
theorem dL_law_383 : decode cL_law 383 = .ok (.iload 13, 2) := by decide +kernel
theorem dL_law_385 : decode cL_law 385 = .ok (.imul, 1) := by decide +kernel
theorem dL_law_386 : decode cL_law 386 = .ok (.iconst 2, 1) := by decide +kernel
theorem dL_law_387 : decode cL_law 387 = .ok (.iadd, 1) := by decide +kernel
theorem dL_law_388 : decode cL_law 388 = .ok (.iload 19, 2) := by decide +kernel
theorem dL_law_390 : decode cL_law 390 = .ok (.ifCond .eq 14, 3) := by decide +kernel
theorem dL_law_393 : decode cL_law 393 = .ok (.bipush 10, 2) := by decide +kernel
theorem dL_law_395 : decode cL_law 395 = .ok (.iload 14, 2) := by decide +kernel
theorem dL_law_397 : decode cL_law 397 = .ok (.imul, 1) := by decide +kernel
theorem dL_law_398 : decode cL_law 398 = .ok (.iload 15, 2) := by decide +kernel
theorem dL_law_400 : decode cL_law 400 = .ok (.iadd, 1) := by decide +kernel
theorem dL_law_401 : decode cL_law 401 = .ok (.goto 11, 3) := by decide +kernel
theorem dL_law_404 : decode cL_law 404 = .ok (.aload_n 3, 1) := by decide +kernel
theorem dL_law_405 : decode cL_law 405 = .ok (.iconst 3, 1) := by decide +kernel
theorem dL_law_406 : decode cL_law 406 = .ok (.iload 13, 2) := by decide +kernel
theorem dL_law_408 : decode cL_law 408 = .ok (.imul, 1) := by decide +kernel
theorem dL_law_409 : decode cL_law 409 = .ok (.iconst 2, 1) := by decide +kernel
theorem dL_law_410 : decode cL_law 410 = .ok (.iadd, 1) := by decide +kernel
theorem dL_law_411 : decode cL_law 411 = .ok (.iaload, 1) := by decide +kernel
theorem dL_law_412 : decode cL_law 412 = .ok (.iastore, 1) := by decide +kernel
theorem dL_law_413 : decode cL_law 413 = .ok (.iload 19, 2) := by decide +kernel
theorem dL_law_415 : decode cL_law 415 = .ok (.istore 18, 2) := by decide +kernel
theorem dL_law_417 : decode cL_law 417 = .ok (.goto 1409, 3) := by decide +kernel
theorem dL_law_420 : decode cL_law 420 = .ok (.iload 12, 2) := by decide +kernel
theorem dL_law_422 : decode cL_law 422 = .ok (.iconst 2, 1) := by decide +kernel
theorem dL_law_423 : decode cL_law 423 = .ok (.if_icmp .ne 87, 3) := by decide +kernel
theorem dL_law_426 : decode cL_law 426 = .ok (.aload_n 3, 1) := by decide +kernel
theorem dL_law_427 : decode cL_law 427 = .ok (.iconst 3, 1) := by decide +kernel
theorem dL_law_428 : decode cL_law 428 = .ok (.iload 13, 2) := by decide +kernel
theorem dL_law_430 : decode cL_law 430 = .ok (.imul, 1) := by decide +kernel
theorem dL_law_431 : decode cL_law 431 = .ok (.iconst 2, 1) := by decide +kernel
theorem dL_law_432 : decode cL_law 432 = .ok (.iadd, 1) := by decide +kernel
theorem dL_law_433 : decode cL_law 433 = .ok (.iaload, 1) := by decide +kernel
theorem dL_law_434 : decode cL_law 434 = .ok (.istore 19, 2) := by decide +kernel
theorem dL_law_436 : decode cL_law 436 = .ok (.iload 10, 2) := by decide +kernel
theorem dL_law_438 : decode cL_law 438 = .ok (.bipush 6, 2) := by decide +kernel
theorem dL_law_440 : decode cL_law 440 = .ok (.ishr, 1) := by decide +kernel
theorem dL_law_441 : decode cL_law 441 = .ok (.iconst 2, 1) := by decide +kernel
theorem dL_law_442 : decode cL_law 442 = .ok (.invokestatic 62, 3) := by decide +kernel
theorem dL_law_445 : decode cL_law 445 = .ok (.ifCond .ne 7, 3) := by decide +kernel
theorem dL_law_448 : decode cL_law 448 = .ok (.iconst 1, 1) := by decide +kernel
theorem dL_law_449 : decode cL_law 449 = .ok (.goto 4, 3) := by decide +kernel
theorem dL_law_452 : decode cL_law 452 = .ok (.iconst 0, 1) := by decide +kernel
theorem dL_law_453 : decode cL_law 453 = .ok (.istore 18, 2) := by decide +kernel
theorem dL_law_455 : decode cL_law 455 = .ok (.iload 18, 2) := by decide +kernel
theorem dL_law_457 : decode cL_law 457 = .ok (.ifCond .ne 6, 3) := by decide +kernel
theorem dL_law_460 : decode cL_law 460 = .ok (.goto 1404, 3) := by decide +kernel
theorem dL_law_463 : decode cL_law 463 = .ok (.aload_n 1, 1) := by decide +kernel
theorem dL_law_464 : decode cL_law 464 = .ok (.iload 13, 2) := by decide +kernel
theorem dL_law_466 : decode cL_law 466 = .ok (.invokevirtual 87, 3) := by decide +kernel
theorem dL_law_469 : decode cL_law 469 = .ok (.iload 19, 2) := by decide +kernel
theorem dL_law_471 : decode cL_law 471 = .ok (.ifCond .ge 8, 3) := by decide +kernel
theorem dL_law_474 : decode cL_law 474 = .ok (.bipush (-3), 2) := by decide +kernel
theorem dL_law_476 : decode cL_law 476 = .ok (.goto 5, 3) := by decide +kernel
theorem dL_law_479 : decode cL_law 479 = .ok (.iload 19, 2) := by decide +kernel
theorem dL_law_481 : decode cL_law 481 = .ok (.if_icmp .eq 5, 3) := by decide +kernel
theorem dL_law_484 : decode cL_law 484 = .ok (.iconst 0, 1) := by decide +kernel
theorem dL_law_485 : decode cL_law 485 = .ok (.ireturn, 1) := by decide +kernel
theorem dL_law_486 : decode cL_law 486 = .ok (.aload_n 3, 1) := by decide +kernel
theorem dL_law_487 : decode cL_law 487 = .ok (.iconst 3, 1) := by decide +kernel
theorem dL_law_488 : decode cL_law 488 = .ok (.iload 13, 2) := by decide +kernel
theorem dL_law_490 : decode cL_law 490 = .ok (.imul, 1) := by decide +kernel
theorem dL_law_491 : decode cL_law 491 = .ok (.iconst 2, 1) := by decide +kernel
theorem dL_law_492 : decode cL_law 492 = .ok (.iadd, 1) := by decide +kernel
theorem dL_law_493 : decode cL_law 493 = .ok (.iconst (-1), 1) := by decide +kernel
theorem dL_law_494 : decode cL_law 494 = .ok (.iastore, 1) := by decide +kernel
theorem dL_law_495 : decode cL_law 495 = .ok (.iload 19, 2) := by decide +kernel
theorem dL_law_497 : decode cL_law 497 = .ok (.ifCond .lt 7, 3) := by decide +kernel
theorem dL_law_500 : decode cL_law 500 = .ok (.iconst 1, 1) := by decide +kernel
theorem dL_law_501 : decode cL_law 501 = .ok (.goto 4, 3) := by decide +kernel
theorem dL_law_504 : decode cL_law 504 = .ok (.iconst 0, 1) := by decide +kernel
theorem dL_law_505 : decode cL_law 505 = .ok (.istore 18, 2) := by decide +kernel
theorem dL_law_507 : decode cL_law 507 = .ok (.goto 1319, 3) := by decide +kernel
theorem dL_law_510 : decode cL_law 510 = .ok (.iload 12, 2) := by decide +kernel
theorem dL_law_512 : decode cL_law 512 = .ok (.iconst 3, 1) := by decide +kernel
theorem dL_law_513 : decode cL_law 513 = .ok (.if_icmp .ne 116, 3) := by decide +kernel
theorem dL_law_516 : decode cL_law 516 = .ok (.aload_n 3, 1) := by decide +kernel
theorem dL_law_517 : decode cL_law 517 = .ok (.iconst 3, 1) := by decide +kernel
theorem dL_law_518 : decode cL_law 518 = .ok (.iload 13, 2) := by decide +kernel
theorem dL_law_520 : decode cL_law 520 = .ok (.imul, 1) := by decide +kernel
theorem dL_law_521 : decode cL_law 521 = .ok (.iconst 2, 1) := by decide +kernel
theorem dL_law_522 : decode cL_law 522 = .ok (.iadd, 1) := by decide +kernel
theorem dL_law_523 : decode cL_law 523 = .ok (.iaload, 1) := by decide +kernel
theorem dL_law_524 : decode cL_law 524 = .ok (.ifCond .ge 7, 3) := by decide +kernel
theorem dL_law_527 : decode cL_law 527 = .ok (.iconst 1, 1) := by decide +kernel
theorem dL_law_528 : decode cL_law 528 = .ok (.goto 4, 3) := by decide +kernel
theorem dL_law_531 : decode cL_law 531 = .ok (.iconst 0, 1) := by decide +kernel
theorem dL_law_532 : decode cL_law 532 = .ok (.istore 18, 2) := by decide +kernel
theorem dL_law_534 : decode cL_law 534 = .ok (.iload 10, 2) := by decide +kernel
theorem dL_law_536 : decode cL_law 536 = .ok (.iconst 5, 1) := by decide +kernel
theorem dL_law_537 : decode cL_law 537 = .ok (.ishr, 1) := by decide +kernel
theorem dL_law_538 : decode cL_law 538 = .ok (.bipush 10, 2) := by decide +kernel
theorem dL_law_540 : decode cL_law 540 = .ok (.invokestatic 62, 3) := by decide +kernel
theorem dL_law_543 : decode cL_law 543 = .ok (.istore 19, 2) := by decide +kernel
theorem dL_law_545 : decode cL_law 545 = .ok (.aload_n 1, 1) := by decide +kernel
theorem dL_law_546 : decode cL_law 546 = .ok (.iload 13, 2) := by decide +kernel
theorem dL_law_548 : decode cL_law 548 = .ok (.iload 19, 2) := by decide +kernel
theorem dL_law_550 : decode cL_law 550 = .ok (.iload 17, 2) := by decide +kernel
theorem dL_law_552 : decode cL_law 552 = .ok (.invokevirtual 90, 3) := by decide +kernel
theorem dL_law_555 : decode cL_law 555 = .ok (.iload 18, 2) := by decide +kernel
theorem dL_law_557 : decode cL_law 557 = .ok (.ifCond .eq 14, 3) := by decide +kernel
theorem dL_law_560 : decode cL_law 560 = .ok (.aload_n 3, 1) := by decide +kernel
theorem dL_law_561 : decode cL_law 561 = .ok (.iconst 3, 1) := by decide +kernel
theorem dL_law_562 : decode cL_law 562 = .ok (.iload 13, 2) := by decide +kernel
theorem dL_law_564 : decode cL_law 564 = .ok (.imul, 1) := by decide +kernel
theorem dL_law_565 : decode cL_law 565 = .ok (.iconst 1, 1) := by decide +kernel
theorem dL_law_566 : decode cL_law 566 = .ok (.iadd, 1) := by decide +kernel
theorem dL_law_567 : decode cL_law 567 = .ok (.iaload, 1) := by decide +kernel
theorem dL_law_568 : decode cL_law 568 = .ok (.goto 5, 3) := by decide +kernel
theorem dL_law_571 : decode cL_law 571 = .ok (.bipush (-3), 2) := by decide +kernel
theorem dL_law_573 : decode cL_law 573 = .ok (.if_icmp .eq 5, 3) := by decide +kernel
theorem dL_law_576 : decode cL_law 576 = .ok (.iconst 0, 1) := by decide +kernel
theorem dL_law_577 : decode cL_law 577 = .ok (.ireturn, 1) := by decide +kernel
theorem dL_law_578 : decode cL_law 578 = .ok (.aload_n 3, 1) := by decide +kernel
theorem dL_law_579 : decode cL_law 579 = .ok (.iconst 3, 1) := by decide +kernel
theorem dL_law_580 : decode cL_law 580 = .ok (.iload 13, 2) := by decide +kernel
theorem dL_law_582 : decode cL_law 582 = .ok (.imul, 1) := by decide +kernel
theorem dL_law_583 : decode cL_law 583 = .ok (.iload 18, 2) := by decide +kernel
theorem dL_law_585 : decode cL_law 585 = .ok (.ifCond .eq 8, 3) := by decide +kernel
theorem dL_law_588 : decode cL_law 588 = .ok (.iload 19, 2) := by decide +kernel
theorem dL_law_590 : decode cL_law 590 = .ok (.goto 9, 3) := by decide +kernel
theorem dL_law_593 : decode cL_law 593 = .ok (.aload_n 3, 1) := by decide +kernel
theorem dL_law_594 : decode cL_law 594 = .ok (.iconst 3, 1) := by decide +kernel
theorem dL_law_595 : decode cL_law 595 = .ok (.iload 13, 2) := by decide +kernel
theorem dL_law_597 : decode cL_law 597 = .ok (.imul, 1) := by decide +kernel
theorem dL_law_598 : decode cL_law 598 = .ok (.iaload, 1) := by decide +kernel
theorem dL_law_599 : decode cL_law 599 = .ok (.iastore, 1) := by decide +kernel
theorem dL_law_600 : decode cL_law 600 = .ok (.aload_n 3, 1) := by decide +kernel
theorem dL_law_601 : decode cL_law 601 = .ok (.iconst 3, 1) := by decide +kernel
theorem dL_law_602 : decode cL_law 602 = .ok (.iload 13, 2) := by decide +kernel
theorem dL_law_604 : decode cL_law 604 = .ok (.imul, 1) := by decide +kernel
theorem dL_law_605 : decode cL_law 605 = .ok (.iconst 1, 1) := by decide +kernel
theorem dL_law_606 : decode cL_law 606 = .ok (.iadd, 1) := by decide +kernel
theorem dL_law_607 : decode cL_law 607 = .ok (.iload 18, 2) := by decide +kernel
theorem dL_law_609 : decode cL_law 609 = .ok (.ifCond .eq 8, 3) := by decide +kernel
theorem dL_law_612 : decode cL_law 612 = .ok (.iload 17, 2) := by decide +kernel
theorem dL_law_614 : decode cL_law 614 = .ok (.goto 11, 3) := by decide +kernel
theorem dL_law_617 : decode cL_law 617 = .ok (.aload_n 3, 1) := by decide +kernel
theorem dL_law_618 : decode cL_law 618 = .ok (.iconst 3, 1) := by decide +kernel
theorem dL_law_619 : decode cL_law 619 = .ok (.iload 13, 2) := by decide +kernel
theorem dL_law_621 : decode cL_law 621 = .ok (.imul, 1) := by decide +kernel
theorem dL_law_622 : decode cL_law 622 = .ok (.iconst 1, 1) := by decide +kernel
theorem dL_law_623 : decode cL_law 623 = .ok (.iadd, 1) := by decide +kernel
theorem dL_law_624 : decode cL_law 624 = .ok (.iaload, 1) := by decide +kernel
theorem dL_law_625 : decode cL_law 625 = .ok (.iastore, 1) := by decide +kernel
theorem dL_law_626 : decode cL_law 626 = .ok (.goto 1200, 3) := by decide +kernel
theorem dL_law_629 : decode cL_law 629 = .ok (.iload 12, 2) := by decide +kernel
theorem dL_law_631 : decode cL_law 631 = .ok (.iconst 4, 1) := by decide +kernel
theorem dL_law_632 : decode cL_law 632 = .ok (.if_icmp .ne 33, 3) := by decide +kernel
theorem dL_law_635 : decode cL_law 635 = .ok (.aload_n 1, 1) := by decide +kernel
theorem dL_law_636 : decode cL_law 636 = .ok (.iload 14, 2) := by decide +kernel
theorem dL_law_638 : decode cL_law 638 = .ok (.iload 15, 2) := by decide +kernel
theorem dL_law_640 : decode cL_law 640 = .ok (.invokevirtual 93, 3) := by decide +kernel
theorem dL_law_643 : decode cL_law 643 = .ok (.aload_n 2, 1) := by decide +kernel
theorem dL_law_644 : decode cL_law 644 = .ok (.iconst 3, 1) := by decide +kernel
theorem dL_law_645 : decode cL_law 645 = .ok (.iload 14, 2) := by decide +kernel
theorem dL_law_647 : decode cL_law 647 = .ok (.iadd, 1) := by decide +kernel
theorem dL_law_648 : decode cL_law 648 = .ok (.iaload, 1) := by decide +kernel
theorem dL_law_649 : decode cL_law 649 = .ok (.if_icmp .eq 5, 3) := by decide +kernel
theorem dL_law_652 : decode cL_law 652 = .ok (.iconst 0, 1) := by decide +kernel
theorem dL_law_653 : decode cL_law 653 = .ok (.ireturn, 1) := by decide +kernel
theorem dL_law_654 : decode cL_law 654 = .ok (.aload_n 2, 1) := by decide +kernel
theorem dL_law_655 : decode cL_law 655 = .ok (.iconst 3, 1) := by decide +kernel
theorem dL_law_656 : decode cL_law 656 = .ok (.iload 14, 2) := by decide +kernel
theorem dL_law_658 : decode cL_law 658 = .ok (.iadd, 1) := by decide +kernel
theorem dL_law_659 : decode cL_law 659 = .ok (.iload 15, 2) := by decide +kernel
theorem dL_law_661 : decode cL_law 661 = .ok (.iastore, 1) := by decide +kernel
theorem dL_law_662 : decode cL_law 662 = .ok (.goto 1164, 3) := by decide +kernel
theorem dL_law_665 : decode cL_law 665 = .ok (.iload 12, 2) := by decide +kernel
theorem dL_law_667 : decode cL_law 667 = .ok (.iconst 5, 1) := by decide +kernel
theorem dL_law_668 : decode cL_law 668 = .ok (.if_icmp .ne 46, 3) := by decide +kernel
theorem dL_law_671 : decode cL_law 671 = .ok (.iload 10, 2) := by decide +kernel
theorem dL_law_673 : decode cL_law 673 = .ok (.iconst 5, 1) := by decide +kernel
theorem dL_law_674 : decode cL_law 674 = .ok (.ishr, 1) := by decide +kernel
theorem dL_law_675 : decode cL_law 675 = .ok (.bipush 6, 2) := by decide +kernel
theorem dL_law_677 : decode cL_law 677 = .ok (.invokestatic 62, 3) := by decide +kernel
theorem dL_law_680 : decode cL_law 680 = .ok (.istore 19, 2) := by decide +kernel
theorem dL_law_682 : decode cL_law 682 = .ok (.aload_n 1, 1) := by decide +kernel
theorem dL_law_683 : decode cL_law 683 = .ok (.iload 16, 2) := by decide +kernel
theorem dL_law_685 : decode cL_law 685 = .ok (.iload 19, 2) := by decide +kernel
theorem dL_law_687 : decode cL_law 687 = .ok (.invokevirtual 96, 3) := by decide +kernel
theorem dL_law_690 : decode cL_law 690 = .ok (.aload 4, 2) := by decide +kernel
theorem dL_law_692 : decode cL_law 692 = .ok (.iconst 2, 1) := by decide +kernel
theorem dL_law_693 : decode cL_law 693 = .ok (.iload 16, 2) := by decide +kernel
theorem dL_law_695 : decode cL_law 695 = .ok (.imul, 1) := by decide +kernel
theorem dL_law_696 : decode cL_law 696 = .ok (.iaload, 1) := by decide +kernel
theorem dL_law_697 : decode cL_law 697 = .ok (.if_icmp .eq 5, 3) := by decide +kernel
theorem dL_law_700 : decode cL_law 700 = .ok (.iconst 0, 1) := by decide +kernel
theorem dL_law_701 : decode cL_law 701 = .ok (.ireturn, 1) := by decide +kernel
theorem dL_law_702 : decode cL_law 702 = .ok (.aload 4, 2) := by decide +kernel
theorem dL_law_704 : decode cL_law 704 = .ok (.iconst 2, 1) := by decide +kernel
theorem dL_law_705 : decode cL_law 705 = .ok (.iload 16, 2) := by decide +kernel
theorem dL_law_707 : decode cL_law 707 = .ok (.imul, 1) := by decide +kernel
theorem dL_law_708 : decode cL_law 708 = .ok (.iload 19, 2) := by decide +kernel
theorem dL_law_710 : decode cL_law 710 = .ok (.iastore, 1) := by decide +kernel
theorem dL_law_711 : decode cL_law 711 = .ok (.goto 1115, 3) := by decide +kernel
theorem dL_law_714 : decode cL_law 714 = .ok (.iload 12, 2) := by decide +kernel
theorem dL_law_716 : decode cL_law 716 = .ok (.bipush 6, 2) := by decide +kernel
theorem dL_law_718 : decode cL_law 718 = .ok (.if_icmp .ne 39, 3) := by decide +kernel
theorem dL_law_721 : decode cL_law 721 = .ok (.aload_n 1, 1) := by decide +kernel
theorem dL_law_722 : decode cL_law 722 = .ok (.iload 16, 2) := by decide +kernel
theorem dL_law_724 : decode cL_law 724 = .ok (.iload 17, 2) := by decide +kernel
theorem dL_law_726 : decode cL_law 726 = .ok (.invokevirtual 99, 3) := by decide +kernel
theorem dL_law_729 : decode cL_law 729 = .ok (.aload 4, 2) := by decide +kernel
theorem dL_law_731 : decode cL_law 731 = .ok (.iconst 2, 1) := by decide +kernel
theorem dL_law_732 : decode cL_law 732 = .ok (.iload 16, 2) := by decide +kernel
theorem dL_law_734 : decode cL_law 734 = .ok (.imul, 1) := by decide +kernel
theorem dL_law_735 : decode cL_law 735 = .ok (.iconst 1, 1) := by decide +kernel
theorem dL_law_736 : decode cL_law 736 = .ok (.iadd, 1) := by decide +kernel
theorem dL_law_737 : decode cL_law 737 = .ok (.iaload, 1) := by decide +kernel
theorem dL_law_738 : decode cL_law 738 = .ok (.if_icmp .eq 5, 3) := by decide +kernel
theorem dL_law_741 : decode cL_law 741 = .ok (.iconst 0, 1) := by decide +kernel
theorem dL_law_742 : decode cL_law 742 = .ok (.ireturn, 1) := by decide +kernel
theorem dL_law_743 : decode cL_law 743 = .ok (.aload 4, 2) := by decide +kernel
theorem dL_law_745 : decode cL_law 745 = .ok (.iconst 2, 1) := by decide +kernel
theorem dL_law_746 : decode cL_law 746 = .ok (.iload 16, 2) := by decide +kernel
theorem dL_law_748 : decode cL_law 748 = .ok (.imul, 1) := by decide +kernel
theorem dL_law_749 : decode cL_law 749 = .ok (.iconst 1, 1) := by decide +kernel
theorem dL_law_750 : decode cL_law 750 = .ok (.iadd, 1) := by decide +kernel
theorem dL_law_751 : decode cL_law 751 = .ok (.iload 17, 2) := by decide +kernel
theorem dL_law_753 : decode cL_law 753 = .ok (.iastore, 1) := by decide +kernel
theorem dL_law_754 : decode cL_law 754 = .ok (.goto 1072, 3) := by decide +kernel
theorem dL_law_757 : decode cL_law 757 = .ok (.iload 12, 2) := by decide +kernel
theorem dL_law_759 : decode cL_law 759 = .ok (.bipush 7, 2) := by decide +kernel
theorem dL_law_761 : decode cL_law 761 = .ok (.if_icmp .ne 35, 3) := by decide +kernel
theorem dL_law_764 : decode cL_law 764 = .ok (.iconst 1, 1) := by decide +kernel
theorem dL_law_765 : decode cL_law 765 = .ok (.iload 11, 2) := by decide +kernel
theorem dL_law_767 : decode cL_law 767 = .ok (.iconst 3, 1) := by decide +kernel
theorem dL_law_768 : decode cL_law 768 = .ok (.invokestatic 62, 3) := by decide +kernel
theorem dL_law_771 : decode cL_law 771 = .ok (.iadd, 1) := by decide +kernel
theorem dL_law_772 : decode cL_law 772 = .ok (.istore 19, 2) := by decide +kernel
theorem dL_law_774 : decode cL_law 774 = .ok (.aload_n 1, 1) := by decide +kernel
theorem dL_law_775 : decode cL_law 775 = .ok (.iload 19, 2) := by decide +kernel
theorem dL_law_777 : decode cL_law 777 = .ok (.invokevirtual 102, 3) := by decide +kernel
theorem dL_law_780 : decode cL_law 780 = .ok (.aload_n 2, 1) := by decide +kernel
theorem dL_law_781 : decode cL_law 781 = .ok (.iconst 2, 1) := by decide +kernel
theorem dL_law_782 : decode cL_law 782 = .ok (.iaload, 1) := by decide +kernel
theorem dL_law_783 : decode cL_law 783 = .ok (.if_icmp .eq 5, 3) := by decide +kernel
theorem dL_law_786 : decode cL_law 786 = .ok (.iconst 0, 1) := by decide +kernel
theorem dL_law_787 : decode cL_law 787 = .ok (.ireturn, 1) := by decide +kernel
theorem dL_law_788 : decode cL_law 788 = .ok (.aload_n 2, 1) := by decide +kernel
theorem dL_law_789 : decode cL_law 789 = .ok (.iconst 2, 1) := by decide +kernel
theorem dL_law_790 : decode cL_law 790 = .ok (.iload 19, 2) := by decide +kernel
theorem dL_law_792 : decode cL_law 792 = .ok (.iastore, 1) := by decide +kernel
theorem dL_law_793 : decode cL_law 793 = .ok (.goto 1033, 3) := by decide +kernel
theorem dL_law_796 : decode cL_law 796 = .ok (.iload 12, 2) := by decide +kernel
theorem dL_law_798 : decode cL_law 798 = .ok (.bipush 10, 2) := by decide +kernel
theorem dL_law_800 : decode cL_law 800 = .ok (.if_icmp .ge 139, 3) := by decide +kernel
theorem dL_law_803 : decode cL_law 803 = .ok (.iload 10, 2) := by decide +kernel
theorem dL_law_805 : decode cL_law 805 = .ok (.iconst 4, 1) := by decide +kernel
theorem dL_law_806 : decode cL_law 806 = .ok (.ishr, 1) := by decide +kernel
theorem dL_law_807 : decode cL_law 807 = .ok (.bipush 64, 2) := by decide +kernel
theorem dL_law_809 : decode cL_law 809 = .ok (.invokestatic 62, 3) := by decide +kernel
theorem dL_law_812 : decode cL_law 812 = .ok (.istore 19, 2) := by decide +kernel
theorem dL_law_814 : decode cL_law 814 = .ok (.iload 11, 2) := by decide +kernel
theorem dL_law_816 : decode cL_law 816 = .ok (.iconst 2, 1) := by decide +kernel
theorem dL_law_817 : decode cL_law 817 = .ok (.invokestatic 62, 3) := by decide +kernel
theorem dL_law_820 : decode cL_law 820 = .ok (.ifCond .ne 7, 3) := by decide +kernel
theorem dL_law_823 : decode cL_law 823 = .ok (.iconst 0, 1) := by decide +kernel
theorem dL_law_824 : decode cL_law 824 = .ok (.goto 11, 3) := by decide +kernel
theorem dL_law_827 : decode cL_law 827 = .ok (.iload 11, 2) := by decide +kernel
theorem dL_law_829 : decode cL_law 829 = .ok (.iconst 1, 1) := by decide +kernel
theorem dL_law_830 : decode cL_law 830 = .ok (.ishr, 1) := by decide +kernel
theorem dL_law_831 : decode cL_law 831 = .ok (.iconst 4, 1) := by decide +kernel
theorem dL_law_832 : decode cL_law 832 = .ok (.invokestatic 62, 3) := by decide +kernel
theorem dL_law_835 : decode cL_law 835 = .ok (.istore 20, 2) := by decide +kernel
theorem dL_law_837 : decode cL_law 837 = .ok (.iload 11, 2) := by decide +kernel
theorem dL_law_839 : decode cL_law 839 = .ok (.iconst 3, 1) := by decide +kernel
theorem dL_law_840 : decode cL_law 840 = .ok (.ishr, 1) := by decide +kernel
theorem dL_law_841 : decode cL_law 841 = .ok (.iconst 2, 1) := by decide +kernel
theorem dL_law_842 : decode cL_law 842 = .ok (.invokestatic 62, 3) := by decide +kernel
theorem dL_law_845 : decode cL_law 845 = .ok (.istore 21, 2) := by decide +kernel
theorem dL_law_847 : decode cL_law 847 = .ok (.aload_n 2, 1) := by decide +kernel
theorem dL_law_848 : decode cL_law 848 = .ok (.iconst 0, 1) := by decide +kernel
theorem dL_law_849 : decode cL_law 849 = .ok (.iaload, 1) := by decide +kernel
theorem dL_law_850 : decode cL_law 850 = .ok (.bipush 16, 2) := by decide +kernel
theorem dL_law_852 : decode cL_law 852 = .ok (.if_icmp .ge 7, 3) := by decide +kernel
theorem dL_law_855 : decode cL_law 855 = .ok (.iconst 1, 1) := by decide +kernel
theorem dL_law_856 : decode cL_law 856 = .ok (.goto 4, 3) := by decide +kernel
theorem dL_law_859 : decode cL_law 859 = .ok (.iconst 0, 1) := by decide +kernel
theorem dL_law_860 : decode cL_law 860 = .ok (.istore 18, 2) := by decide +kernel
theorem dL_law_862 : decode cL_law 862 = .ok (.aload_n 1, 1) := by decide +kernel
theorem dL_law_863 : decode cL_law 863 = .ok (.iload 19, 2) := by decide +kernel
theorem dL_law_865 : decode cL_law 865 = .ok (.iload 20, 2) := by decide +kernel
theorem dL_law_867 : decode cL_law 867 = .ok (.iload 21, 2) := by decide +kernel
theorem dL_law_869 : decode cL_law 869 = .ok (.invokevirtual 105, 3) := by decide +kernel
theorem dL_law_872 : decode cL_law 872 = .ok (.iload 18, 2) := by decide +kernel
theorem dL_law_874 : decode cL_law 874 = .ok (.ifCond .eq 9, 3) := by decide +kernel
theorem dL_law_877 : decode cL_law 877 = .ok (.aload_n 2, 1) := by decide +kernel
theorem dL_law_878 : decode cL_law 878 = .ok (.iconst 0, 1) := by decide +kernel
theorem dL_law_879 : decode cL_law 879 = .ok (.iaload, 1) := by decide +kernel
theorem dL_law_880 : decode cL_law 880 = .ok (.goto 5, 3) := by decide +kernel
theorem dL_law_883 : decode cL_law 883 = .ok (.bipush (-4), 2) := by decide +kernel
theorem dL_law_885 : decode cL_law 885 = .ok (.if_icmp .eq 5, 3) := by decide +kernel
theorem dL_law_888 : decode cL_law 888 = .ok (.iconst 0, 1) := by decide +kernel
theorem dL_law_889 : decode cL_law 889 = .ok (.ireturn, 1) := by decide +kernel
theorem dL_law_890 : decode cL_law 890 = .ok (.iload 18, 2) := by decide +kernel
theorem dL_law_892 : decode cL_law 892 = .ok (.ifCond .eq 44, 3) := by decide +kernel
theorem dL_law_895 : decode cL_law 895 = .ok (.aload 5, 2) := by decide +kernel
theorem dL_law_897 : decode cL_law 897 = .ok (.iconst 3, 1) := by decide +kernel
theorem dL_law_898 : decode cL_law 898 = .ok (.aload_n 2, 1) := by decide +kernel
theorem dL_law_899 : decode cL_law 899 = .ok (.iconst 0, 1) := by decide +kernel
theorem dL_law_900 : decode cL_law 900 = .ok (.iaload, 1) := by decide +kernel
theorem dL_law_901 : decode cL_law 901 = .ok (.imul, 1) := by decide +kernel
theorem dL_law_902 : decode cL_law 902 = .ok (.iload 19, 2) := by decide +kernel
theorem dL_law_904 : decode cL_law 904 = .ok (.iastore, 1) := by decide +kernel
theorem dL_law_905 : decode cL_law 905 = .ok (.aload 5, 2) := by decide +kernel
theorem dL_law_907 : decode cL_law 907 = .ok (.iconst 3, 1) := by decide +kernel
theorem dL_law_908 : decode cL_law 908 = .ok (.aload_n 2, 1) := by decide +kernel
theorem dL_law_909 : decode cL_law 909 = .ok (.iconst 0, 1) := by decide +kernel
theorem dL_law_910 : decode cL_law 910 = .ok (.iaload, 1) := by decide +kernel
theorem dL_law_911 : decode cL_law 911 = .ok (.imul, 1) := by decide +kernel
theorem dL_law_912 : decode cL_law 912 = .ok (.iconst 1, 1) := by decide +kernel
theorem dL_law_913 : decode cL_law 913 = .ok (.iadd, 1) := by decide +kernel
theorem dL_law_914 : decode cL_law 914 = .ok (.iload 20, 2) := by decide +kernel
theorem dL_law_916 : decode cL_law 916 = .ok (.iastore, 1) := by decide +kernel
theorem dL_law_917 : decode cL_law 917 = .ok (.aload 5, 2) := by decide +kernel
theorem dL_law_919 : decode cL_law 919 = .ok (.iconst 3, 1) := by decide +kernel
theorem dL_law_920 : decode cL_law 920 = .ok (.aload_n 2, 1) := by decide +kernel
theorem dL_law_921 : decode cL_law 921 = .ok (.iconst 0, 1) := by decide +kernel
theorem dL_law_922 : decode cL_law 922 = .ok (.iaload, 1) := by decide +kernel
theorem dL_law_923 : decode cL_law 923 = .ok (.imul, 1) := by decide +kernel
theorem dL_law_924 : decode cL_law 924 = .ok (.iconst 2, 1) := by decide +kernel
theorem dL_law_925 : decode cL_law 925 = .ok (.iadd, 1) := by decide +kernel
theorem dL_law_926 : decode cL_law 926 = .ok (.iload 21, 2) := by decide +kernel
theorem dL_law_928 : decode cL_law 928 = .ok (.iastore, 1) := by decide +kernel
theorem dL_law_929 : decode cL_law 929 = .ok (.aload_n 2, 1) := by decide +kernel
theorem dL_law_930 : decode cL_law 930 = .ok (.iconst 0, 1) := by decide +kernel
theorem dL_law_931 : decode cL_law 931 = .ok (.dup2, 1) := by decide +kernel
theorem dL_law_932 : decode cL_law 932 = .ok (.iaload, 1) := by decide +kernel
theorem dL_law_933 : decode cL_law 933 = .ok (.iconst 1, 1) := by decide +kernel
theorem dL_law_934 : decode cL_law 934 = .ok (.iadd, 1) := by decide +kernel
theorem dL_law_935 : decode cL_law 935 = .ok (.iastore, 1) := by decide +kernel
theorem dL_law_936 : decode cL_law 936 = .ok (.goto 890, 3) := by decide +kernel
theorem dL_law_939 : decode cL_law 939 = .ok (.iload 12, 2) := by decide +kernel
theorem dL_law_941 : decode cL_law 941 = .ok (.bipush 10, 2) := by decide +kernel
theorem dL_law_943 : decode cL_law 943 = .ok (.if_icmp .ne 129, 3) := by decide +kernel
theorem dL_law_946 : decode cL_law 946 = .ok (.iload 11, 2) := by decide +kernel
theorem dL_law_948 : decode cL_law 948 = .ok (.bipush 17, 2) := by decide +kernel
theorem dL_law_950 : decode cL_law 950 = .ok (.invokestatic 62, 3) := by decide +kernel
theorem dL_law_953 : decode cL_law 953 = .ok (.istore 19, 2) := by decide +kernel
theorem dL_law_955 : decode cL_law 955 = .ok (.iload 19, 2) := by decide +kernel
theorem dL_law_957 : decode cL_law 957 = .ok (.aload_n 2, 1) := by decide +kernel
theorem dL_law_958 : decode cL_law 958 = .ok (.iconst 0, 1) := by decide +kernel
theorem dL_law_959 : decode cL_law 959 = .ok (.iaload, 1) := by decide +kernel
theorem dL_law_960 : decode cL_law 960 = .ok (.if_icmp .ge 7, 3) := by decide +kernel
theorem dL_law_963 : decode cL_law 963 = .ok (.iconst 1, 1) := by decide +kernel
theorem dL_law_964 : decode cL_law 964 = .ok (.goto 4, 3) := by decide +kernel
theorem dL_law_967 : decode cL_law 967 = .ok (.iconst 0, 1) := by decide +kernel
theorem dL_law_968 : decode cL_law 968 = .ok (.istore 18, 2) := by decide +kernel
theorem dL_law_970 : decode cL_law 970 = .ok (.aload_n 1, 1) := by decide +kernel
theorem dL_law_971 : decode cL_law 971 = .ok (.iload 19, 2) := by decide +kernel
theorem dL_law_973 : decode cL_law 973 = .ok (.invokevirtual 108, 3) := by decide +kernel
theorem dL_law_976 : decode cL_law 976 = .ok (.iload 18, 2) := by decide +kernel
theorem dL_law_978 : decode cL_law 978 = .ok (.ifCond .eq 11, 3) := by decide +kernel
theorem dL_law_981 : decode cL_law 981 = .ok (.aload_n 2, 1) := by decide +kernel
theorem dL_law_982 : decode cL_law 982 = .ok (.iconst 0, 1) := by decide +kernel
theorem dL_law_983 : decode cL_law 983 = .ok (.iaload, 1) := by decide +kernel
theorem dL_law_984 : decode cL_law 984 = .ok (.iconst 1, 1) := by decide +kernel
theorem dL_law_985 : decode cL_law 985 = .ok (.isub, 1) := by decide +kernel
theorem dL_law_986 : decode cL_law 986 = .ok (.goto 4, 3) := by decide +kernel
theorem dL_law_989 : decode cL_law 989 = .ok (.iconst (-1), 1) := by decide +kernel
theorem dL_law_990 : decode cL_law 990 = .ok (.if_icmp .eq 5, 3) := by decide +kernel
theorem dL_law_993 : decode cL_law 993 = .ok (.iconst 0, 1) := by decide +kernel
theorem dL_law_994 : decode cL_law 994 = .ok (.ireturn, 1) := by decide +kernel
theorem dL_law_995 : decode cL_law 995 = .ok (.iload 18, 2) := by decide +kernel
theorem dL_law_997 : decode cL_law 997 = .ok (.ifCond .eq 72, 3) := by decide +kernel
theorem dL_law_1000 : decode cL_law 1000 = .ok (.aload_n 2, 1) := by decide +kernel
theorem dL_law_1001 : decode cL_law 1001 = .ok (.iconst 0, 1) := by decide +kernel
theorem dL_law_1002 : decode cL_law 1002 = .ok (.dup2, 1) := by decide +kernel
theorem dL_law_1003 : decode cL_law 1003 = .ok (.iaload, 1) := by decide +kernel
theorem dL_law_1004 : decode cL_law 1004 = .ok (.iconst 1, 1) := by decide +kernel
theorem dL_law_1005 : decode cL_law 1005 = .ok (.isub, 1) := by decide +kernel
theorem dL_law_1006 : decode cL_law 1006 = .ok (.iastore, 1) := by decide +kernel
theorem dL_law_1007 : decode cL_law 1007 = .ok (.iconst 3, 1) := by decide +kernel
theorem dL_law_1008 : decode cL_law 1008 = .ok (.iload 19, 2) := by decide +kernel
theorem dL_law_1010 : decode cL_law 1010 = .ok (.imul, 1) := by decide +kernel
theorem dL_law_1011 : decode cL_law 1011 = .ok (.istore 20, 2) := by decide +kernel
theorem dL_law_1013 : decode cL_law 1013 = .ok (.iload 20, 2) := by decide +kernel
theorem dL_law_1015 : decode cL_law 1015 = .ok (.iconst 3, 1) := by decide +kernel
theorem dL_law_1016 : decode cL_law 1016 = .ok (.aload_n 2, 1) := by decide +kernel
theorem dL_law_1017 : decode cL_law 1017 = .ok (.iconst 0, 1) := by decide +kernel
theorem dL_law_1018 : decode cL_law 1018 = .ok (.iaload, 1) := by decide +kernel
theorem dL_law_1019 : decode cL_law 1019 = .ok (.imul, 1) := by decide +kernel
theorem dL_law_1020 : decode cL_law 1020 = .ok (.if_icmp .ge 21, 3) := by decide +kernel
theorem dL_law_1023 : decode cL_law 1023 = .ok (.aload 5, 2) := by decide +kernel
theorem dL_law_1025 : decode cL_law 1025 = .ok (.iload 20, 2) := by decide +kernel
theorem dL_law_1027 : decode cL_law 1027 = .ok (.aload 5, 2) := by decide +kernel
theorem dL_law_1029 : decode cL_law 1029 = .ok (.iload 20, 2) := by decide +kernel
theorem dL_law_1031 : decode cL_law 1031 = .ok (.iconst 3, 1) := by decide +kernel
theorem dL_law_1032 : decode cL_law 1032 = .ok (.iadd, 1) := by decide +kernel
theorem dL_law_1033 : decode cL_law 1033 = .ok (.iaload, 1) := by decide +kernel
theorem dL_law_1034 : decode cL_law 1034 = .ok (.iastore, 1) := by decide +kernel
theorem dL_law_1035 : decode cL_law 1035 = .ok (.iinc 20 1, 3) := by decide +kernel
theorem dL_law_1038 : decode cL_law 1038 = .ok (.goto (-25), 3) := by decide +kernel
theorem dL_law_1041 : decode cL_law 1041 = .ok (.iload 19, 2) := by decide +kernel
theorem dL_law_1043 : decode cL_law 1043 = .ok (.aload_n 2, 1) := by decide +kernel
theorem dL_law_1044 : decode cL_law 1044 = .ok (.iconst 1, 1) := by decide +kernel
theorem dL_law_1045 : decode cL_law 1045 = .ok (.iaload, 1) := by decide +kernel
theorem dL_law_1046 : decode cL_law 1046 = .ok (.if_icmp .ge 10, 3) := by decide +kernel
theorem dL_law_1049 : decode cL_law 1049 = .ok (.aload_n 2, 1) := by decide +kernel
theorem dL_law_1050 : decode cL_law 1050 = .ok (.iconst 1, 1) := by decide +kernel
theorem dL_law_1051 : decode cL_law 1051 = .ok (.dup2, 1) := by decide +kernel
theorem dL_law_1052 : decode cL_law 1052 = .ok (.iaload, 1) := by decide +kernel
theorem dL_law_1053 : decode cL_law 1053 = .ok (.iconst 1, 1) := by decide +kernel
theorem dL_law_1054 : decode cL_law 1054 = .ok (.isub, 1) := by decide +kernel
theorem dL_law_1055 : decode cL_law 1055 = .ok (.iastore, 1) := by decide +kernel
theorem dL_law_1056 : decode cL_law 1056 = .ok (.aload_n 2, 1) := by decide +kernel
theorem dL_law_1057 : decode cL_law 1057 = .ok (.iconst 1, 1) := by decide +kernel
theorem dL_law_1058 : decode cL_law 1058 = .ok (.iaload, 1) := by decide +kernel
theorem dL_law_1059 : decode cL_law 1059 = .ok (.aload_n 2, 1) := by decide +kernel
theorem dL_law_1060 : decode cL_law 1060 = .ok (.iconst 0, 1) := by decide +kernel
theorem dL_law_1061 : decode cL_law 1061 = .ok (.iaload, 1) := by decide +kernel
theorem dL_law_1062 : decode cL_law 1062 = .ok (.if_icmp .lt 7, 3) := by decide +kernel
theorem dL_law_1065 : decode cL_law 1065 = .ok (.aload_n 2, 1) := by decide +kernel
theorem dL_law_1066 : decode cL_law 1066 = .ok (.iconst 1, 1) := by decide +kernel
theorem dL_law_1067 : decode cL_law 1067 = .ok (.iconst 0, 1) := by decide +kernel
theorem dL_law_1068 : decode cL_law 1068 = .ok (.iastore, 1) := by decide +kernel
theorem dL_law_1069 : decode cL_law 1069 = .ok (.goto 757, 3) := by decide +kernel
theorem dL_law_1072 : decode cL_law 1072 = .ok (.iload 12, 2) := by decide +kernel
theorem dL_law_1074 : decode cL_law 1074 = .ok (.bipush 11, 2) := by decide +kernel
theorem dL_law_1076 : decode cL_law 1076 = .ok (.if_icmp .ne 68, 3) := by decide +kernel
theorem dL_law_1079 : decode cL_law 1079 = .ok (.iload 11, 2) := by decide +kernel
theorem dL_law_1081 : decode cL_law 1081 = .ok (.iconst 5, 1) := by decide +kernel
theorem dL_law_1082 : decode cL_law 1082 = .ok (.invokestatic 62, 3) := by decide +kernel
theorem dL_law_1085 : decode cL_law 1085 = .ok (.istore 19, 2) := by decide +kernel
theorem dL_law_1087 : decode cL_law 1087 = .ok (.iload 19, 2) := by decide +kernel
theorem dL_law_1089 : decode cL_law 1089 = .ok (.aload_n 2, 1) := by decide +kernel
theorem dL_law_1090 : decode cL_law 1090 = .ok (.iconst 0, 1) := by decide +kernel
theorem dL_law_1091 : decode cL_law 1091 = .ok (.iaload, 1) := by decide +kernel
theorem dL_law_1092 : decode cL_law 1092 = .ok (.if_icmp .ge 7, 3) := by decide +kernel
theorem dL_law_1095 : decode cL_law 1095 = .ok (.iconst 1, 1) := by decide +kernel
theorem dL_law_1096 : decode cL_law 1096 = .ok (.goto 4, 3) := by decide +kernel
theorem dL_law_1099 : decode cL_law 1099 = .ok (.iconst 0, 1) := by decide +kernel
theorem dL_law_1100 : decode cL_law 1100 = .ok (.istore 18, 2) := by decide +kernel
theorem dL_law_1102 : decode cL_law 1102 = .ok (.aload_n 1, 1) := by decide +kernel
theorem dL_law_1103 : decode cL_law 1103 = .ok (.iload 19, 2) := by decide +kernel
theorem dL_law_1105 : decode cL_law 1105 = .ok (.invokevirtual 111, 3) := by decide +kernel
theorem dL_law_1108 : decode cL_law 1108 = .ok (.iload 18, 2) := by decide +kernel
theorem dL_law_1110 : decode cL_law 1110 = .ok (.ifCond .eq 9, 3) := by decide +kernel
theorem dL_law_1113 : decode cL_law 1113 = .ok (.aload_n 2, 1) := by decide +kernel
theorem dL_law_1114 : decode cL_law 1114 = .ok (.iconst 1, 1) := by decide +kernel
theorem dL_law_1115 : decode cL_law 1115 = .ok (.iaload, 1) := by decide +kernel
theorem dL_law_1116 : decode cL_law 1116 = .ok (.goto 4, 3) := by decide +kernel
theorem dL_law_1119 : decode cL_law 1119 = .ok (.iconst (-1), 1) := by decide +kernel
theorem dL_law_1120 : decode cL_law 1120 = .ok (.if_icmp .eq 5, 3) := by decide +kernel
theorem dL_law_1123 : decode cL_law 1123 = .ok (.iconst 0, 1) := by decide +kernel
theorem dL_law_1124 : decode cL_law 1124 = .ok (.ireturn, 1) := by decide +kernel
theorem dL_law_1125 : decode cL_law 1125 = .ok (.aload_n 2, 1) := by decide +kernel
theorem dL_law_1126 : decode cL_law 1126 = .ok (.iconst 1, 1) := by decide +kernel
theorem dL_law_1127 : decode cL_law 1127 = .ok (.iload 18, 2) := by decide +kernel
theorem dL_law_1129 : decode cL_law 1129 = .ok (.ifCond .eq 8, 3) := by decide +kernel
theorem dL_law_1132 : decode cL_law 1132 = .ok (.iload 19, 2) := by decide +kernel
theorem dL_law_1134 : decode cL_law 1134 = .ok (.goto 6, 3) := by decide +kernel
theorem dL_law_1137 : decode cL_law 1137 = .ok (.aload_n 2, 1) := by decide +kernel
theorem dL_law_1138 : decode cL_law 1138 = .ok (.iconst 1, 1) := by decide +kernel
theorem dL_law_1139 : decode cL_law 1139 = .ok (.iaload, 1) := by decide +kernel
theorem dL_law_1140 : decode cL_law 1140 = .ok (.iastore, 1) := by decide +kernel
theorem dL_law_1141 : decode cL_law 1141 = .ok (.goto 685, 3) := by decide +kernel
theorem dL_law_1144 : decode cL_law 1144 = .ok (.iload 12, 2) := by decide +kernel
theorem dL_law_1146 : decode cL_law 1146 = .ok (.bipush 16, 2) := by decide +kernel
theorem dL_law_1148 : decode cL_law 1148 = .ok (.if_icmp .ge 490, 3) := by decide +kernel
theorem dL_law_1151 : decode cL_law 1151 = .ok (.iconst 1, 1) := by decide +kernel
theorem dL_law_1152 : decode cL_law 1152 = .ok (.iload 11, 2) := by decide +kernel
theorem dL_law_1154 : decode cL_law 1154 = .ok (.iload 10, 2) := by decide +kernel
theorem dL_law_1156 : decode cL_law 1156 = .ok (.iconst 5, 1) := by decide +kernel
theorem dL_law_1157 : decode cL_law 1157 = .ok (.ishr, 1) := by decide +kernel
theorem dL_law_1158 : decode cL_law 1158 = .ok (.iconst 3, 1) := by decide +kernel
theorem dL_law_1159 : decode cL_law 1159 = .ok (.invokestatic 62, 3) := by decide +kernel
theorem dL_law_1162 : decode cL_law 1162 = .ok (.ifCond .ne 8, 3) := by decide +kernel
theorem dL_law_1165 : decode cL_law 1165 = .ok (.bipush 30, 2) := by decide +kernel
theorem dL_law_1167 : decode cL_law 1167 = .ok (.goto 4, 3) := by decide +kernel
theorem dL_law_1170 : decode cL_law 1170 = .ok (.iconst 4, 1) := by decide +kernel
theorem dL_law_1171 : decode cL_law 1171 = .ok (.invokestatic 62, 3) := by decide +kernel
theorem dL_law_1174 : decode cL_law 1174 = .ok (.iadd, 1) := by decide +kernel
theorem dL_law_1175 : decode cL_law 1175 = .ok (.istore 19, 2) := by decide +kernel
theorem dL_law_1177 : decode cL_law 1177 = .ok (.iconst 0, 1) := by decide +kernel
theorem dL_law_1178 : decode cL_law 1178 = .ok (.istore 20, 2) := by decide +kernel
theorem dL_law_1180 : decode cL_law 1180 = .ok (.iconst 1, 1) := by decide +kernel
theorem dL_law_1181 : decode cL_law 1181 = .ok (.aload_n 2, 1) := by decide +kernel
theorem dL_law_1182 : decode cL_law 1182 = .ok (.aload_n 3, 1) := by decide +kernel
theorem dL_law_1183 : decode cL_law 1183 = .ok (.aload 4, 2) := by decide +kernel
theorem dL_law_1185 : decode cL_law 1185 = .ok (.aload 5, 2) := by decide +kernel
theorem dL_law_1187 : decode cL_law 1187 = .ok (.invokestatic 16, 3) := by decide +kernel
theorem dL_law_1190 : decode cL_law 1190 = .ok (.istore 21, 2) := by decide +kernel
theorem dL_law_1192 : decode cL_law 1192 = .ok (.iconst 0, 1) := by decide +kernel
theorem dL_law_1193 : decode cL_law 1193 = .ok (.istore 18, 2) := by decide +kernel
theorem dL_law_1195 : decode cL_law 1195 = .ok (.iload 20, 2) := by decide +kernel
theorem dL_law_1197 : decode cL_law 1197 = .ok (.iload 19, 2) := by decide +kernel
theorem dL_law_1199 : decode cL_law 1199 = .ok (.if_icmp .ge 390, 3) := by decide +kernel
theorem dL_law_1202 : decode cL_law 1202 = .ok (.iload 21, 2) := by decide +kernel
theorem dL_law_1204 : decode cL_law 1204 = .ok (.ifCond .ne 385, 3) := by decide +kernel
theorem dL_law_1207 : decode cL_law 1207 = .ok (.aload_n 2, 1) := by decide +kernel
theorem dL_law_1208 : decode cL_law 1208 = .ok (.bipush 8, 2) := by decide +kernel
theorem dL_law_1210 : decode cL_law 1210 = .ok (.iaload, 1) := by decide +kernel
theorem dL_law_1211 : decode cL_law 1211 = .ok (.bipush 10, 2) := by decide +kernel
theorem dL_law_1213 : decode cL_law 1213 = .ok (.irem, 1) := by decide +kernel
theorem dL_law_1214 : decode cL_law 1214 = .ok (.istore 22, 2) := by decide +kernel
theorem dL_law_1216 : decode cL_law 1216 = .ok (.aload_n 2, 1) := by decide +kernel
theorem dL_law_1217 : decode cL_law 1217 = .ok (.bipush 8, 2) := by decide +kernel
theorem dL_law_1219 : decode cL_law 1219 = .ok (.iaload, 1) := by decide +kernel
theorem dL_law_1220 : decode cL_law 1220 = .ok (.bipush 20, 2) := by decide +kernel
theorem dL_law_1222 : decode cL_law 1222 = .ok (.if_icmp .ge 14, 3) := by decide +kernel
theorem dL_law_1225 : decode cL_law 1225 = .ok (.aload_n 2, 1) := by decide +kernel
theorem dL_law_1226 : decode cL_law 1226 = .ok (.bipush 8, 2) := by decide +kernel
theorem dL_law_1228 : decode cL_law 1228 = .ok (.dup2, 1) := by decide +kernel
theorem dL_law_1229 : decode cL_law 1229 = .ok (.iaload, 1) := by decide +kernel
theorem dL_law_1230 : decode cL_law 1230 = .ok (.iconst 1, 1) := by decide +kernel
theorem dL_law_1231 : decode cL_law 1231 = .ok (.iadd, 1) := by decide +kernel
theorem dL_law_1232 : decode cL_law 1232 = .ok (.iastore, 1) := by decide +kernel
theorem dL_law_1233 : decode cL_law 1233 = .ok (.goto 94, 3) := by decide +kernel
theorem dL_law_1236 : decode cL_law 1236 = .ok (.iconst 0, 1) := by decide +kernel
theorem dL_law_1237 : decode cL_law 1237 = .ok (.istore 23, 2) := by decide +kernel
theorem dL_law_1239 : decode cL_law 1239 = .ok (.iload 23, 2) := by decide +kernel
theorem dL_law_1241 : decode cL_law 1241 = .ok (.bipush 54, 2) := by decide +kernel
theorem dL_law_1243 : decode cL_law 1243 = .ok (.if_icmp .ge 22, 3) := by decide +kernel
theorem dL_law_1246 : decode cL_law 1246 = .ok (.aload 7, 2) := by decide +kernel
theorem dL_law_1248 : decode cL_law 1248 = .ok (.iload 23, 2) := by decide +kernel
theorem dL_law_1250 : decode cL_law 1250 = .ok (.aload 7, 2) := by decide +kernel
theorem dL_law_1252 : decode cL_law 1252 = .ok (.iload 23, 2) := by decide +kernel
theorem dL_law_1254 : decode cL_law 1254 = .ok (.bipush 6, 2) := by decide +kernel
theorem dL_law_1256 : decode cL_law 1256 = .ok (.iadd, 1) := by decide +kernel
theorem dL_law_1257 : decode cL_law 1257 = .ok (.iaload, 1) := by decide +kernel
theorem dL_law_1258 : decode cL_law 1258 = .ok (.iastore, 1) := by decide +kernel
theorem dL_law_1259 : decode cL_law 1259 = .ok (.iinc 23 1, 3) := by decide +kernel
theorem dL_law_1262 : decode cL_law 1262 = .ok (.goto (-23), 3) := by decide +kernel
theorem dL_law_1265 : decode cL_law 1265 = .ok (.iconst 0, 1) := by decide +kernel
theorem dL_law_1266 : decode cL_law 1266 = .ok (.istore 23, 2) := by decide +kernel
theorem dL_law_1268 : decode cL_law 1268 = .ok (.iload 23, 2) := by decide +kernel
theorem dL_law_1270 : decode cL_law 1270 = .ok (.bipush 6, 2) := by decide +kernel
theorem dL_law_1272 : decode cL_law 1272 = .ok (.if_icmp .ge 22, 3) := by decide +kernel
theorem dL_law_1275 : decode cL_law 1275 = .ok (.aload 7, 2) := by decide +kernel
theorem dL_law_1277 : decode cL_law 1277 = .ok (.bipush 54, 2) := by decide +kernel
theorem dL_law_1279 : decode cL_law 1279 = .ok (.iload 23, 2) := by decide +kernel
theorem dL_law_1281 : decode cL_law 1281 = .ok (.iadd, 1) := by decide +kernel
theorem dL_law_1282 : decode cL_law 1282 = .ok (.aload 8, 2) := by decide +kernel
theorem dL_law_1284 : decode cL_law 1284 = .ok (.iload 23, 2) := by decide +kernel
theorem dL_law_1286 : decode cL_law 1286 = .ok (.iaload, 1) := by decide +kernel
theorem dL_law_1287 : decode cL_law 1287 = .ok (.iastore, 1) := by decide +kernel
theorem dL_law_1288 : decode cL_law 1288 = .ok (.iinc 23 1, 3) := by decide +kernel
theorem dL_law_1291 : decode cL_law 1291 = .ok (.goto (-23), 3) := by decide +kernel
theorem dL_law_1294 : decode cL_law 1294 = .ok (.iconst 0, 1) := by decide +kernel
theorem dL_law_1295 : decode cL_law 1295 = .ok (.istore 23, 2) := by decide +kernel
theorem dL_law_1297 : decode cL_law 1297 = .ok (.iload 23, 2) := by decide +kernel
theorem dL_law_1299 : decode cL_law 1299 = .ok (.bipush 54, 2) := by decide +kernel
theorem dL_law_1301 : decode cL_law 1301 = .ok (.if_icmp .ge 22, 3) := by decide +kernel
theorem dL_law_1304 : decode cL_law 1304 = .ok (.aload 8, 2) := by decide +kernel
theorem dL_law_1306 : decode cL_law 1306 = .ok (.iload 23, 2) := by decide +kernel
theorem dL_law_1308 : decode cL_law 1308 = .ok (.aload 8, 2) := by decide +kernel
theorem dL_law_1310 : decode cL_law 1310 = .ok (.iload 23, 2) := by decide +kernel
theorem dL_law_1312 : decode cL_law 1312 = .ok (.bipush 6, 2) := by decide +kernel
theorem dL_law_1314 : decode cL_law 1314 = .ok (.iadd, 1) := by decide +kernel
theorem dL_law_1315 : decode cL_law 1315 = .ok (.iaload, 1) := by decide +kernel
theorem dL_law_1316 : decode cL_law 1316 = .ok (.iastore, 1) := by decide +kernel
theorem dL_law_1317 : decode cL_law 1317 = .ok (.iinc 23 1, 3) := by decide +kernel
theorem dL_law_1320 : decode cL_law 1320 = .ok (.goto (-23), 3) := by decide +kernel
theorem dL_law_1323 : decode cL_law 1323 = .ok (.bipush 9, 2) := by decide +kernel
theorem dL_law_1325 : decode cL_law 1325 = .ok (.istore 22, 2) := by decide +kernel
theorem dL_law_1327 : decode cL_law 1327 = .ok (.aload_n 2, 1) := by decide +kernel
theorem dL_law_1328 : decode cL_law 1328 = .ok (.bipush 8, 2) := by decide +kernel
theorem dL_law_1330 : decode cL_law 1330 = .ok (.iaload, 1) := by decide +kernel
theorem dL_law_1331 : decode cL_law 1331 = .ok (.bipush 10, 2) := by decide +kernel
theorem dL_law_1333 : decode cL_law 1333 = .ok (.if_icmp .le 8, 3) := by decide +kernel
theorem dL_law_1336 : decode cL_law 1336 = .ok (.aload 8, 2) := by decide +kernel
theorem dL_law_1338 : decode cL_law 1338 = .ok (.goto 5, 3) := by decide +kernel
theorem dL_law_1341 : decode cL_law 1341 = .ok (.aload 7, 2) := by decide +kernel
theorem dL_law_1343 : decode cL_law 1343 = .ok (.astore 23, 2) := by decide +kernel
theorem dL_law_1345 : decode cL_law 1345 = .ok (.bipush 6, 2) := by decide +kernel
theorem dL_law_1347 : decode cL_law 1347 = .ok (.newarray .int, 2) := by decide +kernel
theorem dL_law_1349 : decode cL_law 1349 = .ok (.astore 24, 2) := by decide +kernel
theorem dL_law_1351 : decode cL_law 1351 = .ok (.iconst 0, 1) := by decide +kernel
theorem dL_law_1352 : decode cL_law 1352 = .ok (.istore 25, 2) := by decide +kernel
theorem dL_law_1354 : decode cL_law 1354 = .ok (.iload 25, 2) := by decide +kernel
theorem dL_law_1356 : decode cL_law 1356 = .ok (.iconst 4, 1) := by decide +kernel
theorem dL_law_1357 : decode cL_law 1357 = .ok (.if_icmp .ge 31, 3) := by decide +kernel
theorem dL_law_1360 : decode cL_law 1360 = .ok (.aload 24, 2) := by decide +kernel
theorem dL_law_1362 : decode cL_law 1362 = .ok (.iload 25, 2) := by decide +kernel
theorem dL_law_1364 : decode cL_law 1364 = .ok (.iload 25, 2) := by decide +kernel
theorem dL_law_1366 : decode cL_law 1366 = .ok (.ifCond .ne 9, 3) := by decide +kernel
theorem dL_law_1369 : decode cL_law 1369 = .ok (.aload_n 2, 1) := by decide +kernel
theorem dL_law_1370 : decode cL_law 1370 = .ok (.iconst 1, 1) := by decide +kernel
theorem dL_law_1371 : decode cL_law 1371 = .ok (.iaload, 1) := by decide +kernel
theorem dL_law_1372 : decode cL_law 1372 = .ok (.goto 9, 3) := by decide +kernel
theorem dL_law_1375 : decode cL_law 1375 = .ok (.aload_n 2, 1) := by decide +kernel
theorem dL_law_1376 : decode cL_law 1376 = .ok (.iconst 2, 1) := by decide +kernel
theorem dL_law_1377 : decode cL_law 1377 = .ok (.iload 25, 2) := by decide +kernel
theorem dL_law_1379 : decode cL_law 1379 = .ok (.iadd, 1) := by decide +kernel
theorem dL_law_1380 : decode cL_law 1380 = .ok (.iaload, 1) := by decide +kernel
theorem dL_law_1381 : decode cL_law 1381 = .ok (.iastore, 1) := by decide +kernel
theorem dL_law_1382 : decode cL_law 1382 = .ok (.iinc 25 1, 3) := by decide +kernel
theorem dL_law_1385 : decode cL_law 1385 = .ok (.goto (-31), 3) := by decide +kernel
theorem dL_law_1388 : decode cL_law 1388 = .ok (.iconst 5, 1) := by decide +kernel
theorem dL_law_1389 : decode cL_law 1389 = .ok (.newarray .int, 2) := by decide +kernel
theorem dL_law_1391 : decode cL_law 1391 = .ok (.astore 25, 2) := by decide +kernel
theorem dL_law_1393 : decode cL_law 1393 = .ok (.iconst 0, 1) := by decide +kernel
theorem dL_law_1394 : decode cL_law 1394 = .ok (.istore 26, 2) := by decide +kernel
theorem dL_law_1396 : decode cL_law 1396 = .ok (.iload 26, 2) := by decide +kernel
theorem dL_law_1398 : decode cL_law 1398 = .ok (.iconst 5, 1) := by decide +kernel
theorem dL_law_1399 : decode cL_law 1399 = .ok (.if_icmp .ge 22, 3) := by decide +kernel
theorem dL_law_1402 : decode cL_law 1402 = .ok (.aload 25, 2) := by decide +kernel
theorem dL_law_1404 : decode cL_law 1404 = .ok (.iload 26, 2) := by decide +kernel
theorem dL_law_1406 : decode cL_law 1406 = .ok (.aload_n 3, 1) := by decide +kernel
theorem dL_law_1407 : decode cL_law 1407 = .ok (.iconst 3, 1) := by decide +kernel
theorem dL_law_1408 : decode cL_law 1408 = .ok (.iload 26, 2) := by decide +kernel
theorem dL_law_1410 : decode cL_law 1410 = .ok (.imul, 1) := by decide +kernel
theorem dL_law_1411 : decode cL_law 1411 = .ok (.iconst 2, 1) := by decide +kernel
theorem dL_law_1412 : decode cL_law 1412 = .ok (.iadd, 1) := by decide +kernel
theorem dL_law_1413 : decode cL_law 1413 = .ok (.iaload, 1) := by decide +kernel
theorem dL_law_1414 : decode cL_law 1414 = .ok (.iastore, 1) := by decide +kernel
theorem dL_law_1415 : decode cL_law 1415 = .ok (.iinc 26 1, 3) := by decide +kernel
theorem dL_law_1418 : decode cL_law 1418 = .ok (.goto (-22), 3) := by decide +kernel
theorem dL_law_1421 : decode cL_law 1421 = .ok (.aload_n 2, 1) := by decide +kernel
theorem dL_law_1422 : decode cL_law 1422 = .ok (.aload_n 3, 1) := by decide +kernel
theorem dL_law_1423 : decode cL_law 1423 = .ok (.aload 4, 2) := by decide +kernel
theorem dL_law_1425 : decode cL_law 1425 = .ok (.aload 5, 2) := by decide +kernel
theorem dL_law_1427 : decode cL_law 1427 = .ok (.invokestatic 20, 3) := by decide +kernel
theorem dL_law_1430 : decode cL_law 1430 = .ok (.istore 26, 2) := by decide +kernel
theorem dL_law_1432 : decode cL_law 1432 = .ok (.aload 24, 2) := by decide +kernel
theorem dL_law_1434 : decode cL_law 1434 = .ok (.iconst 4, 1) := by decide +kernel
theorem dL_law_1435 : decode cL_law 1435 = .ok (.iload 26, 2) := by decide +kernel
theorem dL_law_1437 : decode cL_law 1437 = .ok (.iastore, 1) := by decide +kernel
theorem dL_law_1438 : decode cL_law 1438 = .ok (.aload 24, 2) := by decide +kernel
theorem dL_law_1440 : decode cL_law 1440 = .ok (.iconst 5, 1) := by decide +kernel
theorem dL_law_1441 : decode cL_law 1441 = .ok (.aload 25, 2) := by decide +kernel
theorem dL_law_1443 : decode cL_law 1443 = .ok (.iload 26, 2) := by decide +kernel
theorem dL_law_1445 : decode cL_law 1445 = .ok (.iaload, 1) := by decide +kernel
theorem dL_law_1446 : decode cL_law 1446 = .ok (.iastore, 1) := by decide +kernel
theorem dL_law_1447 : decode cL_law 1447 = .ok (.iconst 0, 1) := by decide +kernel
theorem dL_law_1448 : decode cL_law 1448 = .ok (.istore 27, 2) := by decide +kernel
theorem dL_law_1450 : decode cL_law 1450 = .ok (.iload 27, 2) := by decide +kernel
theorem dL_law_1452 : decode cL_law 1452 = .ok (.bipush 6, 2) := by decide +kernel
theorem dL_law_1454 : decode cL_law 1454 = .ok (.if_icmp .ge 25, 3) := by decide +kernel
theorem dL_law_1457 : decode cL_law 1457 = .ok (.aload 23, 2) := by decide +kernel
theorem dL_law_1459 : decode cL_law 1459 = .ok (.bipush 6, 2) := by decide +kernel
theorem dL_law_1461 : decode cL_law 1461 = .ok (.iload 22, 2) := by decide +kernel
theorem dL_law_1463 : decode cL_law 1463 = .ok (.imul, 1) := by decide +kernel
theorem dL_law_1464 : decode cL_law 1464 = .ok (.iload 27, 2) := by decide +kernel
theorem dL_law_1466 : decode cL_law 1466 = .ok (.iadd, 1) := by decide +kernel
theorem dL_law_1467 : decode cL_law 1467 = .ok (.aload 24, 2) := by decide +kernel
theorem dL_law_1469 : decode cL_law 1469 = .ok (.iload 27, 2) := by decide +kernel
theorem dL_law_1471 : decode cL_law 1471 = .ok (.iaload, 1) := by decide +kernel
theorem dL_law_1472 : decode cL_law 1472 = .ok (.iastore, 1) := by decide +kernel
theorem dL_law_1473 : decode cL_law 1473 = .ok (.iinc 27 1, 3) := by decide +kernel
theorem dL_law_1476 : decode cL_law 1476 = .ok (.goto (-26), 3) := by decide +kernel
theorem dL_law_1479 : decode cL_law 1479 = .ok (.aload_n 2, 1) := by decide +kernel
theorem dL_law_1480 : decode cL_law 1480 = .ok (.bipush 7, 2) := by decide +kernel
theorem dL_law_1482 : decode cL_law 1482 = .ok (.iaload, 1) := by decide +kernel
theorem dL_law_1483 : decode cL_law 1483 = .ok (.bipush 20, 2) := by decide +kernel
theorem dL_law_1485 : decode cL_law 1485 = .ok (.if_icmp .ne 34, 3) := by decide +kernel
theorem dL_law_1488 : decode cL_law 1488 = .ok (.iconst 0, 1) := by decide +kernel
theorem dL_law_1489 : decode cL_law 1489 = .ok (.istore 27, 2) := by decide +kernel
theorem dL_law_1491 : decode cL_law 1491 = .ok (.iload 27, 2) := by decide +kernel
theorem dL_law_1493 : decode cL_law 1493 = .ok (.bipush 38, 2) := by decide +kernel
theorem dL_law_1495 : decode cL_law 1495 = .ok (.if_icmp .ge 21, 3) := by decide +kernel
theorem dL_law_1498 : decode cL_law 1498 = .ok (.aload 6, 2) := by decide +kernel
theorem dL_law_1500 : decode cL_law 1500 = .ok (.iload 27, 2) := by decide +kernel
theorem dL_law_1502 : decode cL_law 1502 = .ok (.aload 6, 2) := by decide +kernel
theorem dL_law_1504 : decode cL_law 1504 = .ok (.iload 27, 2) := by decide +kernel
theorem dL_law_1506 : decode cL_law 1506 = .ok (.iconst 2, 1) := by decide +kernel
theorem dL_law_1507 : decode cL_law 1507 = .ok (.iadd, 1) := by decide +kernel
theorem dL_law_1508 : decode cL_law 1508 = .ok (.iaload, 1) := by decide +kernel
theorem dL_law_1509 : decode cL_law 1509 = .ok (.iastore, 1) := by decide +kernel
theorem dL_law_1510 : decode cL_law 1510 = .ok (.iinc 27 1, 3) := by decide +kernel
theorem dL_law_1513 : decode cL_law 1513 = .ok (.goto (-22), 3) := by decide +kernel
theorem dL_law_1516 : decode cL_law 1516 = .ok (.goto 11, 3) := by decide +kernel
theorem dL_law_1519 : decode cL_law 1519 = .ok (.aload_n 2, 1) := by decide +kernel
theorem dL_law_1520 : decode cL_law 1520 = .ok (.bipush 7, 2) := by decide +kernel
theorem dL_law_1522 : decode cL_law 1522 = .ok (.dup2, 1) := by decide +kernel
theorem dL_law_1523 : decode cL_law 1523 = .ok (.iaload, 1) := by decide +kernel
theorem dL_law_1524 : decode cL_law 1524 = .ok (.iconst 1, 1) := by decide +kernel
theorem dL_law_1525 : decode cL_law 1525 = .ok (.iadd, 1) := by decide +kernel
theorem dL_law_1526 : decode cL_law 1526 = .ok (.iastore, 1) := by decide +kernel
theorem dL_law_1527 : decode cL_law 1527 = .ok (.aload 6, 2) := by decide +kernel
theorem dL_law_1529 : decode cL_law 1529 = .ok (.iconst 2, 1) := by decide +kernel
theorem dL_law_1530 : decode cL_law 1530 = .ok (.aload_n 2, 1) := by decide +kernel
theorem dL_law_1531 : decode cL_law 1531 = .ok (.bipush 7, 2) := by decide +kernel
theorem dL_law_1533 : decode cL_law 1533 = .ok (.iaload, 1) := by decide +kernel
theorem dL_law_1534 : decode cL_law 1534 = .ok (.imul, 1) := by decide +kernel
theorem dL_law_1535 : decode cL_law 1535 = .ok (.iconst 2, 1) := by decide +kernel
theorem dL_law_1536 : decode cL_law 1536 = .ok (.isub, 1) := by decide +kernel
theorem dL_law_1537 : decode cL_law 1537 = .ok (.aload_n 3, 1) := by decide +kernel
theorem dL_law_1538 : decode cL_law 1538 = .ok (.iconst 3, 1) := by decide +kernel
theorem dL_law_1539 : decode cL_law 1539 = .ok (.iload 26, 2) := by decide +kernel
theorem dL_law_1541 : decode cL_law 1541 = .ok (.imul, 1) := by decide +kernel
theorem dL_law_1542 : decode cL_law 1542 = .ok (.iaload, 1) := by decide +kernel
theorem dL_law_1543 : decode cL_law 1543 = .ok (.iastore, 1) := by decide +kernel
theorem dL_law_1544 : decode cL_law 1544 = .ok (.aload 6, 2) := by decide +kernel
theorem dL_law_1546 : decode cL_law 1546 = .ok (.iconst 2, 1) := by decide +kernel
theorem dL_law_1547 : decode cL_law 1547 = .ok (.aload_n 2, 1) := by decide +kernel
theorem dL_law_1548 : decode cL_law 1548 = .ok (.bipush 7, 2) := by decide +kernel
theorem dL_law_1550 : decode cL_law 1550 = .ok (.iaload, 1) := by decide +kernel
theorem dL_law_1551 : decode cL_law 1551 = .ok (.imul, 1) := by decide +kernel
theorem dL_law_1552 : decode cL_law 1552 = .ok (.iconst 1, 1) := by decide +kernel
theorem dL_law_1553 : decode cL_law 1553 = .ok (.isub, 1) := by decide +kernel
theorem dL_law_1554 : decode cL_law 1554 = .ok (.aload_n 2, 1) := by decide +kernel
theorem dL_law_1555 : decode cL_law 1555 = .ok (.iconst 5, 1) := by decide +kernel
theorem dL_law_1556 : decode cL_law 1556 = .ok (.iaload, 1) := by decide +kernel
theorem dL_law_1557 : decode cL_law 1557 = .ok (.aload 4, 2) := by decide +kernel
theorem dL_law_1559 : decode cL_law 1559 = .ok (.invokestatic 55, 3) := by decide +kernel
theorem dL_law_1562 : decode cL_law 1562 = .ok (.iastore, 1) := by decide +kernel
theorem dL_law_1563 : decode cL_law 1563 = .ok (.aload_n 2, 1) := by decide +kernel
theorem dL_law_1564 : decode cL_law 1564 = .ok (.bipush 6, 2) := by decide +kernel
theorem dL_law_1566 : decode cL_law 1566 = .ok (.dup2, 1) := by decide +kernel
theorem dL_law_1567 : decode cL_law 1567 = .ok (.iaload, 1) := by decide +kernel
theorem dL_law_1568 : decode cL_law 1568 = .ok (.iconst 1, 1) := by decide +kernel
theorem dL_law_1569 : decode cL_law 1569 = .ok (.iadd, 1) := by decide +kernel
theorem dL_law_1570 : decode cL_law 1570 = .ok (.iastore, 1) := by decide +kernel
theorem dL_law_1571 : decode cL_law 1571 = .ok (.iinc 20 1, 3) := by decide +kernel
theorem dL_law_1574 : decode cL_law 1574 = .ok (.iconst 1, 1) := by decide +kernel
theorem dL_law_1575 : decode cL_law 1575 = .ok (.aload_n 2, 1) := by decide +kernel
theorem dL_law_1576 : decode cL_law 1576 = .ok (.aload_n 3, 1) := by decide +kernel
theorem dL_law_1577 : decode cL_law 1577 = .ok (.aload 4, 2) := by decide +kernel
theorem dL_law_1579 : decode cL_law 1579 = .ok (.aload 5, 2) := by decide +kernel
theorem dL_law_1581 : decode cL_law 1581 = .ok (.invokestatic 16, 3) := by decide +kernel
theorem dL_law_1584 : decode cL_law 1584 = .ok (.istore 21, 2) := by decide +kernel
theorem dL_law_1586 : decode cL_law 1586 = .ok (.goto (-391), 3) := by decide +kernel
theorem dL_law_1589 : decode cL_law 1589 = .ok (.aload_n 1, 1) := by decide +kernel
theorem dL_law_1590 : decode cL_law 1590 = .ok (.iload 19, 2) := by decide +kernel
theorem dL_law_1592 : decode cL_law 1592 = .ok (.invokevirtual 114, 3) := by decide +kernel
theorem dL_law_1595 : decode cL_law 1595 = .ok (.iload 20, 2) := by decide +kernel
theorem dL_law_1597 : decode cL_law 1597 = .ok (.if_icmp .eq 5, 3) := by decide +kernel
theorem dL_law_1600 : decode cL_law 1600 = .ok (.iconst 0, 1) := by decide +kernel
theorem dL_law_1601 : decode cL_law 1601 = .ok (.ireturn, 1) := by decide +kernel
theorem dL_law_1602 : decode cL_law 1602 = .ok (.iload 20, 2) := by decide +kernel
theorem dL_law_1604 : decode cL_law 1604 = .ok (.iload 19, 2) := by decide +kernel
theorem dL_law_1606 : decode cL_law 1606 = .ok (.if_icmp .ge 29, 3) := by decide +kernel
theorem dL_law_1609 : decode cL_law 1609 = .ok (.aload_n 2, 1) := by decide +kernel
theorem dL_law_1610 : decode cL_law 1610 = .ok (.bipush 9, 2) := by decide +kernel
theorem dL_law_1612 : decode cL_law 1612 = .ok (.iload 21, 2) := by decide +kernel
theorem dL_law_1614 : decode cL_law 1614 = .ok (.invokestatic 24, 3) := by decide +kernel
theorem dL_law_1617 : decode cL_law 1617 = .ok (.iastore, 1) := by decide +kernel
theorem dL_law_1618 : decode cL_law 1618 = .ok (.aload_n 2, 1) := by decide +kernel
theorem dL_law_1619 : decode cL_law 1619 = .ok (.bipush 10, 2) := by decide +kernel
theorem dL_law_1621 : decode cL_law 1621 = .ok (.iload 21, 2) := by decide +kernel
theorem dL_law_1623 : decode cL_law 1623 = .ok (.invokestatic 28, 3) := by decide +kernel
theorem dL_law_1626 : decode cL_law 1626 = .ok (.iastore, 1) := by decide +kernel
theorem dL_law_1627 : decode cL_law 1627 = .ok (.aload_n 2, 1) := by decide +kernel
theorem dL_law_1628 : decode cL_law 1628 = .ok (.bipush 11, 2) := by decide +kernel
theorem dL_law_1630 : decode cL_law 1630 = .ok (.dup2, 1) := by decide +kernel
theorem dL_law_1631 : decode cL_law 1631 = .ok (.iaload, 1) := by decide +kernel
theorem dL_law_1632 : decode cL_law 1632 = .ok (.iconst 1, 1) := by decide +kernel
theorem dL_law_1633 : decode cL_law 1633 = .ok (.iadd, 1) := by decide +kernel
theorem dL_law_1634 : decode cL_law 1634 = .ok (.iastore, 1) := by decide +kernel
theorem dL_law_1635 : decode cL_law 1635 = .ok (.goto 191, 3) := by decide +kernel
theorem dL_law_1638 : decode cL_law 1638 = .ok (.iconst 0, 1) := by decide +kernel
theorem dL_law_1639 : decode cL_law 1639 = .ok (.istore 18, 2) := by decide +kernel
theorem dL_law_1641 : decode cL_law 1641 = .ok (.aload_n 2, 1) := by decide +kernel
theorem dL_law_1642 : decode cL_law 1642 = .ok (.bipush 8, 2) := by decide +kernel
theorem dL_law_1644 : decode cL_law 1644 = .ok (.iaload, 1) := by decide +kernel
theorem dL_law_1645 : decode cL_law 1645 = .ok (.ifCond .le 7, 3) := by decide +kernel
theorem dL_law_1648 : decode cL_law 1648 = .ok (.iconst 1, 1) := by decide +kernel
theorem dL_law_1649 : decode cL_law 1649 = .ok (.goto 4, 3) := by decide +kernel
theorem dL_law_1652 : decode cL_law 1652 = .ok (.iconst 0, 1) := by decide +kernel
theorem dL_law_1653 : decode cL_law 1653 = .ok (.istore 19, 2) := by decide +kernel
theorem dL_law_1655 : decode cL_law 1655 = .ok (.aload_n 2, 1) := by decide +kernel
theorem dL_law_1656 : decode cL_law 1656 = .ok (.bipush 8, 2) := by decide +kernel
theorem dL_law_1658 : decode cL_law 1658 = .ok (.iaload, 1) := by decide +kernel
theorem dL_law_1659 : decode cL_law 1659 = .ok (.iconst 1, 1) := by decide +kernel
theorem dL_law_1660 : decode cL_law 1660 = .ok (.isub, 1) := by decide +kernel
theorem dL_law_1661 : decode cL_law 1661 = .ok (.istore 20, 2) := by decide +kernel
theorem dL_law_1663 : decode cL_law 1663 = .ok (.iload 20, 2) := by decide +kernel
theorem dL_law_1665 : decode cL_law 1665 = .ok (.bipush 9, 2) := by decide +kernel
theorem dL_law_1667 : decode cL_law 1667 = .ok (.if_icmp .le 8, 3) := by decide +kernel
theorem dL_law_1670 : decode cL_law 1670 = .ok (.aload 8, 2) := by decide +kernel
theorem dL_law_1672 : decode cL_law 1672 = .ok (.goto 5, 3) := by decide +kernel
theorem dL_law_1675 : decode cL_law 1675 = .ok (.aload 7, 2) := by decide +kernel
theorem dL_law_1677 : decode cL_law 1677 = .ok (.astore 21, 2) := by decide +kernel
theorem dL_law_1679 : decode cL_law 1679 = .ok (.bipush 6, 2) := by decide +kernel
theorem dL_law_1681 : decode cL_law 1681 = .ok (.iload 20, 2) := by decide +kernel
theorem dL_law_1683 : decode cL_law 1683 = .ok (.ifCond .ge 7, 3) := by decide +kernel
theorem dL_law_1686 : decode cL_law 1686 = .ok (.iconst 0, 1) := by decide +kernel
theorem dL_law_1687 : decode cL_law 1687 = .ok (.goto 8, 3) := by decide +kernel
theorem dL_law_1690 : decode cL_law 1690 = .ok (.iload 20, 2) := by decide +kernel
theorem dL_law_1692 : decode cL_law 1692 = .ok (.bipush 10, 2) := by decide +kernel
theorem dL_law_1694 : decode cL_law 1694 = .ok (.irem, 1) := by decide +kernel
theorem dL_law_1695 : decode cL_law 1695 = .ok (.imul, 1) := by decide +kernel
theorem dL_law_1696 : decode cL_law 1696 = .ok (.istore 22, 2) := by decide +kernel
theorem dL_law_1698 : decode cL_law 1698 = .ok (.aload_n 1, 1) := by decide +kernel
theorem dL_law_1699 : decode cL_law 1699 = .ok (.invokevirtual 117, 3) := by decide +kernel
theorem dL_law_1702 : decode cL_law 1702 = .ok (.iload 19, 2) := by decide +kernel
theorem dL_law_1704 : decode cL_law 1704 = .ok (.ifCond .eq 11, 3) := by decide +kernel
theorem dL_law_1707 : decode cL_law 1707 = .ok (.aload 21, 2) := by decide +kernel
theorem dL_law_1709 : decode cL_law 1709 = .ok (.iload 22, 2) := by decide +kernel
theorem dL_law_1711 : decode cL_law 1711 = .ok (.iaload, 1) := by decide +kernel
theorem dL_law_1712 : decode cL_law 1712 = .ok (.goto 5, 3) := by decide +kernel
theorem dL_law_1715 : decode cL_law 1715 = .ok (.bipush (-3), 2) := by decide +kernel
theorem dL_law_1717 : decode cL_law 1717 = .ok (.if_icmp .eq 5, 3) := by decide +kernel
theorem dL_law_1720 : decode cL_law 1720 = .ok (.iconst 0, 1) := by decide +kernel
theorem dL_law_1721 : decode cL_law 1721 = .ok (.ireturn, 1) := by decide +kernel
theorem dL_law_1722 : decode cL_law 1722 = .ok (.iload 19, 2) := by decide +kernel
theorem dL_law_1724 : decode cL_law 1724 = .ok (.ifCond .eq 102, 3) := by decide +kernel
theorem dL_law_1727 : decode cL_law 1727 = .ok (.aload_n 2, 1) := by decide +kernel
theorem dL_law_1728 : decode cL_law 1728 = .ok (.iconst 1, 1) := by decide +kernel
theorem dL_law_1729 : decode cL_law 1729 = .ok (.aload 21, 2) := by decide +kernel
theorem dL_law_1731 : decode cL_law 1731 = .ok (.iload 22, 2) := by decide +kernel
theorem dL_law_1733 : decode cL_law 1733 = .ok (.iaload, 1) := by decide +kernel
theorem dL_law_1734 : decode cL_law 1734 = .ok (.iastore, 1) := by decide +kernel
theorem dL_law_1735 : decode cL_law 1735 = .ok (.aload_n 2, 1) := by decide +kernel
theorem dL_law_1736 : decode cL_law 1736 = .ok (.iconst 3, 1) := by decide +kernel
theorem dL_law_1737 : decode cL_law 1737 = .ok (.aload 21, 2) := by decide +kernel
theorem dL_law_1739 : decode cL_law 1739 = .ok (.iload 22, 2) := by decide +kernel
theorem dL_law_1741 : decode cL_law 1741 = .ok (.iconst 1, 1) := by decide +kernel
theorem dL_law_1742 : decode cL_law 1742 = .ok (.iadd, 1) := by decide +kernel
theorem dL_law_1743 : decode cL_law 1743 = .ok (.iaload, 1) := by decide +kernel
theorem dL_law_1744 : decode cL_law 1744 = .ok (.iastore, 1) := by decide +kernel
theorem dL_law_1745 : decode cL_law 1745 = .ok (.aload_n 2, 1) := by decide +kernel
theorem dL_law_1746 : decode cL_law 1746 = .ok (.iconst 4, 1) := by decide +kernel
theorem dL_law_1747 : decode cL_law 1747 = .ok (.aload 21, 2) := by decide +kernel
theorem dL_law_1749 : decode cL_law 1749 = .ok (.iload 22, 2) := by decide +kernel
theorem dL_law_1751 : decode cL_law 1751 = .ok (.iconst 2, 1) := by decide +kernel
theorem dL_law_1752 : decode cL_law 1752 = .ok (.iadd, 1) := by decide +kernel
theorem dL_law_1753 : decode cL_law 1753 = .ok (.iaload, 1) := by decide +kernel
theorem dL_law_1754 : decode cL_law 1754 = .ok (.iastore, 1) := by decide +kernel
theorem dL_law_1755 : decode cL_law 1755 = .ok (.aload_n 2, 1) := by decide +kernel
theorem dL_law_1756 : decode cL_law 1756 = .ok (.iconst 5, 1) := by decide +kernel
theorem dL_law_1757 : decode cL_law 1757 = .ok (.aload 21, 2) := by decide +kernel
theorem dL_law_1759 : decode cL_law 1759 = .ok (.iload 22, 2) := by decide +kernel
theorem dL_law_1761 : decode cL_law 1761 = .ok (.iconst 3, 1) := by decide +kernel
theorem dL_law_1762 : decode cL_law 1762 = .ok (.iadd, 1) := by decide +kernel
theorem dL_law_1763 : decode cL_law 1763 = .ok (.iaload, 1) := by decide +kernel
theorem dL_law_1764 : decode cL_law 1764 = .ok (.iastore, 1) := by decide +kernel
theorem dL_law_1765 : decode cL_law 1765 = .ok (.aload_n 3, 1) := by decide +kernel
theorem dL_law_1766 : decode cL_law 1766 = .ok (.iconst 3, 1) := by decide +kernel
theorem dL_law_1767 : decode cL_law 1767 = .ok (.aload 21, 2) := by decide +kernel
theorem dL_law_1769 : decode cL_law 1769 = .ok (.iload 22, 2) := by decide +kernel
theorem dL_law_1771 : decode cL_law 1771 = .ok (.iconst 4, 1) := by decide +kernel
theorem dL_law_1772 : decode cL_law 1772 = .ok (.iadd, 1) := by decide +kernel
theorem dL_law_1773 : decode cL_law 1773 = .ok (.iaload, 1) := by decide +kernel
theorem dL_law_1774 : decode cL_law 1774 = .ok (.imul, 1) := by decide +kernel
theorem dL_law_1775 : decode cL_law 1775 = .ok (.iconst 2, 1) := by decide +kernel
theorem dL_law_1776 : decode cL_law 1776 = .ok (.iadd, 1) := by decide +kernel
theorem dL_law_1777 : decode cL_law 1777 = .ok (.aload 21, 2) := by decide +kernel
theorem dL_law_1779 : decode cL_law 1779 = .ok (.iload 22, 2) := by decide +kernel
theorem dL_law_1781 : decode cL_law 1781 = .ok (.iconst 5, 1) := by decide +kernel
theorem dL_law_1782 : decode cL_law 1782 = .ok (.iadd, 1) := by decide +kernel
theorem dL_law_1783 : decode cL_law 1783 = .ok (.iaload, 1) := by decide +kernel
theorem dL_law_1784 : decode cL_law 1784 = .ok (.iastore, 1) := by decide +kernel
theorem dL_law_1785 : decode cL_law 1785 = .ok (.aload_n 3, 1) := by decide +kernel
theorem dL_law_1786 : decode cL_law 1786 = .ok (.iconst 3, 1) := by decide +kernel
theorem dL_law_1787 : decode cL_law 1787 = .ok (.aload 21, 2) := by decide +kernel
theorem dL_law_1789 : decode cL_law 1789 = .ok (.iload 22, 2) := by decide +kernel
theorem dL_law_1791 : decode cL_law 1791 = .ok (.iconst 4, 1) := by decide +kernel
theorem dL_law_1792 : decode cL_law 1792 = .ok (.iadd, 1) := by decide +kernel
theorem dL_law_1793 : decode cL_law 1793 = .ok (.iaload, 1) := by decide +kernel
theorem dL_law_1794 : decode cL_law 1794 = .ok (.imul, 1) := by decide +kernel
theorem dL_law_1795 : decode cL_law 1795 = .ok (.iconst 1, 1) := by decide +kernel
theorem dL_law_1796 : decode cL_law 1796 = .ok (.iadd, 1) := by decide +kernel
theorem dL_law_1797 : decode cL_law 1797 = .ok (.dup2, 1) := by decide +kernel
theorem dL_law_1798 : decode cL_law 1798 = .ok (.iaload, 1) := by decide +kernel
theorem dL_law_1799 : decode cL_law 1799 = .ok (.iconst 1, 1) := by decide +kernel
theorem dL_law_1800 : decode cL_law 1800 = .ok (.iadd, 1) := by decide +kernel
theorem dL_law_1801 : decode cL_law 1801 = .ok (.iastore, 1) := by decide +kernel
theorem dL_law_1802 : decode cL_law 1802 = .ok (.aload_n 2, 1) := by decide +kernel
theorem dL_law_1803 : decode cL_law 1803 = .ok (.bipush 6, 2) := by decide +kernel
theorem dL_law_1805 : decode cL_law 1805 = .ok (.dup2, 1) := by decide +kernel
theorem dL_law_1806 : decode cL_law 1806 = .ok (.iaload, 1) := by decide +kernel
theorem dL_law_1807 : decode cL_law 1807 = .ok (.iconst 1, 1) := by decide +kernel
theorem dL_law_1808 : decode cL_law 1808 = .ok (.isub, 1) := by decide +kernel
theorem dL_law_1809 : decode cL_law 1809 = .ok (.iastore, 1) := by decide +kernel
theorem dL_law_1810 : decode cL_law 1810 = .ok (.aload_n 2, 1) := by decide +kernel
theorem dL_law_1811 : decode cL_law 1811 = .ok (.bipush 7, 2) := by decide +kernel
theorem dL_law_1813 : decode cL_law 1813 = .ok (.dup2, 1) := by decide +kernel
theorem dL_law_1814 : decode cL_law 1814 = .ok (.iaload, 1) := by decide +kernel
theorem dL_law_1815 : decode cL_law 1815 = .ok (.iconst 1, 1) := by decide +kernel
theorem dL_law_1816 : decode cL_law 1816 = .ok (.isub, 1) := by decide +kernel
theorem dL_law_1817 : decode cL_law 1817 = .ok (.iastore, 1) := by decide +kernel
theorem dL_law_1818 : decode cL_law 1818 = .ok (.aload_n 2, 1) := by decide +kernel
theorem dL_law_1819 : decode cL_law 1819 = .ok (.bipush 8, 2) := by decide +kernel
theorem dL_law_1821 : decode cL_law 1821 = .ok (.dup2, 1) := by decide +kernel
theorem dL_law_1822 : decode cL_law 1822 = .ok (.iaload, 1) := by decide +kernel
theorem dL_law_1823 : decode cL_law 1823 = .ok (.iconst 1, 1) := by decide +kernel
theorem dL_law_1824 : decode cL_law 1824 = .ok (.isub, 1) := by decide +kernel
theorem dL_law_1825 : decode cL_law 1825 = .ok (.iastore, 1) := by decide +kernel
theorem dL_law_1826 : decode cL_law 1826 = .ok (.aload_n 2, 1) := by decide +kernel
theorem dL_law_1827 : decode cL_law 1827 = .ok (.bipush 8, 2) := by decide +kernel
theorem dL_law_1829 : decode cL_law 1829 = .ok (.iload 18, 2) := by decide +kernel
theorem dL_law_1831 : decode cL_law 1831 = .ok (.ifCond .eq 7, 3) := by decide +kernel
theorem dL_law_1834 : decode cL_law 1834 = .ok (.iconst 0, 1) := by decide +kernel
theorem dL_law_1835 : decode cL_law 1835 = .ok (.goto 7, 3) := by decide +kernel
theorem dL_law_1838 : decode cL_law 1838 = .ok (.aload_n 2, 1) := by decide +kernel
theorem dL_law_1839 : decode cL_law 1839 = .ok (.bipush 8, 2) := by decide +kernel
theorem dL_law_1841 : decode cL_law 1841 = .ok (.iaload, 1) := by decide +kernel
theorem dL_law_1842 : decode cL_law 1842 = .ok (.iastore, 1) := by decide +kernel
theorem dL_law_1843 : decode cL_law 1843 = .ok (.aload_n 1, 1) := by decide +kernel
theorem dL_law_1844 : decode cL_law 1844 = .ok (.iload 11, 2) := by decide +kernel
theorem dL_law_1846 : decode cL_law 1846 = .ok (.iconst 3, 1) := by decide +kernel
theorem dL_law_1847 : decode cL_law 1847 = .ok (.ishr, 1) := by decide +kernel
theorem dL_law_1848 : decode cL_law 1848 = .ok (.aload_n 2, 1) := by decide +kernel
theorem dL_law_1849 : decode cL_law 1849 = .ok (.aload_n 3, 1) := by decide +kernel
theorem dL_law_1850 : decode cL_law 1850 = .ok (.aload 4, 2) := by decide +kernel
theorem dL_law_1852 : decode cL_law 1852 = .ok (.aload 5, 2) := by decide +kernel
theorem dL_law_1854 : decode cL_law 1854 = .ok (.aload 6, 2) := by decide +kernel
theorem dL_law_1856 : decode cL_law 1856 = .ok (.invokestatic 120, 3) := by decide +kernel
theorem dL_law_1859 : decode cL_law 1859 = .ok (.ifCond .ne 5, 3) := by decide +kernel
theorem dL_law_1862 : decode cL_law 1862 = .ok (.iconst 0, 1) := by decide +kernel
theorem dL_law_1863 : decode cL_law 1863 = .ok (.ireturn, 1) := by decide +kernel
theorem dL_law_1864 : decode cL_law 1864 = .ok (.iinc 9 1, 3) := by decide +kernel
theorem dL_law_1867 : decode cL_law 1867 = .ok (.goto (-1725), 3) := by decide +kernel
theorem dL_law_1870 : decode cL_law 1870 = .ok (.iconst 1, 1) := by decide +kernel
theorem dL_law_1871 : decode cL_law 1871 = .ok (.ireturn, 1) := by decide +kernel
