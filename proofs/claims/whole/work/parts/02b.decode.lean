theorem dX6_looks_56 : decode cX6_looks 56 = .ok (.iload_n 1, 1) := by decide +kernel
theorem dX6_looks_57 : decode cX6_looks 57 = .ok (.bipush 7, 2) := by decide +kernel
theorem dX6_looks_59 : decode cX6_looks 59 = .ok (.if_icmp .ge 10, 3) := by decide +kernel
theorem dX6_looks_62 : decode cX6_looks 62 = .ok (.aload_n 0, 1) := by decide +kernel
theorem dX6_looks_63 : decode cX6_looks 63 = .ok (.iload_n 1, 1) := by decide +kernel
theorem dX6_looks_64 : decode cX6_looks 64 = .ok (.iconst 1, 1) := by decide +kernel
theorem dX6_looks_65 : decode cX6_looks 65 = .ok (.iadd, 1) := by decide +kernel
theorem dX6_looks_66 : decode cX6_looks 66 = .ok (.invokestatic 59, 3) := by decide +kernel
theorem dX6_looks_69 : decode cX6_looks 69 = .ok (.iinc 1 1, 3) := by decide +kernel
theorem dX6_looks_72 : decode cX6_looks 72 = .ok (.goto (-70), 3) := by decide +kernel
theorem dX6_looks_75 : decode cX6_looks 75 = .ok (.return_, 1) := by decide +kernel
theorem dX6_second_0 : decode cX6_second 0 = .ok (.aload_n 1, 1) := by decide +kernel
theorem dX6_second_1 : decode cX6_second 1 = .ok (.invokestatic 62, 3) := by decide +kernel
theorem dX6_second_4 : decode cX6_second 4 = .ok (.aload_n 1, 1) := by decide +kernel
theorem dX6_second_5 : decode cX6_second 5 = .ok (.invokestatic 66, 3) := by decide +kernel
theorem dX6_second_8 : decode cX6_second 8 = .ok (.iconst 0, 1) := by decide +kernel
theorem dX6_second_9 : decode cX6_second 9 = .ok (.istore_n 2, 1) := by decide +kernel
theorem dX6_second_10 : decode cX6_second 10 = .ok (.iload_n 2, 1) := by decide +kernel
theorem dX6_second_11 : decode cX6_second 11 = .ok (.aload_n 1, 1) := by decide +kernel
theorem dX6_second_12 : decode cX6_second 12 = .ok (.bipush 57, 2) := by decide +kernel
theorem dX6_second_14 : decode cX6_second 14 = .ok (.iaload, 1) := by decide +kernel
theorem dX6_second_15 : decode cX6_second 15 = .ok (.if_icmp .ge 112, 3) := by decide +kernel
theorem dX6_second_18 : decode cX6_second 18 = .ok (.aload_n 1, 1) := by decide +kernel
theorem dX6_second_19 : decode cX6_second 19 = .ok (.iload_n 2, 1) := by decide +kernel
theorem dX6_second_20 : decode cX6_second 20 = .ok (.iconst 1, 1) := by decide +kernel
theorem dX6_second_21 : decode cX6_second 21 = .ok (.invokestatic 48, 3) := by decide +kernel
theorem dX6_second_24 : decode cX6_second 24 = .ok (.istore_n 3, 1) := by decide +kernel
theorem dX6_second_25 : decode cX6_second 25 = .ok (.aload_n 1, 1) := by decide +kernel
theorem dX6_second_26 : decode cX6_second 26 = .ok (.iload_n 3, 1) := by decide +kernel
theorem dX6_second_27 : decode cX6_second 27 = .ok (.invokestatic 69, 3) := by decide +kernel
theorem dX6_second_30 : decode cX6_second 30 = .ok (.istore 4, 2) := by decide +kernel
theorem dX6_second_32 : decode cX6_second 32 = .ok (.aload_n 1, 1) := by decide +kernel
theorem dX6_second_33 : decode cX6_second 33 = .ok (.bipush 9, 2) := by decide +kernel
theorem dX6_second_35 : decode cX6_second 35 = .ok (.bipush 6, 2) := by decide +kernel
theorem dX6_second_37 : decode cX6_second 37 = .ok (.iload_n 3, 1) := by decide +kernel
theorem dX6_second_38 : decode cX6_second 38 = .ok (.imul, 1) := by decide +kernel
theorem dX6_second_39 : decode cX6_second 39 = .ok (.iadd, 1) := by decide +kernel
theorem dX6_second_40 : decode cX6_second 40 = .ok (.iconst 2, 1) := by decide +kernel
theorem dX6_second_41 : decode cX6_second 41 = .ok (.iadd, 1) := by decide +kernel
theorem dX6_second_42 : decode cX6_second 42 = .ok (.dup2, 1) := by decide +kernel
theorem dX6_second_43 : decode cX6_second 43 = .ok (.iaload, 1) := by decide +kernel
theorem dX6_second_44 : decode cX6_second 44 = .ok (.iload 4, 2) := by decide +kernel
theorem dX6_second_46 : decode cX6_second 46 = .ok (.ifCond .ne 7, 3) := by decide +kernel
theorem dX6_second_49 : decode cX6_second 49 = .ok (.iconst 1, 1) := by decide +kernel
theorem dX6_second_50 : decode cX6_second 50 = .ok (.goto 4, 3) := by decide +kernel
theorem dX6_second_53 : decode cX6_second 53 = .ok (.iconst 0, 1) := by decide +kernel
theorem dX6_second_54 : decode cX6_second 54 = .ok (.iadd, 1) := by decide +kernel
theorem dX6_second_55 : decode cX6_second 55 = .ok (.iastore, 1) := by decide +kernel
theorem dX6_second_56 : decode cX6_second 56 = .ok (.aload_n 1, 1) := by decide +kernel
theorem dX6_second_57 : decode cX6_second 57 = .ok (.bipush 9, 2) := by decide +kernel
theorem dX6_second_59 : decode cX6_second 59 = .ok (.bipush 6, 2) := by decide +kernel
theorem dX6_second_61 : decode cX6_second 61 = .ok (.iload_n 3, 1) := by decide +kernel
theorem dX6_second_62 : decode cX6_second 62 = .ok (.imul, 1) := by decide +kernel
theorem dX6_second_63 : decode cX6_second 63 = .ok (.iadd, 1) := by decide +kernel
theorem dX6_second_64 : decode cX6_second 64 = .ok (.iconst 3, 1) := by decide +kernel
theorem dX6_second_65 : decode cX6_second 65 = .ok (.iadd, 1) := by decide +kernel
theorem dX6_second_66 : decode cX6_second 66 = .ok (.dup2, 1) := by decide +kernel
theorem dX6_second_67 : decode cX6_second 67 = .ok (.iaload, 1) := by decide +kernel
theorem dX6_second_68 : decode cX6_second 68 = .ok (.iload 4, 2) := by decide +kernel
theorem dX6_second_70 : decode cX6_second 70 = .ok (.iconst 1, 1) := by decide +kernel
theorem dX6_second_71 : decode cX6_second 71 = .ok (.if_icmp .ne 7, 3) := by decide +kernel
theorem dX6_second_74 : decode cX6_second 74 = .ok (.iconst 1, 1) := by decide +kernel
theorem dX6_second_75 : decode cX6_second 75 = .ok (.goto 4, 3) := by decide +kernel
theorem dX6_second_78 : decode cX6_second 78 = .ok (.iconst 0, 1) := by decide +kernel
theorem dX6_second_79 : decode cX6_second 79 = .ok (.iadd, 1) := by decide +kernel
theorem dX6_second_80 : decode cX6_second 80 = .ok (.iastore, 1) := by decide +kernel
theorem dX6_second_81 : decode cX6_second 81 = .ok (.aload_n 1, 1) := by decide +kernel
theorem dX6_second_82 : decode cX6_second 82 = .ok (.bipush 8, 2) := by decide +kernel
theorem dX6_second_84 : decode cX6_second 84 = .ok (.dup2, 1) := by decide +kernel
theorem dX6_second_85 : decode cX6_second 85 = .ok (.iaload, 1) := by decide +kernel
theorem dX6_second_86 : decode cX6_second 86 = .ok (.iconst 1, 1) := by decide +kernel
theorem dX6_second_87 : decode cX6_second 87 = .ok (.iadd, 1) := by decide +kernel
theorem dX6_second_88 : decode cX6_second 88 = .ok (.iastore, 1) := by decide +kernel
theorem dX6_second_89 : decode cX6_second 89 = .ok (.aload_n 0, 1) := by decide +kernel
theorem dX6_second_90 : decode cX6_second 90 = .ok (.dup, 1) := by decide +kernel
theorem dX6_second_91 : decode cX6_second 91 = .ok (.getfield 72, 3) := by decide +kernel
theorem dX6_second_94 : decode cX6_second 94 = .ok (.iload 4, 2) := by decide +kernel
theorem dX6_second_96 : decode cX6_second 96 = .ok (.ifCond .ne 20, 3) := by decide +kernel
theorem dX6_second_99 : decode cX6_second 99 = .ok (.aload_n 1, 1) := by decide +kernel
theorem dX6_second_100 : decode cX6_second 100 = .ok (.iload_n 2, 1) := by decide +kernel
theorem dX6_second_101 : decode cX6_second 101 = .ok (.iconst 0, 1) := by decide +kernel
theorem dX6_second_102 : decode cX6_second 102 = .ok (.invokestatic 48, 3) := by decide +kernel
theorem dX6_second_105 : decode cX6_second 105 = .ok (.aload_n 0, 1) := by decide +kernel
theorem dX6_second_106 : decode cX6_second 106 = .ok (.getfield 75, 3) := by decide +kernel
theorem dX6_second_109 : decode cX6_second 109 = .ok (.if_icmp .ne 7, 3) := by decide +kernel
theorem dX6_second_112 : decode cX6_second 112 = .ok (.iconst 1, 1) := by decide +kernel
theorem dX6_second_113 : decode cX6_second 113 = .ok (.goto 4, 3) := by decide +kernel
theorem dX6_second_116 : decode cX6_second 116 = .ok (.iconst 0, 1) := by decide +kernel
theorem dX6_second_117 : decode cX6_second 117 = .ok (.iadd, 1) := by decide +kernel
theorem dX6_second_118 : decode cX6_second 118 = .ok (.putfield 72, 3) := by decide +kernel
theorem dX6_second_121 : decode cX6_second 121 = .ok (.iinc 2 1, 3) := by decide +kernel
theorem dX6_second_124 : decode cX6_second 124 = .ok (.goto (-114), 3) := by decide +kernel
theorem dX6_second_127 : decode cX6_second 127 = .ok (.iconst 0, 1) := by decide +kernel
theorem dX6_second_128 : decode cX6_second 128 = .ok (.istore_n 2, 1) := by decide +kernel
theorem dX6_second_129 : decode cX6_second 129 = .ok (.iload_n 2, 1) := by decide +kernel
theorem dX6_second_130 : decode cX6_second 130 = .ok (.bipush 8, 2) := by decide +kernel
theorem dX6_second_132 : decode cX6_second 132 = .ok (.if_icmp .ge 65, 3) := by decide +kernel
theorem dX6_second_135 : decode cX6_second 135 = .ok (.aload_n 1, 1) := by decide +kernel
theorem dX6_second_136 : decode cX6_second 136 = .ok (.iload_n 2, 1) := by decide +kernel
theorem dX6_second_137 : decode cX6_second 137 = .ok (.invokestatic 69, 3) := by decide +kernel
theorem dX6_second_140 : decode cX6_second 140 = .ok (.istore_n 3, 1) := by decide +kernel
theorem dX6_second_141 : decode cX6_second 141 = .ok (.bipush 9, 2) := by decide +kernel
theorem dX6_second_143 : decode cX6_second 143 = .ok (.bipush 6, 2) := by decide +kernel
theorem dX6_second_145 : decode cX6_second 145 = .ok (.iload_n 2, 1) := by decide +kernel
theorem dX6_second_146 : decode cX6_second 146 = .ok (.imul, 1) := by decide +kernel
theorem dX6_second_147 : decode cX6_second 147 = .ok (.iadd, 1) := by decide +kernel
theorem dX6_second_148 : decode cX6_second 148 = .ok (.istore 4, 2) := by decide +kernel
theorem dX6_second_150 : decode cX6_second 150 = .ok (.aload_n 1, 1) := by decide +kernel
theorem dX6_second_151 : decode cX6_second 151 = .ok (.iload 4, 2) := by decide +kernel
theorem dX6_second_153 : decode cX6_second 153 = .ok (.iconst 4, 1) := by decide +kernel
theorem dX6_second_154 : decode cX6_second 154 = .ok (.iadd, 1) := by decide +kernel
theorem dX6_second_155 : decode cX6_second 155 = .ok (.dup2, 1) := by decide +kernel
theorem dX6_second_156 : decode cX6_second 156 = .ok (.iaload, 1) := by decide +kernel
theorem dX6_second_157 : decode cX6_second 157 = .ok (.iload_n 3, 1) := by decide +kernel
theorem dX6_second_158 : decode cX6_second 158 = .ok (.iconst 2, 1) := by decide +kernel
theorem dX6_second_159 : decode cX6_second 159 = .ok (.if_icmp .lt 8, 3) := by decide +kernel
theorem dX6_second_162 : decode cX6_second 162 = .ok (.bipush 10, 2) := by decide +kernel
theorem dX6_second_164 : decode cX6_second 164 = .ok (.goto 6, 3) := by decide +kernel
theorem dX6_second_167 : decode cX6_second 167 = .ok (.iconst 3, 1) := by decide +kernel
theorem dX6_second_168 : decode cX6_second 168 = .ok (.iload_n 3, 1) := by decide +kernel
theorem dX6_second_169 : decode cX6_second 169 = .ok (.imul, 1) := by decide +kernel
theorem dX6_second_170 : decode cX6_second 170 = .ok (.iadd, 1) := by decide +kernel
theorem dX6_second_171 : decode cX6_second 171 = .ok (.iastore, 1) := by decide +kernel
theorem dX6_second_172 : decode cX6_second 172 = .ok (.aload_n 1, 1) := by decide +kernel
theorem dX6_second_173 : decode cX6_second 173 = .ok (.iload 4, 2) := by decide +kernel
theorem dX6_second_175 : decode cX6_second 175 = .ok (.dup2, 1) := by decide +kernel
theorem dX6_second_176 : decode cX6_second 176 = .ok (.iaload, 1) := by decide +kernel
theorem dX6_second_177 : decode cX6_second 177 = .ok (.aload_n 1, 1) := by decide +kernel
theorem dX6_second_178 : decode cX6_second 178 = .ok (.iload 4, 2) := by decide +kernel
theorem dX6_second_180 : decode cX6_second 180 = .ok (.iaload, 1) := by decide +kernel
theorem dX6_second_181 : decode cX6_second 181 = .ok (.ifCond .le 7, 3) := by decide +kernel
theorem dX6_second_184 : decode cX6_second 184 = .ok (.iconst 1, 1) := by decide +kernel
theorem dX6_second_185 : decode cX6_second 185 = .ok (.goto 4, 3) := by decide +kernel
theorem dX6_second_188 : decode cX6_second 188 = .ok (.iconst 0, 1) := by decide +kernel
theorem dX6_second_189 : decode cX6_second 189 = .ok (.isub, 1) := by decide +kernel
theorem dX6_second_190 : decode cX6_second 190 = .ok (.iastore, 1) := by decide +kernel
theorem dX6_second_191 : decode cX6_second 191 = .ok (.iinc 2 1, 3) := by decide +kernel
theorem dX6_second_194 : decode cX6_second 194 = .ok (.goto (-65), 3) := by decide +kernel
theorem dX6_second_197 : decode cX6_second 197 = .ok (.aload_n 1, 1) := by decide +kernel
theorem dX6_second_198 : decode cX6_second 198 = .ok (.iconst 4, 1) := by decide +kernel
theorem dX6_second_199 : decode cX6_second 199 = .ok (.dup2, 1) := by decide +kernel
theorem dX6_second_200 : decode cX6_second 200 = .ok (.iaload, 1) := by decide +kernel
theorem dX6_second_201 : decode cX6_second 201 = .ok (.iconst 1, 1) := by decide +kernel
theorem dX6_second_202 : decode cX6_second 202 = .ok (.iadd, 1) := by decide +kernel
theorem dX6_second_203 : decode cX6_second 203 = .ok (.iastore, 1) := by decide +kernel
theorem dX6_second_204 : decode cX6_second 204 = .ok (.return_, 1) := by decide +kernel
theorem dX6_sum_0 : decode cX6_sum 0 = .ok (.iconst 0, 1) := by decide +kernel
theorem dX6_sum_1 : decode cX6_sum 1 = .ok (.istore_n 2, 1) := by decide +kernel
theorem dX6_sum_2 : decode cX6_sum 2 = .ok (.iconst 0, 1) := by decide +kernel
theorem dX6_sum_3 : decode cX6_sum 3 = .ok (.istore_n 3, 1) := by decide +kernel
theorem dX6_sum_4 : decode cX6_sum 4 = .ok (.iload_n 3, 1) := by decide +kernel
theorem dX6_sum_5 : decode cX6_sum 5 = .ok (.bipush 8, 2) := by decide +kernel
theorem dX6_sum_7 : decode cX6_sum 7 = .ok (.if_icmp .ge 18, 3) := by decide +kernel
theorem dX6_sum_10 : decode cX6_sum 10 = .ok (.iload_n 2, 1) := by decide +kernel
theorem dX6_sum_11 : decode cX6_sum 11 = .ok (.aload_n 0, 1) := by decide +kernel
theorem dX6_sum_12 : decode cX6_sum 12 = .ok (.iload_n 3, 1) := by decide +kernel
theorem dX6_sum_13 : decode cX6_sum 13 = .ok (.iload_n 1, 1) := by decide +kernel
theorem dX6_sum_14 : decode cX6_sum 14 = .ok (.invokestatic 44, 3) := by decide +kernel
theorem dX6_sum_17 : decode cX6_sum 17 = .ok (.iadd, 1) := by decide +kernel
theorem dX6_sum_18 : decode cX6_sum 18 = .ok (.istore_n 2, 1) := by decide +kernel
theorem dX6_sum_19 : decode cX6_sum 19 = .ok (.iinc 3 1, 3) := by decide +kernel
theorem dX6_sum_22 : decode cX6_sum 22 = .ok (.goto (-18), 3) := by decide +kernel
theorem dX6_sum_25 : decode cX6_sum 25 = .ok (.iload_n 2, 1) := by decide +kernel
theorem dX6_sum_26 : decode cX6_sum 26 = .ok (.ireturn, 1) := by decide +kernel
theorem dX6_lit_0 : decode cX6_lit 0 = .ok (.iconst 0, 1) := by decide +kernel
theorem dX6_lit_1 : decode cX6_lit 1 = .ok (.istore_n 1, 1) := by decide +kernel
theorem dX6_lit_2 : decode cX6_lit 2 = .ok (.iconst 0, 1) := by decide +kernel
theorem dX6_lit_3 : decode cX6_lit 3 = .ok (.istore_n 2, 1) := by decide +kernel
theorem dX6_lit_4 : decode cX6_lit 4 = .ok (.iload_n 2, 1) := by decide +kernel
theorem dX6_lit_5 : decode cX6_lit 5 = .ok (.bipush 8, 2) := by decide +kernel
theorem dX6_lit_7 : decode cX6_lit 7 = .ok (.if_icmp .ge 26, 3) := by decide +kernel
theorem dX6_lit_10 : decode cX6_lit 10 = .ok (.iload_n 1, 1) := by decide +kernel
theorem dX6_lit_11 : decode cX6_lit 11 = .ok (.aload_n 0, 1) := by decide +kernel
theorem dX6_lit_12 : decode cX6_lit 12 = .ok (.iload_n 2, 1) := by decide +kernel
theorem dX6_lit_13 : decode cX6_lit 13 = .ok (.invokestatic 69, 3) := by decide +kernel
theorem dX6_lit_16 : decode cX6_lit 16 = .ok (.iconst 2, 1) := by decide +kernel
theorem dX6_lit_17 : decode cX6_lit 17 = .ok (.if_icmp .lt 7, 3) := by decide +kernel
theorem dX6_lit_20 : decode cX6_lit 20 = .ok (.iconst 1, 1) := by decide +kernel
theorem dX6_lit_21 : decode cX6_lit 21 = .ok (.goto 4, 3) := by decide +kernel
theorem dX6_lit_24 : decode cX6_lit 24 = .ok (.iconst 0, 1) := by decide +kernel
theorem dX6_lit_25 : decode cX6_lit 25 = .ok (.iadd, 1) := by decide +kernel
theorem dX6_lit_26 : decode cX6_lit 26 = .ok (.istore_n 1, 1) := by decide +kernel
theorem dX6_lit_27 : decode cX6_lit 27 = .ok (.iinc 2 1, 3) := by decide +kernel
theorem dX6_lit_30 : decode cX6_lit 30 = .ok (.goto (-26), 3) := by decide +kernel
theorem dX6_lit_33 : decode cX6_lit 33 = .ok (.iload_n 1, 1) := by decide +kernel
theorem dX6_lit_34 : decode cX6_lit 34 = .ok (.ireturn, 1) := by decide +kernel
theorem dX6_comes_0 : decode cX6_comes 0 = .ok (.bipush 58, 2) := by decide +kernel
theorem dX6_comes_2 : decode cX6_comes 2 = .ok (.iconst 4, 1) := by decide +kernel
theorem dX6_comes_3 : decode cX6_comes 3 = .ok (.aload_n 0, 1) := by decide +kernel
theorem dX6_comes_4 : decode cX6_comes 4 = .ok (.bipush 57, 2) := by decide +kernel
theorem dX6_comes_6 : decode cX6_comes 6 = .ok (.iaload, 1) := by decide +kernel
theorem dX6_comes_7 : decode cX6_comes 7 = .ok (.imul, 1) := by decide +kernel
theorem dX6_comes_8 : decode cX6_comes 8 = .ok (.iadd, 1) := by decide +kernel
theorem dX6_comes_9 : decode cX6_comes 9 = .ok (.istore_n 3, 1) := by decide +kernel
theorem dX6_comes_10 : decode cX6_comes 10 = .ok (.aload_n 0, 1) := by decide +kernel
theorem dX6_comes_11 : decode cX6_comes 11 = .ok (.iload_n 3, 1) := by decide +kernel
theorem dX6_comes_12 : decode cX6_comes 12 = .ok (.aload_n 0, 1) := by decide +kernel
theorem dX6_comes_13 : decode cX6_comes 13 = .ok (.iconst 5, 1) := by decide +kernel
theorem dX6_comes_14 : decode cX6_comes 14 = .ok (.iaload, 1) := by decide +kernel
theorem dX6_comes_15 : decode cX6_comes 15 = .ok (.iastore, 1) := by decide +kernel
theorem dX6_comes_16 : decode cX6_comes 16 = .ok (.aload_n 0, 1) := by decide +kernel
theorem dX6_comes_17 : decode cX6_comes 17 = .ok (.iload_n 3, 1) := by decide +kernel
theorem dX6_comes_18 : decode cX6_comes 18 = .ok (.iconst 1, 1) := by decide +kernel
theorem dX6_comes_19 : decode cX6_comes 19 = .ok (.iadd, 1) := by decide +kernel
theorem dX6_comes_20 : decode cX6_comes 20 = .ok (.iload_n 1, 1) := by decide +kernel
theorem dX6_comes_21 : decode cX6_comes 21 = .ok (.iastore, 1) := by decide +kernel
theorem dX6_comes_22 : decode cX6_comes 22 = .ok (.aload_n 0, 1) := by decide +kernel
theorem dX6_comes_23 : decode cX6_comes 23 = .ok (.iload_n 3, 1) := by decide +kernel
theorem dX6_comes_24 : decode cX6_comes 24 = .ok (.iconst 2, 1) := by decide +kernel
theorem dX6_comes_25 : decode cX6_comes 25 = .ok (.iadd, 1) := by decide +kernel
theorem dX6_comes_26 : decode cX6_comes 26 = .ok (.iload_n 2, 1) := by decide +kernel
theorem dX6_comes_27 : decode cX6_comes 27 = .ok (.iastore, 1) := by decide +kernel
theorem dX6_comes_28 : decode cX6_comes 28 = .ok (.aload_n 0, 1) := by decide +kernel
theorem dX6_comes_29 : decode cX6_comes 29 = .ok (.iload_n 3, 1) := by decide +kernel
theorem dX6_comes_30 : decode cX6_comes 30 = .ok (.iconst 3, 1) := by decide +kernel
theorem dX6_comes_31 : decode cX6_comes 31 = .ok (.iadd, 1) := by decide +kernel
theorem dX6_comes_32 : decode cX6_comes 32 = .ok (.aload_n 0, 1) := by decide +kernel
theorem dX6_comes_33 : decode cX6_comes 33 = .ok (.iconst 3, 1) := by decide +kernel
theorem dX6_comes_34 : decode cX6_comes 34 = .ok (.iaload, 1) := by decide +kernel
theorem dX6_comes_35 : decode cX6_comes 35 = .ok (.iastore, 1) := by decide +kernel
theorem dX6_comes_36 : decode cX6_comes 36 = .ok (.aload_n 0, 1) := by decide +kernel
theorem dX6_comes_37 : decode cX6_comes 37 = .ok (.bipush 57, 2) := by decide +kernel
theorem dX6_comes_39 : decode cX6_comes 39 = .ok (.dup2, 1) := by decide +kernel
theorem dX6_comes_40 : decode cX6_comes 40 = .ok (.iaload, 1) := by decide +kernel
theorem dX6_comes_41 : decode cX6_comes 41 = .ok (.iconst 1, 1) := by decide +kernel
theorem dX6_comes_42 : decode cX6_comes 42 = .ok (.iadd, 1) := by decide +kernel
theorem dX6_comes_43 : decode cX6_comes 43 = .ok (.iastore, 1) := by decide +kernel
theorem dX6_comes_44 : decode cX6_comes 44 = .ok (.aload_n 0, 1) := by decide +kernel
theorem dX6_comes_45 : decode cX6_comes 45 = .ok (.iconst 5, 1) := by decide +kernel
theorem dX6_comes_46 : decode cX6_comes 46 = .ok (.dup2, 1) := by decide +kernel
theorem dX6_comes_47 : decode cX6_comes 47 = .ok (.iaload, 1) := by decide +kernel
theorem dX6_comes_48 : decode cX6_comes 48 = .ok (.iconst 1, 1) := by decide +kernel
theorem dX6_comes_49 : decode cX6_comes 49 = .ok (.iadd, 1) := by decide +kernel
theorem dX6_comes_50 : decode cX6_comes 50 = .ok (.iastore, 1) := by decide +kernel
theorem dX6_comes_51 : decode cX6_comes 51 = .ok (.aload_n 0, 1) := by decide +kernel
theorem dX6_comes_52 : decode cX6_comes 52 = .ok (.iconst 5, 1) := by decide +kernel
theorem dX6_comes_53 : decode cX6_comes 53 = .ok (.iaload, 1) := by decide +kernel
theorem dX6_comes_54 : decode cX6_comes 54 = .ok (.iconst 1, 1) := by decide +kernel
theorem dX6_comes_55 : decode cX6_comes 55 = .ok (.isub, 1) := by decide +kernel
theorem dX6_comes_56 : decode cX6_comes 56 = .ok (.ireturn, 1) := by decide +kernel
theorem dX6_mayWalk_0 : decode cX6_mayWalk 0 = .ok (.iload_n 0, 1) := by decide +kernel
theorem dX6_mayWalk_1 : decode cX6_mayWalk 1 = .ok (.invokestatic 78, 3) := by decide +kernel
theorem dX6_mayWalk_4 : decode cX6_mayWalk 4 = .ok (.ifCond .eq 10, 3) := by decide +kernel
theorem dX6_mayWalk_7 : decode cX6_mayWalk 7 = .ok (.iload_n 1, 1) := by decide +kernel
theorem dX6_mayWalk_8 : decode cX6_mayWalk 8 = .ok (.invokestatic 78, 3) := by decide +kernel
theorem dX6_mayWalk_11 : decode cX6_mayWalk 11 = .ok (.ifCond .ne 7, 3) := by decide +kernel
theorem dX6_mayWalk_14 : decode cX6_mayWalk 14 = .ok (.iconst 1, 1) := by decide +kernel
theorem dX6_mayWalk_15 : decode cX6_mayWalk 15 = .ok (.goto 13, 3) := by decide +kernel
theorem dX6_mayWalk_18 : decode cX6_mayWalk 18 = .ok (.iload_n 0, 1) := by decide +kernel
theorem dX6_mayWalk_19 : decode cX6_mayWalk 19 = .ok (.iload_n 1, 1) := by decide +kernel
theorem dX6_mayWalk_20 : decode cX6_mayWalk 20 = .ok (.if_icmp .ne 7, 3) := by decide +kernel
theorem dX6_mayWalk_23 : decode cX6_mayWalk 23 = .ok (.iconst 2, 1) := by decide +kernel
theorem dX6_mayWalk_24 : decode cX6_mayWalk 24 = .ok (.goto 4, 3) := by decide +kernel
theorem dX6_mayWalk_27 : decode cX6_mayWalk 27 = .ok (.iconst 0, 1) := by decide +kernel
theorem dX6_mayWalk_28 : decode cX6_mayWalk 28 = .ok (.ireturn, 1) := by decide +kernel
theorem dX6_come_0 : decode cX6_come 0 = .ok (.aload_n 0, 1) := by decide +kernel
theorem dX6_come_1 : decode cX6_come 1 = .ok (.iload_n 1, 1) := by decide +kernel
theorem dX6_come_2 : decode cX6_come 2 = .ok (.iload_n 2, 1) := by decide +kernel
theorem dX6_come_3 : decode cX6_come 3 = .ok (.invokestatic 82, 3) := by decide +kernel
theorem dX6_come_6 : decode cX6_come 6 = .ok (.putfield 25, 3) := by decide +kernel
theorem dX6_come_9 : decode cX6_come 9 = .ok (.aload_n 0, 1) := by decide +kernel
theorem dX6_come_10 : decode cX6_come 10 = .ok (.getfield 25, 3) := by decide +kernel
theorem dX6_come_13 : decode cX6_come 13 = .ok (.ifCond .eq 5, 3) := by decide +kernel
theorem dX6_come_16 : decode cX6_come 16 = .ok (.iconst 0, 1) := by decide +kernel
theorem dX6_come_17 : decode cX6_come 17 = .ok (.ireturn, 1) := by decide +kernel
theorem dX6_come_18 : decode cX6_come 18 = .ok (.aload_n 0, 1) := by decide +kernel
theorem dX6_come_19 : decode cX6_come 19 = .ok (.getfield 7, 3) := by decide +kernel
theorem dX6_come_22 : decode cX6_come 22 = .ok (.bipush 57, 2) := by decide +kernel
theorem dX6_come_24 : decode cX6_come 24 = .ok (.iaload, 1) := by decide +kernel
theorem dX6_come_25 : decode cX6_come 25 = .ok (.bipush 6, 2) := by decide +kernel
theorem dX6_come_27 : decode cX6_come 27 = .ok (.if_icmp .ne 9, 3) := by decide +kernel
theorem dX6_come_30 : decode cX6_come 30 = .ok (.aload_n 0, 1) := by decide +kernel
theorem dX6_come_31 : decode cX6_come 31 = .ok (.iconst 3, 1) := by decide +kernel
theorem dX6_come_32 : decode cX6_come 32 = .ok (.invokevirtual 40, 3) := by decide +kernel
theorem dX6_come_35 : decode cX6_come 35 = .ok (.ireturn, 1) := by decide +kernel
theorem dX6_come_36 : decode cX6_come 36 = .ok (.aload_n 0, 1) := by decide +kernel
theorem dX6_come_37 : decode cX6_come 37 = .ok (.invokevirtual 86, 3) := by decide +kernel
theorem dX6_come_40 : decode cX6_come 40 = .ok (.aload_n 0, 1) := by decide +kernel
theorem dX6_come_41 : decode cX6_come 41 = .ok (.getfield 7, 3) := by decide +kernel
theorem dX6_come_44 : decode cX6_come 44 = .ok (.iload_n 1, 1) := by decide +kernel
theorem dX6_come_45 : decode cX6_come 45 = .ok (.iload_n 2, 1) := by decide +kernel
theorem dX6_come_46 : decode cX6_come 46 = .ok (.invokestatic 89, 3) := by decide +kernel
theorem dX6_come_49 : decode cX6_come 49 = .ok (.ireturn, 1) := by decide +kernel
theorem dX6_changes_0 : decode cX6_changes 0 = .ok (.aload_n 0, 1) := by decide +kernel
theorem dX6_changes_1 : decode cX6_changes 1 = .ok (.getfield 7, 3) := by decide +kernel
theorem dX6_changes_4 : decode cX6_changes 4 = .ok (.iload_n 1, 1) := by decide +kernel
theorem dX6_changes_5 : decode cX6_changes 5 = .ok (.iaload, 1) := by decide +kernel
theorem dX6_changes_6 : decode cX6_changes 6 = .ok (.istore_n 3, 1) := by decide +kernel
theorem dX6_changes_7 : decode cX6_changes 7 = .ok (.aload_n 0, 1) := by decide +kernel
theorem dX6_changes_8 : decode cX6_changes 8 = .ok (.getfield 7, 3) := by decide +kernel
theorem dX6_changes_11 : decode cX6_changes 11 = .ok (.iload_n 1, 1) := by decide +kernel
theorem dX6_changes_12 : decode cX6_changes 12 = .ok (.iload_n 2, 1) := by decide +kernel
theorem dX6_changes_13 : decode cX6_changes 13 = .ok (.iastore, 1) := by decide +kernel
theorem dX6_changes_14 : decode cX6_changes 14 = .ok (.iload_n 3, 1) := by decide +kernel
theorem dX6_changes_15 : decode cX6_changes 15 = .ok (.ireturn, 1) := by decide +kernel
theorem dX6_turn_0 : decode cX6_turn 0 = .ok (.aload_n 0, 1) := by decide +kernel
theorem dX6_turn_1 : decode cX6_turn 1 = .ok (.iconst 0, 1) := by decide +kernel
theorem dX6_turn_2 : decode cX6_turn 2 = .ok (.putfield 25, 3) := by decide +kernel
theorem dX6_turn_5 : decode cX6_turn 5 = .ok (.iconst (-1), 1) := by decide +kernel
theorem dX6_turn_6 : decode cX6_turn 6 = .ok (.istore_n 3, 1) := by decide +kernel
theorem dX6_turn_7 : decode cX6_turn 7 = .ok (.iconst 0, 1) := by decide +kernel
theorem dX6_turn_8 : decode cX6_turn 8 = .ok (.istore 4, 2) := by decide +kernel
theorem dX6_turn_10 : decode cX6_turn 10 = .ok (.iload 4, 2) := by decide +kernel
theorem dX6_turn_12 : decode cX6_turn 12 = .ok (.aload_n 0, 1) := by decide +kernel
theorem dX6_turn_13 : decode cX6_turn 13 = .ok (.getfield 7, 3) := by decide +kernel
theorem dX6_turn_16 : decode cX6_turn 16 = .ok (.bipush 57, 2) := by decide +kernel
theorem dX6_turn_18 : decode cX6_turn 18 = .ok (.iaload, 1) := by decide +kernel
theorem dX6_turn_19 : decode cX6_turn 19 = .ok (.if_icmp .ge 30, 3) := by decide +kernel
theorem dX6_turn_22 : decode cX6_turn 22 = .ok (.aload_n 0, 1) := by decide +kernel
theorem dX6_turn_23 : decode cX6_turn 23 = .ok (.getfield 7, 3) := by decide +kernel
theorem dX6_turn_26 : decode cX6_turn 26 = .ok (.iload 4, 2) := by decide +kernel
theorem dX6_turn_28 : decode cX6_turn 28 = .ok (.iconst 0, 1) := by decide +kernel
theorem dX6_turn_29 : decode cX6_turn 29 = .ok (.invokestatic 48, 3) := by decide +kernel
theorem dX6_turn_32 : decode cX6_turn 32 = .ok (.iload_n 1, 1) := by decide +kernel
theorem dX6_turn_33 : decode cX6_turn 33 = .ok (.if_icmp .ne 8, 3) := by decide +kernel
theorem dX6_turn_36 : decode cX6_turn 36 = .ok (.iload 4, 2) := by decide +kernel
theorem dX6_turn_38 : decode cX6_turn 38 = .ok (.goto 4, 3) := by decide +kernel
theorem dX6_turn_41 : decode cX6_turn 41 = .ok (.iload_n 3, 1) := by decide +kernel
theorem dX6_turn_42 : decode cX6_turn 42 = .ok (.istore_n 3, 1) := by decide +kernel
theorem dX6_turn_43 : decode cX6_turn 43 = .ok (.iinc 4 1, 3) := by decide +kernel
theorem dX6_turn_46 : decode cX6_turn 46 = .ok (.goto (-36), 3) := by decide +kernel
theorem dX6_turn_49 : decode cX6_turn 49 = .ok (.iload_n 3, 1) := by decide +kernel
theorem dX6_turn_50 : decode cX6_turn 50 = .ok (.iconst (-1), 1) := by decide +kernel
theorem dX6_turn_51 : decode cX6_turn 51 = .ok (.if_icmp .eq 10, 3) := by decide +kernel
theorem dX6_turn_54 : decode cX6_turn 54 = .ok (.iload_n 2, 1) := by decide +kernel
theorem dX6_turn_55 : decode cX6_turn 55 = .ok (.invokestatic 78, 3) := by decide +kernel
theorem dX6_turn_58 : decode cX6_turn 58 = .ok (.ifCond .ne 9, 3) := by decide +kernel
theorem dX6_turn_61 : decode cX6_turn 61 = .ok (.aload_n 0, 1) := by decide +kernel
theorem dX6_turn_62 : decode cX6_turn 62 = .ok (.iconst 1, 1) := by decide +kernel
theorem dX6_turn_63 : decode cX6_turn 63 = .ok (.invokevirtual 40, 3) := by decide +kernel
theorem dX6_turn_66 : decode cX6_turn 66 = .ok (.ireturn, 1) := by decide +kernel
theorem dX6_turn_67 : decode cX6_turn 67 = .ok (.aload_n 0, 1) := by decide +kernel
theorem dX6_turn_68 : decode cX6_turn 68 = .ok (.invokevirtual 86, 3) := by decide +kernel
theorem dX6_turn_71 : decode cX6_turn 71 = .ok (.aload_n 0, 1) := by decide +kernel
theorem dX6_turn_72 : decode cX6_turn 72 = .ok (.getfield 7, 3) := by decide +kernel
theorem dX6_turn_75 : decode cX6_turn 75 = .ok (.bipush 58, 2) := by decide +kernel
theorem dX6_turn_77 : decode cX6_turn 77 = .ok (.iconst 4, 1) := by decide +kernel
theorem dX6_turn_78 : decode cX6_turn 78 = .ok (.iload_n 3, 1) := by decide +kernel
theorem dX6_turn_79 : decode cX6_turn 79 = .ok (.imul, 1) := by decide +kernel
theorem dX6_turn_80 : decode cX6_turn 80 = .ok (.iadd, 1) := by decide +kernel
theorem dX6_turn_81 : decode cX6_turn 81 = .ok (.iconst 3, 1) := by decide +kernel
theorem dX6_turn_82 : decode cX6_turn 82 = .ok (.iadd, 1) := by decide +kernel
theorem dX6_turn_83 : decode cX6_turn 83 = .ok (.aload_n 0, 1) := by decide +kernel
theorem dX6_turn_84 : decode cX6_turn 84 = .ok (.getfield 7, 3) := by decide +kernel
theorem dX6_turn_87 : decode cX6_turn 87 = .ok (.iload_n 3, 1) := by decide +kernel
theorem dX6_turn_88 : decode cX6_turn 88 = .ok (.iconst 1, 1) := by decide +kernel
theorem dX6_turn_89 : decode cX6_turn 89 = .ok (.invokestatic 48, 3) := by decide +kernel
theorem dX6_turn_92 : decode cX6_turn 92 = .ok (.iload_n 2, 1) := by decide +kernel
theorem dX6_turn_93 : decode cX6_turn 93 = .ok (.if_icmp .ne 7, 3) := by decide +kernel
theorem dX6_turn_96 : decode cX6_turn 96 = .ok (.iconst 0, 1) := by decide +kernel
theorem dX6_turn_97 : decode cX6_turn 97 = .ok (.goto 9, 3) := by decide +kernel
theorem dX6_turn_100 : decode cX6_turn 100 = .ok (.aload_n 0, 1) := by decide +kernel
theorem dX6_turn_101 : decode cX6_turn 101 = .ok (.getfield 7, 3) := by decide +kernel
theorem dX6_turn_104 : decode cX6_turn 104 = .ok (.iconst 3, 1) := by decide +kernel
theorem dX6_turn_105 : decode cX6_turn 105 = .ok (.iaload, 1) := by decide +kernel
theorem dX6_turn_106 : decode cX6_turn 106 = .ok (.iastore, 1) := by decide +kernel
theorem dX6_turn_107 : decode cX6_turn 107 = .ok (.aload_n 0, 1) := by decide +kernel
theorem dX6_turn_108 : decode cX6_turn 108 = .ok (.bipush 58, 2) := by decide +kernel
theorem dX6_turn_110 : decode cX6_turn 110 = .ok (.iconst 4, 1) := by decide +kernel
theorem dX6_turn_111 : decode cX6_turn 111 = .ok (.iload_n 3, 1) := by decide +kernel
theorem dX6_turn_112 : decode cX6_turn 112 = .ok (.imul, 1) := by decide +kernel
theorem dX6_turn_113 : decode cX6_turn 113 = .ok (.iadd, 1) := by decide +kernel
theorem dX6_turn_114 : decode cX6_turn 114 = .ok (.iconst 2, 1) := by decide +kernel
theorem dX6_turn_115 : decode cX6_turn 115 = .ok (.iadd, 1) := by decide +kernel
theorem dX6_turn_116 : decode cX6_turn 116 = .ok (.iload_n 2, 1) := by decide +kernel
theorem dX6_turn_117 : decode cX6_turn 117 = .ok (.invokevirtual 92, 3) := by decide +kernel
theorem dX6_turn_120 : decode cX6_turn 120 = .ok (.ireturn, 1) := by decide +kernel
theorem dX6_press_0 : decode cX6_press 0 = .ok (.aload_n 0, 1) := by decide +kernel
theorem dX6_press_1 : decode cX6_press 1 = .ok (.iconst 0, 1) := by decide +kernel
theorem dX6_press_2 : decode cX6_press 2 = .ok (.putfield 25, 3) := by decide +kernel
theorem dX6_press_5 : decode cX6_press 5 = .ok (.iload_n 1, 1) := by decide +kernel
theorem dX6_press_6 : decode cX6_press 6 = .ok (.invokestatic 78, 3) := by decide +kernel
theorem dX6_press_9 : decode cX6_press 9 = .ok (.ifCond .ne 9, 3) := by decide +kernel
theorem dX6_press_12 : decode cX6_press 12 = .ok (.aload_n 0, 1) := by decide +kernel
theorem dX6_press_13 : decode cX6_press 13 = .ok (.iconst 1, 1) := by decide +kernel
theorem dX6_press_14 : decode cX6_press 14 = .ok (.invokevirtual 40, 3) := by decide +kernel
theorem dX6_press_17 : decode cX6_press 17 = .ok (.ireturn, 1) := by decide +kernel
theorem dX6_press_18 : decode cX6_press 18 = .ok (.aload_n 0, 1) := by decide +kernel
theorem dX6_press_19 : decode cX6_press 19 = .ok (.invokevirtual 86, 3) := by decide +kernel
theorem dX6_press_22 : decode cX6_press 22 = .ok (.aload_n 0, 1) := by decide +kernel
theorem dX6_press_23 : decode cX6_press 23 = .ok (.getfield 7, 3) := by decide +kernel
theorem dX6_press_26 : decode cX6_press 26 = .ok (.iload_n 1, 1) := by decide +kernel
theorem dX6_press_27 : decode cX6_press 27 = .ok (.iconst 0, 1) := by decide +kernel
theorem dX6_press_28 : decode cX6_press 28 = .ok (.invokestatic 44, 3) := by decide +kernel
theorem dX6_press_31 : decode cX6_press 31 = .ok (.istore_n 2, 1) := by decide +kernel
theorem dX6_press_32 : decode cX6_press 32 = .ok (.aload_n 0, 1) := by decide +kernel
theorem dX6_press_33 : decode cX6_press 33 = .ok (.getfield 7, 3) := by decide +kernel
theorem dX6_press_36 : decode cX6_press 36 = .ok (.iload_n 1, 1) := by decide +kernel
theorem dX6_press_37 : decode cX6_press 37 = .ok (.invokestatic 59, 3) := by decide +kernel
theorem dX6_press_40 : decode cX6_press 40 = .ok (.iload_n 2, 1) := by decide +kernel
theorem dX6_press_41 : decode cX6_press 41 = .ok (.ireturn, 1) := by decide +kernel
theorem dX6_sensor_0 : decode cX6_sensor 0 = .ok (.aload_n 0, 1) := by decide +kernel
theorem dX6_sensor_1 : decode cX6_sensor 1 = .ok (.iconst 0, 1) := by decide +kernel
theorem dX6_sensor_2 : decode cX6_sensor 2 = .ok (.putfield 25, 3) := by decide +kernel
theorem dX6_sensor_5 : decode cX6_sensor 5 = .ok (.iload_n 1, 1) := by decide +kernel
theorem dX6_sensor_6 : decode cX6_sensor 6 = .ok (.invokestatic 78, 3) := by decide +kernel
theorem dX6_sensor_9 : decode cX6_sensor 9 = .ok (.ifCond .ne 9, 3) := by decide +kernel
theorem dX6_sensor_12 : decode cX6_sensor 12 = .ok (.aload_n 0, 1) := by decide +kernel
theorem dX6_sensor_13 : decode cX6_sensor 13 = .ok (.iconst 1, 1) := by decide +kernel
theorem dX6_sensor_14 : decode cX6_sensor 14 = .ok (.invokevirtual 40, 3) := by decide +kernel
theorem dX6_sensor_17 : decode cX6_sensor 17 = .ok (.ireturn, 1) := by decide +kernel
theorem dX6_sensor_18 : decode cX6_sensor 18 = .ok (.aload_n 0, 1) := by decide +kernel
theorem dX6_sensor_19 : decode cX6_sensor 19 = .ok (.invokevirtual 86, 3) := by decide +kernel
theorem dX6_sensor_22 : decode cX6_sensor 22 = .ok (.aload_n 0, 1) := by decide +kernel
theorem dX6_sensor_23 : decode cX6_sensor 23 = .ok (.bipush 9, 2) := by decide +kernel
theorem dX6_sensor_25 : decode cX6_sensor 25 = .ok (.bipush 6, 2) := by decide +kernel
theorem dX6_sensor_27 : decode cX6_sensor 27 = .ok (.iload_n 1, 1) := by decide +kernel
theorem dX6_sensor_28 : decode cX6_sensor 28 = .ok (.imul, 1) := by decide +kernel
theorem dX6_sensor_29 : decode cX6_sensor 29 = .ok (.iadd, 1) := by decide +kernel
theorem dX6_sensor_30 : decode cX6_sensor 30 = .ok (.iconst 1, 1) := by decide +kernel
theorem dX6_sensor_31 : decode cX6_sensor 31 = .ok (.iadd, 1) := by decide +kernel
theorem dX6_sensor_32 : decode cX6_sensor 32 = .ok (.iload_n 2, 1) := by decide +kernel
theorem dX6_sensor_33 : decode cX6_sensor 33 = .ok (.ifCond .eq 7, 3) := by decide +kernel
theorem dX6_sensor_36 : decode cX6_sensor 36 = .ok (.iconst 1, 1) := by decide +kernel
theorem dX6_sensor_37 : decode cX6_sensor 37 = .ok (.goto 4, 3) := by decide +kernel
theorem dX6_sensor_40 : decode cX6_sensor 40 = .ok (.iconst 0, 1) := by decide +kernel
theorem dX6_sensor_41 : decode cX6_sensor 41 = .ok (.invokevirtual 92, 3) := by decide +kernel
theorem dX6_sensor_44 : decode cX6_sensor 44 = .ok (.ireturn, 1) := by decide +kernel
theorem dX6_night_0 : decode cX6_night 0 = .ok (.aload_n 0, 1) := by decide +kernel
theorem dX6_night_1 : decode cX6_night 1 = .ok (.iconst 0, 1) := by decide +kernel
theorem dX6_night_2 : decode cX6_night 2 = .ok (.putfield 25, 3) := by decide +kernel
theorem dX6_night_5 : decode cX6_night 5 = .ok (.aload_n 0, 1) := by decide +kernel
theorem dX6_night_6 : decode cX6_night 6 = .ok (.invokevirtual 86, 3) := by decide +kernel
theorem dX6_night_9 : decode cX6_night 9 = .ok (.aload_n 0, 1) := by decide +kernel
theorem dX6_night_10 : decode cX6_night 10 = .ok (.bipush 6, 2) := by decide +kernel
theorem dX6_night_12 : decode cX6_night 12 = .ok (.iload_n 1, 1) := by decide +kernel
theorem dX6_night_13 : decode cX6_night 13 = .ok (.ifCond .eq 7, 3) := by decide +kernel
theorem dX6_night_16 : decode cX6_night 16 = .ok (.iconst 1, 1) := by decide +kernel
theorem dX6_night_17 : decode cX6_night 17 = .ok (.goto 4, 3) := by decide +kernel
theorem dX6_night_20 : decode cX6_night 20 = .ok (.iconst 0, 1) := by decide +kernel
theorem dX6_night_21 : decode cX6_night 21 = .ok (.invokevirtual 92, 3) := by decide +kernel
theorem dX6_night_24 : decode cX6_night 24 = .ok (.ireturn, 1) := by decide +kernel
theorem dX6_fire_0 : decode cX6_fire 0 = .ok (.aload_n 0, 1) := by decide +kernel
theorem dX6_fire_1 : decode cX6_fire 1 = .ok (.iconst 0, 1) := by decide +kernel
theorem dX6_fire_2 : decode cX6_fire 2 = .ok (.putfield 25, 3) := by decide +kernel
theorem dX6_fire_5 : decode cX6_fire 5 = .ok (.aload_n 0, 1) := by decide +kernel
theorem dX6_fire_6 : decode cX6_fire 6 = .ok (.invokevirtual 86, 3) := by decide +kernel
theorem dX6_fire_9 : decode cX6_fire 9 = .ok (.aload_n 0, 1) := by decide +kernel
theorem dX6_fire_10 : decode cX6_fire 10 = .ok (.bipush 7, 2) := by decide +kernel
theorem dX6_fire_12 : decode cX6_fire 12 = .ok (.iload_n 1, 1) := by decide +kernel
theorem dX6_fire_13 : decode cX6_fire 13 = .ok (.ifCond .eq 7, 3) := by decide +kernel
theorem dX6_fire_16 : decode cX6_fire 16 = .ok (.iconst 1, 1) := by decide +kernel
theorem dX6_fire_17 : decode cX6_fire 17 = .ok (.goto 4, 3) := by decide +kernel
theorem dX6_fire_20 : decode cX6_fire 20 = .ok (.iconst 0, 1) := by decide +kernel
theorem dX6_fire_21 : decode cX6_fire 21 = .ok (.invokevirtual 92, 3) := by decide +kernel
theorem dX6_fire_24 : decode cX6_fire 24 = .ok (.istore_n 2, 1) := by decide +kernel
theorem dX6_fire_25 : decode cX6_fire 25 = .ok (.iconst 0, 1) := by decide +kernel
theorem dX6_fire_26 : decode cX6_fire 26 = .ok (.istore_n 3, 1) := by decide +kernel
theorem dX6_fire_27 : decode cX6_fire 27 = .ok (.iload_n 3, 1) := by decide +kernel
theorem dX6_fire_28 : decode cX6_fire 28 = .ok (.bipush 8, 2) := by decide +kernel
theorem dX6_fire_30 : decode cX6_fire 30 = .ok (.if_icmp .ge 26, 3) := by decide +kernel
theorem dX6_fire_33 : decode cX6_fire 33 = .ok (.iload_n 2, 1) := by decide +kernel
theorem dX6_fire_34 : decode cX6_fire 34 = .ok (.iconst 1, 1) := by decide +kernel
theorem dX6_fire_35 : decode cX6_fire 35 = .ok (.if_icmp .ne 21, 3) := by decide +kernel
theorem dX6_fire_38 : decode cX6_fire 38 = .ok (.iload_n 1, 1) := by decide +kernel
theorem dX6_fire_39 : decode cX6_fire 39 = .ok (.ifCond .ne 17, 3) := by decide +kernel
theorem dX6_fire_42 : decode cX6_fire 42 = .ok (.aload_n 0, 1) := by decide +kernel
theorem dX6_fire_43 : decode cX6_fire 43 = .ok (.getfield 7, 3) := by decide +kernel
theorem dX6_fire_46 : decode cX6_fire 46 = .ok (.iload_n 3, 1) := by decide +kernel
theorem dX6_fire_47 : decode cX6_fire 47 = .ok (.invokestatic 59, 3) := by decide +kernel
theorem dX6_fire_50 : decode cX6_fire 50 = .ok (.iinc 3 1, 3) := by decide +kernel
theorem dX6_fire_53 : decode cX6_fire 53 = .ok (.goto (-26), 3) := by decide +kernel
theorem dX6_fire_56 : decode cX6_fire 56 = .ok (.iload_n 2, 1) := by decide +kernel
theorem dX6_fire_57 : decode cX6_fire 57 = .ok (.ireturn, 1) := by decide +kernel
theorem dX6_isFor_0 : decode cX6_isFor 0 = .ok (.iload_n 0, 1) := by decide +kernel
theorem dX6_isFor_1 : decode cX6_isFor 1 = .ok (.ifCond .ne 14, 3) := by decide +kernel
theorem dX6_isFor_4 : decode cX6_isFor 4 = .ok (.iload_n 1, 1) := by decide +kernel
theorem dX6_isFor_5 : decode cX6_isFor 5 = .ok (.iconst 1, 1) := by decide +kernel
theorem dX6_isFor_6 : decode cX6_isFor 6 = .ok (.sipush 200, 3) := by decide +kernel
theorem dX6_isFor_9 : decode cX6_isFor 9 = .ok (.invokestatic 29, 3) := by decide +kernel
theorem dX6_isFor_12 : decode cX6_isFor 12 = .ok (.goto 39, 3) := by decide +kernel
theorem dX6_isFor_15 : decode cX6_isFor 15 = .ok (.iload_n 0, 1) := by decide +kernel
theorem dX6_isFor_16 : decode cX6_isFor 16 = .ok (.iconst 1, 1) := by decide +kernel
theorem dX6_isFor_17 : decode cX6_isFor 17 = .ok (.if_icmp .ne 13, 3) := by decide +kernel
theorem dX6_isFor_20 : decode cX6_isFor 20 = .ok (.iload_n 1, 1) := by decide +kernel
theorem dX6_isFor_21 : decode cX6_isFor 21 = .ok (.iconst 0, 1) := by decide +kernel
theorem dX6_isFor_22 : decode cX6_isFor 22 = .ok (.bipush 60, 2) := by decide +kernel
theorem dX6_isFor_24 : decode cX6_isFor 24 = .ok (.invokestatic 29, 3) := by decide +kernel
theorem dX6_isFor_27 : decode cX6_isFor 27 = .ok (.goto 24, 3) := by decide +kernel
theorem dX6_isFor_30 : decode cX6_isFor 30 = .ok (.iload_n 0, 1) := by decide +kernel
theorem dX6_isFor_31 : decode cX6_isFor 31 = .ok (.iconst 2, 1) := by decide +kernel
theorem dX6_isFor_32 : decode cX6_isFor 32 = .ok (.if_icmp .ne 12, 3) := by decide +kernel
theorem dX6_isFor_35 : decode cX6_isFor 35 = .ok (.iload_n 1, 1) := by decide +kernel
theorem dX6_isFor_36 : decode cX6_isFor 36 = .ok (.iconst 0, 1) := by decide +kernel
theorem dX6_isFor_37 : decode cX6_isFor 37 = .ok (.iconst 1, 1) := by decide +kernel
theorem dX6_isFor_38 : decode cX6_isFor 38 = .ok (.invokestatic 29, 3) := by decide +kernel
theorem dX6_isFor_41 : decode cX6_isFor 41 = .ok (.goto 10, 3) := by decide +kernel
theorem dX6_isFor_44 : decode cX6_isFor 44 = .ok (.iload_n 1, 1) := by decide +kernel
theorem dX6_isFor_45 : decode cX6_isFor 45 = .ok (.iconst 1, 1) := by decide +kernel
theorem dX6_isFor_46 : decode cX6_isFor 46 = .ok (.bipush 60, 2) := by decide +kernel
theorem dX6_isFor_48 : decode cX6_isFor 48 = .ok (.invokestatic 29, 3) := by decide +kernel
theorem dX6_isFor_51 : decode cX6_isFor 51 = .ok (.ireturn, 1) := by decide +kernel
theorem dX6_set_0 : decode cX6_set 0 = .ok (.aload_n 0, 1) := by decide +kernel
theorem dX6_set_1 : decode cX6_set 1 = .ok (.iconst 0, 1) := by decide +kernel
theorem dX6_set_2 : decode cX6_set 2 = .ok (.putfield 25, 3) := by decide +kernel
theorem dX6_set_5 : decode cX6_set 5 = .ok (.iload_n 1, 1) := by decide +kernel
theorem dX6_set_6 : decode cX6_set 6 = .ok (.iconst 0, 1) := by decide +kernel
theorem dX6_set_7 : decode cX6_set 7 = .ok (.iconst 3, 1) := by decide +kernel
theorem dX6_set_8 : decode cX6_set 8 = .ok (.invokestatic 29, 3) := by decide +kernel
theorem dX6_set_11 : decode cX6_set 11 = .ok (.ifCond .ne 9, 3) := by decide +kernel
theorem dX6_set_14 : decode cX6_set 14 = .ok (.aload_n 0, 1) := by decide +kernel
theorem dX6_set_15 : decode cX6_set 15 = .ok (.iconst 1, 1) := by decide +kernel
theorem dX6_set_16 : decode cX6_set 16 = .ok (.invokevirtual 40, 3) := by decide +kernel
theorem dX6_set_19 : decode cX6_set 19 = .ok (.ireturn, 1) := by decide +kernel
theorem dX6_set_20 : decode cX6_set 20 = .ok (.iload_n 1, 1) := by decide +kernel
theorem dX6_set_21 : decode cX6_set 21 = .ok (.iload_n 2, 1) := by decide +kernel
theorem dX6_set_22 : decode cX6_set 22 = .ok (.invokestatic 95, 3) := by decide +kernel
theorem dX6_set_25 : decode cX6_set 25 = .ok (.ifCond .ne 9, 3) := by decide +kernel
theorem dX6_set_28 : decode cX6_set 28 = .ok (.aload_n 0, 1) := by decide +kernel
theorem dX6_set_29 : decode cX6_set 29 = .ok (.iconst 2, 1) := by decide +kernel
theorem dX6_set_30 : decode cX6_set 30 = .ok (.invokevirtual 40, 3) := by decide +kernel
theorem dX6_set_33 : decode cX6_set 33 = .ok (.ireturn, 1) := by decide +kernel
theorem dX6_set_34 : decode cX6_set 34 = .ok (.aload_n 0, 1) := by decide +kernel
theorem dX6_set_35 : decode cX6_set 35 = .ok (.invokevirtual 86, 3) := by decide +kernel
theorem dX6_set_38 : decode cX6_set 38 = .ok (.aload_n 0, 1) := by decide +kernel
theorem dX6_set_39 : decode cX6_set 39 = .ok (.iload_n 1, 1) := by decide +kernel
theorem dX6_set_40 : decode cX6_set 40 = .ok (.iload_n 2, 1) := by decide +kernel
theorem dX6_set_41 : decode cX6_set 41 = .ok (.invokevirtual 92, 3) := by decide +kernel
theorem dX6_set_44 : decode cX6_set 44 = .ok (.ireturn, 1) := by decide +kernel
theorem dX6_pass_0 : decode cX6_pass 0 = .ok (.aload_n 0, 1) := by decide +kernel
theorem dX6_pass_1 : decode cX6_pass 1 = .ok (.iconst 0, 1) := by decide +kernel
theorem dX6_pass_2 : decode cX6_pass 2 = .ok (.putfield 25, 3) := by decide +kernel
theorem dX6_pass_5 : decode cX6_pass 5 = .ok (.iload_n 1, 1) := by decide +kernel
theorem dX6_pass_6 : decode cX6_pass 6 = .ok (.iconst 1, 1) := by decide +kernel
theorem dX6_pass_7 : decode cX6_pass 7 = .ok (.sipush 300, 3) := by decide +kernel
theorem dX6_pass_10 : decode cX6_pass 10 = .ok (.invokestatic 29, 3) := by decide +kernel
theorem dX6_pass_13 : decode cX6_pass 13 = .ok (.ifCond .ne 9, 3) := by decide +kernel
theorem dX6_pass_16 : decode cX6_pass 16 = .ok (.aload_n 0, 1) := by decide +kernel
theorem dX6_pass_17 : decode cX6_pass 17 = .ok (.iconst 1, 1) := by decide +kernel
theorem dX6_pass_18 : decode cX6_pass 18 = .ok (.invokevirtual 40, 3) := by decide +kernel
theorem dX6_pass_21 : decode cX6_pass 21 = .ok (.ireturn, 1) := by decide +kernel
theorem dX6_pass_22 : decode cX6_pass 22 = .ok (.aload_n 0, 1) := by decide +kernel
theorem dX6_pass_23 : decode cX6_pass 23 = .ok (.invokevirtual 86, 3) := by decide +kernel
theorem dX6_pass_26 : decode cX6_pass 26 = .ok (.aload_n 0, 1) := by decide +kernel
theorem dX6_pass_27 : decode cX6_pass 27 = .ok (.getfield 7, 3) := by decide +kernel
theorem dX6_pass_30 : decode cX6_pass 30 = .ok (.iconst 2, 1) := by decide +kernel
theorem dX6_pass_31 : decode cX6_pass 31 = .ok (.invokestatic 99, 3) := by decide +kernel
theorem dX6_pass_34 : decode cX6_pass 34 = .ok (.istore_n 2, 1) := by decide +kernel
theorem dX6_pass_35 : decode cX6_pass 35 = .ok (.iconst 0, 1) := by decide +kernel
theorem dX6_pass_36 : decode cX6_pass 36 = .ok (.istore_n 3, 1) := by decide +kernel
theorem dX6_pass_37 : decode cX6_pass 37 = .ok (.iload_n 3, 1) := by decide +kernel
theorem dX6_pass_38 : decode cX6_pass 38 = .ok (.iload_n 1, 1) := by decide +kernel
theorem dX6_pass_39 : decode cX6_pass 39 = .ok (.if_icmp .ge 17, 3) := by decide +kernel
theorem dX6_pass_42 : decode cX6_pass 42 = .ok (.aload_n 0, 1) := by decide +kernel
theorem dX6_pass_43 : decode cX6_pass 43 = .ok (.aload_n 0, 1) := by decide +kernel
theorem dX6_pass_44 : decode cX6_pass 44 = .ok (.getfield 7, 3) := by decide +kernel
theorem dX6_pass_47 : decode cX6_pass 47 = .ok (.invokevirtual 102, 3) := by decide +kernel
theorem dX6_pass_50 : decode cX6_pass 50 = .ok (.iinc 3 1, 3) := by decide +kernel
theorem dX6_pass_53 : decode cX6_pass 53 = .ok (.goto (-16), 3) := by decide +kernel
theorem dX6_pass_56 : decode cX6_pass 56 = .ok (.aload_n 0, 1) := by decide +kernel
theorem dX6_pass_57 : decode cX6_pass 57 = .ok (.getfield 7, 3) := by decide +kernel
theorem dX6_pass_60 : decode cX6_pass 60 = .ok (.iconst 2, 1) := by decide +kernel
theorem dX6_pass_61 : decode cX6_pass 61 = .ok (.invokestatic 99, 3) := by decide +kernel
theorem dX6_pass_64 : decode cX6_pass 64 = .ok (.iload_n 2, 1) := by decide +kernel
theorem dX6_pass_65 : decode cX6_pass 65 = .ok (.isub, 1) := by decide +kernel
theorem dX6_pass_66 : decode cX6_pass 66 = .ok (.ireturn, 1) := by decide +kernel
theorem dX6_append_0 : decode cX6_append 0 = .ok (.aload_n 0, 1) := by decide +kernel
theorem dX6_append_1 : decode cX6_append 1 = .ok (.iconst 0, 1) := by decide +kernel
theorem dX6_append_2 : decode cX6_append 2 = .ok (.putfield 25, 3) := by decide +kernel
theorem dX6_append_5 : decode cX6_append 5 = .ok (.iload_n 1, 1) := by decide +kernel
theorem dX6_append_6 : decode cX6_append 6 = .ok (.bipush 33, 2) := by decide +kernel
theorem dX6_append_8 : decode cX6_append 8 = .ok (.bipush 126, 2) := by decide +kernel
theorem dX6_append_10 : decode cX6_append 10 = .ok (.invokestatic 29, 3) := by decide +kernel
theorem dX6_append_13 : decode cX6_append 13 = .ok (.ifCond .ne 9, 3) := by decide +kernel
theorem dX6_append_16 : decode cX6_append 16 = .ok (.aload_n 0, 1) := by decide +kernel
theorem dX6_append_17 : decode cX6_append 17 = .ok (.iconst 1, 1) := by decide +kernel
theorem dX6_append_18 : decode cX6_append 18 = .ok (.invokevirtual 40, 3) := by decide +kernel
theorem dX6_append_21 : decode cX6_append 21 = .ok (.ireturn, 1) := by decide +kernel
theorem dX6_append_22 : decode cX6_append 22 = .ok (.aload_n 0, 1) := by decide +kernel
theorem dX6_append_23 : decode cX6_append 23 = .ok (.getfield 105, 3) := by decide +kernel
theorem dX6_append_26 : decode cX6_append 26 = .ok (.bipush 60, 2) := by decide +kernel
theorem dX6_append_28 : decode cX6_append 28 = .ok (.if_icmp .ne 9, 3) := by decide +kernel
theorem dX6_append_31 : decode cX6_append 31 = .ok (.aload_n 0, 1) := by decide +kernel
theorem dX6_append_32 : decode cX6_append 32 = .ok (.iconst 2, 1) := by decide +kernel
theorem dX6_append_33 : decode cX6_append 33 = .ok (.invokevirtual 40, 3) := by decide +kernel
theorem dX6_append_36 : decode cX6_append 36 = .ok (.ireturn, 1) := by decide +kernel
theorem dX6_append_37 : decode cX6_append 37 = .ok (.aload_n 0, 1) := by decide +kernel
theorem dX6_append_38 : decode cX6_append 38 = .ok (.getfield 19, 3) := by decide +kernel
theorem dX6_append_41 : decode cX6_append 41 = .ok (.aload_n 0, 1) := by decide +kernel
theorem dX6_append_42 : decode cX6_append 42 = .ok (.getfield 105, 3) := by decide +kernel
theorem dX6_append_45 : decode cX6_append 45 = .ok (.iload_n 1, 1) := by decide +kernel
theorem dX6_append_46 : decode cX6_append 46 = .ok (.iastore, 1) := by decide +kernel
theorem dX6_append_47 : decode cX6_append 47 = .ok (.aload_n 0, 1) := by decide +kernel
theorem dX6_append_48 : decode cX6_append 48 = .ok (.dup, 1) := by decide +kernel
theorem dX6_append_49 : decode cX6_append 49 = .ok (.getfield 105, 3) := by decide +kernel
theorem dX6_append_52 : decode cX6_append 52 = .ok (.iconst 1, 1) := by decide +kernel
theorem dX6_append_53 : decode cX6_append 53 = .ok (.iadd, 1) := by decide +kernel
theorem dX6_append_54 : decode cX6_append 54 = .ok (.putfield 105, 3) := by decide +kernel
theorem dX6_append_57 : decode cX6_append 57 = .ok (.aload_n 0, 1) := by decide +kernel
theorem dX6_append_58 : decode cX6_append 58 = .ok (.getfield 105, 3) := by decide +kernel
theorem dX6_append_61 : decode cX6_append 61 = .ok (.ireturn, 1) := by decide +kernel
theorem dX6_clearBuffer_0 : decode cX6_clearBuffer 0 = .ok (.aload_n 0, 1) := by decide +kernel
theorem dX6_clearBuffer_1 : decode cX6_clearBuffer 1 = .ok (.iconst 0, 1) := by decide +kernel
theorem dX6_clearBuffer_2 : decode cX6_clearBuffer 2 = .ok (.putfield 25, 3) := by decide +kernel
theorem dX6_clearBuffer_5 : decode cX6_clearBuffer 5 = .ok (.aload_n 0, 1) := by decide +kernel
theorem dX6_clearBuffer_6 : decode cX6_clearBuffer 6 = .ok (.getfield 105, 3) := by decide +kernel
theorem dX6_clearBuffer_9 : decode cX6_clearBuffer 9 = .ok (.istore_n 1, 1) := by decide +kernel
theorem dX6_clearBuffer_10 : decode cX6_clearBuffer 10 = .ok (.aload_n 0, 1) := by decide +kernel
theorem dX6_clearBuffer_11 : decode cX6_clearBuffer 11 = .ok (.iconst 0, 1) := by decide +kernel
theorem dX6_clearBuffer_12 : decode cX6_clearBuffer 12 = .ok (.putfield 105, 3) := by decide +kernel
theorem dX6_clearBuffer_15 : decode cX6_clearBuffer 15 = .ok (.iload_n 1, 1) := by decide +kernel
theorem dX6_clearBuffer_16 : decode cX6_clearBuffer 16 = .ok (.ireturn, 1) := by decide +kernel
theorem dX6_isAt_0 : decode cX6_isAt 0 = .ok (.aload_n 0, 1) := by decide +kernel
theorem dX6_isAt_1 : decode cX6_isAt 1 = .ok (.getfield 108, 3) := by decide +kernel
theorem dX6_isAt_4 : decode cX6_isAt 4 = .ok (.aload_n 0, 1) := by decide +kernel
theorem dX6_isAt_5 : decode cX6_isAt 5 = .ok (.getfield 105, 3) := by decide +kernel
theorem dX6_isAt_8 : decode cX6_isAt 8 = .ok (.if_icmp .ge 24, 3) := by decide +kernel
theorem dX6_isAt_11 : decode cX6_isAt 11 = .ok (.aload_n 0, 1) := by decide +kernel
theorem dX6_isAt_12 : decode cX6_isAt 12 = .ok (.getfield 19, 3) := by decide +kernel
theorem dX6_isAt_15 : decode cX6_isAt 15 = .ok (.aload_n 0, 1) := by decide +kernel
theorem dX6_isAt_16 : decode cX6_isAt 16 = .ok (.getfield 108, 3) := by decide +kernel
theorem dX6_isAt_19 : decode cX6_isAt 19 = .ok (.iaload, 1) := by decide +kernel
theorem dX6_isAt_20 : decode cX6_isAt 20 = .ok (.iload_n 1, 1) := by decide +kernel
theorem dX6_isAt_21 : decode cX6_isAt 21 = .ok (.iload_n 2, 1) := by decide +kernel
theorem dX6_isAt_22 : decode cX6_isAt 22 = .ok (.invokestatic 29, 3) := by decide +kernel
theorem dX6_isAt_25 : decode cX6_isAt 25 = .ok (.ifCond .eq 7, 3) := by decide +kernel
theorem dX6_isAt_28 : decode cX6_isAt 28 = .ok (.iconst 1, 1) := by decide +kernel
theorem dX6_isAt_29 : decode cX6_isAt 29 = .ok (.goto 4, 3) := by decide +kernel
theorem dX6_isAt_32 : decode cX6_isAt 32 = .ok (.iconst 0, 1) := by decide +kernel
theorem dX6_isAt_33 : decode cX6_isAt 33 = .ok (.ireturn, 1) := by decide +kernel
theorem dX6_stops_0 : decode cX6_stops 0 = .ok (.aload_n 0, 1) := by decide +kernel
theorem dX6_stops_1 : decode cX6_stops 1 = .ok (.aload_n 0, 1) := by decide +kernel
theorem dX6_stops_2 : decode cX6_stops 2 = .ok (.getfield 108, 3) := by decide +kernel
theorem dX6_stops_5 : decode cX6_stops 5 = .ok (.aload_n 0, 1) := by decide +kernel
theorem dX6_stops_6 : decode cX6_stops 6 = .ok (.getfield 105, 3) := by decide +kernel
theorem dX6_stops_9 : decode cX6_stops 9 = .ok (.if_icmp .ge 7, 3) := by decide +kernel
theorem dX6_stops_12 : decode cX6_stops 12 = .ok (.iconst 1, 1) := by decide +kernel
theorem dX6_stops_13 : decode cX6_stops 13 = .ok (.goto 4, 3) := by decide +kernel
theorem dX6_stops_16 : decode cX6_stops 16 = .ok (.iconst 0, 1) := by decide +kernel
theorem dX6_stops_17 : decode cX6_stops 17 = .ok (.putfield 111, 3) := by decide +kernel
theorem dX6_stops_20 : decode cX6_stops 20 = .ok (.iconst 0, 1) := by decide +kernel
theorem dX6_stops_21 : decode cX6_stops 21 = .ok (.ireturn, 1) := by decide +kernel
theorem dX6_isPart_0 : decode cX6_isPart 0 = .ok (.aload_n 0, 1) := by decide +kernel
theorem dX6_isPart_1 : decode cX6_isPart 1 = .ok (.bipush 48, 2) := by decide +kernel
theorem dX6_isPart_3 : decode cX6_isPart 3 = .ok (.bipush 55, 2) := by decide +kernel
theorem dX6_isPart_5 : decode cX6_isPart 5 = .ok (.invokevirtual 115, 3) := by decide +kernel
theorem dX6_isPart_8 : decode cX6_isPart 8 = .ok (.ifCond .ne 8, 3) := by decide +kernel
theorem dX6_isPart_11 : decode cX6_isPart 11 = .ok (.aload_n 0, 1) := by decide +kernel
theorem dX6_isPart_12 : decode cX6_isPart 12 = .ok (.invokevirtual 118, 3) := by decide +kernel
theorem dX6_isPart_15 : decode cX6_isPart 15 = .ok (.ireturn, 1) := by decide +kernel
theorem dX6_isPart_16 : decode cX6_isPart 16 = .ok (.aload_n 0, 1) := by decide +kernel
theorem dX6_isPart_17 : decode cX6_isPart 17 = .ok (.getfield 19, 3) := by decide +kernel
theorem dX6_isPart_20 : decode cX6_isPart 20 = .ok (.aload_n 0, 1) := by decide +kernel
theorem dX6_isPart_21 : decode cX6_isPart 21 = .ok (.getfield 108, 3) := by decide +kernel
theorem dX6_isPart_24 : decode cX6_isPart 24 = .ok (.iaload, 1) := by decide +kernel
theorem dX6_isPart_25 : decode cX6_isPart 25 = .ok (.bipush 48, 2) := by decide +kernel
theorem dX6_isPart_27 : decode cX6_isPart 27 = .ok (.isub, 1) := by decide +kernel
theorem dX6_isPart_28 : decode cX6_isPart 28 = .ok (.istore_n 1, 1) := by decide +kernel
theorem dX6_isPart_29 : decode cX6_isPart 29 = .ok (.aload_n 0, 1) := by decide +kernel
theorem dX6_isPart_30 : decode cX6_isPart 30 = .ok (.dup, 1) := by decide +kernel
theorem dX6_isPart_31 : decode cX6_isPart 31 = .ok (.getfield 108, 3) := by decide +kernel
theorem dX6_isPart_34 : decode cX6_isPart 34 = .ok (.iconst 1, 1) := by decide +kernel
theorem dX6_isPart_35 : decode cX6_isPart 35 = .ok (.iadd, 1) := by decide +kernel
theorem dX6_isPart_36 : decode cX6_isPart 36 = .ok (.putfield 108, 3) := by decide +kernel
theorem dX6_isPart_39 : decode cX6_isPart 39 = .ok (.aload_n 0, 1) := by decide +kernel
theorem dX6_isPart_40 : decode cX6_isPart 40 = .ok (.bipush 62, 2) := by decide +kernel
theorem dX6_isPart_42 : decode cX6_isPart 42 = .ok (.bipush 62, 2) := by decide +kernel
theorem dX6_isPart_44 : decode cX6_isPart 44 = .ok (.invokevirtual 115, 3) := by decide +kernel
theorem dX6_isPart_47 : decode cX6_isPart 47 = .ok (.ifCond .eq 13, 3) := by decide +kernel
theorem dX6_isPart_50 : decode cX6_isPart 50 = .ok (.iload_n 1, 1) := by decide +kernel
theorem dX6_isPart_51 : decode cX6_isPart 51 = .ok (.bipush 7, 2) := by decide +kernel
theorem dX6_isPart_53 : decode cX6_isPart 53 = .ok (.if_icmp .ge 7, 3) := by decide +kernel
theorem dX6_isPart_56 : decode cX6_isPart 56 = .ok (.iconst 1, 1) := by decide +kernel
theorem dX6_isPart_57 : decode cX6_isPart 57 = .ok (.goto 4, 3) := by decide +kernel
theorem dX6_isPart_60 : decode cX6_isPart 60 = .ok (.iconst 0, 1) := by decide +kernel
theorem dX6_isPart_61 : decode cX6_isPart 61 = .ok (.istore_n 2, 1) := by decide +kernel
theorem dX6_isPart_62 : decode cX6_isPart 62 = .ok (.aload_n 0, 1) := by decide +kernel
theorem dX6_isPart_63 : decode cX6_isPart 63 = .ok (.bipush 60, 2) := by decide +kernel
theorem dX6_isPart_65 : decode cX6_isPart 65 = .ok (.bipush 60, 2) := by decide +kernel
theorem dX6_isPart_67 : decode cX6_isPart 67 = .ok (.invokevirtual 115, 3) := by decide +kernel
theorem dX6_isPart_70 : decode cX6_isPart 70 = .ok (.ifCond .eq 11, 3) := by decide +kernel
theorem dX6_isPart_73 : decode cX6_isPart 73 = .ok (.iload_n 1, 1) := by decide +kernel
theorem dX6_isPart_74 : decode cX6_isPart 74 = .ok (.ifCond .le 7, 3) := by decide +kernel
theorem dX6_isPart_77 : decode cX6_isPart 77 = .ok (.iconst 1, 1) := by decide +kernel
theorem dX6_isPart_78 : decode cX6_isPart 78 = .ok (.goto 4, 3) := by decide +kernel
theorem dX6_isPart_81 : decode cX6_isPart 81 = .ok (.iconst 0, 1) := by decide +kernel
theorem dX6_isPart_82 : decode cX6_isPart 82 = .ok (.istore_n 3, 1) := by decide +kernel
theorem dX6_isPart_83 : decode cX6_isPart 83 = .ok (.iload_n 2, 1) := by decide +kernel
theorem dX6_isPart_84 : decode cX6_isPart 84 = .ok (.ifCond .ne 12, 3) := by decide +kernel
theorem dX6_isPart_87 : decode cX6_isPart 87 = .ok (.iload_n 3, 1) := by decide +kernel
theorem dX6_isPart_88 : decode cX6_isPart 88 = .ok (.ifCond .ne 8, 3) := by decide +kernel
theorem dX6_isPart_91 : decode cX6_isPart 91 = .ok (.aload_n 0, 1) := by decide +kernel
theorem dX6_isPart_92 : decode cX6_isPart 92 = .ok (.invokevirtual 118, 3) := by decide +kernel
theorem dX6_isPart_95 : decode cX6_isPart 95 = .ok (.ireturn, 1) := by decide +kernel
theorem dX6_isPart_96 : decode cX6_isPart 96 = .ok (.aload_n 0, 1) := by decide +kernel
theorem dX6_isPart_97 : decode cX6_isPart 97 = .ok (.dup, 1) := by decide +kernel
theorem dX6_isPart_98 : decode cX6_isPart 98 = .ok (.getfield 108, 3) := by decide +kernel
theorem dX6_isPart_101 : decode cX6_isPart 101 = .ok (.iconst 1, 1) := by decide +kernel
theorem dX6_isPart_102 : decode cX6_isPart 102 = .ok (.iadd, 1) := by decide +kernel
theorem dX6_isPart_103 : decode cX6_isPart 103 = .ok (.putfield 108, 3) := by decide +kernel
theorem dX6_isPart_106 : decode cX6_isPart 106 = .ok (.iload_n 2, 1) := by decide +kernel
theorem dX6_isPart_107 : decode cX6_isPart 107 = .ok (.ifCond .eq 19, 3) := by decide +kernel
theorem dX6_isPart_110 : decode cX6_isPart 110 = .ok (.aload_n 0, 1) := by decide +kernel
theorem dX6_isPart_111 : decode cX6_isPart 111 = .ok (.bipush 49, 2) := by decide +kernel
theorem dX6_isPart_113 : decode cX6_isPart 113 = .ok (.iload_n 1, 1) := by decide +kernel
theorem dX6_isPart_114 : decode cX6_isPart 114 = .ok (.iadd, 1) := by decide +kernel
theorem dX6_isPart_115 : decode cX6_isPart 115 = .ok (.bipush 55, 2) := by decide +kernel
theorem dX6_isPart_117 : decode cX6_isPart 117 = .ok (.invokevirtual 115, 3) := by decide +kernel
theorem dX6_isPart_120 : decode cX6_isPart 120 = .ok (.ifCond .eq 21, 3) := by decide +kernel
theorem dX6_isPart_123 : decode cX6_isPart 123 = .ok (.goto 23, 3) := by decide +kernel
theorem dX6_isPart_126 : decode cX6_isPart 126 = .ok (.aload_n 0, 1) := by decide +kernel
theorem dX6_isPart_127 : decode cX6_isPart 127 = .ok (.bipush 48, 2) := by decide +kernel
theorem dX6_isPart_129 : decode cX6_isPart 129 = .ok (.bipush 48, 2) := by decide +kernel
theorem dX6_isPart_131 : decode cX6_isPart 131 = .ok (.iload_n 1, 1) := by decide +kernel
theorem dX6_isPart_132 : decode cX6_isPart 132 = .ok (.iadd, 1) := by decide +kernel
theorem dX6_isPart_133 : decode cX6_isPart 133 = .ok (.iconst 1, 1) := by decide +kernel
theorem dX6_isPart_134 : decode cX6_isPart 134 = .ok (.isub, 1) := by decide +kernel
theorem dX6_isPart_135 : decode cX6_isPart 135 = .ok (.invokevirtual 115, 3) := by decide +kernel
theorem dX6_isPart_138 : decode cX6_isPart 138 = .ok (.ifCond .ne 8, 3) := by decide +kernel
theorem dX6_isPart_141 : decode cX6_isPart 141 = .ok (.aload_n 0, 1) := by decide +kernel
theorem dX6_isPart_142 : decode cX6_isPart 142 = .ok (.invokevirtual 118, 3) := by decide +kernel
theorem dX6_isPart_145 : decode cX6_isPart 145 = .ok (.ireturn, 1) := by decide +kernel
theorem dX6_isPart_146 : decode cX6_isPart 146 = .ok (.aload_n 0, 1) := by decide +kernel
theorem dX6_isPart_147 : decode cX6_isPart 147 = .ok (.getfield 22, 3) := by decide +kernel
theorem dX6_isPart_150 : decode cX6_isPart 150 = .ok (.iconst 2, 1) := by decide +kernel
theorem dX6_isPart_151 : decode cX6_isPart 151 = .ok (.aload_n 0, 1) := by decide +kernel
theorem dX6_isPart_152 : decode cX6_isPart 152 = .ok (.getfield 122, 3) := by decide +kernel
theorem dX6_isPart_155 : decode cX6_isPart 155 = .ok (.imul, 1) := by decide +kernel
theorem dX6_isPart_156 : decode cX6_isPart 156 = .ok (.iload_n 1, 1) := by decide +kernel
theorem dX6_isPart_157 : decode cX6_isPart 157 = .ok (.iastore, 1) := by decide +kernel
theorem dX6_isPart_158 : decode cX6_isPart 158 = .ok (.aload_n 0, 1) := by decide +kernel
theorem dX6_isPart_159 : decode cX6_isPart 159 = .ok (.getfield 22, 3) := by decide +kernel
theorem dX6_isPart_162 : decode cX6_isPart 162 = .ok (.iconst 2, 1) := by decide +kernel
theorem dX6_isPart_163 : decode cX6_isPart 163 = .ok (.aload_n 0, 1) := by decide +kernel
theorem dX6_isPart_164 : decode cX6_isPart 164 = .ok (.getfield 122, 3) := by decide +kernel
theorem dX6_isPart_167 : decode cX6_isPart 167 = .ok (.imul, 1) := by decide +kernel
theorem dX6_isPart_168 : decode cX6_isPart 168 = .ok (.iconst 1, 1) := by decide +kernel
theorem dX6_isPart_169 : decode cX6_isPart 169 = .ok (.iadd, 1) := by decide +kernel
theorem dX6_isPart_170 : decode cX6_isPart 170 = .ok (.aload_n 0, 1) := by decide +kernel
theorem dX6_isPart_171 : decode cX6_isPart 171 = .ok (.getfield 19, 3) := by decide +kernel
theorem dX6_isPart_174 : decode cX6_isPart 174 = .ok (.aload_n 0, 1) := by decide +kernel
theorem dX6_isPart_175 : decode cX6_isPart 175 = .ok (.getfield 108, 3) := by decide +kernel
theorem dX6_isPart_178 : decode cX6_isPart 178 = .ok (.iaload, 1) := by decide +kernel
theorem dX6_isPart_179 : decode cX6_isPart 179 = .ok (.bipush 48, 2) := by decide +kernel
theorem dX6_isPart_181 : decode cX6_isPart 181 = .ok (.isub, 1) := by decide +kernel
theorem dX6_isPart_182 : decode cX6_isPart 182 = .ok (.iastore, 1) := by decide +kernel
theorem dX6_isPart_183 : decode cX6_isPart 183 = .ok (.aload_n 0, 1) := by decide +kernel
theorem dX6_isPart_184 : decode cX6_isPart 184 = .ok (.dup, 1) := by decide +kernel
theorem dX6_isPart_185 : decode cX6_isPart 185 = .ok (.getfield 108, 3) := by decide +kernel
theorem dX6_isPart_188 : decode cX6_isPart 188 = .ok (.iconst 1, 1) := by decide +kernel
theorem dX6_isPart_189 : decode cX6_isPart 189 = .ok (.iadd, 1) := by decide +kernel
theorem dX6_isPart_190 : decode cX6_isPart 190 = .ok (.putfield 108, 3) := by decide +kernel
theorem dX6_isPart_193 : decode cX6_isPart 193 = .ok (.iconst 1, 1) := by decide +kernel
theorem dX6_isPart_194 : decode cX6_isPart 194 = .ok (.ireturn, 1) := by decide +kernel
theorem dX6_isText_0 : decode cX6_isText 0 = .ok (.aload_n 0, 1) := by decide +kernel
theorem dX6_isText_1 : decode cX6_isText 1 = .ok (.iconst 0, 1) := by decide +kernel
theorem dX6_isText_2 : decode cX6_isText 2 = .ok (.putfield 108, 3) := by decide +kernel
theorem dX6_isText_5 : decode cX6_isText 5 = .ok (.aload_n 0, 1) := by decide +kernel
theorem dX6_isText_6 : decode cX6_isText 6 = .ok (.iconst 0, 1) := by decide +kernel
theorem dX6_isText_7 : decode cX6_isText 7 = .ok (.putfield 122, 3) := by decide +kernel
theorem dX6_isText_10 : decode cX6_isText 10 = .ok (.aload_n 0, 1) := by decide +kernel
theorem dX6_isText_11 : decode cX6_isText 11 = .ok (.iconst 0, 1) := by decide +kernel
theorem dX6_isText_12 : decode cX6_isText 12 = .ok (.putfield 111, 3) := by decide +kernel
theorem dX6_isText_15 : decode cX6_isText 15 = .ok (.iconst 1, 1) := by decide +kernel
theorem dX6_isText_16 : decode cX6_isText 16 = .ok (.istore_n 1, 1) := by decide +kernel
theorem dX6_isText_17 : decode cX6_isText 17 = .ok (.iload_n 1, 1) := by decide +kernel
theorem dX6_isText_18 : decode cX6_isText 18 = .ok (.ifCond .eq 52, 3) := by decide +kernel
theorem dX6_isText_21 : decode cX6_isText 21 = .ok (.aload_n 0, 1) := by decide +kernel
theorem dX6_isText_22 : decode cX6_isText 22 = .ok (.invokevirtual 125, 3) := by decide +kernel
theorem dX6_isText_25 : decode cX6_isText 25 = .ok (.ifCond .ne 5, 3) := by decide +kernel
theorem dX6_isText_28 : decode cX6_isText 28 = .ok (.iconst 0, 1) := by decide +kernel
theorem dX6_isText_29 : decode cX6_isText 29 = .ok (.ireturn, 1) := by decide +kernel
theorem dX6_isText_30 : decode cX6_isText 30 = .ok (.aload_n 0, 1) := by decide +kernel
theorem dX6_isText_31 : decode cX6_isText 31 = .ok (.dup, 1) := by decide +kernel
theorem dX6_isText_32 : decode cX6_isText 32 = .ok (.getfield 122, 3) := by decide +kernel
theorem dX6_isText_35 : decode cX6_isText 35 = .ok (.iconst 1, 1) := by decide +kernel
theorem dX6_isText_36 : decode cX6_isText 36 = .ok (.iadd, 1) := by decide +kernel
theorem dX6_isText_37 : decode cX6_isText 37 = .ok (.putfield 122, 3) := by decide +kernel
theorem dX6_isText_40 : decode cX6_isText 40 = .ok (.aload_n 0, 1) := by decide +kernel
theorem dX6_isText_41 : decode cX6_isText 41 = .ok (.bipush 59, 2) := by decide +kernel
theorem dX6_isText_43 : decode cX6_isText 43 = .ok (.bipush 59, 2) := by decide +kernel
theorem dX6_isText_45 : decode cX6_isText 45 = .ok (.invokevirtual 115, 3) := by decide +kernel
theorem dX6_isText_48 : decode cX6_isText 48 = .ok (.istore_n 1, 1) := by decide +kernel
theorem dX6_isText_49 : decode cX6_isText 49 = .ok (.aload_n 0, 1) := by decide +kernel
theorem dX6_isText_50 : decode cX6_isText 50 = .ok (.dup, 1) := by decide +kernel
theorem dX6_isText_51 : decode cX6_isText 51 = .ok (.getfield 108, 3) := by decide +kernel
theorem dX6_isText_54 : decode cX6_isText 54 = .ok (.iload_n 1, 1) := by decide +kernel
theorem dX6_isText_55 : decode cX6_isText 55 = .ok (.ifCond .eq 7, 3) := by decide +kernel
theorem dX6_isText_58 : decode cX6_isText 58 = .ok (.iconst 1, 1) := by decide +kernel
theorem dX6_isText_59 : decode cX6_isText 59 = .ok (.goto 4, 3) := by decide +kernel
theorem dX6_isText_62 : decode cX6_isText 62 = .ok (.iconst 0, 1) := by decide +kernel
theorem dX6_isText_63 : decode cX6_isText 63 = .ok (.iadd, 1) := by decide +kernel
theorem dX6_isText_64 : decode cX6_isText 64 = .ok (.putfield 108, 3) := by decide +kernel
theorem dX6_isText_67 : decode cX6_isText 67 = .ok (.goto (-50), 3) := by decide +kernel
theorem dX6_isText_70 : decode cX6_isText 70 = .ok (.aload_n 0, 1) := by decide +kernel
theorem dX6_isText_71 : decode cX6_isText 71 = .ok (.aload_n 0, 1) := by decide +kernel
theorem dX6_isText_72 : decode cX6_isText 72 = .ok (.getfield 108, 3) := by decide +kernel
theorem dX6_isText_75 : decode cX6_isText 75 = .ok (.aload_n 0, 1) := by decide +kernel
theorem dX6_isText_76 : decode cX6_isText 76 = .ok (.getfield 105, 3) := by decide +kernel
theorem dX6_isText_79 : decode cX6_isText 79 = .ok (.if_icmp .ge 7, 3) := by decide +kernel
theorem dX6_isText_82 : decode cX6_isText 82 = .ok (.iconst 1, 1) := by decide +kernel
theorem dX6_isText_83 : decode cX6_isText 83 = .ok (.goto 4, 3) := by decide +kernel
theorem dX6_isText_86 : decode cX6_isText 86 = .ok (.iconst 0, 1) := by decide +kernel
theorem dX6_isText_87 : decode cX6_isText 87 = .ok (.putfield 111, 3) := by decide +kernel
theorem dX6_isText_90 : decode cX6_isText 90 = .ok (.aload_n 0, 1) := by decide +kernel
theorem dX6_isText_91 : decode cX6_isText 91 = .ok (.getfield 108, 3) := by decide +kernel
theorem dX6_isText_94 : decode cX6_isText 94 = .ok (.aload_n 0, 1) := by decide +kernel
theorem dX6_isText_95 : decode cX6_isText 95 = .ok (.getfield 105, 3) := by decide +kernel
theorem dX6_isText_98 : decode cX6_isText 98 = .ok (.if_icmp .ne 7, 3) := by decide +kernel
theorem dX6_isText_101 : decode cX6_isText 101 = .ok (.iconst 1, 1) := by decide +kernel
theorem dX6_isText_102 : decode cX6_isText 102 = .ok (.goto 4, 3) := by decide +kernel
theorem dX6_isText_105 : decode cX6_isText 105 = .ok (.iconst 0, 1) := by decide +kernel
theorem dX6_isText_106 : decode cX6_isText 106 = .ok (.ireturn, 1) := by decide +kernel
theorem dX6_firstError_0 : decode cX6_firstError 0 = .ok (.aload_n 0, 1) := by decide +kernel
theorem dX6_firstError_1 : decode cX6_firstError 1 = .ok (.iconst 0, 1) := by decide +kernel
theorem dX6_firstError_2 : decode cX6_firstError 2 = .ok (.putfield 25, 3) := by decide +kernel
theorem dX6_firstError_5 : decode cX6_firstError 5 = .ok (.aload_n 0, 1) := by decide +kernel
theorem dX6_firstError_6 : decode cX6_firstError 6 = .ok (.invokevirtual 128, 3) := by decide +kernel
theorem dX6_firstError_9 : decode cX6_firstError 9 = .ok (.istore_n 1, 1) := by decide +kernel
theorem dX6_firstError_10 : decode cX6_firstError 10 = .ok (.iload_n 1, 1) := by decide +kernel
theorem dX6_firstError_11 : decode cX6_firstError 11 = .ok (.ifCond .ne 17, 3) := by decide +kernel
theorem dX6_firstError_14 : decode cX6_firstError 14 = .ok (.aload_n 0, 1) := by decide +kernel
theorem dX6_firstError_15 : decode cX6_firstError 15 = .ok (.getfield 111, 3) := by decide +kernel
theorem dX6_firstError_18 : decode cX6_firstError 18 = .ok (.ifCond .eq 10, 3) := by decide +kernel
theorem dX6_firstError_21 : decode cX6_firstError 21 = .ok (.aload_n 0, 1) := by decide +kernel
theorem dX6_firstError_22 : decode cX6_firstError 22 = .ok (.getfield 108, 3) := by decide +kernel
theorem dX6_firstError_25 : decode cX6_firstError 25 = .ok (.goto 7, 3) := by decide +kernel
theorem dX6_firstError_28 : decode cX6_firstError 28 = .ok (.aload_n 0, 1) := by decide +kernel
theorem dX6_firstError_29 : decode cX6_firstError 29 = .ok (.getfield 105, 3) := by decide +kernel
theorem dX6_firstError_32 : decode cX6_firstError 32 = .ok (.ireturn, 1) := by decide +kernel
theorem dX6_comeAll_0 : decode cX6_comeAll 0 = .ok (.aload_n 0, 1) := by decide +kernel
theorem dX6_comeAll_1 : decode cX6_comeAll 1 = .ok (.iconst 0, 1) := by decide +kernel
theorem dX6_comeAll_2 : decode cX6_comeAll 2 = .ok (.putfield 25, 3) := by decide +kernel
theorem dX6_comeAll_5 : decode cX6_comeAll 5 = .ok (.aload_n 0, 1) := by decide +kernel
theorem dX6_comeAll_6 : decode cX6_comeAll 6 = .ok (.invokevirtual 128, 3) := by decide +kernel
theorem dX6_comeAll_9 : decode cX6_comeAll 9 = .ok (.ifCond .ne 9, 3) := by decide +kernel
theorem dX6_comeAll_12 : decode cX6_comeAll 12 = .ok (.aload_n 0, 1) := by decide +kernel
theorem dX6_comeAll_13 : decode cX6_comeAll 13 = .ok (.iconst 1, 1) := by decide +kernel
theorem dX6_comeAll_14 : decode cX6_comeAll 14 = .ok (.invokevirtual 40, 3) := by decide +kernel
theorem dX6_comeAll_17 : decode cX6_comeAll 17 = .ok (.ireturn, 1) := by decide +kernel
theorem dX6_comeAll_18 : decode cX6_comeAll 18 = .ok (.aload_n 0, 1) := by decide +kernel
theorem dX6_comeAll_19 : decode cX6_comeAll 19 = .ok (.invokevirtual 86, 3) := by decide +kernel
theorem dX6_comeAll_22 : decode cX6_comeAll 22 = .ok (.aload_n 0, 1) := by decide +kernel
theorem dX6_comeAll_23 : decode cX6_comeAll 23 = .ok (.iconst 0, 1) := by decide +kernel
theorem dX6_comeAll_24 : decode cX6_comeAll 24 = .ok (.putfield 105, 3) := by decide +kernel
theorem dX6_comeAll_27 : decode cX6_comeAll 27 = .ok (.aload_n 0, 1) := by decide +kernel
theorem dX6_comeAll_28 : decode cX6_comeAll 28 = .ok (.getfield 7, 3) := by decide +kernel
theorem dX6_comeAll_31 : decode cX6_comeAll 31 = .ok (.iconst 4, 1) := by decide +kernel
theorem dX6_comeAll_32 : decode cX6_comeAll 32 = .ok (.iaload, 1) := by decide +kernel
theorem dX6_comeAll_33 : decode cX6_comeAll 33 = .ok (.istore_n 1, 1) := by decide +kernel
theorem dX6_comeAll_34 : decode cX6_comeAll 34 = .ok (.iconst 0, 1) := by decide +kernel
theorem dX6_comeAll_35 : decode cX6_comeAll 35 = .ok (.istore_n 2, 1) := by decide +kernel
theorem dX6_comeAll_36 : decode cX6_comeAll 36 = .ok (.iload_n 2, 1) := by decide +kernel
theorem dX6_comeAll_37 : decode cX6_comeAll 37 = .ok (.aload_n 0, 1) := by decide +kernel
theorem dX6_comeAll_38 : decode cX6_comeAll 38 = .ok (.getfield 122, 3) := by decide +kernel
theorem dX6_comeAll_41 : decode cX6_comeAll 41 = .ok (.if_icmp .ge 58, 3) := by decide +kernel
theorem dX6_comeAll_44 : decode cX6_comeAll 44 = .ok (.aload_n 0, 1) := by decide +kernel
theorem dX6_comeAll_45 : decode cX6_comeAll 45 = .ok (.getfield 7, 3) := by decide +kernel
theorem dX6_comeAll_48 : decode cX6_comeAll 48 = .ok (.bipush 57, 2) := by decide +kernel
theorem dX6_comeAll_50 : decode cX6_comeAll 50 = .ok (.iaload, 1) := by decide +kernel
theorem dX6_comeAll_51 : decode cX6_comeAll 51 = .ok (.bipush 6, 2) := by decide +kernel
theorem dX6_comeAll_53 : decode cX6_comeAll 53 = .ok (.if_icmp .ne 14, 3) := by decide +kernel
theorem dX6_comeAll_56 : decode cX6_comeAll 56 = .ok (.aload_n 0, 1) := by decide +kernel
theorem dX6_comeAll_57 : decode cX6_comeAll 57 = .ok (.aload_n 0, 1) := by decide +kernel
theorem dX6_comeAll_58 : decode cX6_comeAll 58 = .ok (.getfield 7, 3) := by decide +kernel
theorem dX6_comeAll_61 : decode cX6_comeAll 61 = .ok (.invokevirtual 102, 3) := by decide +kernel
theorem dX6_comeAll_64 : decode cX6_comeAll 64 = .ok (.goto (-20), 3) := by decide +kernel
theorem dX6_comeAll_67 : decode cX6_comeAll 67 = .ok (.aload_n 0, 1) := by decide +kernel
theorem dX6_comeAll_68 : decode cX6_comeAll 68 = .ok (.getfield 7, 3) := by decide +kernel
theorem dX6_comeAll_71 : decode cX6_comeAll 71 = .ok (.aload_n 0, 1) := by decide +kernel
theorem dX6_comeAll_72 : decode cX6_comeAll 72 = .ok (.getfield 22, 3) := by decide +kernel
theorem dX6_comeAll_75 : decode cX6_comeAll 75 = .ok (.iconst 2, 1) := by decide +kernel
theorem dX6_comeAll_76 : decode cX6_comeAll 76 = .ok (.iload_n 2, 1) := by decide +kernel
theorem dX6_comeAll_77 : decode cX6_comeAll 77 = .ok (.imul, 1) := by decide +kernel
theorem dX6_comeAll_78 : decode cX6_comeAll 78 = .ok (.iaload, 1) := by decide +kernel
theorem dX6_comeAll_79 : decode cX6_comeAll 79 = .ok (.aload_n 0, 1) := by decide +kernel
theorem dX6_comeAll_80 : decode cX6_comeAll 80 = .ok (.getfield 22, 3) := by decide +kernel
theorem dX6_comeAll_83 : decode cX6_comeAll 83 = .ok (.iconst 2, 1) := by decide +kernel
theorem dX6_comeAll_84 : decode cX6_comeAll 84 = .ok (.iload_n 2, 1) := by decide +kernel
theorem dX6_comeAll_85 : decode cX6_comeAll 85 = .ok (.imul, 1) := by decide +kernel
theorem dX6_comeAll_86 : decode cX6_comeAll 86 = .ok (.iconst 1, 1) := by decide +kernel
theorem dX6_comeAll_87 : decode cX6_comeAll 87 = .ok (.iadd, 1) := by decide +kernel
theorem dX6_comeAll_88 : decode cX6_comeAll 88 = .ok (.iaload, 1) := by decide +kernel
theorem dX6_comeAll_89 : decode cX6_comeAll 89 = .ok (.invokestatic 89, 3) := by decide +kernel
theorem dX6_comeAll_92 : decode cX6_comeAll 92 = .ok (.pop, 1) := by decide +kernel
theorem dX6_comeAll_93 : decode cX6_comeAll 93 = .ok (.iinc 2 1, 3) := by decide +kernel
theorem dX6_comeAll_96 : decode cX6_comeAll 96 = .ok (.goto (-60), 3) := by decide +kernel
theorem dX6_comeAll_99 : decode cX6_comeAll 99 = .ok (.aload_n 0, 1) := by decide +kernel
theorem dX6_comeAll_100 : decode cX6_comeAll 100 = .ok (.getfield 7, 3) := by decide +kernel
theorem dX6_comeAll_103 : decode cX6_comeAll 103 = .ok (.iconst 4, 1) := by decide +kernel
theorem dX6_comeAll_104 : decode cX6_comeAll 104 = .ok (.iaload, 1) := by decide +kernel
theorem dX6_comeAll_105 : decode cX6_comeAll 105 = .ok (.iload_n 1, 1) := by decide +kernel
theorem dX6_comeAll_106 : decode cX6_comeAll 106 = .ok (.isub, 1) := by decide +kernel
theorem dX6_comeAll_107 : decode cX6_comeAll 107 = .ok (.ireturn, 1) := by decide +kernel
theorem dX6_ofFloor_0 : decode cX6_ofFloor 0 = .ok (.iload_n 2, 1) := by decide +kernel
theorem dX6_ofFloor_1 : decode cX6_ofFloor 1 = .ok (.tableswitch 61 0 3 #[31, 40, 40, 52], 31) := by decide +kernel
theorem dX6_ofFloor_32 : decode cX6_ofFloor 32 = .ok (.aload_n 0, 1) := by decide +kernel
theorem dX6_ofFloor_33 : decode cX6_ofFloor 33 = .ok (.getfield 7, 3) := by decide +kernel
theorem dX6_ofFloor_36 : decode cX6_ofFloor 36 = .ok (.iload_n 1, 1) := by decide +kernel
theorem dX6_ofFloor_37 : decode cX6_ofFloor 37 = .ok (.invokestatic 69, 3) := by decide +kernel
theorem dX6_ofFloor_40 : decode cX6_ofFloor 40 = .ok (.ireturn, 1) := by decide +kernel
theorem dX6_ofFloor_41 : decode cX6_ofFloor 41 = .ok (.aload_n 0, 1) := by decide +kernel
theorem dX6_ofFloor_42 : decode cX6_ofFloor 42 = .ok (.getfield 7, 3) := by decide +kernel
theorem dX6_ofFloor_45 : decode cX6_ofFloor 45 = .ok (.iload_n 1, 1) := by decide +kernel
theorem dX6_ofFloor_46 : decode cX6_ofFloor 46 = .ok (.iload_n 2, 1) := by decide +kernel
theorem dX6_ofFloor_47 : decode cX6_ofFloor 47 = .ok (.iconst 1, 1) := by decide +kernel
theorem dX6_ofFloor_48 : decode cX6_ofFloor 48 = .ok (.isub, 1) := by decide +kernel
theorem dX6_ofFloor_49 : decode cX6_ofFloor 49 = .ok (.invokestatic 44, 3) := by decide +kernel
theorem dX6_ofFloor_52 : decode cX6_ofFloor 52 = .ok (.ireturn, 1) := by decide +kernel
theorem dX6_ofFloor_53 : decode cX6_ofFloor 53 = .ok (.aload_n 0, 1) := by decide +kernel
theorem dX6_ofFloor_54 : decode cX6_ofFloor 54 = .ok (.getfield 7, 3) := by decide +kernel
theorem dX6_ofFloor_57 : decode cX6_ofFloor 57 = .ok (.iload_n 1, 1) := by decide +kernel
theorem dX6_ofFloor_58 : decode cX6_ofFloor 58 = .ok (.invokestatic 55, 3) := by decide +kernel
theorem dX6_ofFloor_61 : decode cX6_ofFloor 61 = .ok (.ireturn, 1) := by decide +kernel
theorem dX6_ofFloor_62 : decode cX6_ofFloor 62 = .ok (.aload_n 0, 1) := by decide +kernel
theorem dX6_ofFloor_63 : decode cX6_ofFloor 63 = .ok (.getfield 7, 3) := by decide +kernel
theorem dX6_ofFloor_66 : decode cX6_ofFloor 66 = .ok (.iload_n 1, 1) := by decide +kernel
theorem dX6_ofFloor_67 : decode cX6_ofFloor 67 = .ok (.iload_n 2, 1) := by decide +kernel
theorem dX6_ofFloor_68 : decode cX6_ofFloor 68 = .ok (.iconst 2, 1) := by decide +kernel
theorem dX6_ofFloor_69 : decode cX6_ofFloor 69 = .ok (.isub, 1) := by decide +kernel
theorem dX6_ofFloor_70 : decode cX6_ofFloor 70 = .ok (.invokestatic 44, 3) := by decide +kernel
theorem dX6_ofFloor_73 : decode cX6_ofFloor 73 = .ok (.ireturn, 1) := by decide +kernel
theorem dX6_floor_0 : decode cX6_floor 0 = .ok (.aload_n 0, 1) := by decide +kernel
theorem dX6_floor_1 : decode cX6_floor 1 = .ok (.iconst 0, 1) := by decide +kernel
theorem dX6_floor_2 : decode cX6_floor 2 = .ok (.putfield 25, 3) := by decide +kernel
theorem dX6_floor_5 : decode cX6_floor 5 = .ok (.iload_n 1, 1) := by decide +kernel
theorem dX6_floor_6 : decode cX6_floor 6 = .ok (.invokestatic 78, 3) := by decide +kernel
theorem dX6_floor_9 : decode cX6_floor 9 = .ok (.ifCond .ne 9, 3) := by decide +kernel
theorem dX6_floor_12 : decode cX6_floor 12 = .ok (.aload_n 0, 1) := by decide +kernel
theorem dX6_floor_13 : decode cX6_floor 13 = .ok (.iconst 1, 1) := by decide +kernel
theorem dX6_floor_14 : decode cX6_floor 14 = .ok (.invokevirtual 40, 3) := by decide +kernel
theorem dX6_floor_17 : decode cX6_floor 17 = .ok (.ireturn, 1) := by decide +kernel
theorem dX6_floor_18 : decode cX6_floor 18 = .ok (.iload_n 2, 1) := by decide +kernel
theorem dX6_floor_19 : decode cX6_floor 19 = .ok (.iconst 0, 1) := by decide +kernel
theorem dX6_floor_20 : decode cX6_floor 20 = .ok (.bipush 7, 2) := by decide +kernel
theorem dX6_floor_22 : decode cX6_floor 22 = .ok (.invokestatic 29, 3) := by decide +kernel
theorem dX6_floor_25 : decode cX6_floor 25 = .ok (.ifCond .eq 12, 3) := by decide +kernel
theorem dX6_floor_28 : decode cX6_floor 28 = .ok (.aload_n 0, 1) := by decide +kernel
theorem dX6_floor_29 : decode cX6_floor 29 = .ok (.iload_n 1, 1) := by decide +kernel
theorem dX6_floor_30 : decode cX6_floor 30 = .ok (.iload_n 2, 1) := by decide +kernel
theorem dX6_floor_31 : decode cX6_floor 31 = .ok (.invokevirtual 131, 3) := by decide +kernel
theorem dX6_floor_34 : decode cX6_floor 34 = .ok (.goto 8, 3) := by decide +kernel
theorem dX6_floor_37 : decode cX6_floor 37 = .ok (.aload_n 0, 1) := by decide +kernel
theorem dX6_floor_38 : decode cX6_floor 38 = .ok (.iconst 2, 1) := by decide +kernel
theorem dX6_floor_39 : decode cX6_floor 39 = .ok (.invokevirtual 40, 3) := by decide +kernel
theorem dX6_floor_42 : decode cX6_floor 42 = .ok (.ireturn, 1) := by decide +kernel
theorem dX6_person_0 : decode cX6_person 0 = .ok (.aload_n 0, 1) := by decide +kernel
theorem dX6_person_1 : decode cX6_person 1 = .ok (.iconst 0, 1) := by decide +kernel
theorem dX6_person_2 : decode cX6_person 2 = .ok (.putfield 25, 3) := by decide +kernel
theorem dX6_person_5 : decode cX6_person 5 = .ok (.iload_n 1, 1) := by decide +kernel
theorem dX6_person_6 : decode cX6_person 6 = .ok (.ifCond .lt 12, 3) := by decide +kernel
theorem dX6_person_9 : decode cX6_person 9 = .ok (.iload_n 2, 1) := by decide +kernel
theorem dX6_person_10 : decode cX6_person 10 = .ok (.iconst 0, 1) := by decide +kernel
theorem dX6_person_11 : decode cX6_person 11 = .ok (.iconst 3, 1) := by decide +kernel
theorem dX6_person_12 : decode cX6_person 12 = .ok (.invokestatic 29, 3) := by decide +kernel
theorem dX6_person_15 : decode cX6_person 15 = .ok (.ifCond .ne 9, 3) := by decide +kernel
theorem dX6_person_18 : decode cX6_person 18 = .ok (.aload_n 0, 1) := by decide +kernel
theorem dX6_person_19 : decode cX6_person 19 = .ok (.iconst 1, 1) := by decide +kernel
theorem dX6_person_20 : decode cX6_person 20 = .ok (.invokevirtual 40, 3) := by decide +kernel
theorem dX6_person_23 : decode cX6_person 23 = .ok (.ireturn, 1) := by decide +kernel
theorem dX6_person_24 : decode cX6_person 24 = .ok (.iload_n 1, 1) := by decide +kernel
theorem dX6_person_25 : decode cX6_person 25 = .ok (.aload_n 0, 1) := by decide +kernel
theorem dX6_person_26 : decode cX6_person 26 = .ok (.getfield 7, 3) := by decide +kernel
theorem dX6_person_29 : decode cX6_person 29 = .ok (.bipush 57, 2) := by decide +kernel
theorem dX6_person_31 : decode cX6_person 31 = .ok (.iaload, 1) := by decide +kernel
theorem dX6_person_32 : decode cX6_person 32 = .ok (.if_icmp .ge 15, 3) := by decide +kernel
theorem dX6_person_35 : decode cX6_person 35 = .ok (.aload_n 0, 1) := by decide +kernel
theorem dX6_person_36 : decode cX6_person 36 = .ok (.getfield 7, 3) := by decide +kernel
theorem dX6_person_39 : decode cX6_person 39 = .ok (.iload_n 1, 1) := by decide +kernel
theorem dX6_person_40 : decode cX6_person 40 = .ok (.iload_n 2, 1) := by decide +kernel
theorem dX6_person_41 : decode cX6_person 41 = .ok (.invokestatic 48, 3) := by decide +kernel
theorem dX6_person_44 : decode cX6_person 44 = .ok (.goto 4, 3) := by decide +kernel
theorem dX6_person_47 : decode cX6_person 47 = .ok (.iconst (-1), 1) := by decide +kernel
theorem dX6_person_48 : decode cX6_person 48 = .ok (.ireturn, 1) := by decide +kernel
theorem dX6_counted_0 : decode cX6_counted 0 = .ok (.iload_n 1, 1) := by decide +kernel
theorem dX6_counted_1 : decode cX6_counted 1 = .ok (.tableswitch 121 0 9 #[55, 62, 70, 77, 85, 85, 85, 96, 96, 109], 55) := by decide +kernel
theorem dX6_counted_56 : decode cX6_counted 56 = .ok (.aload_n 0, 1) := by decide +kernel
theorem dX6_counted_57 : decode cX6_counted 57 = .ok (.getfield 7, 3) := by decide +kernel
theorem dX6_counted_60 : decode cX6_counted 60 = .ok (.iconst 4, 1) := by decide +kernel
theorem dX6_counted_61 : decode cX6_counted 61 = .ok (.iaload, 1) := by decide +kernel
theorem dX6_counted_62 : decode cX6_counted 62 = .ok (.ireturn, 1) := by decide +kernel
theorem dX6_counted_63 : decode cX6_counted 63 = .ok (.aload_n 0, 1) := by decide +kernel
theorem dX6_counted_64 : decode cX6_counted 64 = .ok (.getfield 7, 3) := by decide +kernel
theorem dX6_counted_67 : decode cX6_counted 67 = .ok (.bipush 57, 2) := by decide +kernel
theorem dX6_counted_69 : decode cX6_counted 69 = .ok (.iaload, 1) := by decide +kernel
theorem dX6_counted_70 : decode cX6_counted 70 = .ok (.ireturn, 1) := by decide +kernel
theorem dX6_counted_71 : decode cX6_counted 71 = .ok (.aload_n 0, 1) := by decide +kernel
theorem dX6_counted_72 : decode cX6_counted 72 = .ok (.getfield 7, 3) := by decide +kernel
theorem dX6_counted_75 : decode cX6_counted 75 = .ok (.iconst 5, 1) := by decide +kernel
theorem dX6_counted_76 : decode cX6_counted 76 = .ok (.iaload, 1) := by decide +kernel
theorem dX6_counted_77 : decode cX6_counted 77 = .ok (.ireturn, 1) := by decide +kernel
theorem dX6_counted_78 : decode cX6_counted 78 = .ok (.aload_n 0, 1) := by decide +kernel
theorem dX6_counted_79 : decode cX6_counted 79 = .ok (.getfield 7, 3) := by decide +kernel
theorem dX6_counted_82 : decode cX6_counted 82 = .ok (.invokestatic 134, 3) := by decide +kernel
theorem dX6_counted_85 : decode cX6_counted 85 = .ok (.ireturn, 1) := by decide +kernel
theorem dX6_counted_86 : decode cX6_counted 86 = .ok (.aload_n 0, 1) := by decide +kernel
theorem dX6_counted_87 : decode cX6_counted 87 = .ok (.getfield 7, 3) := by decide +kernel
theorem dX6_counted_90 : decode cX6_counted 90 = .ok (.iload_n 1, 1) := by decide +kernel
theorem dX6_counted_91 : decode cX6_counted 91 = .ok (.iconst 2, 1) := by decide +kernel
theorem dX6_counted_92 : decode cX6_counted 92 = .ok (.isub, 1) := by decide +kernel
theorem dX6_counted_93 : decode cX6_counted 93 = .ok (.invokestatic 99, 3) := by decide +kernel
theorem dX6_counted_96 : decode cX6_counted 96 = .ok (.ireturn, 1) := by decide +kernel
theorem dX6_counted_97 : decode cX6_counted 97 = .ok (.aload_n 0, 1) := by decide +kernel
theorem dX6_counted_98 : decode cX6_counted 98 = .ok (.getfield 7, 3) := by decide +kernel
theorem dX6_counted_101 : decode cX6_counted 101 = .ok (.bipush 6, 2) := by decide +kernel
theorem dX6_counted_103 : decode cX6_counted 103 = .ok (.iload_n 1, 1) := by decide +kernel
theorem dX6_counted_104 : decode cX6_counted 104 = .ok (.iadd, 1) := by decide +kernel
theorem dX6_counted_105 : decode cX6_counted 105 = .ok (.bipush 7, 2) := by decide +kernel
theorem dX6_counted_107 : decode cX6_counted 107 = .ok (.isub, 1) := by decide +kernel
theorem dX6_counted_108 : decode cX6_counted 108 = .ok (.iaload, 1) := by decide +kernel
theorem dX6_counted_109 : decode cX6_counted 109 = .ok (.ireturn, 1) := by decide +kernel
theorem dX6_counted_110 : decode cX6_counted 110 = .ok (.bipush 8, 2) := by decide +kernel
theorem dX6_counted_112 : decode cX6_counted 112 = .ok (.aload_n 0, 1) := by decide +kernel
theorem dX6_counted_113 : decode cX6_counted 113 = .ok (.getfield 7, 3) := by decide +kernel
theorem dX6_counted_116 : decode cX6_counted 116 = .ok (.iconst 1, 1) := by decide +kernel
theorem dX6_counted_117 : decode cX6_counted 117 = .ok (.invokestatic 99, 3) := by decide +kernel
theorem dX6_counted_120 : decode cX6_counted 120 = .ok (.isub, 1) := by decide +kernel
theorem dX6_counted_121 : decode cX6_counted 121 = .ok (.ireturn, 1) := by decide +kernel
theorem dX6_counted_122 : decode cX6_counted 122 = .ok (.aload_n 0, 1) := by decide +kernel
theorem dX6_counted_123 : decode cX6_counted 123 = .ok (.getfield 33, 3) := by decide +kernel
theorem dX6_counted_126 : decode cX6_counted 126 = .ok (.ireturn, 1) := by decide +kernel
theorem dX6_count_0 : decode cX6_count 0 = .ok (.aload_n 0, 1) := by decide +kernel
theorem dX6_count_1 : decode cX6_count 1 = .ok (.iconst 0, 1) := by decide +kernel
theorem dX6_count_2 : decode cX6_count 2 = .ok (.putfield 25, 3) := by decide +kernel
theorem dX6_count_5 : decode cX6_count 5 = .ok (.iload_n 1, 1) := by decide +kernel
theorem dX6_count_6 : decode cX6_count 6 = .ok (.iconst 0, 1) := by decide +kernel
theorem dX6_count_7 : decode cX6_count 7 = .ok (.bipush 10, 2) := by decide +kernel
theorem dX6_count_9 : decode cX6_count 9 = .ok (.invokestatic 29, 3) := by decide +kernel
theorem dX6_count_12 : decode cX6_count 12 = .ok (.ifCond .eq 11, 3) := by decide +kernel
theorem dX6_count_15 : decode cX6_count 15 = .ok (.aload_n 0, 1) := by decide +kernel
theorem dX6_count_16 : decode cX6_count 16 = .ok (.iload_n 1, 1) := by decide +kernel
theorem dX6_count_17 : decode cX6_count 17 = .ok (.invokevirtual 138, 3) := by decide +kernel
theorem dX6_count_20 : decode cX6_count 20 = .ok (.goto 8, 3) := by decide +kernel
theorem dX6_count_23 : decode cX6_count 23 = .ok (.aload_n 0, 1) := by decide +kernel
theorem dX6_count_24 : decode cX6_count 24 = .ok (.iconst 1, 1) := by decide +kernel
theorem dX6_count_25 : decode cX6_count 25 = .ok (.invokevirtual 40, 3) := by decide +kernel
theorem dX6_count_28 : decode cX6_count 28 = .ok (.ireturn, 1) := by decide +kernel
theorem dX6_setting_0 : decode cX6_setting 0 = .ok (.aload_n 0, 1) := by decide +kernel
theorem dX6_setting_1 : decode cX6_setting 1 = .ok (.iconst 0, 1) := by decide +kernel
theorem dX6_setting_2 : decode cX6_setting 2 = .ok (.putfield 25, 3) := by decide +kernel
theorem dX6_setting_5 : decode cX6_setting 5 = .ok (.iload_n 1, 1) := by decide +kernel
theorem dX6_setting_6 : decode cX6_setting 6 = .ok (.iconst 0, 1) := by decide +kernel
theorem dX6_setting_7 : decode cX6_setting 7 = .ok (.iconst 3, 1) := by decide +kernel
theorem dX6_setting_8 : decode cX6_setting 8 = .ok (.invokestatic 29, 3) := by decide +kernel
theorem dX6_setting_11 : decode cX6_setting 11 = .ok (.ifCond .eq 12, 3) := by decide +kernel
theorem dX6_setting_14 : decode cX6_setting 14 = .ok (.aload_n 0, 1) := by decide +kernel
theorem dX6_setting_15 : decode cX6_setting 15 = .ok (.getfield 7, 3) := by decide +kernel
theorem dX6_setting_18 : decode cX6_setting 18 = .ok (.iload_n 1, 1) := by decide +kernel
theorem dX6_setting_19 : decode cX6_setting 19 = .ok (.iaload, 1) := by decide +kernel
theorem dX6_setting_20 : decode cX6_setting 20 = .ok (.goto 8, 3) := by decide +kernel
theorem dX6_setting_23 : decode cX6_setting 23 = .ok (.aload_n 0, 1) := by decide +kernel
theorem dX6_setting_24 : decode cX6_setting 24 = .ok (.iconst 1, 1) := by decide +kernel
theorem dX6_setting_25 : decode cX6_setting 25 = .ok (.invokevirtual 40, 3) := by decide +kernel
theorem dX6_setting_28 : decode cX6_setting 28 = .ok (.ireturn, 1) := by decide +kernel
theorem dX6_byPassing_0 : decode cX6_byPassing 0 = .ok (.aload_n 0, 1) := by decide +kernel
theorem dX6_byPassing_1 : decode cX6_byPassing 1 = .ok (.getfield 7, 3) := by decide +kernel
theorem dX6_byPassing_4 : decode cX6_byPassing 4 = .ok (.iconst 0, 1) := by decide +kernel
theorem dX6_byPassing_5 : decode cX6_byPassing 5 = .ok (.aload_n 0, 1) := by decide +kernel
theorem dX6_byPassing_6 : decode cX6_byPassing 6 = .ok (.getfield 13, 3) := by decide +kernel
theorem dX6_byPassing_9 : decode cX6_byPassing 9 = .ok (.iconst 0, 1) := by decide +kernel
theorem dX6_byPassing_10 : decode cX6_byPassing 10 = .ok (.invokestatic 36, 3) := by decide +kernel
theorem dX6_byPassing_13 : decode cX6_byPassing 13 = .ok (.iconst 0, 1) := by decide +kernel
theorem dX6_byPassing_14 : decode cX6_byPassing 14 = .ok (.istore_n 3, 1) := by decide +kernel
theorem dX6_byPassing_15 : decode cX6_byPassing 15 = .ok (.iload_n 3, 1) := by decide +kernel
theorem dX6_byPassing_16 : decode cX6_byPassing 16 = .ok (.iload_n 1, 1) := by decide +kernel
theorem dX6_byPassing_17 : decode cX6_byPassing 17 = .ok (.if_icmp .ge 17, 3) := by decide +kernel
theorem dX6_byPassing_20 : decode cX6_byPassing 20 = .ok (.aload_n 0, 1) := by decide +kernel
theorem dX6_byPassing_21 : decode cX6_byPassing 21 = .ok (.aload_n 0, 1) := by decide +kernel
theorem dX6_byPassing_22 : decode cX6_byPassing 22 = .ok (.getfield 13, 3) := by decide +kernel
theorem dX6_byPassing_25 : decode cX6_byPassing 25 = .ok (.invokevirtual 102, 3) := by decide +kernel
theorem dX6_byPassing_28 : decode cX6_byPassing 28 = .ok (.iinc 3 1, 3) := by decide +kernel
theorem dX6_byPassing_31 : decode cX6_byPassing 31 = .ok (.goto (-16), 3) := by decide +kernel
theorem dX6_byPassing_34 : decode cX6_byPassing 34 = .ok (.iload_n 2, 1) := by decide +kernel
theorem dX6_byPassing_35 : decode cX6_byPassing 35 = .ok (.ifCond .ne 23, 3) := by decide +kernel
theorem dX6_byPassing_38 : decode cX6_byPassing 38 = .ok (.aload_n 0, 1) := by decide +kernel
theorem dX6_byPassing_39 : decode cX6_byPassing 39 = .ok (.getfield 13, 3) := by decide +kernel
theorem dX6_byPassing_42 : decode cX6_byPassing 42 = .ok (.iconst 2, 1) := by decide +kernel
theorem dX6_byPassing_43 : decode cX6_byPassing 43 = .ok (.invokestatic 99, 3) := by decide +kernel
theorem dX6_byPassing_46 : decode cX6_byPassing 46 = .ok (.aload_n 0, 1) := by decide +kernel
theorem dX6_byPassing_47 : decode cX6_byPassing 47 = .ok (.getfield 7, 3) := by decide +kernel
theorem dX6_byPassing_50 : decode cX6_byPassing 50 = .ok (.iconst 2, 1) := by decide +kernel
theorem dX6_byPassing_51 : decode cX6_byPassing 51 = .ok (.invokestatic 99, 3) := by decide +kernel
theorem dX6_byPassing_54 : decode cX6_byPassing 54 = .ok (.isub, 1) := by decide +kernel
theorem dX6_byPassing_55 : decode cX6_byPassing 55 = .ok (.goto 50, 3) := by decide +kernel
theorem dX6_byPassing_58 : decode cX6_byPassing 58 = .ok (.iload_n 2, 1) := by decide +kernel
theorem dX6_byPassing_59 : decode cX6_byPassing 59 = .ok (.iconst 1, 1) := by decide +kernel
theorem dX6_byPassing_60 : decode cX6_byPassing 60 = .ok (.if_icmp .ne 23, 3) := by decide +kernel
theorem dX6_byPassing_63 : decode cX6_byPassing 63 = .ok (.aload_n 0, 1) := by decide +kernel
theorem dX6_byPassing_64 : decode cX6_byPassing 64 = .ok (.getfield 13, 3) := by decide +kernel
theorem dX6_byPassing_67 : decode cX6_byPassing 67 = .ok (.iconst 4, 1) := by decide +kernel
theorem dX6_byPassing_68 : decode cX6_byPassing 68 = .ok (.invokestatic 99, 3) := by decide +kernel
theorem dX6_byPassing_71 : decode cX6_byPassing 71 = .ok (.aload_n 0, 1) := by decide +kernel
theorem dX6_byPassing_72 : decode cX6_byPassing 72 = .ok (.getfield 7, 3) := by decide +kernel
theorem dX6_byPassing_75 : decode cX6_byPassing 75 = .ok (.iconst 4, 1) := by decide +kernel
theorem dX6_byPassing_76 : decode cX6_byPassing 76 = .ok (.invokestatic 99, 3) := by decide +kernel
theorem dX6_byPassing_79 : decode cX6_byPassing 79 = .ok (.isub, 1) := by decide +kernel
theorem dX6_byPassing_80 : decode cX6_byPassing 80 = .ok (.goto 25, 3) := by decide +kernel
theorem dX6_byPassing_83 : decode cX6_byPassing 83 = .ok (.iload_n 2, 1) := by decide +kernel
theorem dX6_byPassing_84 : decode cX6_byPassing 84 = .ok (.iconst 2, 1) := by decide +kernel
theorem dX6_byPassing_85 : decode cX6_byPassing 85 = .ok (.if_icmp .ne 13, 3) := by decide +kernel
theorem dX6_byPassing_88 : decode cX6_byPassing 88 = .ok (.aload_n 0, 1) := by decide +kernel
theorem dX6_byPassing_89 : decode cX6_byPassing 89 = .ok (.getfield 13, 3) := by decide +kernel
theorem dX6_byPassing_92 : decode cX6_byPassing 92 = .ok (.bipush 57, 2) := by decide +kernel
theorem dX6_byPassing_94 : decode cX6_byPassing 94 = .ok (.iaload, 1) := by decide +kernel
theorem dX6_byPassing_95 : decode cX6_byPassing 95 = .ok (.goto 10, 3) := by decide +kernel
theorem dX6_byPassing_98 : decode cX6_byPassing 98 = .ok (.aload_n 0, 1) := by decide +kernel
theorem dX6_byPassing_99 : decode cX6_byPassing 99 = .ok (.getfield 13, 3) := by decide +kernel
theorem dX6_byPassing_102 : decode cX6_byPassing 102 = .ok (.invokestatic 134, 3) := by decide +kernel
theorem dX6_byPassing_105 : decode cX6_byPassing 105 = .ok (.ireturn, 1) := by decide +kernel
theorem dX6_ifPassed_0 : decode cX6_ifPassed 0 = .ok (.aload_n 0, 1) := by decide +kernel
theorem dX6_ifPassed_1 : decode cX6_ifPassed 1 = .ok (.iconst 0, 1) := by decide +kernel
theorem dX6_ifPassed_2 : decode cX6_ifPassed 2 = .ok (.putfield 25, 3) := by decide +kernel
theorem dX6_ifPassed_5 : decode cX6_ifPassed 5 = .ok (.iload_n 1, 1) := by decide +kernel
theorem dX6_ifPassed_6 : decode cX6_ifPassed 6 = .ok (.iconst 1, 1) := by decide +kernel
theorem dX6_ifPassed_7 : decode cX6_ifPassed 7 = .ok (.sipush 300, 3) := by decide +kernel
theorem dX6_ifPassed_10 : decode cX6_ifPassed 10 = .ok (.invokestatic 29, 3) := by decide +kernel
theorem dX6_ifPassed_13 : decode cX6_ifPassed 13 = .ok (.ifCond .eq 21, 3) := by decide +kernel
theorem dX6_ifPassed_16 : decode cX6_ifPassed 16 = .ok (.iload_n 2, 1) := by decide +kernel
theorem dX6_ifPassed_17 : decode cX6_ifPassed 17 = .ok (.iconst 0, 1) := by decide +kernel
theorem dX6_ifPassed_18 : decode cX6_ifPassed 18 = .ok (.iconst 3, 1) := by decide +kernel
theorem dX6_ifPassed_19 : decode cX6_ifPassed 19 = .ok (.invokestatic 29, 3) := by decide +kernel
theorem dX6_ifPassed_22 : decode cX6_ifPassed 22 = .ok (.ifCond .eq 12, 3) := by decide +kernel
theorem dX6_ifPassed_25 : decode cX6_ifPassed 25 = .ok (.aload_n 0, 1) := by decide +kernel
theorem dX6_ifPassed_26 : decode cX6_ifPassed 26 = .ok (.iload_n 1, 1) := by decide +kernel
theorem dX6_ifPassed_27 : decode cX6_ifPassed 27 = .ok (.iload_n 2, 1) := by decide +kernel
theorem dX6_ifPassed_28 : decode cX6_ifPassed 28 = .ok (.invokevirtual 141, 3) := by decide +kernel
theorem dX6_ifPassed_31 : decode cX6_ifPassed 31 = .ok (.goto 8, 3) := by decide +kernel
theorem dX6_ifPassed_34 : decode cX6_ifPassed 34 = .ok (.aload_n 0, 1) := by decide +kernel
theorem dX6_ifPassed_35 : decode cX6_ifPassed 35 = .ok (.iconst 1, 1) := by decide +kernel
theorem dX6_ifPassed_36 : decode cX6_ifPassed 36 = .ok (.invokevirtual 40, 3) := by decide +kernel
theorem dX6_ifPassed_39 : decode cX6_ifPassed 39 = .ok (.ireturn, 1) := by decide +kernel
theorem dX6_isThere_0 : decode cX6_isThere 0 = .ok (.iconst 0, 1) := by decide +kernel
theorem dX6_isThere_1 : decode cX6_isThere 1 = .ok (.istore_n 2, 1) := by decide +kernel
theorem dX6_isThere_2 : decode cX6_isThere 2 = .ok (.iconst 0, 1) := by decide +kernel
theorem dX6_isThere_3 : decode cX6_isThere 3 = .ok (.istore_n 3, 1) := by decide +kernel
theorem dX6_isThere_4 : decode cX6_isThere 4 = .ok (.iload_n 3, 1) := by decide +kernel
theorem dX6_isThere_5 : decode cX6_isThere 5 = .ok (.aload_n 0, 1) := by decide +kernel
theorem dX6_isThere_6 : decode cX6_isThere 6 = .ok (.bipush 57, 2) := by decide +kernel
theorem dX6_isThere_8 : decode cX6_isThere 8 = .ok (.iaload, 1) := by decide +kernel
theorem dX6_isThere_9 : decode cX6_isThere 9 = .ok (.if_icmp .ge 29, 3) := by decide +kernel
theorem dX6_isThere_12 : decode cX6_isThere 12 = .ok (.iload_n 2, 1) := by decide +kernel
theorem dX6_isThere_13 : decode cX6_isThere 13 = .ok (.ifCond .ne 13, 3) := by decide +kernel
theorem dX6_isThere_16 : decode cX6_isThere 16 = .ok (.aload_n 0, 1) := by decide +kernel
theorem dX6_isThere_17 : decode cX6_isThere 17 = .ok (.iload_n 3, 1) := by decide +kernel
theorem dX6_isThere_18 : decode cX6_isThere 18 = .ok (.iconst 0, 1) := by decide +kernel
theorem dX6_isThere_19 : decode cX6_isThere 19 = .ok (.invokestatic 48, 3) := by decide +kernel
theorem dX6_isThere_22 : decode cX6_isThere 22 = .ok (.iload_n 1, 1) := by decide +kernel
theorem dX6_isThere_23 : decode cX6_isThere 23 = .ok (.if_icmp .ne 7, 3) := by decide +kernel
theorem dX6_isThere_26 : decode cX6_isThere 26 = .ok (.iconst 1, 1) := by decide +kernel
theorem dX6_isThere_27 : decode cX6_isThere 27 = .ok (.goto 4, 3) := by decide +kernel
theorem dX6_isThere_30 : decode cX6_isThere 30 = .ok (.iconst 0, 1) := by decide +kernel
theorem dX6_isThere_31 : decode cX6_isThere 31 = .ok (.istore_n 2, 1) := by decide +kernel
theorem dX6_isThere_32 : decode cX6_isThere 32 = .ok (.iinc 3 1, 3) := by decide +kernel
theorem dX6_isThere_35 : decode cX6_isThere 35 = .ok (.goto (-31), 3) := by decide +kernel
theorem dX6_isThere_38 : decode cX6_isThere 38 = .ok (.iload_n 2, 1) := by decide +kernel
theorem dX6_isThere_39 : decode cX6_isThere 39 = .ok (.ireturn, 1) := by decide +kernel
theorem dX6_walked_0 : decode cX6_walked 0 = .ok (.aload_n 0, 1) := by decide +kernel
theorem dX6_walked_1 : decode cX6_walked 1 = .ok (.getfield 7, 3) := by decide +kernel
theorem dX6_walked_4 : decode cX6_walked 4 = .ok (.iconst 0, 1) := by decide +kernel
theorem dX6_walked_5 : decode cX6_walked 5 = .ok (.aload_n 0, 1) := by decide +kernel
theorem dX6_walked_6 : decode cX6_walked 6 = .ok (.getfield 13, 3) := by decide +kernel
theorem dX6_walked_9 : decode cX6_walked 9 = .ok (.iconst 0, 1) := by decide +kernel
theorem dX6_walked_10 : decode cX6_walked 10 = .ok (.invokestatic 36, 3) := by decide +kernel
theorem dX6_walked_13 : decode cX6_walked 13 = .ok (.aload_n 0, 1) := by decide +kernel
theorem dX6_walked_14 : decode cX6_walked 14 = .ok (.getfield 13, 3) := by decide +kernel
theorem dX6_walked_17 : decode cX6_walked 17 = .ok (.iconst 0, 1) := by decide +kernel
theorem dX6_walked_18 : decode cX6_walked 18 = .ok (.iload_n 3, 1) := by decide +kernel
theorem dX6_walked_19 : decode cX6_walked 19 = .ok (.iastore, 1) := by decide +kernel
theorem dX6_walked_20 : decode cX6_walked 20 = .ok (.aload_n 0, 1) := by decide +kernel
theorem dX6_walked_21 : decode cX6_walked 21 = .ok (.aload_n 0, 1) := by decide +kernel
theorem dX6_walked_22 : decode cX6_walked 22 = .ok (.getfield 13, 3) := by decide +kernel
theorem dX6_walked_25 : decode cX6_walked 25 = .ok (.iload_n 1, 1) := by decide +kernel
theorem dX6_walked_26 : decode cX6_walked 26 = .ok (.iload_n 2, 1) := by decide +kernel
theorem dX6_walked_27 : decode cX6_walked 27 = .ok (.invokestatic 89, 3) := by decide +kernel
theorem dX6_walked_30 : decode cX6_walked 30 = .ok (.putfield 75, 3) := by decide +kernel
theorem dX6_walked_33 : decode cX6_walked 33 = .ok (.aload_n 0, 1) := by decide +kernel
theorem dX6_walked_34 : decode cX6_walked 34 = .ok (.iconst 0, 1) := by decide +kernel
theorem dX6_walked_35 : decode cX6_walked 35 = .ok (.putfield 72, 3) := by decide +kernel
theorem dX6_walked_38 : decode cX6_walked 38 = .ok (.aload_n 0, 1) := by decide +kernel
theorem dX6_walked_39 : decode cX6_walked 39 = .ok (.getfield 13, 3) := by decide +kernel
theorem dX6_walked_42 : decode cX6_walked 42 = .ok (.aload_n 0, 1) := by decide +kernel
theorem dX6_walked_43 : decode cX6_walked 43 = .ok (.getfield 75, 3) := by decide +kernel
theorem dX6_walked_46 : decode cX6_walked 46 = .ok (.invokestatic 144, 3) := by decide +kernel
theorem dX6_walked_49 : decode cX6_walked 49 = .ok (.ifCond .eq 14, 3) := by decide +kernel
theorem dX6_walked_52 : decode cX6_walked 52 = .ok (.aload_n 0, 1) := by decide +kernel
theorem dX6_walked_53 : decode cX6_walked 53 = .ok (.aload_n 0, 1) := by decide +kernel
theorem dX6_walked_54 : decode cX6_walked 54 = .ok (.getfield 13, 3) := by decide +kernel
theorem dX6_walked_57 : decode cX6_walked 57 = .ok (.invokevirtual 102, 3) := by decide +kernel
theorem dX6_walked_60 : decode cX6_walked 60 = .ok (.goto (-22), 3) := by decide +kernel
theorem dX6_walked_63 : decode cX6_walked 63 = .ok (.aload_n 0, 1) := by decide +kernel
theorem dX6_walked_64 : decode cX6_walked 64 = .ok (.getfield 72, 3) := by decide +kernel
theorem dX6_walked_67 : decode cX6_walked 67 = .ok (.ireturn, 1) := by decide +kernel
theorem dX6_dark_0 : decode cX6_dark 0 = .ok (.aload_n 0, 1) := by decide +kernel
theorem dX6_dark_1 : decode cX6_dark 1 = .ok (.iload_n 1, 1) := by decide +kernel
theorem dX6_dark_2 : decode cX6_dark 2 = .ok (.iload_n 2, 1) := by decide +kernel
theorem dX6_dark_3 : decode cX6_dark 3 = .ok (.invokestatic 82, 3) := by decide +kernel
theorem dX6_dark_6 : decode cX6_dark 6 = .ok (.putfield 25, 3) := by decide +kernel
theorem dX6_dark_9 : decode cX6_dark 9 = .ok (.aload_n 0, 1) := by decide +kernel
theorem dX6_dark_10 : decode cX6_dark 10 = .ok (.getfield 25, 3) := by decide +kernel
theorem dX6_dark_13 : decode cX6_dark 13 = .ok (.ifCond .ne 18, 3) := by decide +kernel
theorem dX6_dark_16 : decode cX6_dark 16 = .ok (.aload_n 0, 1) := by decide +kernel
theorem dX6_dark_17 : decode cX6_dark 17 = .ok (.iload_n 1, 1) := by decide +kernel
theorem dX6_dark_18 : decode cX6_dark 18 = .ok (.iload_n 2, 1) := by decide +kernel
theorem dX6_dark_19 : decode cX6_dark 19 = .ok (.aload_n 0, 1) := by decide +kernel
theorem dX6_dark_20 : decode cX6_dark 20 = .ok (.getfield 7, 3) := by decide +kernel
theorem dX6_dark_23 : decode cX6_dark 23 = .ok (.iconst 0, 1) := by decide +kernel
theorem dX6_dark_24 : decode cX6_dark 24 = .ok (.iaload, 1) := by decide +kernel
theorem dX6_dark_25 : decode cX6_dark 25 = .ok (.invokevirtual 148, 3) := by decide +kernel
theorem dX6_dark_28 : decode cX6_dark 28 = .ok (.goto 4, 3) := by decide +kernel
theorem dX6_dark_31 : decode cX6_dark 31 = .ok (.iconst 0, 1) := by decide +kernel
theorem dX6_dark_32 : decode cX6_dark 32 = .ok (.ireturn, 1) := by decide +kernel
theorem dX6_least_0 : decode cX6_least 0 = .ok (.iconst 1, 1) := by decide +kernel
theorem dX6_least_1 : decode cX6_least 1 = .ok (.istore_n 3, 1) := by decide +kernel
theorem dX6_least_2 : decode cX6_least 2 = .ok (.aload_n 0, 1) := by decide +kernel
theorem dX6_least_3 : decode cX6_least 3 = .ok (.iload_n 1, 1) := by decide +kernel
theorem dX6_least_4 : decode cX6_least 4 = .ok (.iload_n 2, 1) := by decide +kernel
theorem dX6_least_5 : decode cX6_least 5 = .ok (.iconst 1, 1) := by decide +kernel
theorem dX6_least_6 : decode cX6_least 6 = .ok (.invokevirtual 148, 3) := by decide +kernel
theorem dX6_least_9 : decode cX6_least 9 = .ok (.istore 4, 2) := by decide +kernel
theorem dX6_least_11 : decode cX6_least 11 = .ok (.iconst 2, 1) := by decide +kernel
theorem dX6_least_12 : decode cX6_least 12 = .ok (.istore 5, 2) := by decide +kernel
theorem dX6_least_14 : decode cX6_least 14 = .ok (.iload 5, 2) := by decide +kernel
theorem dX6_least_16 : decode cX6_least 16 = .ok (.sipush 200, 3) := by decide +kernel
theorem dX6_least_19 : decode cX6_least 19 = .ok (.if_icmp .gt 54, 3) := by decide +kernel
theorem dX6_least_22 : decode cX6_least 22 = .ok (.iload 4, 2) := by decide +kernel
theorem dX6_least_24 : decode cX6_least 24 = .ok (.ifCond .le 49, 3) := by decide +kernel
theorem dX6_least_27 : decode cX6_least 27 = .ok (.aload_n 0, 1) := by decide +kernel
theorem dX6_least_28 : decode cX6_least 28 = .ok (.iload_n 1, 1) := by decide +kernel
theorem dX6_least_29 : decode cX6_least 29 = .ok (.iload_n 2, 1) := by decide +kernel
theorem dX6_least_30 : decode cX6_least 30 = .ok (.iload 5, 2) := by decide +kernel
theorem dX6_least_32 : decode cX6_least 32 = .ok (.invokevirtual 148, 3) := by decide +kernel
theorem dX6_least_35 : decode cX6_least 35 = .ok (.istore 6, 2) := by decide +kernel
theorem dX6_least_37 : decode cX6_least 37 = .ok (.iload 6, 2) := by decide +kernel
theorem dX6_least_39 : decode cX6_least 39 = .ok (.iload 4, 2) := by decide +kernel
theorem dX6_least_41 : decode cX6_least 41 = .ok (.if_icmp .ge 8, 3) := by decide +kernel
theorem dX6_least_44 : decode cX6_least 44 = .ok (.iload 5, 2) := by decide +kernel
theorem dX6_least_46 : decode cX6_least 46 = .ok (.goto 4, 3) := by decide +kernel
theorem dX6_least_49 : decode cX6_least 49 = .ok (.iload_n 3, 1) := by decide +kernel
theorem dX6_least_50 : decode cX6_least 50 = .ok (.istore_n 3, 1) := by decide +kernel
theorem dX6_least_51 : decode cX6_least 51 = .ok (.iload 6, 2) := by decide +kernel
theorem dX6_least_53 : decode cX6_least 53 = .ok (.iload 4, 2) := by decide +kernel
theorem dX6_least_55 : decode cX6_least 55 = .ok (.if_icmp .ge 8, 3) := by decide +kernel
theorem dX6_least_58 : decode cX6_least 58 = .ok (.iload 6, 2) := by decide +kernel
theorem dX6_least_60 : decode cX6_least 60 = .ok (.goto 5, 3) := by decide +kernel
theorem dX6_least_63 : decode cX6_least 63 = .ok (.iload 4, 2) := by decide +kernel
theorem dX6_least_65 : decode cX6_least 65 = .ok (.istore 4, 2) := by decide +kernel
theorem dX6_least_67 : decode cX6_least 67 = .ok (.iinc 5 1, 3) := by decide +kernel
theorem dX6_least_70 : decode cX6_least 70 = .ok (.goto (-56), 3) := by decide +kernel
theorem dX6_least_73 : decode cX6_least 73 = .ok (.iload_n 3, 1) := by decide +kernel
theorem dX6_least_74 : decode cX6_least 74 = .ok (.ireturn, 1) := by decide +kernel
theorem dX6_leastTime_0 : decode cX6_leastTime 0 = .ok (.aload_n 0, 1) := by decide +kernel
theorem dX6_leastTime_1 : decode cX6_leastTime 1 = .ok (.iload_n 1, 1) := by decide +kernel
theorem dX6_leastTime_2 : decode cX6_leastTime 2 = .ok (.iload_n 2, 1) := by decide +kernel
theorem dX6_leastTime_3 : decode cX6_leastTime 3 = .ok (.invokestatic 82, 3) := by decide +kernel
theorem dX6_leastTime_6 : decode cX6_leastTime 6 = .ok (.putfield 25, 3) := by decide +kernel
theorem dX6_leastTime_9 : decode cX6_leastTime 9 = .ok (.aload_n 0, 1) := by decide +kernel
theorem dX6_leastTime_10 : decode cX6_leastTime 10 = .ok (.getfield 25, 3) := by decide +kernel
theorem dX6_leastTime_13 : decode cX6_leastTime 13 = .ok (.ifCond .ne 12, 3) := by decide +kernel
theorem dX6_leastTime_16 : decode cX6_leastTime 16 = .ok (.aload_n 0, 1) := by decide +kernel
theorem dX6_leastTime_17 : decode cX6_leastTime 17 = .ok (.iload_n 1, 1) := by decide +kernel
theorem dX6_leastTime_18 : decode cX6_leastTime 18 = .ok (.iload_n 2, 1) := by decide +kernel
theorem dX6_leastTime_19 : decode cX6_leastTime 19 = .ok (.invokevirtual 152, 3) := by decide +kernel
theorem dX6_leastTime_22 : decode cX6_leastTime 22 = .ok (.goto 4, 3) := by decide +kernel
theorem dX6_leastTime_25 : decode cX6_leastTime 25 = .ok (.iconst 0, 1) := by decide +kernel
theorem dX6_leastTime_26 : decode cX6_leastTime 26 = .ok (.ireturn, 1) := by decide +kernel
theorem dX6_missed_0 : decode cX6_missed 0 = .ok (.iconst (-1), 1) := by decide +kernel
theorem dX6_missed_1 : decode cX6_missed 1 = .ok (.istore_n 1, 1) := by decide +kernel
theorem dX6_missed_2 : decode cX6_missed 2 = .ok (.iconst 0, 1) := by decide +kernel
theorem dX6_missed_3 : decode cX6_missed 3 = .ok (.istore_n 2, 1) := by decide +kernel
theorem dX6_missed_4 : decode cX6_missed 4 = .ok (.iload_n 2, 1) := by decide +kernel
theorem dX6_missed_5 : decode cX6_missed 5 = .ok (.bipush 8, 2) := by decide +kernel
theorem dX6_missed_7 : decode cX6_missed 7 = .ok (.if_icmp .ge 63, 3) := by decide +kernel
theorem dX6_missed_10 : decode cX6_missed 10 = .ok (.aload_n 0, 1) := by decide +kernel
theorem dX6_missed_11 : decode cX6_missed 11 = .ok (.getfield 7, 3) := by decide +kernel
theorem dX6_missed_14 : decode cX6_missed 14 = .ok (.iload_n 2, 1) := by decide +kernel
theorem dX6_missed_15 : decode cX6_missed 15 = .ok (.iconst 1, 1) := by decide +kernel
theorem dX6_missed_16 : decode cX6_missed 16 = .ok (.invokestatic 44, 3) := by decide +kernel
theorem dX6_missed_19 : decode cX6_missed 19 = .ok (.ifCond .ne 33, 3) := by decide +kernel
theorem dX6_missed_22 : decode cX6_missed 22 = .ok (.iload_n 1, 1) := by decide +kernel
theorem dX6_missed_23 : decode cX6_missed 23 = .ok (.iconst (-1), 1) := by decide +kernel
theorem dX6_missed_24 : decode cX6_missed 24 = .ok (.if_icmp .eq 24, 3) := by decide +kernel
theorem dX6_missed_27 : decode cX6_missed 27 = .ok (.aload_n 0, 1) := by decide +kernel
theorem dX6_missed_28 : decode cX6_missed 28 = .ok (.getfield 7, 3) := by decide +kernel
theorem dX6_missed_31 : decode cX6_missed 31 = .ok (.iload_n 2, 1) := by decide +kernel
theorem dX6_missed_32 : decode cX6_missed 32 = .ok (.iconst 2, 1) := by decide +kernel
theorem dX6_missed_33 : decode cX6_missed 33 = .ok (.invokestatic 44, 3) := by decide +kernel
theorem dX6_missed_36 : decode cX6_missed 36 = .ok (.aload_n 0, 1) := by decide +kernel
theorem dX6_missed_37 : decode cX6_missed 37 = .ok (.getfield 7, 3) := by decide +kernel
theorem dX6_missed_40 : decode cX6_missed 40 = .ok (.iload_n 1, 1) := by decide +kernel
theorem dX6_missed_41 : decode cX6_missed 41 = .ok (.iconst 2, 1) := by decide +kernel
theorem dX6_missed_42 : decode cX6_missed 42 = .ok (.invokestatic 44, 3) := by decide +kernel
theorem dX6_missed_45 : decode cX6_missed 45 = .ok (.if_icmp .le 7, 3) := by decide +kernel
theorem dX6_missed_48 : decode cX6_missed 48 = .ok (.iconst 1, 1) := by decide +kernel
theorem dX6_missed_49 : decode cX6_missed 49 = .ok (.goto 4, 3) := by decide +kernel
theorem dX6_missed_52 : decode cX6_missed 52 = .ok (.iconst 0, 1) := by decide +kernel
theorem dX6_missed_53 : decode cX6_missed 53 = .ok (.istore_n 3, 1) := by decide +kernel
theorem dX6_missed_54 : decode cX6_missed 54 = .ok (.iload_n 3, 1) := by decide +kernel
theorem dX6_missed_55 : decode cX6_missed 55 = .ok (.ifCond .eq 7, 3) := by decide +kernel
theorem dX6_missed_58 : decode cX6_missed 58 = .ok (.iload_n 2, 1) := by decide +kernel
theorem dX6_missed_59 : decode cX6_missed 59 = .ok (.goto 4, 3) := by decide +kernel
theorem dX6_missed_62 : decode cX6_missed 62 = .ok (.iload_n 1, 1) := by decide +kernel
theorem dX6_missed_63 : decode cX6_missed 63 = .ok (.istore_n 1, 1) := by decide +kernel
theorem dX6_missed_64 : decode cX6_missed 64 = .ok (.iinc 2 1, 3) := by decide +kernel
theorem dX6_missed_67 : decode cX6_missed 67 = .ok (.goto (-63), 3) := by decide +kernel
theorem dX6_missed_70 : decode cX6_missed 70 = .ok (.iload_n 1, 1) := by decide +kernel
theorem dX6_missed_71 : decode cX6_missed 71 = .ok (.ireturn, 1) := by decide +kernel
theorem dX6_worst_0 : decode cX6_worst 0 = .ok (.aload_n 0, 1) := by decide +kernel
theorem dX6_worst_1 : decode cX6_worst 1 = .ok (.iconst 0, 1) := by decide +kernel
theorem dX6_worst_2 : decode cX6_worst 2 = .ok (.putfield 25, 3) := by decide +kernel
theorem dX6_worst_5 : decode cX6_worst 5 = .ok (.aload_n 0, 1) := by decide +kernel
theorem dX6_worst_6 : decode cX6_worst 6 = .ok (.invokevirtual 155, 3) := by decide +kernel
theorem dX6_worst_9 : decode cX6_worst 9 = .ok (.ireturn, 1) := by decide +kernel
theorem dX6_share_0 : decode cX6_share 0 = .ok (.aload_n 0, 1) := by decide +kernel
theorem dX6_share_1 : decode cX6_share 1 = .ok (.getfield 7, 3) := by decide +kernel
theorem dX6_share_4 : decode cX6_share 4 = .ok (.bipush 8, 2) := by decide +kernel
theorem dX6_share_6 : decode cX6_share 6 = .ok (.iaload, 1) := by decide +kernel
theorem dX6_share_7 : decode cX6_share 7 = .ok (.aload_n 0, 1) := by decide +kernel
theorem dX6_share_8 : decode cX6_share 8 = .ok (.getfield 7, 3) := by decide +kernel
theorem dX6_share_11 : decode cX6_share 11 = .ok (.iconst 2, 1) := by decide +kernel
theorem dX6_share_12 : decode cX6_share 12 = .ok (.invokestatic 99, 3) := by decide +kernel
theorem dX6_share_15 : decode cX6_share 15 = .ok (.isub, 1) := by decide +kernel
theorem dX6_share_16 : decode cX6_share 16 = .ok (.aload_n 0, 1) := by decide +kernel
theorem dX6_share_17 : decode cX6_share 17 = .ok (.getfield 7, 3) := by decide +kernel
theorem dX6_share_20 : decode cX6_share 20 = .ok (.iconst 3, 1) := by decide +kernel
theorem dX6_share_21 : decode cX6_share 21 = .ok (.invokestatic 99, 3) := by decide +kernel
theorem dX6_share_24 : decode cX6_share 24 = .ok (.isub, 1) := by decide +kernel
theorem dX6_share_25 : decode cX6_share 25 = .ok (.istore_n 1, 1) := by decide +kernel
theorem dX6_share_26 : decode cX6_share 26 = .ok (.aload_n 0, 1) := by decide +kernel
theorem dX6_share_27 : decode cX6_share 27 = .ok (.getfield 7, 3) := by decide +kernel
theorem dX6_share_30 : decode cX6_share 30 = .ok (.bipush 8, 2) := by decide +kernel
theorem dX6_share_32 : decode cX6_share 32 = .ok (.iaload, 1) := by decide +kernel
theorem dX6_share_33 : decode cX6_share 33 = .ok (.ifCond .ne 7, 3) := by decide +kernel
theorem dX6_share_36 : decode cX6_share 36 = .ok (.dconst 1, 1) := by decide +kernel
theorem dX6_share_37 : decode cX6_share 37 = .ok (.goto 14, 3) := by decide +kernel
theorem dX6_share_40 : decode cX6_share 40 = .ok (.iload_n 1, 1) := by decide +kernel
theorem dX6_share_41 : decode cX6_share 41 = .ok (.i2d, 1) := by decide +kernel
theorem dX6_share_42 : decode cX6_share 42 = .ok (.aload_n 0, 1) := by decide +kernel
theorem dX6_share_43 : decode cX6_share 43 = .ok (.getfield 7, 3) := by decide +kernel
theorem dX6_share_46 : decode cX6_share 46 = .ok (.bipush 8, 2) := by decide +kernel
theorem dX6_share_48 : decode cX6_share 48 = .ok (.iaload, 1) := by decide +kernel
theorem dX6_share_49 : decode cX6_share 49 = .ok (.i2d, 1) := by decide +kernel
theorem dX6_share_50 : decode cX6_share 50 = .ok (.ddiv, 1) := by decide +kernel
theorem dX6_share_51 : decode cX6_share 51 = .ok (.dreturn, 1) := by decide +kernel
theorem dX6_lightness_0 : decode cX6_lightness 0 = .ok (.aload_n 0, 1) := by decide +kernel
theorem dX6_lightness_1 : decode cX6_lightness 1 = .ok (.iconst 0, 1) := by decide +kernel
theorem dX6_lightness_2 : decode cX6_lightness 2 = .ok (.putfield 25, 3) := by decide +kernel
theorem dX6_lightness_5 : decode cX6_lightness 5 = .ok (.aload_n 0, 1) := by decide +kernel
theorem dX6_lightness_6 : decode cX6_lightness 6 = .ok (.invokevirtual 159, 3) := by decide +kernel
theorem dX6_lightness_9 : decode cX6_lightness 9 = .ok (.dreturn, 1) := by decide +kernel
theorem dX6_digest_0 : decode cX6_digest 0 = .ok (.aload_n 0, 1) := by decide +kernel
theorem dX6_digest_1 : decode cX6_digest 1 = .ok (.iconst 0, 1) := by decide +kernel
theorem dX6_digest_2 : decode cX6_digest 2 = .ok (.putfield 25, 3) := by decide +kernel
theorem dX6_digest_5 : decode cX6_digest 5 = .ok (.ldc2_w 163, 3) := by decide +kernel
theorem dX6_digest_8 : decode cX6_digest 8 = .ok (.lstore_n 1, 1) := by decide +kernel
theorem dX6_digest_9 : decode cX6_digest 9 = .ok (.iconst 0, 1) := by decide +kernel
theorem dX6_digest_10 : decode cX6_digest 10 = .ok (.istore_n 3, 1) := by decide +kernel
theorem dX6_digest_11 : decode cX6_digest 11 = .ok (.iload_n 3, 1) := by decide +kernel
theorem dX6_digest_12 : decode cX6_digest 12 = .ok (.bipush 11, 2) := by decide +kernel
theorem dX6_digest_14 : decode cX6_digest 14 = .ok (.if_icmp .ge 22, 3) := by decide +kernel
theorem dX6_digest_17 : decode cX6_digest 17 = .ok (.ldc2_w 165, 3) := by decide +kernel
theorem dX6_digest_20 : decode cX6_digest 20 = .ok (.lload_n 1, 1) := by decide +kernel
theorem dX6_digest_21 : decode cX6_digest 21 = .ok (.lmul, 1) := by decide +kernel
theorem dX6_digest_22 : decode cX6_digest 22 = .ok (.aload_n 0, 1) := by decide +kernel
theorem dX6_digest_23 : decode cX6_digest 23 = .ok (.iload_n 3, 1) := by decide +kernel
theorem dX6_digest_24 : decode cX6_digest 24 = .ok (.invokevirtual 138, 3) := by decide +kernel
theorem dX6_digest_27 : decode cX6_digest 27 = .ok (.i2l, 1) := by decide +kernel
theorem dX6_digest_28 : decode cX6_digest 28 = .ok (.ladd, 1) := by decide +kernel
theorem dX6_digest_29 : decode cX6_digest 29 = .ok (.lstore_n 1, 1) := by decide +kernel
theorem dX6_digest_30 : decode cX6_digest 30 = .ok (.iinc 3 1, 3) := by decide +kernel
theorem dX6_digest_33 : decode cX6_digest 33 = .ok (.goto (-22), 3) := by decide +kernel
theorem dX6_digest_36 : decode cX6_digest 36 = .ok (.iconst 0, 1) := by decide +kernel
theorem dX6_digest_37 : decode cX6_digest 37 = .ok (.istore_n 3, 1) := by decide +kernel
theorem dX6_digest_38 : decode cX6_digest 38 = .ok (.iload_n 3, 1) := by decide +kernel
theorem dX6_digest_39 : decode cX6_digest 39 = .ok (.iconst 4, 1) := by decide +kernel
theorem dX6_digest_40 : decode cX6_digest 40 = .ok (.if_icmp .ge 23, 3) := by decide +kernel
theorem dX6_digest_43 : decode cX6_digest 43 = .ok (.ldc2_w 165, 3) := by decide +kernel
theorem dX6_digest_46 : decode cX6_digest 46 = .ok (.lload_n 1, 1) := by decide +kernel
theorem dX6_digest_47 : decode cX6_digest 47 = .ok (.lmul, 1) := by decide +kernel
theorem dX6_digest_48 : decode cX6_digest 48 = .ok (.aload_n 0, 1) := by decide +kernel
theorem dX6_digest_49 : decode cX6_digest 49 = .ok (.getfield 7, 3) := by decide +kernel
theorem dX6_digest_52 : decode cX6_digest 52 = .ok (.iload_n 3, 1) := by decide +kernel
theorem dX6_digest_53 : decode cX6_digest 53 = .ok (.iaload, 1) := by decide +kernel
theorem dX6_digest_54 : decode cX6_digest 54 = .ok (.i2l, 1) := by decide +kernel
theorem dX6_digest_55 : decode cX6_digest 55 = .ok (.ladd, 1) := by decide +kernel
theorem dX6_digest_56 : decode cX6_digest 56 = .ok (.lstore_n 1, 1) := by decide +kernel
theorem dX6_digest_57 : decode cX6_digest 57 = .ok (.iinc 3 1, 3) := by decide +kernel
theorem dX6_digest_60 : decode cX6_digest 60 = .ok (.goto (-22), 3) := by decide +kernel
theorem dX6_digest_63 : decode cX6_digest 63 = .ok (.iconst 0, 1) := by decide +kernel
theorem dX6_digest_64 : decode cX6_digest 64 = .ok (.istore_n 3, 1) := by decide +kernel
theorem dX6_digest_65 : decode cX6_digest 65 = .ok (.iload_n 3, 1) := by decide +kernel
theorem dX6_digest_66 : decode cX6_digest 66 = .ok (.bipush 8, 2) := by decide +kernel
theorem dX6_digest_68 : decode cX6_digest 68 = .ok (.if_icmp .ge 40, 3) := by decide +kernel
theorem dX6_digest_71 : decode cX6_digest 71 = .ok (.iconst 0, 1) := by decide +kernel
theorem dX6_digest_72 : decode cX6_digest 72 = .ok (.istore 4, 2) := by decide +kernel
theorem dX6_digest_74 : decode cX6_digest 74 = .ok (.iload 4, 2) := by decide +kernel
theorem dX6_digest_76 : decode cX6_digest 76 = .ok (.bipush 8, 2) := by decide +kernel
theorem dX6_digest_78 : decode cX6_digest 78 = .ok (.if_icmp .ge 24, 3) := by decide +kernel
theorem dX6_digest_81 : decode cX6_digest 81 = .ok (.ldc2_w 165, 3) := by decide +kernel
theorem dX6_digest_84 : decode cX6_digest 84 = .ok (.lload_n 1, 1) := by decide +kernel
theorem dX6_digest_85 : decode cX6_digest 85 = .ok (.lmul, 1) := by decide +kernel
theorem dX6_digest_86 : decode cX6_digest 86 = .ok (.aload_n 0, 1) := by decide +kernel
theorem dX6_digest_87 : decode cX6_digest 87 = .ok (.iload_n 3, 1) := by decide +kernel
theorem dX6_digest_88 : decode cX6_digest 88 = .ok (.iload 4, 2) := by decide +kernel
theorem dX6_digest_90 : decode cX6_digest 90 = .ok (.invokevirtual 131, 3) := by decide +kernel
theorem dX6_digest_93 : decode cX6_digest 93 = .ok (.i2l, 1) := by decide +kernel
theorem dX6_digest_94 : decode cX6_digest 94 = .ok (.ladd, 1) := by decide +kernel
theorem dX6_digest_95 : decode cX6_digest 95 = .ok (.lstore_n 1, 1) := by decide +kernel
theorem dX6_digest_96 : decode cX6_digest 96 = .ok (.iinc 4 1, 3) := by decide +kernel
theorem dX6_digest_99 : decode cX6_digest 99 = .ok (.goto (-25), 3) := by decide +kernel
theorem dX6_digest_102 : decode cX6_digest 102 = .ok (.iinc 3 1, 3) := by decide +kernel
theorem dX6_digest_105 : decode cX6_digest 105 = .ok (.goto (-40), 3) := by decide +kernel
theorem dX6_digest_108 : decode cX6_digest 108 = .ok (.iconst 0, 1) := by decide +kernel
theorem dX6_digest_109 : decode cX6_digest 109 = .ok (.istore_n 3, 1) := by decide +kernel
theorem dX6_digest_110 : decode cX6_digest 110 = .ok (.iload_n 3, 1) := by decide +kernel
theorem dX6_digest_111 : decode cX6_digest 111 = .ok (.aload_n 0, 1) := by decide +kernel
theorem dX6_digest_112 : decode cX6_digest 112 = .ok (.getfield 7, 3) := by decide +kernel
theorem dX6_digest_115 : decode cX6_digest 115 = .ok (.bipush 57, 2) := by decide +kernel
theorem dX6_digest_117 : decode cX6_digest 117 = .ok (.iaload, 1) := by decide +kernel
theorem dX6_digest_118 : decode cX6_digest 118 = .ok (.if_icmp .ge 42, 3) := by decide +kernel
theorem dX6_digest_121 : decode cX6_digest 121 = .ok (.iconst 0, 1) := by decide +kernel
theorem dX6_digest_122 : decode cX6_digest 122 = .ok (.istore 4, 2) := by decide +kernel
theorem dX6_digest_124 : decode cX6_digest 124 = .ok (.iload 4, 2) := by decide +kernel
theorem dX6_digest_126 : decode cX6_digest 126 = .ok (.iconst 4, 1) := by decide +kernel
theorem dX6_digest_127 : decode cX6_digest 127 = .ok (.if_icmp .ge 27, 3) := by decide +kernel
theorem dX6_digest_130 : decode cX6_digest 130 = .ok (.ldc2_w 165, 3) := by decide +kernel
theorem dX6_digest_133 : decode cX6_digest 133 = .ok (.lload_n 1, 1) := by decide +kernel
theorem dX6_digest_134 : decode cX6_digest 134 = .ok (.lmul, 1) := by decide +kernel
theorem dX6_digest_135 : decode cX6_digest 135 = .ok (.aload_n 0, 1) := by decide +kernel
theorem dX6_digest_136 : decode cX6_digest 136 = .ok (.getfield 7, 3) := by decide +kernel
theorem dX6_digest_139 : decode cX6_digest 139 = .ok (.iload_n 3, 1) := by decide +kernel
theorem dX6_digest_140 : decode cX6_digest 140 = .ok (.iload 4, 2) := by decide +kernel
theorem dX6_digest_142 : decode cX6_digest 142 = .ok (.invokestatic 48, 3) := by decide +kernel
theorem dX6_digest_145 : decode cX6_digest 145 = .ok (.i2l, 1) := by decide +kernel
theorem dX6_digest_146 : decode cX6_digest 146 = .ok (.ladd, 1) := by decide +kernel
theorem dX6_digest_147 : decode cX6_digest 147 = .ok (.lstore_n 1, 1) := by decide +kernel
theorem dX6_digest_148 : decode cX6_digest 148 = .ok (.iinc 4 1, 3) := by decide +kernel
theorem dX6_digest_151 : decode cX6_digest 151 = .ok (.goto (-27), 3) := by decide +kernel
theorem dX6_digest_154 : decode cX6_digest 154 = .ok (.iinc 3 1, 3) := by decide +kernel
theorem dX6_digest_157 : decode cX6_digest 157 = .ok (.goto (-47), 3) := by decide +kernel
theorem dX6_digest_160 : decode cX6_digest 160 = .ok (.iconst 0, 1) := by decide +kernel
theorem dX6_digest_161 : decode cX6_digest 161 = .ok (.istore_n 3, 1) := by decide +kernel
theorem dX6_digest_162 : decode cX6_digest 162 = .ok (.iload_n 3, 1) := by decide +kernel
theorem dX6_digest_163 : decode cX6_digest 163 = .ok (.iconst 4, 1) := by decide +kernel
theorem dX6_digest_164 : decode cX6_digest 164 = .ok (.if_icmp .ge 24, 3) := by decide +kernel
theorem dX6_digest_167 : decode cX6_digest 167 = .ok (.ldc2_w 165, 3) := by decide +kernel
theorem dX6_digest_170 : decode cX6_digest 170 = .ok (.lload_n 1, 1) := by decide +kernel
theorem dX6_digest_171 : decode cX6_digest 171 = .ok (.lmul, 1) := by decide +kernel
theorem dX6_digest_172 : decode cX6_digest 172 = .ok (.aload_n 0, 1) := by decide +kernel
theorem dX6_digest_173 : decode cX6_digest 173 = .ok (.bipush 30, 2) := by decide +kernel
theorem dX6_digest_175 : decode cX6_digest 175 = .ok (.iload_n 3, 1) := by decide +kernel
theorem dX6_digest_176 : decode cX6_digest 176 = .ok (.invokevirtual 141, 3) := by decide +kernel
theorem dX6_digest_179 : decode cX6_digest 179 = .ok (.i2l, 1) := by decide +kernel
theorem dX6_digest_180 : decode cX6_digest 180 = .ok (.ladd, 1) := by decide +kernel
theorem dX6_digest_181 : decode cX6_digest 181 = .ok (.lstore_n 1, 1) := by decide +kernel
theorem dX6_digest_182 : decode cX6_digest 182 = .ok (.iinc 3 1, 3) := by decide +kernel
theorem dX6_digest_185 : decode cX6_digest 185 = .ok (.goto (-23), 3) := by decide +kernel
theorem dX6_digest_188 : decode cX6_digest 188 = .ok (.ldc2_w 165, 3) := by decide +kernel
theorem dX6_digest_191 : decode cX6_digest 191 = .ok (.ldc2_w 165, 3) := by decide +kernel
theorem dX6_digest_194 : decode cX6_digest 194 = .ok (.lload_n 1, 1) := by decide +kernel
theorem dX6_digest_195 : decode cX6_digest 195 = .ok (.lmul, 1) := by decide +kernel
theorem dX6_digest_196 : decode cX6_digest 196 = .ok (.aload_n 0, 1) := by decide +kernel
theorem dX6_digest_197 : decode cX6_digest 197 = .ok (.iconst 0, 1) := by decide +kernel
theorem dX6_digest_198 : decode cX6_digest 198 = .ok (.bipush 7, 2) := by decide +kernel
theorem dX6_digest_200 : decode cX6_digest 200 = .ok (.aload_n 0, 1) := by decide +kernel
theorem dX6_digest_201 : decode cX6_digest 201 = .ok (.getfield 7, 3) := by decide +kernel
theorem dX6_digest_204 : decode cX6_digest 204 = .ok (.iconst 0, 1) := by decide +kernel
theorem dX6_digest_205 : decode cX6_digest 205 = .ok (.iaload, 1) := by decide +kernel
theorem dX6_digest_206 : decode cX6_digest 206 = .ok (.invokevirtual 148, 3) := by decide +kernel
theorem dX6_digest_209 : decode cX6_digest 209 = .ok (.i2l, 1) := by decide +kernel
theorem dX6_digest_210 : decode cX6_digest 210 = .ok (.ladd, 1) := by decide +kernel
theorem dX6_digest_211 : decode cX6_digest 211 = .ok (.lmul, 1) := by decide +kernel
theorem dX6_digest_212 : decode cX6_digest 212 = .ok (.aload_n 0, 1) := by decide +kernel
theorem dX6_digest_213 : decode cX6_digest 213 = .ok (.bipush 6, 2) := by decide +kernel
theorem dX6_digest_215 : decode cX6_digest 215 = .ok (.iconst 2, 1) := by decide +kernel
theorem dX6_digest_216 : decode cX6_digest 216 = .ok (.aload_n 0, 1) := by decide +kernel
theorem dX6_digest_217 : decode cX6_digest 217 = .ok (.getfield 7, 3) := by decide +kernel
theorem dX6_digest_220 : decode cX6_digest 220 = .ok (.iconst 0, 1) := by decide +kernel
theorem dX6_digest_221 : decode cX6_digest 221 = .ok (.iaload, 1) := by decide +kernel
theorem dX6_digest_222 : decode cX6_digest 222 = .ok (.invokevirtual 148, 3) := by decide +kernel
theorem dX6_digest_225 : decode cX6_digest 225 = .ok (.i2l, 1) := by decide +kernel
theorem dX6_digest_226 : decode cX6_digest 226 = .ok (.ladd, 1) := by decide +kernel
theorem dX6_digest_227 : decode cX6_digest 227 = .ok (.lstore_n 1, 1) := by decide +kernel
theorem dX6_digest_228 : decode cX6_digest 228 = .ok (.ldc2_w 165, 3) := by decide +kernel
theorem dX6_digest_231 : decode cX6_digest 231 = .ok (.ldc2_w 165, 3) := by decide +kernel
theorem dX6_digest_234 : decode cX6_digest 234 = .ok (.lload_n 1, 1) := by decide +kernel
theorem dX6_digest_235 : decode cX6_digest 235 = .ok (.lmul, 1) := by decide +kernel
theorem dX6_digest_236 : decode cX6_digest 236 = .ok (.aload_n 0, 1) := by decide +kernel
theorem dX6_digest_237 : decode cX6_digest 237 = .ok (.iconst 1, 1) := by decide +kernel
theorem dX6_digest_238 : decode cX6_digest 238 = .ok (.iconst 5, 1) := by decide +kernel
theorem dX6_digest_239 : decode cX6_digest 239 = .ok (.invokevirtual 152, 3) := by decide +kernel
theorem dX6_digest_242 : decode cX6_digest 242 = .ok (.i2l, 1) := by decide +kernel
theorem dX6_digest_243 : decode cX6_digest 243 = .ok (.ladd, 1) := by decide +kernel
theorem dX6_digest_244 : decode cX6_digest 244 = .ok (.lmul, 1) := by decide +kernel
theorem dX6_digest_245 : decode cX6_digest 245 = .ok (.aload_n 0, 1) := by decide +kernel
theorem dX6_digest_246 : decode cX6_digest 246 = .ok (.invokevirtual 155, 3) := by decide +kernel
theorem dX6_digest_249 : decode cX6_digest 249 = .ok (.i2l, 1) := by decide +kernel
theorem dX6_digest_250 : decode cX6_digest 250 = .ok (.ladd, 1) := by decide +kernel
theorem dX6_digest_251 : decode cX6_digest 251 = .ok (.lstore_n 1, 1) := by decide +kernel
theorem dX6_digest_252 : decode cX6_digest 252 = .ok (.ldc2_w 165, 3) := by decide +kernel
theorem dX6_digest_255 : decode cX6_digest 255 = .ok (.ldc2_w 165, 3) := by decide +kernel
theorem dX6_digest_258 : decode cX6_digest 258 = .ok (.lload_n 1, 1) := by decide +kernel
theorem dX6_digest_259 : decode cX6_digest 259 = .ok (.lmul, 1) := by decide +kernel
theorem dX6_digest_260 : decode cX6_digest 260 = .ok (.aload_n 0, 1) := by decide +kernel
theorem dX6_digest_261 : decode cX6_digest 261 = .ok (.invokevirtual 159, 3) := by decide +kernel
theorem dX6_digest_264 : decode cX6_digest 264 = .ok (.invokestatic 167, 3) := by decide +kernel
theorem dX6_digest_267 : decode cX6_digest 267 = .ok (.ladd, 1) := by decide +kernel
theorem dX6_digest_268 : decode cX6_digest 268 = .ok (.lmul, 1) := by decide +kernel
theorem dX6_digest_269 : decode cX6_digest 269 = .ok (.aload_n 0, 1) := by decide +kernel
theorem dX6_digest_270 : decode cX6_digest 270 = .ok (.getfield 105, 3) := by decide +kernel
theorem dX6_digest_273 : decode cX6_digest 273 = .ok (.i2l, 1) := by decide +kernel
theorem dX6_digest_274 : decode cX6_digest 274 = .ok (.ladd, 1) := by decide +kernel
theorem dX6_digest_275 : decode cX6_digest 275 = .ok (.lstore_n 1, 1) := by decide +kernel
theorem dX6_digest_276 : decode cX6_digest 276 = .ok (.iconst 0, 1) := by decide +kernel
theorem dX6_digest_277 : decode cX6_digest 277 = .ok (.istore_n 3, 1) := by decide +kernel
theorem dX6_digest_278 : decode cX6_digest 278 = .ok (.iload_n 3, 1) := by decide +kernel
theorem dX6_digest_279 : decode cX6_digest 279 = .ok (.aload_n 0, 1) := by decide +kernel
theorem dX6_digest_280 : decode cX6_digest 280 = .ok (.getfield 105, 3) := by decide +kernel
theorem dX6_digest_283 : decode cX6_digest 283 = .ok (.if_icmp .ge 23, 3) := by decide +kernel
theorem dX6_digest_286 : decode cX6_digest 286 = .ok (.ldc2_w 165, 3) := by decide +kernel
theorem dX6_digest_289 : decode cX6_digest 289 = .ok (.lload_n 1, 1) := by decide +kernel
theorem dX6_digest_290 : decode cX6_digest 290 = .ok (.lmul, 1) := by decide +kernel
theorem dX6_digest_291 : decode cX6_digest 291 = .ok (.aload_n 0, 1) := by decide +kernel
theorem dX6_digest_292 : decode cX6_digest 292 = .ok (.getfield 19, 3) := by decide +kernel
theorem dX6_digest_295 : decode cX6_digest 295 = .ok (.iload_n 3, 1) := by decide +kernel
theorem dX6_digest_296 : decode cX6_digest 296 = .ok (.iaload, 1) := by decide +kernel
theorem dX6_digest_297 : decode cX6_digest 297 = .ok (.i2l, 1) := by decide +kernel
theorem dX6_digest_298 : decode cX6_digest 298 = .ok (.ladd, 1) := by decide +kernel
theorem dX6_digest_299 : decode cX6_digest 299 = .ok (.lstore_n 1, 1) := by decide +kernel
theorem dX6_digest_300 : decode cX6_digest 300 = .ok (.iinc 3 1, 3) := by decide +kernel
theorem dX6_digest_303 : decode cX6_digest 303 = .ok (.goto (-25), 3) := by decide +kernel
theorem dX6_digest_306 : decode cX6_digest 306 = .ok (.lload_n 1, 1) := by decide +kernel
theorem dX6_digest_307 : decode cX6_digest 307 = .ok (.lreturn, 1) := by decide +kernel
theorem dJxe99ae_isNaN_b9ae7_0 : decode cJxe99ae_isNaN_b9ae7 0 = .ok (.dload_n 0, 1) := by decide +kernel
theorem dJxe99ae_isNaN_b9ae7_1 : decode cJxe99ae_isNaN_b9ae7 1 = .ok (.dload_n 0, 1) := by decide +kernel
theorem dJxe99ae_isNaN_b9ae7_2 : decode cJxe99ae_isNaN_b9ae7 2 = .ok (.dcmp .l, 1) := by decide +kernel
theorem dJxe99ae_isNaN_b9ae7_3 : decode cJxe99ae_isNaN_b9ae7 3 = .ok (.ifCond .eq 7, 3) := by decide +kernel
theorem dJxe99ae_isNaN_b9ae7_6 : decode cJxe99ae_isNaN_b9ae7 6 = .ok (.iconst 1, 1) := by decide +kernel
theorem dJxe99ae_isNaN_b9ae7_7 : decode cJxe99ae_isNaN_b9ae7 7 = .ok (.goto 4, 3) := by decide +kernel
theorem dJxe99ae_isNaN_b9ae7_10 : decode cJxe99ae_isNaN_b9ae7 10 = .ok (.iconst 0, 1) := by decide +kernel
theorem dJxe99ae_isNaN_b9ae7_11 : decode cJxe99ae_isNaN_b9ae7 11 = .ok (.ireturn, 1) := by decide +kernel
theorem dJxe99ae_doubleToLongBits_ccdee_0 : decode cJxe99ae_doubleToLongBits_ccdee 0 = .ok (.dload_n 0, 1) := by decide +kernel
theorem dJxe99ae_doubleToLongBits_ccdee_1 : decode cJxe99ae_doubleToLongBits_ccdee 1 = .ok (.invokestatic 122, 3) := by decide +kernel
theorem dJxe99ae_doubleToLongBits_ccdee_4 : decode cJxe99ae_doubleToLongBits_ccdee 4 = .ok (.ifCond .ne 8, 3) := by decide +kernel
theorem dJxe99ae_doubleToLongBits_ccdee_7 : decode cJxe99ae_doubleToLongBits_ccdee 7 = .ok (.dload_n 0, 1) := by decide +kernel
theorem dJxe99ae_doubleToLongBits_ccdee_8 : decode cJxe99ae_doubleToLongBits_ccdee 8 = .ok (.invokestatic 134, 3) := by decide +kernel
theorem dJxe99ae_doubleToLongBits_ccdee_11 : decode cJxe99ae_doubleToLongBits_ccdee 11 = .ok (.lreturn, 1) := by decide +kernel
theorem dJxe99ae_doubleToLongBits_ccdee_12 : decode cJxe99ae_doubleToLongBits_ccdee 12 = .ok (.ldc2_w 137, 3) := by decide +kernel
theorem dJxe99ae_doubleToLongBits_ccdee_15 : decode cJxe99ae_doubleToLongBits_ccdee 15 = .ok (.lreturn, 1) := by decide +kernel
theorem dL_come_0 : decode cL_come 0 = .ok (.aload_n 3, 1) := by decide +kernel
theorem dL_come_1 : decode cL_come 1 = .ok (.iconst 0, 1) := by decide +kernel
theorem dL_come_2 : decode cL_come 2 = .ok (.aload_n 0, 1) := by decide +kernel
theorem dL_come_3 : decode cL_come 3 = .ok (.iload_n 1, 1) := by decide +kernel
theorem dL_come_4 : decode cL_come 4 = .ok (.iload_n 2, 1) := by decide +kernel
theorem dL_come_5 : decode cL_come 5 = .ok (.invokevirtual 7, 3) := by decide +kernel
theorem dL_come_8 : decode cL_come 8 = .ok (.i2l, 1) := by decide +kernel
theorem dL_come_9 : decode cL_come 9 = .ok (.lastore, 1) := by decide +kernel
theorem dL_come_10 : decode cL_come 10 = .ok (.goto 15, 3) := by decide +kernel
theorem dL_come_13 : decode cL_come 13 = .ok (.astore 4, 2) := by decide +kernel
theorem dL_come_15 : decode cL_come 15 = .ok (.iconst 1, 1) := by decide +kernel
theorem dL_come_16 : decode cL_come 16 = .ok (.ireturn, 1) := by decide +kernel
theorem dL_come_17 : decode cL_come 17 = .ok (.astore 4, 2) := by decide +kernel
theorem dL_come_19 : decode cL_come 19 = .ok (.iconst 2, 1) := by decide +kernel
theorem dL_come_20 : decode cL_come 20 = .ok (.ireturn, 1) := by decide +kernel
theorem dL_come_21 : decode cL_come 21 = .ok (.astore 4, 2) := by decide +kernel
theorem dL_come_23 : decode cL_come 23 = .ok (.iconst 3, 1) := by decide +kernel
theorem dL_come_24 : decode cL_come 24 = .ok (.ireturn, 1) := by decide +kernel
theorem dL_come_25 : decode cL_come 25 = .ok (.iconst 0, 1) := by decide +kernel
theorem dL_come_26 : decode cL_come 26 = .ok (.ireturn, 1) := by decide +kernel
theorem dL_turn_0 : decode cL_turn 0 = .ok (.aload_n 3, 1) := by decide +kernel
theorem dL_turn_1 : decode cL_turn 1 = .ok (.iconst 0, 1) := by decide +kernel
theorem dL_turn_2 : decode cL_turn 2 = .ok (.aload_n 0, 1) := by decide +kernel
theorem dL_turn_3 : decode cL_turn 3 = .ok (.iload_n 1, 1) := by decide +kernel
theorem dL_turn_4 : decode cL_turn 4 = .ok (.iload_n 2, 1) := by decide +kernel
theorem dL_turn_5 : decode cL_turn 5 = .ok (.invokevirtual 19, 3) := by decide +kernel
theorem dL_turn_8 : decode cL_turn 8 = .ok (.i2l, 1) := by decide +kernel
theorem dL_turn_9 : decode cL_turn 9 = .ok (.lastore, 1) := by decide +kernel
theorem dL_turn_10 : decode cL_turn 10 = .ok (.goto 7, 3) := by decide +kernel
theorem dL_turn_13 : decode cL_turn 13 = .ok (.astore 4, 2) := by decide +kernel
theorem dL_turn_15 : decode cL_turn 15 = .ok (.iconst 1, 1) := by decide +kernel
theorem dL_turn_16 : decode cL_turn 16 = .ok (.ireturn, 1) := by decide +kernel
theorem dL_turn_17 : decode cL_turn 17 = .ok (.iconst 0, 1) := by decide +kernel
theorem dL_turn_18 : decode cL_turn 18 = .ok (.ireturn, 1) := by decide +kernel
theorem dL_press_0 : decode cL_press 0 = .ok (.aload_n 2, 1) := by decide +kernel
theorem dL_press_1 : decode cL_press 1 = .ok (.iconst 0, 1) := by decide +kernel
theorem dL_press_2 : decode cL_press 2 = .ok (.aload_n 0, 1) := by decide +kernel
theorem dL_press_3 : decode cL_press 3 = .ok (.iload_n 1, 1) := by decide +kernel
theorem dL_press_4 : decode cL_press 4 = .ok (.invokevirtual 22, 3) := by decide +kernel
theorem dL_press_7 : decode cL_press 7 = .ok (.i2l, 1) := by decide +kernel
theorem dL_press_8 : decode cL_press 8 = .ok (.lastore, 1) := by decide +kernel
theorem dL_press_9 : decode cL_press 9 = .ok (.goto 6, 3) := by decide +kernel
theorem dL_press_12 : decode cL_press 12 = .ok (.astore_n 3, 1) := by decide +kernel
theorem dL_press_13 : decode cL_press 13 = .ok (.iconst 1, 1) := by decide +kernel
theorem dL_press_14 : decode cL_press 14 = .ok (.ireturn, 1) := by decide +kernel
theorem dL_press_15 : decode cL_press 15 = .ok (.iconst 0, 1) := by decide +kernel
theorem dL_press_16 : decode cL_press 16 = .ok (.ireturn, 1) := by decide +kernel
theorem dL_sensor_0 : decode cL_sensor 0 = .ok (.aload_n 3, 1) := by decide +kernel
theorem dL_sensor_1 : decode cL_sensor 1 = .ok (.iconst 0, 1) := by decide +kernel
theorem dL_sensor_2 : decode cL_sensor 2 = .ok (.aload_n 0, 1) := by decide +kernel
theorem dL_sensor_3 : decode cL_sensor 3 = .ok (.iload_n 1, 1) := by decide +kernel
theorem dL_sensor_4 : decode cL_sensor 4 = .ok (.iload_n 2, 1) := by decide +kernel
theorem dL_sensor_5 : decode cL_sensor 5 = .ok (.invokevirtual 26, 3) := by decide +kernel
theorem dL_sensor_8 : decode cL_sensor 8 = .ok (.i2l, 1) := by decide +kernel
theorem dL_sensor_9 : decode cL_sensor 9 = .ok (.lastore, 1) := by decide +kernel
theorem dL_sensor_10 : decode cL_sensor 10 = .ok (.goto 7, 3) := by decide +kernel
theorem dL_sensor_13 : decode cL_sensor 13 = .ok (.astore 4, 2) := by decide +kernel
theorem dL_sensor_15 : decode cL_sensor 15 = .ok (.iconst 1, 1) := by decide +kernel
theorem dL_sensor_16 : decode cL_sensor 16 = .ok (.ireturn, 1) := by decide +kernel
theorem dL_sensor_17 : decode cL_sensor 17 = .ok (.iconst 0, 1) := by decide +kernel
theorem dL_sensor_18 : decode cL_sensor 18 = .ok (.ireturn, 1) := by decide +kernel
theorem dL_set_0 : decode cL_set 0 = .ok (.aload_n 3, 1) := by decide +kernel
theorem dL_set_1 : decode cL_set 1 = .ok (.iconst 0, 1) := by decide +kernel
theorem dL_set_2 : decode cL_set 2 = .ok (.aload_n 0, 1) := by decide +kernel
theorem dL_set_3 : decode cL_set 3 = .ok (.iload_n 1, 1) := by decide +kernel
theorem dL_set_4 : decode cL_set 4 = .ok (.iload_n 2, 1) := by decide +kernel
theorem dL_set_5 : decode cL_set 5 = .ok (.invokevirtual 30, 3) := by decide +kernel
theorem dL_set_8 : decode cL_set 8 = .ok (.i2l, 1) := by decide +kernel
theorem dL_set_9 : decode cL_set 9 = .ok (.lastore, 1) := by decide +kernel
theorem dL_set_10 : decode cL_set 10 = .ok (.goto 11, 3) := by decide +kernel
theorem dL_set_13 : decode cL_set 13 = .ok (.astore 4, 2) := by decide +kernel
theorem dL_set_15 : decode cL_set 15 = .ok (.iconst 1, 1) := by decide +kernel
theorem dL_set_16 : decode cL_set 16 = .ok (.ireturn, 1) := by decide +kernel
theorem dL_set_17 : decode cL_set 17 = .ok (.astore 4, 2) := by decide +kernel
theorem dL_set_19 : decode cL_set 19 = .ok (.iconst 2, 1) := by decide +kernel
theorem dL_set_20 : decode cL_set 20 = .ok (.ireturn, 1) := by decide +kernel
theorem dL_set_21 : decode cL_set 21 = .ok (.iconst 0, 1) := by decide +kernel
theorem dL_set_22 : decode cL_set 22 = .ok (.ireturn, 1) := by decide +kernel
theorem dL_pass_0 : decode cL_pass 0 = .ok (.aload_n 2, 1) := by decide +kernel
theorem dL_pass_1 : decode cL_pass 1 = .ok (.iconst 0, 1) := by decide +kernel
theorem dL_pass_2 : decode cL_pass 2 = .ok (.aload_n 0, 1) := by decide +kernel
theorem dL_pass_3 : decode cL_pass 3 = .ok (.iload_n 1, 1) := by decide +kernel
theorem dL_pass_4 : decode cL_pass 4 = .ok (.invokevirtual 33, 3) := by decide +kernel
theorem dL_pass_7 : decode cL_pass 7 = .ok (.i2l, 1) := by decide +kernel
theorem dL_pass_8 : decode cL_pass 8 = .ok (.lastore, 1) := by decide +kernel
theorem dL_pass_9 : decode cL_pass 9 = .ok (.goto 6, 3) := by decide +kernel
theorem dL_pass_12 : decode cL_pass 12 = .ok (.astore_n 3, 1) := by decide +kernel
theorem dL_pass_13 : decode cL_pass 13 = .ok (.iconst 1, 1) := by decide +kernel
theorem dL_pass_14 : decode cL_pass 14 = .ok (.ireturn, 1) := by decide +kernel
theorem dL_pass_15 : decode cL_pass 15 = .ok (.iconst 0, 1) := by decide +kernel
theorem dL_pass_16 : decode cL_pass 16 = .ok (.ireturn, 1) := by decide +kernel
theorem dL_append_0 : decode cL_append 0 = .ok (.aload_n 2, 1) := by decide +kernel
theorem dL_append_1 : decode cL_append 1 = .ok (.iconst 0, 1) := by decide +kernel
theorem dL_append_2 : decode cL_append 2 = .ok (.aload_n 0, 1) := by decide +kernel
theorem dL_append_3 : decode cL_append 3 = .ok (.iload_n 1, 1) := by decide +kernel
theorem dL_append_4 : decode cL_append 4 = .ok (.invokevirtual 36, 3) := by decide +kernel
theorem dL_append_7 : decode cL_append 7 = .ok (.i2l, 1) := by decide +kernel
theorem dL_append_8 : decode cL_append 8 = .ok (.lastore, 1) := by decide +kernel
theorem dL_append_9 : decode cL_append 9 = .ok (.goto 9, 3) := by decide +kernel
theorem dL_append_12 : decode cL_append 12 = .ok (.astore_n 3, 1) := by decide +kernel
theorem dL_append_13 : decode cL_append 13 = .ok (.iconst 1, 1) := by decide +kernel
theorem dL_append_14 : decode cL_append 14 = .ok (.ireturn, 1) := by decide +kernel
theorem dL_append_15 : decode cL_append 15 = .ok (.astore_n 3, 1) := by decide +kernel
theorem dL_append_16 : decode cL_append 16 = .ok (.iconst 2, 1) := by decide +kernel
theorem dL_append_17 : decode cL_append 17 = .ok (.ireturn, 1) := by decide +kernel
theorem dL_append_18 : decode cL_append 18 = .ok (.iconst 0, 1) := by decide +kernel
theorem dL_append_19 : decode cL_append 19 = .ok (.ireturn, 1) := by decide +kernel
theorem dL_comeAll_0 : decode cL_comeAll 0 = .ok (.aload_n 1, 1) := by decide +kernel
theorem dL_comeAll_1 : decode cL_comeAll 1 = .ok (.iconst 0, 1) := by decide +kernel
theorem dL_comeAll_2 : decode cL_comeAll 2 = .ok (.aload_n 0, 1) := by decide +kernel
theorem dL_comeAll_3 : decode cL_comeAll 3 = .ok (.invokevirtual 39, 3) := by decide +kernel
theorem dL_comeAll_6 : decode cL_comeAll 6 = .ok (.i2l, 1) := by decide +kernel
theorem dL_comeAll_7 : decode cL_comeAll 7 = .ok (.lastore, 1) := by decide +kernel
theorem dL_comeAll_8 : decode cL_comeAll 8 = .ok (.goto 6, 3) := by decide +kernel
theorem dL_comeAll_11 : decode cL_comeAll 11 = .ok (.astore_n 2, 1) := by decide +kernel
theorem dL_comeAll_12 : decode cL_comeAll 12 = .ok (.iconst 1, 1) := by decide +kernel
theorem dL_comeAll_13 : decode cL_comeAll 13 = .ok (.ireturn, 1) := by decide +kernel
theorem dL_comeAll_14 : decode cL_comeAll 14 = .ok (.iconst 0, 1) := by decide +kernel
theorem dL_comeAll_15 : decode cL_comeAll 15 = .ok (.ireturn, 1) := by decide +kernel
theorem dL_undo_0 : decode cL_undo 0 = .ok (.aload_n 1, 1) := by decide +kernel
theorem dL_undo_1 : decode cL_undo 1 = .ok (.iconst 0, 1) := by decide +kernel
theorem dL_undo_2 : decode cL_undo 2 = .ok (.aload_n 0, 1) := by decide +kernel
theorem dL_undo_3 : decode cL_undo 3 = .ok (.invokevirtual 43, 3) := by decide +kernel
theorem dL_undo_6 : decode cL_undo 6 = .ok (.i2l, 1) := by decide +kernel
theorem dL_undo_7 : decode cL_undo 7 = .ok (.lastore, 1) := by decide +kernel
theorem dL_undo_8 : decode cL_undo 8 = .ok (.goto 6, 3) := by decide +kernel
theorem dL_undo_11 : decode cL_undo 11 = .ok (.astore_n 2, 1) := by decide +kernel
theorem dL_undo_12 : decode cL_undo 12 = .ok (.iconst 1, 1) := by decide +kernel
theorem dL_undo_13 : decode cL_undo 13 = .ok (.ireturn, 1) := by decide +kernel
theorem dL_undo_14 : decode cL_undo 14 = .ok (.iconst 0, 1) := by decide +kernel
theorem dL_undo_15 : decode cL_undo 15 = .ok (.ireturn, 1) := by decide +kernel
theorem dL_floor_0 : decode cL_floor 0 = .ok (.aload_n 3, 1) := by decide +kernel
theorem dL_floor_1 : decode cL_floor 1 = .ok (.iconst 0, 1) := by decide +kernel
theorem dL_floor_2 : decode cL_floor 2 = .ok (.aload_n 0, 1) := by decide +kernel
theorem dL_floor_3 : decode cL_floor 3 = .ok (.iload_n 1, 1) := by decide +kernel
theorem dL_floor_4 : decode cL_floor 4 = .ok (.iload_n 2, 1) := by decide +kernel
theorem dL_floor_5 : decode cL_floor 5 = .ok (.invokevirtual 46, 3) := by decide +kernel
theorem dL_floor_8 : decode cL_floor 8 = .ok (.i2l, 1) := by decide +kernel
theorem dL_floor_9 : decode cL_floor 9 = .ok (.lastore, 1) := by decide +kernel
theorem dL_floor_10 : decode cL_floor 10 = .ok (.goto 11, 3) := by decide +kernel
theorem dL_floor_13 : decode cL_floor 13 = .ok (.astore 4, 2) := by decide +kernel
theorem dL_floor_15 : decode cL_floor 15 = .ok (.iconst 1, 1) := by decide +kernel
theorem dL_floor_16 : decode cL_floor 16 = .ok (.ireturn, 1) := by decide +kernel
theorem dL_floor_17 : decode cL_floor 17 = .ok (.astore 4, 2) := by decide +kernel
theorem dL_floor_19 : decode cL_floor 19 = .ok (.iconst 2, 1) := by decide +kernel
theorem dL_floor_20 : decode cL_floor 20 = .ok (.ireturn, 1) := by decide +kernel
theorem dL_floor_21 : decode cL_floor 21 = .ok (.iconst 0, 1) := by decide +kernel
theorem dL_floor_22 : decode cL_floor 22 = .ok (.ireturn, 1) := by decide +kernel
theorem dL_person_0 : decode cL_person 0 = .ok (.aload_n 3, 1) := by decide +kernel
theorem dL_person_1 : decode cL_person 1 = .ok (.iconst 0, 1) := by decide +kernel
theorem dL_person_2 : decode cL_person 2 = .ok (.aload_n 0, 1) := by decide +kernel
theorem dL_person_3 : decode cL_person 3 = .ok (.iload_n 1, 1) := by decide +kernel
theorem dL_person_4 : decode cL_person 4 = .ok (.iload_n 2, 1) := by decide +kernel
theorem dL_person_5 : decode cL_person 5 = .ok (.invokevirtual 49, 3) := by decide +kernel
theorem dL_person_8 : decode cL_person 8 = .ok (.i2l, 1) := by decide +kernel
theorem dL_person_9 : decode cL_person 9 = .ok (.lastore, 1) := by decide +kernel
theorem dL_person_10 : decode cL_person 10 = .ok (.goto 7, 3) := by decide +kernel
theorem dL_person_13 : decode cL_person 13 = .ok (.astore 4, 2) := by decide +kernel
theorem dL_person_15 : decode cL_person 15 = .ok (.iconst 1, 1) := by decide +kernel
theorem dL_person_16 : decode cL_person 16 = .ok (.ireturn, 1) := by decide +kernel
theorem dL_person_17 : decode cL_person 17 = .ok (.iconst 0, 1) := by decide +kernel
theorem dL_person_18 : decode cL_person 18 = .ok (.ireturn, 1) := by decide +kernel
theorem dL_count_0 : decode cL_count 0 = .ok (.aload_n 2, 1) := by decide +kernel
theorem dL_count_1 : decode cL_count 1 = .ok (.iconst 0, 1) := by decide +kernel
theorem dL_count_2 : decode cL_count 2 = .ok (.aload_n 0, 1) := by decide +kernel
theorem dL_count_3 : decode cL_count 3 = .ok (.iload_n 1, 1) := by decide +kernel
theorem dL_count_4 : decode cL_count 4 = .ok (.invokevirtual 52, 3) := by decide +kernel
theorem dL_count_7 : decode cL_count 7 = .ok (.i2l, 1) := by decide +kernel
theorem dL_count_8 : decode cL_count 8 = .ok (.lastore, 1) := by decide +kernel
theorem dL_count_9 : decode cL_count 9 = .ok (.goto 6, 3) := by decide +kernel
theorem dL_count_12 : decode cL_count 12 = .ok (.astore_n 3, 1) := by decide +kernel
theorem dL_count_13 : decode cL_count 13 = .ok (.iconst 1, 1) := by decide +kernel
theorem dL_count_14 : decode cL_count 14 = .ok (.ireturn, 1) := by decide +kernel
theorem dL_count_15 : decode cL_count 15 = .ok (.iconst 0, 1) := by decide +kernel
theorem dL_count_16 : decode cL_count 16 = .ok (.ireturn, 1) := by decide +kernel
theorem dL_setting_0 : decode cL_setting 0 = .ok (.aload_n 2, 1) := by decide +kernel
theorem dL_setting_1 : decode cL_setting 1 = .ok (.iconst 0, 1) := by decide +kernel
theorem dL_setting_2 : decode cL_setting 2 = .ok (.aload_n 0, 1) := by decide +kernel
theorem dL_setting_3 : decode cL_setting 3 = .ok (.iload_n 1, 1) := by decide +kernel
theorem dL_setting_4 : decode cL_setting 4 = .ok (.invokevirtual 55, 3) := by decide +kernel
theorem dL_setting_7 : decode cL_setting 7 = .ok (.i2l, 1) := by decide +kernel
theorem dL_setting_8 : decode cL_setting 8 = .ok (.lastore, 1) := by decide +kernel
theorem dL_setting_9 : decode cL_setting 9 = .ok (.goto 6, 3) := by decide +kernel
theorem dL_setting_12 : decode cL_setting 12 = .ok (.astore_n 3, 1) := by decide +kernel
theorem dL_setting_13 : decode cL_setting 13 = .ok (.iconst 1, 1) := by decide +kernel
theorem dL_setting_14 : decode cL_setting 14 = .ok (.ireturn, 1) := by decide +kernel
theorem dL_setting_15 : decode cL_setting 15 = .ok (.iconst 0, 1) := by decide +kernel
theorem dL_setting_16 : decode cL_setting 16 = .ok (.ireturn, 1) := by decide +kernel
theorem dL_ifPassed_0 : decode cL_ifPassed 0 = .ok (.aload_n 3, 1) := by decide +kernel
theorem dL_ifPassed_1 : decode cL_ifPassed 1 = .ok (.iconst 0, 1) := by decide +kernel
theorem dL_ifPassed_2 : decode cL_ifPassed 2 = .ok (.aload_n 0, 1) := by decide +kernel
theorem dL_ifPassed_3 : decode cL_ifPassed 3 = .ok (.iload_n 1, 1) := by decide +kernel
theorem dL_ifPassed_4 : decode cL_ifPassed 4 = .ok (.iload_n 2, 1) := by decide +kernel
theorem dL_ifPassed_5 : decode cL_ifPassed 5 = .ok (.invokevirtual 58, 3) := by decide +kernel
theorem dL_ifPassed_8 : decode cL_ifPassed 8 = .ok (.i2l, 1) := by decide +kernel
theorem dL_ifPassed_9 : decode cL_ifPassed 9 = .ok (.lastore, 1) := by decide +kernel
theorem dL_ifPassed_10 : decode cL_ifPassed 10 = .ok (.goto 7, 3) := by decide +kernel
theorem dL_ifPassed_13 : decode cL_ifPassed 13 = .ok (.astore 4, 2) := by decide +kernel
theorem dL_ifPassed_15 : decode cL_ifPassed 15 = .ok (.iconst 1, 1) := by decide +kernel
theorem dL_ifPassed_16 : decode cL_ifPassed 16 = .ok (.ireturn, 1) := by decide +kernel
theorem dL_ifPassed_17 : decode cL_ifPassed 17 = .ok (.iconst 0, 1) := by decide +kernel
theorem dL_ifPassed_18 : decode cL_ifPassed 18 = .ok (.ireturn, 1) := by decide +kernel
theorem dL_dark_0 : decode cL_dark 0 = .ok (.aload_n 3, 1) := by decide +kernel
theorem dL_dark_1 : decode cL_dark 1 = .ok (.iconst 0, 1) := by decide +kernel
theorem dL_dark_2 : decode cL_dark 2 = .ok (.aload_n 0, 1) := by decide +kernel
theorem dL_dark_3 : decode cL_dark 3 = .ok (.iload_n 1, 1) := by decide +kernel
theorem dL_dark_4 : decode cL_dark 4 = .ok (.iload_n 2, 1) := by decide +kernel
theorem dL_dark_5 : decode cL_dark 5 = .ok (.invokevirtual 61, 3) := by decide +kernel
theorem dL_dark_8 : decode cL_dark 8 = .ok (.i2l, 1) := by decide +kernel
theorem dL_dark_9 : decode cL_dark 9 = .ok (.lastore, 1) := by decide +kernel
theorem dL_dark_10 : decode cL_dark 10 = .ok (.goto 11, 3) := by decide +kernel
theorem dL_dark_13 : decode cL_dark 13 = .ok (.astore 4, 2) := by decide +kernel
theorem dL_dark_15 : decode cL_dark 15 = .ok (.iconst 1, 1) := by decide +kernel
theorem dL_dark_16 : decode cL_dark 16 = .ok (.ireturn, 1) := by decide +kernel
theorem dL_dark_17 : decode cL_dark 17 = .ok (.astore 4, 2) := by decide +kernel
theorem dL_dark_19 : decode cL_dark 19 = .ok (.iconst 2, 1) := by decide +kernel
theorem dL_dark_20 : decode cL_dark 20 = .ok (.ireturn, 1) := by decide +kernel
theorem dL_dark_21 : decode cL_dark 21 = .ok (.iconst 0, 1) := by decide +kernel
theorem dL_dark_22 : decode cL_dark 22 = .ok (.ireturn, 1) := by decide +kernel
theorem dL_leastTime_0 : decode cL_leastTime 0 = .ok (.aload_n 3, 1) := by decide +kernel
theorem dL_leastTime_1 : decode cL_leastTime 1 = .ok (.iconst 0, 1) := by decide +kernel
theorem dL_leastTime_2 : decode cL_leastTime 2 = .ok (.aload_n 0, 1) := by decide +kernel
theorem dL_leastTime_3 : decode cL_leastTime 3 = .ok (.iload_n 1, 1) := by decide +kernel
theorem dL_leastTime_4 : decode cL_leastTime 4 = .ok (.iload_n 2, 1) := by decide +kernel
theorem dL_leastTime_5 : decode cL_leastTime 5 = .ok (.invokevirtual 64, 3) := by decide +kernel
theorem dL_leastTime_8 : decode cL_leastTime 8 = .ok (.i2l, 1) := by decide +kernel
theorem dL_leastTime_9 : decode cL_leastTime 9 = .ok (.lastore, 1) := by decide +kernel
theorem dL_leastTime_10 : decode cL_leastTime 10 = .ok (.goto 11, 3) := by decide +kernel
theorem dL_leastTime_13 : decode cL_leastTime 13 = .ok (.astore 4, 2) := by decide +kernel
theorem dL_leastTime_15 : decode cL_leastTime 15 = .ok (.iconst 1, 1) := by decide +kernel
theorem dL_leastTime_16 : decode cL_leastTime 16 = .ok (.ireturn, 1) := by decide +kernel
theorem dL_leastTime_17 : decode cL_leastTime 17 = .ok (.astore 4, 2) := by decide +kernel
theorem dL_leastTime_19 : decode cL_leastTime 19 = .ok (.iconst 2, 1) := by decide +kernel
theorem dL_leastTime_20 : decode cL_leastTime 20 = .ok (.ireturn, 1) := by decide +kernel
theorem dL_leastTime_21 : decode cL_leastTime 21 = .ok (.iconst 0, 1) := by decide +kernel
theorem dL_leastTime_22 : decode cL_leastTime 22 = .ok (.ireturn, 1) := by decide +kernel
theorem dL_law_0 : decode cL_law 0 = .ok (.new 8, 3) := by decide +kernel
theorem dL_law_3 : decode cL_law 3 = .ok (.dup, 1) := by decide +kernel
theorem dL_law_4 : decode cL_law 4 = .ok (.invokespecial 67, 3) := by decide +kernel
theorem dL_law_7 : decode cL_law 7 = .ok (.astore_n 1, 1) := by decide +kernel
theorem dL_law_8 : decode cL_law 8 = .ok (.new 68, 3) := by decide +kernel
theorem dL_law_11 : decode cL_law 11 = .ok (.dup, 1) := by decide +kernel
theorem dL_law_12 : decode cL_law 12 = .ok (.invokespecial 70, 3) := by decide +kernel
theorem dL_law_15 : decode cL_law 15 = .ok (.astore_n 2, 1) := by decide +kernel
theorem dL_law_16 : decode cL_law 16 = .ok (.iconst 1, 1) := by decide +kernel
theorem dL_law_17 : decode cL_law 17 = .ok (.newarray .long, 2) := by decide +kernel
theorem dL_law_19 : decode cL_law 19 = .ok (.astore_n 3, 1) := by decide +kernel
theorem dL_law_20 : decode cL_law 20 = .ok (.iconst 0, 1) := by decide +kernel
theorem dL_law_21 : decode cL_law 21 = .ok (.istore 4, 2) := by decide +kernel
theorem dL_law_23 : decode cL_law 23 = .ok (.iload 4, 2) := by decide +kernel
theorem dL_law_25 : decode cL_law 25 = .ok (.aload_n 0, 1) := by decide +kernel
theorem dL_law_26 : decode cL_law 26 = .ok (.arraylength, 1) := by decide +kernel
theorem dL_law_27 : decode cL_law 27 = .ok (.iconst 3, 1) := by decide +kernel
theorem dL_law_28 : decode cL_law 28 = .ok (.isub, 1) := by decide +kernel
theorem dL_law_29 : decode cL_law 29 = .ok (.if_icmp .gt 1293, 3) := by decide +kernel
theorem dL_law_32 : decode cL_law 32 = .ok (.aload_n 0, 1) := by decide +kernel
theorem dL_law_33 : decode cL_law 33 = .ok (.iload 4, 2) := by decide +kernel
theorem dL_law_35 : decode cL_law 35 = .ok (.iaload, 1) := by decide +kernel
theorem dL_law_36 : decode cL_law 36 = .ok (.bipush 31, 2) := by decide +kernel
theorem dL_law_38 : decode cL_law 38 = .ok (.iand, 1) := by decide +kernel
theorem dL_law_39 : decode cL_law 39 = .ok (.tableswitch 1277 0 22 #[105, 173, 241, 297, 381, 422, 463, 531, 587, 643, 656, 669, 713, 757, 825, 893, 949, 1005, 1073, 1141, 1209, 1222, 1263], 105) := by decide +kernel
theorem dL_law_144 : decode cL_law 144 = .ok (.aload_n 1, 1) := by decide +kernel
theorem dL_law_145 : decode cL_law 145 = .ok (.aload_n 0, 1) := by decide +kernel
theorem dL_law_146 : decode cL_law 146 = .ok (.iload 4, 2) := by decide +kernel
theorem dL_law_148 : decode cL_law 148 = .ok (.iconst 1, 1) := by decide +kernel
theorem dL_law_149 : decode cL_law 149 = .ok (.iadd, 1) := by decide +kernel
theorem dL_law_150 : decode cL_law 150 = .ok (.iaload, 1) := by decide +kernel
theorem dL_law_151 : decode cL_law 151 = .ok (.aload_n 0, 1) := by decide +kernel
theorem dL_law_152 : decode cL_law 152 = .ok (.iload 4, 2) := by decide +kernel
theorem dL_law_154 : decode cL_law 154 = .ok (.iconst 2, 1) := by decide +kernel
theorem dL_law_155 : decode cL_law 155 = .ok (.iadd, 1) := by decide +kernel
theorem dL_law_156 : decode cL_law 156 = .ok (.iaload, 1) := by decide +kernel
theorem dL_law_157 : decode cL_law 157 = .ok (.aload_n 3, 1) := by decide +kernel
theorem dL_law_158 : decode cL_law 158 = .ok (.invokestatic 71, 3) := by decide +kernel
theorem dL_law_161 : decode cL_law 161 = .ok (.istore 5, 2) := by decide +kernel
theorem dL_law_163 : decode cL_law 163 = .ok (.aload_n 2, 1) := by decide +kernel
theorem dL_law_164 : decode cL_law 164 = .ok (.aload_n 0, 1) := by decide +kernel
theorem dL_law_165 : decode cL_law 165 = .ok (.iload 4, 2) := by decide +kernel
theorem dL_law_167 : decode cL_law 167 = .ok (.iconst 1, 1) := by decide +kernel
theorem dL_law_168 : decode cL_law 168 = .ok (.iadd, 1) := by decide +kernel
theorem dL_law_169 : decode cL_law 169 = .ok (.iaload, 1) := by decide +kernel
theorem dL_law_170 : decode cL_law 170 = .ok (.aload_n 0, 1) := by decide +kernel
theorem dL_law_171 : decode cL_law 171 = .ok (.iload 4, 2) := by decide +kernel
theorem dL_law_173 : decode cL_law 173 = .ok (.iconst 2, 1) := by decide +kernel
theorem dL_law_174 : decode cL_law 174 = .ok (.iadd, 1) := by decide +kernel
theorem dL_law_175 : decode cL_law 175 = .ok (.iaload, 1) := by decide +kernel
theorem dL_law_176 : decode cL_law 176 = .ok (.invokevirtual 76, 3) := by decide +kernel
theorem dL_law_179 : decode cL_law 179 = .ok (.istore 6, 2) := by decide +kernel
theorem dL_law_181 : decode cL_law 181 = .ok (.aload_n 2, 1) := by decide +kernel
theorem dL_law_182 : decode cL_law 182 = .ok (.invokevirtual 77, 3) := by decide +kernel
theorem dL_law_185 : decode cL_law 185 = .ok (.iload 5, 2) := by decide +kernel
theorem dL_law_187 : decode cL_law 187 = .ok (.if_icmp .eq 5, 3) := by decide +kernel
theorem dL_law_190 : decode cL_law 190 = .ok (.iconst 0, 1) := by decide +kernel
theorem dL_law_191 : decode cL_law 191 = .ok (.ireturn, 1) := by decide +kernel
theorem dL_law_192 : decode cL_law 192 = .ok (.iload 5, 2) := by decide +kernel
theorem dL_law_194 : decode cL_law 194 = .ok (.ifCond .ne 15, 3) := by decide +kernel
theorem dL_law_197 : decode cL_law 197 = .ok (.aload_n 3, 1) := by decide +kernel
theorem dL_law_198 : decode cL_law 198 = .ok (.iconst 0, 1) := by decide +kernel
theorem dL_law_199 : decode cL_law 199 = .ok (.laload, 1) := by decide +kernel
theorem dL_law_200 : decode cL_law 200 = .ok (.iload 6, 2) := by decide +kernel
theorem dL_law_202 : decode cL_law 202 = .ok (.i2l, 1) := by decide +kernel
theorem dL_law_203 : decode cL_law 203 = .ok (.lcmp, 1) := by decide +kernel
theorem dL_law_204 : decode cL_law 204 = .ok (.ifCond .eq 5, 3) := by decide +kernel
theorem dL_law_207 : decode cL_law 207 = .ok (.iconst 0, 1) := by decide +kernel
theorem dL_law_208 : decode cL_law 208 = .ok (.ireturn, 1) := by decide +kernel
theorem dL_law_209 : decode cL_law 209 = .ok (.goto 1107, 3) := by decide +kernel
theorem dL_law_212 : decode cL_law 212 = .ok (.aload_n 1, 1) := by decide +kernel
theorem dL_law_213 : decode cL_law 213 = .ok (.aload_n 0, 1) := by decide +kernel
theorem dL_law_214 : decode cL_law 214 = .ok (.iload 4, 2) := by decide +kernel
theorem dL_law_216 : decode cL_law 216 = .ok (.iconst 1, 1) := by decide +kernel
theorem dL_law_217 : decode cL_law 217 = .ok (.iadd, 1) := by decide +kernel
theorem dL_law_218 : decode cL_law 218 = .ok (.iaload, 1) := by decide +kernel
theorem dL_law_219 : decode cL_law 219 = .ok (.aload_n 0, 1) := by decide +kernel
theorem dL_law_220 : decode cL_law 220 = .ok (.iload 4, 2) := by decide +kernel
theorem dL_law_222 : decode cL_law 222 = .ok (.iconst 2, 1) := by decide +kernel
theorem dL_law_223 : decode cL_law 223 = .ok (.iadd, 1) := by decide +kernel
theorem dL_law_224 : decode cL_law 224 = .ok (.iaload, 1) := by decide +kernel
theorem dL_law_225 : decode cL_law 225 = .ok (.aload_n 3, 1) := by decide +kernel
theorem dL_law_226 : decode cL_law 226 = .ok (.invokestatic 80, 3) := by decide +kernel
theorem dL_law_229 : decode cL_law 229 = .ok (.istore 5, 2) := by decide +kernel
theorem dL_law_231 : decode cL_law 231 = .ok (.aload_n 2, 1) := by decide +kernel
theorem dL_law_232 : decode cL_law 232 = .ok (.aload_n 0, 1) := by decide +kernel
theorem dL_law_233 : decode cL_law 233 = .ok (.iload 4, 2) := by decide +kernel
theorem dL_law_235 : decode cL_law 235 = .ok (.iconst 1, 1) := by decide +kernel
theorem dL_law_236 : decode cL_law 236 = .ok (.iadd, 1) := by decide +kernel
theorem dL_law_237 : decode cL_law 237 = .ok (.iaload, 1) := by decide +kernel
theorem dL_law_238 : decode cL_law 238 = .ok (.aload_n 0, 1) := by decide +kernel
theorem dL_law_239 : decode cL_law 239 = .ok (.iload 4, 2) := by decide +kernel
theorem dL_law_241 : decode cL_law 241 = .ok (.iconst 2, 1) := by decide +kernel
theorem dL_law_242 : decode cL_law 242 = .ok (.iadd, 1) := by decide +kernel
theorem dL_law_243 : decode cL_law 243 = .ok (.iaload, 1) := by decide +kernel
theorem dL_law_244 : decode cL_law 244 = .ok (.invokevirtual 82, 3) := by decide +kernel
theorem dL_law_247 : decode cL_law 247 = .ok (.istore 6, 2) := by decide +kernel
theorem dL_law_249 : decode cL_law 249 = .ok (.aload_n 2, 1) := by decide +kernel
theorem dL_law_250 : decode cL_law 250 = .ok (.invokevirtual 77, 3) := by decide +kernel
theorem dL_law_253 : decode cL_law 253 = .ok (.iload 5, 2) := by decide +kernel
theorem dL_law_255 : decode cL_law 255 = .ok (.if_icmp .eq 5, 3) := by decide +kernel
theorem dL_law_258 : decode cL_law 258 = .ok (.iconst 0, 1) := by decide +kernel
theorem dL_law_259 : decode cL_law 259 = .ok (.ireturn, 1) := by decide +kernel
theorem dL_law_260 : decode cL_law 260 = .ok (.iload 5, 2) := by decide +kernel
theorem dL_law_262 : decode cL_law 262 = .ok (.ifCond .ne 15, 3) := by decide +kernel
theorem dL_law_265 : decode cL_law 265 = .ok (.aload_n 3, 1) := by decide +kernel
theorem dL_law_266 : decode cL_law 266 = .ok (.iconst 0, 1) := by decide +kernel
theorem dL_law_267 : decode cL_law 267 = .ok (.laload, 1) := by decide +kernel
theorem dL_law_268 : decode cL_law 268 = .ok (.iload 6, 2) := by decide +kernel
theorem dL_law_270 : decode cL_law 270 = .ok (.i2l, 1) := by decide +kernel
theorem dL_law_271 : decode cL_law 271 = .ok (.lcmp, 1) := by decide +kernel
theorem dL_law_272 : decode cL_law 272 = .ok (.ifCond .eq 5, 3) := by decide +kernel
theorem dL_law_275 : decode cL_law 275 = .ok (.iconst 0, 1) := by decide +kernel
theorem dL_law_276 : decode cL_law 276 = .ok (.ireturn, 1) := by decide +kernel
theorem dL_law_277 : decode cL_law 277 = .ok (.goto 1039, 3) := by decide +kernel
theorem dL_law_280 : decode cL_law 280 = .ok (.aload_n 1, 1) := by decide +kernel
theorem dL_law_281 : decode cL_law 281 = .ok (.aload_n 0, 1) := by decide +kernel
theorem dL_law_282 : decode cL_law 282 = .ok (.iload 4, 2) := by decide +kernel
theorem dL_law_284 : decode cL_law 284 = .ok (.iconst 1, 1) := by decide +kernel
theorem dL_law_285 : decode cL_law 285 = .ok (.iadd, 1) := by decide +kernel
theorem dL_law_286 : decode cL_law 286 = .ok (.iaload, 1) := by decide +kernel
theorem dL_law_287 : decode cL_law 287 = .ok (.aload_n 3, 1) := by decide +kernel
theorem dL_law_288 : decode cL_law 288 = .ok (.invokestatic 83, 3) := by decide +kernel
theorem dL_law_291 : decode cL_law 291 = .ok (.istore 5, 2) := by decide +kernel
theorem dL_law_293 : decode cL_law 293 = .ok (.aload_n 2, 1) := by decide +kernel
theorem dL_law_294 : decode cL_law 294 = .ok (.aload_n 0, 1) := by decide +kernel
theorem dL_law_295 : decode cL_law 295 = .ok (.iload 4, 2) := by decide +kernel
theorem dL_law_297 : decode cL_law 297 = .ok (.iconst 1, 1) := by decide +kernel
theorem dL_law_298 : decode cL_law 298 = .ok (.iadd, 1) := by decide +kernel
theorem dL_law_299 : decode cL_law 299 = .ok (.iaload, 1) := by decide +kernel
theorem dL_law_300 : decode cL_law 300 = .ok (.invokevirtual 86, 3) := by decide +kernel
theorem dL_law_303 : decode cL_law 303 = .ok (.istore 6, 2) := by decide +kernel
theorem dL_law_305 : decode cL_law 305 = .ok (.aload_n 2, 1) := by decide +kernel
theorem dL_law_306 : decode cL_law 306 = .ok (.invokevirtual 77, 3) := by decide +kernel
theorem dL_law_309 : decode cL_law 309 = .ok (.iload 5, 2) := by decide +kernel
theorem dL_law_311 : decode cL_law 311 = .ok (.if_icmp .eq 5, 3) := by decide +kernel
theorem dL_law_314 : decode cL_law 314 = .ok (.iconst 0, 1) := by decide +kernel
theorem dL_law_315 : decode cL_law 315 = .ok (.ireturn, 1) := by decide +kernel
theorem dL_law_316 : decode cL_law 316 = .ok (.iload 5, 2) := by decide +kernel
theorem dL_law_318 : decode cL_law 318 = .ok (.ifCond .ne 15, 3) := by decide +kernel
theorem dL_law_321 : decode cL_law 321 = .ok (.aload_n 3, 1) := by decide +kernel
theorem dL_law_322 : decode cL_law 322 = .ok (.iconst 0, 1) := by decide +kernel
theorem dL_law_323 : decode cL_law 323 = .ok (.laload, 1) := by decide +kernel
theorem dL_law_324 : decode cL_law 324 = .ok (.iload 6, 2) := by decide +kernel
theorem dL_law_326 : decode cL_law 326 = .ok (.i2l, 1) := by decide +kernel
theorem dL_law_327 : decode cL_law 327 = .ok (.lcmp, 1) := by decide +kernel
theorem dL_law_328 : decode cL_law 328 = .ok (.ifCond .eq 5, 3) := by decide +kernel
theorem dL_law_331 : decode cL_law 331 = .ok (.iconst 0, 1) := by decide +kernel
theorem dL_law_332 : decode cL_law 332 = .ok (.ireturn, 1) := by decide +kernel
theorem dL_law_333 : decode cL_law 333 = .ok (.goto 983, 3) := by decide +kernel
theorem dL_law_336 : decode cL_law 336 = .ok (.aload_n 1, 1) := by decide +kernel
theorem dL_law_337 : decode cL_law 337 = .ok (.aload_n 0, 1) := by decide +kernel
theorem dL_law_338 : decode cL_law 338 = .ok (.iload 4, 2) := by decide +kernel
theorem dL_law_340 : decode cL_law 340 = .ok (.iconst 1, 1) := by decide +kernel
theorem dL_law_341 : decode cL_law 341 = .ok (.iadd, 1) := by decide +kernel
theorem dL_law_342 : decode cL_law 342 = .ok (.iaload, 1) := by decide +kernel
theorem dL_law_343 : decode cL_law 343 = .ok (.aload_n 0, 1) := by decide +kernel
theorem dL_law_344 : decode cL_law 344 = .ok (.iload 4, 2) := by decide +kernel
theorem dL_law_346 : decode cL_law 346 = .ok (.iconst 2, 1) := by decide +kernel
theorem dL_law_347 : decode cL_law 347 = .ok (.iadd, 1) := by decide +kernel
theorem dL_law_348 : decode cL_law 348 = .ok (.iaload, 1) := by decide +kernel
theorem dL_law_349 : decode cL_law 349 = .ok (.ifCond .eq 7, 3) := by decide +kernel
theorem dL_law_352 : decode cL_law 352 = .ok (.iconst 1, 1) := by decide +kernel
theorem dL_law_353 : decode cL_law 353 = .ok (.goto 4, 3) := by decide +kernel
theorem dL_law_356 : decode cL_law 356 = .ok (.iconst 0, 1) := by decide +kernel
theorem dL_law_357 : decode cL_law 357 = .ok (.aload_n 3, 1) := by decide +kernel
theorem dL_law_358 : decode cL_law 358 = .ok (.invokestatic 87, 3) := by decide +kernel
theorem dL_law_361 : decode cL_law 361 = .ok (.istore 5, 2) := by decide +kernel
theorem dL_law_363 : decode cL_law 363 = .ok (.aload_n 2, 1) := by decide +kernel
theorem dL_law_364 : decode cL_law 364 = .ok (.aload_n 0, 1) := by decide +kernel
theorem dL_law_365 : decode cL_law 365 = .ok (.iload 4, 2) := by decide +kernel
theorem dL_law_367 : decode cL_law 367 = .ok (.iconst 1, 1) := by decide +kernel
theorem dL_law_368 : decode cL_law 368 = .ok (.iadd, 1) := by decide +kernel
theorem dL_law_369 : decode cL_law 369 = .ok (.iaload, 1) := by decide +kernel
theorem dL_law_370 : decode cL_law 370 = .ok (.aload_n 0, 1) := by decide +kernel
theorem dL_law_371 : decode cL_law 371 = .ok (.iload 4, 2) := by decide +kernel
theorem dL_law_373 : decode cL_law 373 = .ok (.iconst 2, 1) := by decide +kernel
theorem dL_law_374 : decode cL_law 374 = .ok (.iadd, 1) := by decide +kernel
theorem dL_law_375 : decode cL_law 375 = .ok (.iaload, 1) := by decide +kernel
theorem dL_law_376 : decode cL_law 376 = .ok (.ifCond .eq 7, 3) := by decide +kernel
theorem dL_law_379 : decode cL_law 379 = .ok (.iconst 1, 1) := by decide +kernel
theorem dL_law_380 : decode cL_law 380 = .ok (.goto 4, 3) := by decide +kernel
theorem dL_law_383 : decode cL_law 383 = .ok (.iconst 0, 1) := by decide +kernel
theorem dL_law_384 : decode cL_law 384 = .ok (.invokevirtual 90, 3) := by decide +kernel
theorem dL_law_387 : decode cL_law 387 = .ok (.istore 6, 2) := by decide +kernel
theorem dL_law_389 : decode cL_law 389 = .ok (.aload_n 2, 1) := by decide +kernel
theorem dL_law_390 : decode cL_law 390 = .ok (.invokevirtual 77, 3) := by decide +kernel
theorem dL_law_393 : decode cL_law 393 = .ok (.iload 5, 2) := by decide +kernel
theorem dL_law_395 : decode cL_law 395 = .ok (.if_icmp .eq 5, 3) := by decide +kernel
theorem dL_law_398 : decode cL_law 398 = .ok (.iconst 0, 1) := by decide +kernel
theorem dL_law_399 : decode cL_law 399 = .ok (.ireturn, 1) := by decide +kernel
theorem dL_law_400 : decode cL_law 400 = .ok (.iload 5, 2) := by decide +kernel
theorem dL_law_402 : decode cL_law 402 = .ok (.ifCond .ne 15, 3) := by decide +kernel
theorem dL_law_405 : decode cL_law 405 = .ok (.aload_n 3, 1) := by decide +kernel
theorem dL_law_406 : decode cL_law 406 = .ok (.iconst 0, 1) := by decide +kernel
theorem dL_law_407 : decode cL_law 407 = .ok (.laload, 1) := by decide +kernel
theorem dL_law_408 : decode cL_law 408 = .ok (.iload 6, 2) := by decide +kernel
theorem dL_law_410 : decode cL_law 410 = .ok (.i2l, 1) := by decide +kernel
theorem dL_law_411 : decode cL_law 411 = .ok (.lcmp, 1) := by decide +kernel
theorem dL_law_412 : decode cL_law 412 = .ok (.ifCond .eq 5, 3) := by decide +kernel
theorem dL_law_415 : decode cL_law 415 = .ok (.iconst 0, 1) := by decide +kernel
theorem dL_law_416 : decode cL_law 416 = .ok (.ireturn, 1) := by decide +kernel
theorem dL_law_417 : decode cL_law 417 = .ok (.goto 899, 3) := by decide +kernel
theorem dL_law_420 : decode cL_law 420 = .ok (.aload_n 1, 1) := by decide +kernel
theorem dL_law_421 : decode cL_law 421 = .ok (.aload_n 0, 1) := by decide +kernel
theorem dL_law_422 : decode cL_law 422 = .ok (.iload 4, 2) := by decide +kernel
theorem dL_law_424 : decode cL_law 424 = .ok (.iconst 1, 1) := by decide +kernel
theorem dL_law_425 : decode cL_law 425 = .ok (.iadd, 1) := by decide +kernel
theorem dL_law_426 : decode cL_law 426 = .ok (.iaload, 1) := by decide +kernel
theorem dL_law_427 : decode cL_law 427 = .ok (.ifCond .eq 7, 3) := by decide +kernel
theorem dL_law_430 : decode cL_law 430 = .ok (.iconst 1, 1) := by decide +kernel
theorem dL_law_431 : decode cL_law 431 = .ok (.goto 4, 3) := by decide +kernel
theorem dL_law_434 : decode cL_law 434 = .ok (.iconst 0, 1) := by decide +kernel
theorem dL_law_435 : decode cL_law 435 = .ok (.invokevirtual 91, 3) := by decide +kernel
theorem dL_law_438 : decode cL_law 438 = .ok (.aload_n 2, 1) := by decide +kernel
theorem dL_law_439 : decode cL_law 439 = .ok (.aload_n 0, 1) := by decide +kernel
theorem dL_law_440 : decode cL_law 440 = .ok (.iload 4, 2) := by decide +kernel
theorem dL_law_442 : decode cL_law 442 = .ok (.iconst 1, 1) := by decide +kernel
theorem dL_law_443 : decode cL_law 443 = .ok (.iadd, 1) := by decide +kernel
theorem dL_law_444 : decode cL_law 444 = .ok (.iaload, 1) := by decide +kernel
theorem dL_law_445 : decode cL_law 445 = .ok (.ifCond .eq 7, 3) := by decide +kernel
theorem dL_law_448 : decode cL_law 448 = .ok (.iconst 1, 1) := by decide +kernel
theorem dL_law_449 : decode cL_law 449 = .ok (.goto 4, 3) := by decide +kernel
theorem dL_law_452 : decode cL_law 452 = .ok (.iconst 0, 1) := by decide +kernel
theorem dL_law_453 : decode cL_law 453 = .ok (.invokevirtual 95, 3) := by decide +kernel
theorem dL_law_456 : decode cL_law 456 = .ok (.if_icmp .eq 860, 3) := by decide +kernel
theorem dL_law_459 : decode cL_law 459 = .ok (.iconst 0, 1) := by decide +kernel
theorem dL_law_460 : decode cL_law 460 = .ok (.ireturn, 1) := by decide +kernel
theorem dL_law_461 : decode cL_law 461 = .ok (.aload_n 1, 1) := by decide +kernel
theorem dL_law_462 : decode cL_law 462 = .ok (.aload_n 0, 1) := by decide +kernel
theorem dL_law_463 : decode cL_law 463 = .ok (.iload 4, 2) := by decide +kernel
theorem dL_law_465 : decode cL_law 465 = .ok (.iconst 1, 1) := by decide +kernel
theorem dL_law_466 : decode cL_law 466 = .ok (.iadd, 1) := by decide +kernel
theorem dL_law_467 : decode cL_law 467 = .ok (.iaload, 1) := by decide +kernel
theorem dL_law_468 : decode cL_law 468 = .ok (.ifCond .eq 7, 3) := by decide +kernel
theorem dL_law_471 : decode cL_law 471 = .ok (.iconst 1, 1) := by decide +kernel
theorem dL_law_472 : decode cL_law 472 = .ok (.goto 4, 3) := by decide +kernel
theorem dL_law_475 : decode cL_law 475 = .ok (.iconst 0, 1) := by decide +kernel
theorem dL_law_476 : decode cL_law 476 = .ok (.invokevirtual 96, 3) := by decide +kernel
theorem dL_law_479 : decode cL_law 479 = .ok (.aload_n 2, 1) := by decide +kernel
theorem dL_law_480 : decode cL_law 480 = .ok (.aload_n 0, 1) := by decide +kernel
theorem dL_law_481 : decode cL_law 481 = .ok (.iload 4, 2) := by decide +kernel
theorem dL_law_483 : decode cL_law 483 = .ok (.iconst 1, 1) := by decide +kernel
theorem dL_law_484 : decode cL_law 484 = .ok (.iadd, 1) := by decide +kernel
theorem dL_law_485 : decode cL_law 485 = .ok (.iaload, 1) := by decide +kernel
theorem dL_law_486 : decode cL_law 486 = .ok (.ifCond .eq 7, 3) := by decide +kernel
theorem dL_law_489 : decode cL_law 489 = .ok (.iconst 1, 1) := by decide +kernel
theorem dL_law_490 : decode cL_law 490 = .ok (.goto 4, 3) := by decide +kernel
theorem dL_law_493 : decode cL_law 493 = .ok (.iconst 0, 1) := by decide +kernel
theorem dL_law_494 : decode cL_law 494 = .ok (.invokevirtual 99, 3) := by decide +kernel
theorem dL_law_497 : decode cL_law 497 = .ok (.if_icmp .eq 819, 3) := by decide +kernel
theorem dL_law_500 : decode cL_law 500 = .ok (.iconst 0, 1) := by decide +kernel
theorem dL_law_501 : decode cL_law 501 = .ok (.ireturn, 1) := by decide +kernel
theorem dL_law_502 : decode cL_law 502 = .ok (.aload_n 1, 1) := by decide +kernel
theorem dL_law_503 : decode cL_law 503 = .ok (.aload_n 0, 1) := by decide +kernel
theorem dL_law_504 : decode cL_law 504 = .ok (.iload 4, 2) := by decide +kernel
theorem dL_law_506 : decode cL_law 506 = .ok (.iconst 1, 1) := by decide +kernel
theorem dL_law_507 : decode cL_law 507 = .ok (.iadd, 1) := by decide +kernel
theorem dL_law_508 : decode cL_law 508 = .ok (.iaload, 1) := by decide +kernel
theorem dL_law_509 : decode cL_law 509 = .ok (.aload_n 0, 1) := by decide +kernel
theorem dL_law_510 : decode cL_law 510 = .ok (.iload 4, 2) := by decide +kernel
theorem dL_law_512 : decode cL_law 512 = .ok (.iconst 2, 1) := by decide +kernel
theorem dL_law_513 : decode cL_law 513 = .ok (.iadd, 1) := by decide +kernel
theorem dL_law_514 : decode cL_law 514 = .ok (.iaload, 1) := by decide +kernel
theorem dL_law_515 : decode cL_law 515 = .ok (.aload_n 3, 1) := by decide +kernel
theorem dL_law_516 : decode cL_law 516 = .ok (.invokestatic 100, 3) := by decide +kernel
theorem dL_law_519 : decode cL_law 519 = .ok (.istore 5, 2) := by decide +kernel
theorem dL_law_521 : decode cL_law 521 = .ok (.aload_n 2, 1) := by decide +kernel
theorem dL_law_522 : decode cL_law 522 = .ok (.aload_n 0, 1) := by decide +kernel
theorem dL_law_523 : decode cL_law 523 = .ok (.iload 4, 2) := by decide +kernel
theorem dL_law_525 : decode cL_law 525 = .ok (.iconst 1, 1) := by decide +kernel
theorem dL_law_526 : decode cL_law 526 = .ok (.iadd, 1) := by decide +kernel
theorem dL_law_527 : decode cL_law 527 = .ok (.iaload, 1) := by decide +kernel
theorem dL_law_528 : decode cL_law 528 = .ok (.aload_n 0, 1) := by decide +kernel
theorem dL_law_529 : decode cL_law 529 = .ok (.iload 4, 2) := by decide +kernel
theorem dL_law_531 : decode cL_law 531 = .ok (.iconst 2, 1) := by decide +kernel
theorem dL_law_532 : decode cL_law 532 = .ok (.iadd, 1) := by decide +kernel
theorem dL_law_533 : decode cL_law 533 = .ok (.iaload, 1) := by decide +kernel
theorem dL_law_534 : decode cL_law 534 = .ok (.invokevirtual 102, 3) := by decide +kernel
theorem dL_law_537 : decode cL_law 537 = .ok (.istore 6, 2) := by decide +kernel
theorem dL_law_539 : decode cL_law 539 = .ok (.aload_n 2, 1) := by decide +kernel
theorem dL_law_540 : decode cL_law 540 = .ok (.invokevirtual 77, 3) := by decide +kernel
theorem dL_law_543 : decode cL_law 543 = .ok (.iload 5, 2) := by decide +kernel
theorem dL_law_545 : decode cL_law 545 = .ok (.if_icmp .eq 5, 3) := by decide +kernel
theorem dL_law_548 : decode cL_law 548 = .ok (.iconst 0, 1) := by decide +kernel
theorem dL_law_549 : decode cL_law 549 = .ok (.ireturn, 1) := by decide +kernel
theorem dL_law_550 : decode cL_law 550 = .ok (.iload 5, 2) := by decide +kernel
theorem dL_law_552 : decode cL_law 552 = .ok (.ifCond .ne 15, 3) := by decide +kernel
theorem dL_law_555 : decode cL_law 555 = .ok (.aload_n 3, 1) := by decide +kernel
theorem dL_law_556 : decode cL_law 556 = .ok (.iconst 0, 1) := by decide +kernel
theorem dL_law_557 : decode cL_law 557 = .ok (.laload, 1) := by decide +kernel
theorem dL_law_558 : decode cL_law 558 = .ok (.iload 6, 2) := by decide +kernel
theorem dL_law_560 : decode cL_law 560 = .ok (.i2l, 1) := by decide +kernel
theorem dL_law_561 : decode cL_law 561 = .ok (.lcmp, 1) := by decide +kernel
theorem dL_law_562 : decode cL_law 562 = .ok (.ifCond .eq 5, 3) := by decide +kernel
theorem dL_law_565 : decode cL_law 565 = .ok (.iconst 0, 1) := by decide +kernel
theorem dL_law_566 : decode cL_law 566 = .ok (.ireturn, 1) := by decide +kernel
theorem dL_law_567 : decode cL_law 567 = .ok (.goto 749, 3) := by decide +kernel
theorem dL_law_570 : decode cL_law 570 = .ok (.aload_n 1, 1) := by decide +kernel
theorem dL_law_571 : decode cL_law 571 = .ok (.aload_n 0, 1) := by decide +kernel
theorem dL_law_572 : decode cL_law 572 = .ok (.iload 4, 2) := by decide +kernel
theorem dL_law_574 : decode cL_law 574 = .ok (.iconst 1, 1) := by decide +kernel
theorem dL_law_575 : decode cL_law 575 = .ok (.iadd, 1) := by decide +kernel
theorem dL_law_576 : decode cL_law 576 = .ok (.iaload, 1) := by decide +kernel
theorem dL_law_577 : decode cL_law 577 = .ok (.aload_n 3, 1) := by decide +kernel
theorem dL_law_578 : decode cL_law 578 = .ok (.invokestatic 103, 3) := by decide +kernel
theorem dL_law_581 : decode cL_law 581 = .ok (.istore 5, 2) := by decide +kernel
theorem dL_law_583 : decode cL_law 583 = .ok (.aload_n 2, 1) := by decide +kernel
theorem dL_law_584 : decode cL_law 584 = .ok (.aload_n 0, 1) := by decide +kernel
theorem dL_law_585 : decode cL_law 585 = .ok (.iload 4, 2) := by decide +kernel
theorem dL_law_587 : decode cL_law 587 = .ok (.iconst 1, 1) := by decide +kernel
theorem dL_law_588 : decode cL_law 588 = .ok (.iadd, 1) := by decide +kernel
theorem dL_law_589 : decode cL_law 589 = .ok (.iaload, 1) := by decide +kernel
theorem dL_law_590 : decode cL_law 590 = .ok (.invokevirtual 105, 3) := by decide +kernel
theorem dL_law_593 : decode cL_law 593 = .ok (.istore 6, 2) := by decide +kernel
theorem dL_law_595 : decode cL_law 595 = .ok (.aload_n 2, 1) := by decide +kernel
theorem dL_law_596 : decode cL_law 596 = .ok (.invokevirtual 77, 3) := by decide +kernel
theorem dL_law_599 : decode cL_law 599 = .ok (.iload 5, 2) := by decide +kernel
theorem dL_law_601 : decode cL_law 601 = .ok (.if_icmp .eq 5, 3) := by decide +kernel
theorem dL_law_604 : decode cL_law 604 = .ok (.iconst 0, 1) := by decide +kernel
theorem dL_law_605 : decode cL_law 605 = .ok (.ireturn, 1) := by decide +kernel
theorem dL_law_606 : decode cL_law 606 = .ok (.iload 5, 2) := by decide +kernel
theorem dL_law_608 : decode cL_law 608 = .ok (.ifCond .ne 15, 3) := by decide +kernel
theorem dL_law_611 : decode cL_law 611 = .ok (.aload_n 3, 1) := by decide +kernel
theorem dL_law_612 : decode cL_law 612 = .ok (.iconst 0, 1) := by decide +kernel
theorem dL_law_613 : decode cL_law 613 = .ok (.laload, 1) := by decide +kernel
theorem dL_law_614 : decode cL_law 614 = .ok (.iload 6, 2) := by decide +kernel
theorem dL_law_616 : decode cL_law 616 = .ok (.i2l, 1) := by decide +kernel
theorem dL_law_617 : decode cL_law 617 = .ok (.lcmp, 1) := by decide +kernel
theorem dL_law_618 : decode cL_law 618 = .ok (.ifCond .eq 5, 3) := by decide +kernel
theorem dL_law_621 : decode cL_law 621 = .ok (.iconst 0, 1) := by decide +kernel
theorem dL_law_622 : decode cL_law 622 = .ok (.ireturn, 1) := by decide +kernel
theorem dL_law_623 : decode cL_law 623 = .ok (.goto 693, 3) := by decide +kernel
theorem dL_law_626 : decode cL_law 626 = .ok (.aload_n 1, 1) := by decide +kernel
theorem dL_law_627 : decode cL_law 627 = .ok (.aload_n 0, 1) := by decide +kernel
theorem dL_law_628 : decode cL_law 628 = .ok (.iload 4, 2) := by decide +kernel
theorem dL_law_630 : decode cL_law 630 = .ok (.iconst 1, 1) := by decide +kernel
theorem dL_law_631 : decode cL_law 631 = .ok (.iadd, 1) := by decide +kernel
theorem dL_law_632 : decode cL_law 632 = .ok (.iaload, 1) := by decide +kernel
theorem dL_law_633 : decode cL_law 633 = .ok (.aload_n 3, 1) := by decide +kernel
theorem dL_law_634 : decode cL_law 634 = .ok (.invokestatic 106, 3) := by decide +kernel
theorem dL_law_637 : decode cL_law 637 = .ok (.istore 5, 2) := by decide +kernel
theorem dL_law_639 : decode cL_law 639 = .ok (.aload_n 2, 1) := by decide +kernel
theorem dL_law_640 : decode cL_law 640 = .ok (.aload_n 0, 1) := by decide +kernel
theorem dL_law_641 : decode cL_law 641 = .ok (.iload 4, 2) := by decide +kernel
theorem dL_law_643 : decode cL_law 643 = .ok (.iconst 1, 1) := by decide +kernel
theorem dL_law_644 : decode cL_law 644 = .ok (.iadd, 1) := by decide +kernel
theorem dL_law_645 : decode cL_law 645 = .ok (.iaload, 1) := by decide +kernel
theorem dL_law_646 : decode cL_law 646 = .ok (.invokevirtual 108, 3) := by decide +kernel
theorem dL_law_649 : decode cL_law 649 = .ok (.istore 6, 2) := by decide +kernel
theorem dL_law_651 : decode cL_law 651 = .ok (.aload_n 2, 1) := by decide +kernel
theorem dL_law_652 : decode cL_law 652 = .ok (.invokevirtual 77, 3) := by decide +kernel
theorem dL_law_655 : decode cL_law 655 = .ok (.iload 5, 2) := by decide +kernel
theorem dL_law_657 : decode cL_law 657 = .ok (.if_icmp .eq 5, 3) := by decide +kernel
theorem dL_law_660 : decode cL_law 660 = .ok (.iconst 0, 1) := by decide +kernel
theorem dL_law_661 : decode cL_law 661 = .ok (.ireturn, 1) := by decide +kernel
theorem dL_law_662 : decode cL_law 662 = .ok (.iload 5, 2) := by decide +kernel
theorem dL_law_664 : decode cL_law 664 = .ok (.ifCond .ne 15, 3) := by decide +kernel
theorem dL_law_667 : decode cL_law 667 = .ok (.aload_n 3, 1) := by decide +kernel
theorem dL_law_668 : decode cL_law 668 = .ok (.iconst 0, 1) := by decide +kernel
theorem dL_law_669 : decode cL_law 669 = .ok (.laload, 1) := by decide +kernel
theorem dL_law_670 : decode cL_law 670 = .ok (.iload 6, 2) := by decide +kernel
theorem dL_law_672 : decode cL_law 672 = .ok (.i2l, 1) := by decide +kernel
theorem dL_law_673 : decode cL_law 673 = .ok (.lcmp, 1) := by decide +kernel
theorem dL_law_674 : decode cL_law 674 = .ok (.ifCond .eq 5, 3) := by decide +kernel
theorem dL_law_677 : decode cL_law 677 = .ok (.iconst 0, 1) := by decide +kernel
theorem dL_law_678 : decode cL_law 678 = .ok (.ireturn, 1) := by decide +kernel
theorem dL_law_679 : decode cL_law 679 = .ok (.goto 637, 3) := by decide +kernel
theorem dL_law_682 : decode cL_law 682 = .ok (.aload_n 1, 1) := by decide +kernel
theorem dL_law_683 : decode cL_law 683 = .ok (.invokevirtual 109, 3) := by decide +kernel
theorem dL_law_686 : decode cL_law 686 = .ok (.aload_n 2, 1) := by decide +kernel
theorem dL_law_687 : decode cL_law 687 = .ok (.invokevirtual 112, 3) := by decide +kernel
theorem dL_law_690 : decode cL_law 690 = .ok (.if_icmp .eq 626, 3) := by decide +kernel
theorem dL_law_693 : decode cL_law 693 = .ok (.iconst 0, 1) := by decide +kernel
theorem dL_law_694 : decode cL_law 694 = .ok (.ireturn, 1) := by decide +kernel
theorem dL_law_695 : decode cL_law 695 = .ok (.aload_n 1, 1) := by decide +kernel
theorem dL_law_696 : decode cL_law 696 = .ok (.invokevirtual 113, 3) := by decide +kernel
theorem dL_law_699 : decode cL_law 699 = .ok (.aload_n 2, 1) := by decide +kernel
theorem dL_law_700 : decode cL_law 700 = .ok (.invokevirtual 116, 3) := by decide +kernel
theorem dL_law_703 : decode cL_law 703 = .ok (.if_icmp .eq 613, 3) := by decide +kernel
theorem dL_law_706 : decode cL_law 706 = .ok (.iconst 0, 1) := by decide +kernel
theorem dL_law_707 : decode cL_law 707 = .ok (.ireturn, 1) := by decide +kernel
theorem dL_law_708 : decode cL_law 708 = .ok (.aload_n 1, 1) := by decide +kernel
theorem dL_law_709 : decode cL_law 709 = .ok (.aload_n 3, 1) := by decide +kernel
theorem dL_law_710 : decode cL_law 710 = .ok (.invokestatic 117, 3) := by decide +kernel
theorem dL_law_713 : decode cL_law 713 = .ok (.istore 5, 2) := by decide +kernel
theorem dL_law_715 : decode cL_law 715 = .ok (.aload_n 2, 1) := by decide +kernel
theorem dL_law_716 : decode cL_law 716 = .ok (.invokevirtual 120, 3) := by decide +kernel
theorem dL_law_719 : decode cL_law 719 = .ok (.istore 6, 2) := by decide +kernel
theorem dL_law_721 : decode cL_law 721 = .ok (.aload_n 2, 1) := by decide +kernel
theorem dL_law_722 : decode cL_law 722 = .ok (.invokevirtual 77, 3) := by decide +kernel
theorem dL_law_725 : decode cL_law 725 = .ok (.iload 5, 2) := by decide +kernel
theorem dL_law_727 : decode cL_law 727 = .ok (.if_icmp .eq 5, 3) := by decide +kernel
theorem dL_law_730 : decode cL_law 730 = .ok (.iconst 0, 1) := by decide +kernel
theorem dL_law_731 : decode cL_law 731 = .ok (.ireturn, 1) := by decide +kernel
theorem dL_law_732 : decode cL_law 732 = .ok (.iload 5, 2) := by decide +kernel
theorem dL_law_734 : decode cL_law 734 = .ok (.ifCond .ne 15, 3) := by decide +kernel
theorem dL_law_737 : decode cL_law 737 = .ok (.aload_n 3, 1) := by decide +kernel
theorem dL_law_738 : decode cL_law 738 = .ok (.iconst 0, 1) := by decide +kernel
theorem dL_law_739 : decode cL_law 739 = .ok (.laload, 1) := by decide +kernel
theorem dL_law_740 : decode cL_law 740 = .ok (.iload 6, 2) := by decide +kernel
theorem dL_law_742 : decode cL_law 742 = .ok (.i2l, 1) := by decide +kernel
theorem dL_law_743 : decode cL_law 743 = .ok (.lcmp, 1) := by decide +kernel
theorem dL_law_744 : decode cL_law 744 = .ok (.ifCond .eq 5, 3) := by decide +kernel
theorem dL_law_747 : decode cL_law 747 = .ok (.iconst 0, 1) := by decide +kernel
theorem dL_law_748 : decode cL_law 748 = .ok (.ireturn, 1) := by decide +kernel
theorem dL_law_749 : decode cL_law 749 = .ok (.goto 567, 3) := by decide +kernel
theorem dL_law_752 : decode cL_law 752 = .ok (.aload_n 1, 1) := by decide +kernel
theorem dL_law_753 : decode cL_law 753 = .ok (.aload_n 3, 1) := by decide +kernel
theorem dL_law_754 : decode cL_law 754 = .ok (.invokestatic 121, 3) := by decide +kernel
theorem dL_law_757 : decode cL_law 757 = .ok (.istore 5, 2) := by decide +kernel
theorem dL_law_759 : decode cL_law 759 = .ok (.aload_n 2, 1) := by decide +kernel
theorem dL_law_760 : decode cL_law 760 = .ok (.invokevirtual 123, 3) := by decide +kernel
theorem dL_law_763 : decode cL_law 763 = .ok (.istore 6, 2) := by decide +kernel
theorem dL_law_765 : decode cL_law 765 = .ok (.aload_n 2, 1) := by decide +kernel
theorem dL_law_766 : decode cL_law 766 = .ok (.invokevirtual 77, 3) := by decide +kernel
theorem dL_law_769 : decode cL_law 769 = .ok (.iload 5, 2) := by decide +kernel
theorem dL_law_771 : decode cL_law 771 = .ok (.if_icmp .eq 5, 3) := by decide +kernel
theorem dL_law_774 : decode cL_law 774 = .ok (.iconst 0, 1) := by decide +kernel
theorem dL_law_775 : decode cL_law 775 = .ok (.ireturn, 1) := by decide +kernel
theorem dL_law_776 : decode cL_law 776 = .ok (.iload 5, 2) := by decide +kernel
theorem dL_law_778 : decode cL_law 778 = .ok (.ifCond .ne 15, 3) := by decide +kernel
theorem dL_law_781 : decode cL_law 781 = .ok (.aload_n 3, 1) := by decide +kernel
theorem dL_law_782 : decode cL_law 782 = .ok (.iconst 0, 1) := by decide +kernel
theorem dL_law_783 : decode cL_law 783 = .ok (.laload, 1) := by decide +kernel
theorem dL_law_784 : decode cL_law 784 = .ok (.iload 6, 2) := by decide +kernel
theorem dL_law_786 : decode cL_law 786 = .ok (.i2l, 1) := by decide +kernel
theorem dL_law_787 : decode cL_law 787 = .ok (.lcmp, 1) := by decide +kernel
theorem dL_law_788 : decode cL_law 788 = .ok (.ifCond .eq 5, 3) := by decide +kernel
theorem dL_law_791 : decode cL_law 791 = .ok (.iconst 0, 1) := by decide +kernel
theorem dL_law_792 : decode cL_law 792 = .ok (.ireturn, 1) := by decide +kernel
theorem dL_law_793 : decode cL_law 793 = .ok (.goto 523, 3) := by decide +kernel
theorem dL_law_796 : decode cL_law 796 = .ok (.aload_n 1, 1) := by decide +kernel
theorem dL_law_797 : decode cL_law 797 = .ok (.aload_n 0, 1) := by decide +kernel
theorem dL_law_798 : decode cL_law 798 = .ok (.iload 4, 2) := by decide +kernel
theorem dL_law_800 : decode cL_law 800 = .ok (.iconst 1, 1) := by decide +kernel
theorem dL_law_801 : decode cL_law 801 = .ok (.iadd, 1) := by decide +kernel
theorem dL_law_802 : decode cL_law 802 = .ok (.iaload, 1) := by decide +kernel
theorem dL_law_803 : decode cL_law 803 = .ok (.aload_n 0, 1) := by decide +kernel
theorem dL_law_804 : decode cL_law 804 = .ok (.iload 4, 2) := by decide +kernel
theorem dL_law_806 : decode cL_law 806 = .ok (.iconst 2, 1) := by decide +kernel
theorem dL_law_807 : decode cL_law 807 = .ok (.iadd, 1) := by decide +kernel
theorem dL_law_808 : decode cL_law 808 = .ok (.iaload, 1) := by decide +kernel
theorem dL_law_809 : decode cL_law 809 = .ok (.aload_n 3, 1) := by decide +kernel
theorem dL_law_810 : decode cL_law 810 = .ok (.invokestatic 124, 3) := by decide +kernel
theorem dL_law_813 : decode cL_law 813 = .ok (.istore 5, 2) := by decide +kernel
theorem dL_law_815 : decode cL_law 815 = .ok (.aload_n 2, 1) := by decide +kernel
theorem dL_law_816 : decode cL_law 816 = .ok (.aload_n 0, 1) := by decide +kernel
theorem dL_law_817 : decode cL_law 817 = .ok (.iload 4, 2) := by decide +kernel
theorem dL_law_819 : decode cL_law 819 = .ok (.iconst 1, 1) := by decide +kernel
theorem dL_law_820 : decode cL_law 820 = .ok (.iadd, 1) := by decide +kernel
theorem dL_law_821 : decode cL_law 821 = .ok (.iaload, 1) := by decide +kernel
theorem dL_law_822 : decode cL_law 822 = .ok (.aload_n 0, 1) := by decide +kernel
theorem dL_law_823 : decode cL_law 823 = .ok (.iload 4, 2) := by decide +kernel
theorem dL_law_825 : decode cL_law 825 = .ok (.iconst 2, 1) := by decide +kernel
theorem dL_law_826 : decode cL_law 826 = .ok (.iadd, 1) := by decide +kernel
theorem dL_law_827 : decode cL_law 827 = .ok (.iaload, 1) := by decide +kernel
theorem dL_law_828 : decode cL_law 828 = .ok (.invokevirtual 126, 3) := by decide +kernel
theorem dL_law_831 : decode cL_law 831 = .ok (.istore 6, 2) := by decide +kernel
theorem dL_law_833 : decode cL_law 833 = .ok (.aload_n 2, 1) := by decide +kernel
theorem dL_law_834 : decode cL_law 834 = .ok (.invokevirtual 77, 3) := by decide +kernel
theorem dL_law_837 : decode cL_law 837 = .ok (.iload 5, 2) := by decide +kernel
theorem dL_law_839 : decode cL_law 839 = .ok (.if_icmp .eq 5, 3) := by decide +kernel
theorem dL_law_842 : decode cL_law 842 = .ok (.iconst 0, 1) := by decide +kernel
theorem dL_law_843 : decode cL_law 843 = .ok (.ireturn, 1) := by decide +kernel
theorem dL_law_844 : decode cL_law 844 = .ok (.iload 5, 2) := by decide +kernel
theorem dL_law_846 : decode cL_law 846 = .ok (.ifCond .ne 15, 3) := by decide +kernel
theorem dL_law_849 : decode cL_law 849 = .ok (.aload_n 3, 1) := by decide +kernel
theorem dL_law_850 : decode cL_law 850 = .ok (.iconst 0, 1) := by decide +kernel
theorem dL_law_851 : decode cL_law 851 = .ok (.laload, 1) := by decide +kernel
theorem dL_law_852 : decode cL_law 852 = .ok (.iload 6, 2) := by decide +kernel
theorem dL_law_854 : decode cL_law 854 = .ok (.i2l, 1) := by decide +kernel
theorem dL_law_855 : decode cL_law 855 = .ok (.lcmp, 1) := by decide +kernel
theorem dL_law_856 : decode cL_law 856 = .ok (.ifCond .eq 5, 3) := by decide +kernel
theorem dL_law_859 : decode cL_law 859 = .ok (.iconst 0, 1) := by decide +kernel
theorem dL_law_860 : decode cL_law 860 = .ok (.ireturn, 1) := by decide +kernel
theorem dL_law_861 : decode cL_law 861 = .ok (.goto 455, 3) := by decide +kernel
theorem dL_law_864 : decode cL_law 864 = .ok (.aload_n 1, 1) := by decide +kernel
theorem dL_law_865 : decode cL_law 865 = .ok (.aload_n 0, 1) := by decide +kernel
theorem dL_law_866 : decode cL_law 866 = .ok (.iload 4, 2) := by decide +kernel
theorem dL_law_868 : decode cL_law 868 = .ok (.iconst 1, 1) := by decide +kernel
theorem dL_law_869 : decode cL_law 869 = .ok (.iadd, 1) := by decide +kernel
theorem dL_law_870 : decode cL_law 870 = .ok (.iaload, 1) := by decide +kernel
theorem dL_law_871 : decode cL_law 871 = .ok (.aload_n 0, 1) := by decide +kernel
theorem dL_law_872 : decode cL_law 872 = .ok (.iload 4, 2) := by decide +kernel
theorem dL_law_874 : decode cL_law 874 = .ok (.iconst 2, 1) := by decide +kernel
theorem dL_law_875 : decode cL_law 875 = .ok (.iadd, 1) := by decide +kernel
theorem dL_law_876 : decode cL_law 876 = .ok (.iaload, 1) := by decide +kernel
theorem dL_law_877 : decode cL_law 877 = .ok (.aload_n 3, 1) := by decide +kernel
theorem dL_law_878 : decode cL_law 878 = .ok (.invokestatic 127, 3) := by decide +kernel
theorem dL_law_881 : decode cL_law 881 = .ok (.istore 5, 2) := by decide +kernel
theorem dL_law_883 : decode cL_law 883 = .ok (.aload_n 2, 1) := by decide +kernel
theorem dL_law_884 : decode cL_law 884 = .ok (.aload_n 0, 1) := by decide +kernel
theorem dL_law_885 : decode cL_law 885 = .ok (.iload 4, 2) := by decide +kernel
theorem dL_law_887 : decode cL_law 887 = .ok (.iconst 1, 1) := by decide +kernel
theorem dL_law_888 : decode cL_law 888 = .ok (.iadd, 1) := by decide +kernel
theorem dL_law_889 : decode cL_law 889 = .ok (.iaload, 1) := by decide +kernel
theorem dL_law_890 : decode cL_law 890 = .ok (.aload_n 0, 1) := by decide +kernel
theorem dL_law_891 : decode cL_law 891 = .ok (.iload 4, 2) := by decide +kernel
theorem dL_law_893 : decode cL_law 893 = .ok (.iconst 2, 1) := by decide +kernel
theorem dL_law_894 : decode cL_law 894 = .ok (.iadd, 1) := by decide +kernel
theorem dL_law_895 : decode cL_law 895 = .ok (.iaload, 1) := by decide +kernel
theorem dL_law_896 : decode cL_law 896 = .ok (.invokevirtual 129, 3) := by decide +kernel
theorem dL_law_899 : decode cL_law 899 = .ok (.istore 6, 2) := by decide +kernel
theorem dL_law_901 : decode cL_law 901 = .ok (.aload_n 2, 1) := by decide +kernel
theorem dL_law_902 : decode cL_law 902 = .ok (.invokevirtual 77, 3) := by decide +kernel
theorem dL_law_905 : decode cL_law 905 = .ok (.iload 5, 2) := by decide +kernel
theorem dL_law_907 : decode cL_law 907 = .ok (.if_icmp .eq 5, 3) := by decide +kernel
theorem dL_law_910 : decode cL_law 910 = .ok (.iconst 0, 1) := by decide +kernel
theorem dL_law_911 : decode cL_law 911 = .ok (.ireturn, 1) := by decide +kernel
theorem dL_law_912 : decode cL_law 912 = .ok (.iload 5, 2) := by decide +kernel
theorem dL_law_914 : decode cL_law 914 = .ok (.ifCond .ne 15, 3) := by decide +kernel
theorem dL_law_917 : decode cL_law 917 = .ok (.aload_n 3, 1) := by decide +kernel
theorem dL_law_918 : decode cL_law 918 = .ok (.iconst 0, 1) := by decide +kernel
theorem dL_law_919 : decode cL_law 919 = .ok (.laload, 1) := by decide +kernel
theorem dL_law_920 : decode cL_law 920 = .ok (.iload 6, 2) := by decide +kernel
theorem dL_law_922 : decode cL_law 922 = .ok (.i2l, 1) := by decide +kernel
theorem dL_law_923 : decode cL_law 923 = .ok (.lcmp, 1) := by decide +kernel
theorem dL_law_924 : decode cL_law 924 = .ok (.ifCond .eq 5, 3) := by decide +kernel
theorem dL_law_927 : decode cL_law 927 = .ok (.iconst 0, 1) := by decide +kernel
theorem dL_law_928 : decode cL_law 928 = .ok (.ireturn, 1) := by decide +kernel
theorem dL_law_929 : decode cL_law 929 = .ok (.goto 387, 3) := by decide +kernel
theorem dL_law_932 : decode cL_law 932 = .ok (.aload_n 1, 1) := by decide +kernel
theorem dL_law_933 : decode cL_law 933 = .ok (.aload_n 0, 1) := by decide +kernel
theorem dL_law_934 : decode cL_law 934 = .ok (.iload 4, 2) := by decide +kernel
theorem dL_law_936 : decode cL_law 936 = .ok (.iconst 1, 1) := by decide +kernel
theorem dL_law_937 : decode cL_law 937 = .ok (.iadd, 1) := by decide +kernel
theorem dL_law_938 : decode cL_law 938 = .ok (.iaload, 1) := by decide +kernel
theorem dL_law_939 : decode cL_law 939 = .ok (.aload_n 3, 1) := by decide +kernel
theorem dL_law_940 : decode cL_law 940 = .ok (.invokestatic 130, 3) := by decide +kernel
theorem dL_law_943 : decode cL_law 943 = .ok (.istore 5, 2) := by decide +kernel
theorem dL_law_945 : decode cL_law 945 = .ok (.aload_n 2, 1) := by decide +kernel
theorem dL_law_946 : decode cL_law 946 = .ok (.aload_n 0, 1) := by decide +kernel
theorem dL_law_947 : decode cL_law 947 = .ok (.iload 4, 2) := by decide +kernel
theorem dL_law_949 : decode cL_law 949 = .ok (.iconst 1, 1) := by decide +kernel
theorem dL_law_950 : decode cL_law 950 = .ok (.iadd, 1) := by decide +kernel
theorem dL_law_951 : decode cL_law 951 = .ok (.iaload, 1) := by decide +kernel
theorem dL_law_952 : decode cL_law 952 = .ok (.invokevirtual 132, 3) := by decide +kernel
theorem dL_law_955 : decode cL_law 955 = .ok (.istore 6, 2) := by decide +kernel
theorem dL_law_957 : decode cL_law 957 = .ok (.aload_n 2, 1) := by decide +kernel
theorem dL_law_958 : decode cL_law 958 = .ok (.invokevirtual 77, 3) := by decide +kernel
theorem dL_law_961 : decode cL_law 961 = .ok (.iload 5, 2) := by decide +kernel
theorem dL_law_963 : decode cL_law 963 = .ok (.if_icmp .eq 5, 3) := by decide +kernel
theorem dL_law_966 : decode cL_law 966 = .ok (.iconst 0, 1) := by decide +kernel
theorem dL_law_967 : decode cL_law 967 = .ok (.ireturn, 1) := by decide +kernel
theorem dL_law_968 : decode cL_law 968 = .ok (.iload 5, 2) := by decide +kernel
theorem dL_law_970 : decode cL_law 970 = .ok (.ifCond .ne 15, 3) := by decide +kernel
theorem dL_law_973 : decode cL_law 973 = .ok (.aload_n 3, 1) := by decide +kernel
theorem dL_law_974 : decode cL_law 974 = .ok (.iconst 0, 1) := by decide +kernel
theorem dL_law_975 : decode cL_law 975 = .ok (.laload, 1) := by decide +kernel
theorem dL_law_976 : decode cL_law 976 = .ok (.iload 6, 2) := by decide +kernel
theorem dL_law_978 : decode cL_law 978 = .ok (.i2l, 1) := by decide +kernel
theorem dL_law_979 : decode cL_law 979 = .ok (.lcmp, 1) := by decide +kernel
theorem dL_law_980 : decode cL_law 980 = .ok (.ifCond .eq 5, 3) := by decide +kernel
theorem dL_law_983 : decode cL_law 983 = .ok (.iconst 0, 1) := by decide +kernel
theorem dL_law_984 : decode cL_law 984 = .ok (.ireturn, 1) := by decide +kernel
theorem dL_law_985 : decode cL_law 985 = .ok (.goto 331, 3) := by decide +kernel
theorem dL_law_988 : decode cL_law 988 = .ok (.aload_n 1, 1) := by decide +kernel
theorem dL_law_989 : decode cL_law 989 = .ok (.aload_n 0, 1) := by decide +kernel
theorem dL_law_990 : decode cL_law 990 = .ok (.iload 4, 2) := by decide +kernel
theorem dL_law_992 : decode cL_law 992 = .ok (.iconst 1, 1) := by decide +kernel
theorem dL_law_993 : decode cL_law 993 = .ok (.iadd, 1) := by decide +kernel
theorem dL_law_994 : decode cL_law 994 = .ok (.iaload, 1) := by decide +kernel
theorem dL_law_995 : decode cL_law 995 = .ok (.aload_n 3, 1) := by decide +kernel
theorem dL_law_996 : decode cL_law 996 = .ok (.invokestatic 133, 3) := by decide +kernel
theorem dL_law_999 : decode cL_law 999 = .ok (.istore 5, 2) := by decide +kernel
theorem dL_law_1001 : decode cL_law 1001 = .ok (.aload_n 2, 1) := by decide +kernel
theorem dL_law_1002 : decode cL_law 1002 = .ok (.aload_n 0, 1) := by decide +kernel
theorem dL_law_1003 : decode cL_law 1003 = .ok (.iload 4, 2) := by decide +kernel
theorem dL_law_1005 : decode cL_law 1005 = .ok (.iconst 1, 1) := by decide +kernel
theorem dL_law_1006 : decode cL_law 1006 = .ok (.iadd, 1) := by decide +kernel
theorem dL_law_1007 : decode cL_law 1007 = .ok (.iaload, 1) := by decide +kernel
theorem dL_law_1008 : decode cL_law 1008 = .ok (.invokevirtual 135, 3) := by decide +kernel
theorem dL_law_1011 : decode cL_law 1011 = .ok (.istore 6, 2) := by decide +kernel
theorem dL_law_1013 : decode cL_law 1013 = .ok (.aload_n 2, 1) := by decide +kernel
theorem dL_law_1014 : decode cL_law 1014 = .ok (.invokevirtual 77, 3) := by decide +kernel
theorem dL_law_1017 : decode cL_law 1017 = .ok (.iload 5, 2) := by decide +kernel
theorem dL_law_1019 : decode cL_law 1019 = .ok (.if_icmp .eq 5, 3) := by decide +kernel
theorem dL_law_1022 : decode cL_law 1022 = .ok (.iconst 0, 1) := by decide +kernel
theorem dL_law_1023 : decode cL_law 1023 = .ok (.ireturn, 1) := by decide +kernel
theorem dL_law_1024 : decode cL_law 1024 = .ok (.iload 5, 2) := by decide +kernel
theorem dL_law_1026 : decode cL_law 1026 = .ok (.ifCond .ne 15, 3) := by decide +kernel
theorem dL_law_1029 : decode cL_law 1029 = .ok (.aload_n 3, 1) := by decide +kernel
theorem dL_law_1030 : decode cL_law 1030 = .ok (.iconst 0, 1) := by decide +kernel
theorem dL_law_1031 : decode cL_law 1031 = .ok (.laload, 1) := by decide +kernel
theorem dL_law_1032 : decode cL_law 1032 = .ok (.iload 6, 2) := by decide +kernel
theorem dL_law_1034 : decode cL_law 1034 = .ok (.i2l, 1) := by decide +kernel
theorem dL_law_1035 : decode cL_law 1035 = .ok (.lcmp, 1) := by decide +kernel
theorem dL_law_1036 : decode cL_law 1036 = .ok (.ifCond .eq 5, 3) := by decide +kernel
theorem dL_law_1039 : decode cL_law 1039 = .ok (.iconst 0, 1) := by decide +kernel
theorem dL_law_1040 : decode cL_law 1040 = .ok (.ireturn, 1) := by decide +kernel
theorem dL_law_1041 : decode cL_law 1041 = .ok (.goto 275, 3) := by decide +kernel
theorem dL_law_1044 : decode cL_law 1044 = .ok (.aload_n 1, 1) := by decide +kernel
theorem dL_law_1045 : decode cL_law 1045 = .ok (.aload_n 0, 1) := by decide +kernel
theorem dL_law_1046 : decode cL_law 1046 = .ok (.iload 4, 2) := by decide +kernel
theorem dL_law_1048 : decode cL_law 1048 = .ok (.iconst 1, 1) := by decide +kernel
theorem dL_law_1049 : decode cL_law 1049 = .ok (.iadd, 1) := by decide +kernel
theorem dL_law_1050 : decode cL_law 1050 = .ok (.iaload, 1) := by decide +kernel
theorem dL_law_1051 : decode cL_law 1051 = .ok (.aload_n 0, 1) := by decide +kernel
theorem dL_law_1052 : decode cL_law 1052 = .ok (.iload 4, 2) := by decide +kernel
theorem dL_law_1054 : decode cL_law 1054 = .ok (.iconst 2, 1) := by decide +kernel
theorem dL_law_1055 : decode cL_law 1055 = .ok (.iadd, 1) := by decide +kernel
theorem dL_law_1056 : decode cL_law 1056 = .ok (.iaload, 1) := by decide +kernel
theorem dL_law_1057 : decode cL_law 1057 = .ok (.aload_n 3, 1) := by decide +kernel
theorem dL_law_1058 : decode cL_law 1058 = .ok (.invokestatic 136, 3) := by decide +kernel
theorem dL_law_1061 : decode cL_law 1061 = .ok (.istore 5, 2) := by decide +kernel
theorem dL_law_1063 : decode cL_law 1063 = .ok (.aload_n 2, 1) := by decide +kernel
theorem dL_law_1064 : decode cL_law 1064 = .ok (.aload_n 0, 1) := by decide +kernel
theorem dL_law_1065 : decode cL_law 1065 = .ok (.iload 4, 2) := by decide +kernel
theorem dL_law_1067 : decode cL_law 1067 = .ok (.iconst 1, 1) := by decide +kernel
theorem dL_law_1068 : decode cL_law 1068 = .ok (.iadd, 1) := by decide +kernel
theorem dL_law_1069 : decode cL_law 1069 = .ok (.iaload, 1) := by decide +kernel
theorem dL_law_1070 : decode cL_law 1070 = .ok (.aload_n 0, 1) := by decide +kernel
theorem dL_law_1071 : decode cL_law 1071 = .ok (.iload 4, 2) := by decide +kernel
theorem dL_law_1073 : decode cL_law 1073 = .ok (.iconst 2, 1) := by decide +kernel
theorem dL_law_1074 : decode cL_law 1074 = .ok (.iadd, 1) := by decide +kernel
theorem dL_law_1075 : decode cL_law 1075 = .ok (.iaload, 1) := by decide +kernel
theorem dL_law_1076 : decode cL_law 1076 = .ok (.invokevirtual 138, 3) := by decide +kernel
theorem dL_law_1079 : decode cL_law 1079 = .ok (.istore 6, 2) := by decide +kernel
theorem dL_law_1081 : decode cL_law 1081 = .ok (.aload_n 2, 1) := by decide +kernel
theorem dL_law_1082 : decode cL_law 1082 = .ok (.invokevirtual 77, 3) := by decide +kernel
theorem dL_law_1085 : decode cL_law 1085 = .ok (.iload 5, 2) := by decide +kernel
theorem dL_law_1087 : decode cL_law 1087 = .ok (.if_icmp .eq 5, 3) := by decide +kernel
theorem dL_law_1090 : decode cL_law 1090 = .ok (.iconst 0, 1) := by decide +kernel
theorem dL_law_1091 : decode cL_law 1091 = .ok (.ireturn, 1) := by decide +kernel
theorem dL_law_1092 : decode cL_law 1092 = .ok (.iload 5, 2) := by decide +kernel
theorem dL_law_1094 : decode cL_law 1094 = .ok (.ifCond .ne 15, 3) := by decide +kernel
theorem dL_law_1097 : decode cL_law 1097 = .ok (.aload_n 3, 1) := by decide +kernel
theorem dL_law_1098 : decode cL_law 1098 = .ok (.iconst 0, 1) := by decide +kernel
theorem dL_law_1099 : decode cL_law 1099 = .ok (.laload, 1) := by decide +kernel
theorem dL_law_1100 : decode cL_law 1100 = .ok (.iload 6, 2) := by decide +kernel
theorem dL_law_1102 : decode cL_law 1102 = .ok (.i2l, 1) := by decide +kernel
theorem dL_law_1103 : decode cL_law 1103 = .ok (.lcmp, 1) := by decide +kernel
theorem dL_law_1104 : decode cL_law 1104 = .ok (.ifCond .eq 5, 3) := by decide +kernel
theorem dL_law_1107 : decode cL_law 1107 = .ok (.iconst 0, 1) := by decide +kernel
theorem dL_law_1108 : decode cL_law 1108 = .ok (.ireturn, 1) := by decide +kernel
theorem dL_law_1109 : decode cL_law 1109 = .ok (.goto 207, 3) := by decide +kernel
theorem dL_law_1112 : decode cL_law 1112 = .ok (.aload_n 1, 1) := by decide +kernel
theorem dL_law_1113 : decode cL_law 1113 = .ok (.aload_n 0, 1) := by decide +kernel
theorem dL_law_1114 : decode cL_law 1114 = .ok (.iload 4, 2) := by decide +kernel
theorem dL_law_1116 : decode cL_law 1116 = .ok (.iconst 1, 1) := by decide +kernel
theorem dL_law_1117 : decode cL_law 1117 = .ok (.iadd, 1) := by decide +kernel
theorem dL_law_1118 : decode cL_law 1118 = .ok (.iaload, 1) := by decide +kernel
theorem dL_law_1119 : decode cL_law 1119 = .ok (.aload_n 0, 1) := by decide +kernel
theorem dL_law_1120 : decode cL_law 1120 = .ok (.iload 4, 2) := by decide +kernel
theorem dL_law_1122 : decode cL_law 1122 = .ok (.iconst 2, 1) := by decide +kernel
theorem dL_law_1123 : decode cL_law 1123 = .ok (.iadd, 1) := by decide +kernel
theorem dL_law_1124 : decode cL_law 1124 = .ok (.iaload, 1) := by decide +kernel
theorem dL_law_1125 : decode cL_law 1125 = .ok (.aload_n 3, 1) := by decide +kernel
theorem dL_law_1126 : decode cL_law 1126 = .ok (.invokestatic 139, 3) := by decide +kernel
theorem dL_law_1129 : decode cL_law 1129 = .ok (.istore 5, 2) := by decide +kernel
theorem dL_law_1131 : decode cL_law 1131 = .ok (.aload_n 2, 1) := by decide +kernel
theorem dL_law_1132 : decode cL_law 1132 = .ok (.aload_n 0, 1) := by decide +kernel
theorem dL_law_1133 : decode cL_law 1133 = .ok (.iload 4, 2) := by decide +kernel
theorem dL_law_1135 : decode cL_law 1135 = .ok (.iconst 1, 1) := by decide +kernel
theorem dL_law_1136 : decode cL_law 1136 = .ok (.iadd, 1) := by decide +kernel
theorem dL_law_1137 : decode cL_law 1137 = .ok (.iaload, 1) := by decide +kernel
theorem dL_law_1138 : decode cL_law 1138 = .ok (.aload_n 0, 1) := by decide +kernel
theorem dL_law_1139 : decode cL_law 1139 = .ok (.iload 4, 2) := by decide +kernel
theorem dL_law_1141 : decode cL_law 1141 = .ok (.iconst 2, 1) := by decide +kernel
theorem dL_law_1142 : decode cL_law 1142 = .ok (.iadd, 1) := by decide +kernel
theorem dL_law_1143 : decode cL_law 1143 = .ok (.iaload, 1) := by decide +kernel
theorem dL_law_1144 : decode cL_law 1144 = .ok (.invokevirtual 141, 3) := by decide +kernel
theorem dL_law_1147 : decode cL_law 1147 = .ok (.istore 6, 2) := by decide +kernel
theorem dL_law_1149 : decode cL_law 1149 = .ok (.aload_n 2, 1) := by decide +kernel
theorem dL_law_1150 : decode cL_law 1150 = .ok (.invokevirtual 77, 3) := by decide +kernel
theorem dL_law_1153 : decode cL_law 1153 = .ok (.iload 5, 2) := by decide +kernel
theorem dL_law_1155 : decode cL_law 1155 = .ok (.if_icmp .eq 5, 3) := by decide +kernel
theorem dL_law_1158 : decode cL_law 1158 = .ok (.iconst 0, 1) := by decide +kernel
theorem dL_law_1159 : decode cL_law 1159 = .ok (.ireturn, 1) := by decide +kernel
theorem dL_law_1160 : decode cL_law 1160 = .ok (.iload 5, 2) := by decide +kernel
theorem dL_law_1162 : decode cL_law 1162 = .ok (.ifCond .ne 15, 3) := by decide +kernel
theorem dL_law_1165 : decode cL_law 1165 = .ok (.aload_n 3, 1) := by decide +kernel
theorem dL_law_1166 : decode cL_law 1166 = .ok (.iconst 0, 1) := by decide +kernel
theorem dL_law_1167 : decode cL_law 1167 = .ok (.laload, 1) := by decide +kernel
theorem dL_law_1168 : decode cL_law 1168 = .ok (.iload 6, 2) := by decide +kernel
theorem dL_law_1170 : decode cL_law 1170 = .ok (.i2l, 1) := by decide +kernel
theorem dL_law_1171 : decode cL_law 1171 = .ok (.lcmp, 1) := by decide +kernel
theorem dL_law_1172 : decode cL_law 1172 = .ok (.ifCond .eq 5, 3) := by decide +kernel
theorem dL_law_1175 : decode cL_law 1175 = .ok (.iconst 0, 1) := by decide +kernel
theorem dL_law_1176 : decode cL_law 1176 = .ok (.ireturn, 1) := by decide +kernel
theorem dL_law_1177 : decode cL_law 1177 = .ok (.goto 139, 3) := by decide +kernel
theorem dL_law_1180 : decode cL_law 1180 = .ok (.aload_n 1, 1) := by decide +kernel
theorem dL_law_1181 : decode cL_law 1181 = .ok (.aload_n 0, 1) := by decide +kernel
theorem dL_law_1182 : decode cL_law 1182 = .ok (.iload 4, 2) := by decide +kernel
theorem dL_law_1184 : decode cL_law 1184 = .ok (.iconst 1, 1) := by decide +kernel
theorem dL_law_1185 : decode cL_law 1185 = .ok (.iadd, 1) := by decide +kernel
theorem dL_law_1186 : decode cL_law 1186 = .ok (.iaload, 1) := by decide +kernel
theorem dL_law_1187 : decode cL_law 1187 = .ok (.aload_n 0, 1) := by decide +kernel
theorem dL_law_1188 : decode cL_law 1188 = .ok (.iload 4, 2) := by decide +kernel
theorem dL_law_1190 : decode cL_law 1190 = .ok (.iconst 2, 1) := by decide +kernel
theorem dL_law_1191 : decode cL_law 1191 = .ok (.iadd, 1) := by decide +kernel
theorem dL_law_1192 : decode cL_law 1192 = .ok (.iaload, 1) := by decide +kernel
theorem dL_law_1193 : decode cL_law 1193 = .ok (.aload_n 3, 1) := by decide +kernel
theorem dL_law_1194 : decode cL_law 1194 = .ok (.invokestatic 142, 3) := by decide +kernel
theorem dL_law_1197 : decode cL_law 1197 = .ok (.istore 5, 2) := by decide +kernel
theorem dL_law_1199 : decode cL_law 1199 = .ok (.aload_n 2, 1) := by decide +kernel
theorem dL_law_1200 : decode cL_law 1200 = .ok (.aload_n 0, 1) := by decide +kernel
theorem dL_law_1201 : decode cL_law 1201 = .ok (.iload 4, 2) := by decide +kernel
theorem dL_law_1203 : decode cL_law 1203 = .ok (.iconst 1, 1) := by decide +kernel
theorem dL_law_1204 : decode cL_law 1204 = .ok (.iadd, 1) := by decide +kernel
theorem dL_law_1205 : decode cL_law 1205 = .ok (.iaload, 1) := by decide +kernel
theorem dL_law_1206 : decode cL_law 1206 = .ok (.aload_n 0, 1) := by decide +kernel
theorem dL_law_1207 : decode cL_law 1207 = .ok (.iload 4, 2) := by decide +kernel
theorem dL_law_1209 : decode cL_law 1209 = .ok (.iconst 2, 1) := by decide +kernel
theorem dL_law_1210 : decode cL_law 1210 = .ok (.iadd, 1) := by decide +kernel
theorem dL_law_1211 : decode cL_law 1211 = .ok (.iaload, 1) := by decide +kernel
theorem dL_law_1212 : decode cL_law 1212 = .ok (.invokevirtual 144, 3) := by decide +kernel
theorem dL_law_1215 : decode cL_law 1215 = .ok (.istore 6, 2) := by decide +kernel
theorem dL_law_1217 : decode cL_law 1217 = .ok (.aload_n 2, 1) := by decide +kernel
theorem dL_law_1218 : decode cL_law 1218 = .ok (.invokevirtual 77, 3) := by decide +kernel
theorem dL_law_1221 : decode cL_law 1221 = .ok (.iload 5, 2) := by decide +kernel
theorem dL_law_1223 : decode cL_law 1223 = .ok (.if_icmp .eq 5, 3) := by decide +kernel
theorem dL_law_1226 : decode cL_law 1226 = .ok (.iconst 0, 1) := by decide +kernel
theorem dL_law_1227 : decode cL_law 1227 = .ok (.ireturn, 1) := by decide +kernel
theorem dL_law_1228 : decode cL_law 1228 = .ok (.iload 5, 2) := by decide +kernel
theorem dL_law_1230 : decode cL_law 1230 = .ok (.ifCond .ne 15, 3) := by decide +kernel
theorem dL_law_1233 : decode cL_law 1233 = .ok (.aload_n 3, 1) := by decide +kernel
theorem dL_law_1234 : decode cL_law 1234 = .ok (.iconst 0, 1) := by decide +kernel
theorem dL_law_1235 : decode cL_law 1235 = .ok (.laload, 1) := by decide +kernel
theorem dL_law_1236 : decode cL_law 1236 = .ok (.iload 6, 2) := by decide +kernel
theorem dL_law_1238 : decode cL_law 1238 = .ok (.i2l, 1) := by decide +kernel
theorem dL_law_1239 : decode cL_law 1239 = .ok (.lcmp, 1) := by decide +kernel
theorem dL_law_1240 : decode cL_law 1240 = .ok (.ifCond .eq 5, 3) := by decide +kernel
theorem dL_law_1243 : decode cL_law 1243 = .ok (.iconst 0, 1) := by decide +kernel
theorem dL_law_1244 : decode cL_law 1244 = .ok (.ireturn, 1) := by decide +kernel
theorem dL_law_1245 : decode cL_law 1245 = .ok (.goto 71, 3) := by decide +kernel
theorem dL_law_1248 : decode cL_law 1248 = .ok (.aload_n 1, 1) := by decide +kernel
theorem dL_law_1249 : decode cL_law 1249 = .ok (.invokevirtual 145, 3) := by decide +kernel
theorem dL_law_1252 : decode cL_law 1252 = .ok (.aload_n 2, 1) := by decide +kernel
theorem dL_law_1253 : decode cL_law 1253 = .ok (.invokevirtual 148, 3) := by decide +kernel
theorem dL_law_1256 : decode cL_law 1256 = .ok (.if_icmp .eq 60, 3) := by decide +kernel
theorem dL_law_1259 : decode cL_law 1259 = .ok (.iconst 0, 1) := by decide +kernel
theorem dL_law_1260 : decode cL_law 1260 = .ok (.ireturn, 1) := by decide +kernel
theorem dL_law_1261 : decode cL_law 1261 = .ok (.aload_n 1, 1) := by decide +kernel
theorem dL_law_1262 : decode cL_law 1262 = .ok (.invokevirtual 149, 3) := by decide +kernel
theorem dL_law_1265 : decode cL_law 1265 = .ok (.dstore 5, 2) := by decide +kernel
theorem dL_law_1267 : decode cL_law 1267 = .ok (.aload_n 2, 1) := by decide +kernel
theorem dL_law_1268 : decode cL_law 1268 = .ok (.invokevirtual 153, 3) := by decide +kernel
theorem dL_law_1271 : decode cL_law 1271 = .ok (.dstore 7, 2) := by decide +kernel
theorem dL_law_1273 : decode cL_law 1273 = .ok (.dload 5, 2) := by decide +kernel
theorem dL_law_1275 : decode cL_law 1275 = .ok (.dload 7, 2) := by decide +kernel
theorem dL_law_1277 : decode cL_law 1277 = .ok (.dcmp .l, 1) := by decide +kernel
theorem dL_law_1278 : decode cL_law 1278 = .ok (.ifCond .eq 21, 3) := by decide +kernel
theorem dL_law_1281 : decode cL_law 1281 = .ok (.dload 5, 2) := by decide +kernel
theorem dL_law_1283 : decode cL_law 1283 = .ok (.dload 5, 2) := by decide +kernel
theorem dL_law_1285 : decode cL_law 1285 = .ok (.dcmp .l, 1) := by decide +kernel
theorem dL_law_1286 : decode cL_law 1286 = .ok (.ifCond .eq 11, 3) := by decide +kernel
theorem dL_law_1289 : decode cL_law 1289 = .ok (.dload 7, 2) := by decide +kernel
theorem dL_law_1291 : decode cL_law 1291 = .ok (.dload 7, 2) := by decide +kernel
theorem dL_law_1293 : decode cL_law 1293 = .ok (.dcmp .l, 1) := by decide +kernel
theorem dL_law_1294 : decode cL_law 1294 = .ok (.ifCond .ne 5, 3) := by decide +kernel
theorem dL_law_1297 : decode cL_law 1297 = .ok (.iconst 0, 1) := by decide +kernel
theorem dL_law_1298 : decode cL_law 1298 = .ok (.ireturn, 1) := by decide +kernel
theorem dL_law_1299 : decode cL_law 1299 = .ok (.goto 17, 3) := by decide +kernel
theorem dL_law_1302 : decode cL_law 1302 = .ok (.aload_n 1, 1) := by decide +kernel
theorem dL_law_1303 : decode cL_law 1303 = .ok (.invokevirtual 154, 3) := by decide +kernel
theorem dL_law_1306 : decode cL_law 1306 = .ok (.aload_n 2, 1) := by decide +kernel
theorem dL_law_1307 : decode cL_law 1307 = .ok (.invokevirtual 158, 3) := by decide +kernel
theorem dL_law_1310 : decode cL_law 1310 = .ok (.lcmp, 1) := by decide +kernel
theorem dL_law_1311 : decode cL_law 1311 = .ok (.ifCond .eq 5, 3) := by decide +kernel
theorem dL_law_1314 : decode cL_law 1314 = .ok (.iconst 0, 1) := by decide +kernel
theorem dL_law_1315 : decode cL_law 1315 = .ok (.ireturn, 1) := by decide +kernel
theorem dL_law_1316 : decode cL_law 1316 = .ok (.iinc 4 3, 3) := by decide +kernel
theorem dL_law_1319 : decode cL_law 1319 = .ok (.goto (-1296), 3) := by decide +kernel
theorem dL_law_1322 : decode cL_law 1322 = .ok (.iconst 1, 1) := by decide +kernel
theorem dL_law_1323 : decode cL_law 1323 = .ok (.ireturn, 1) := by decide +kernel
