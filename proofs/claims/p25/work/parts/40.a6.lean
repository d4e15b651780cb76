theorem dL_cell_0 : decode cL_cell 0 = .ok (.iload_n 1, 1) := by decide +kernel
theorem dL_cell_1 : decode cL_cell 1 = .ok (.aload_n 0, 1) := by decide +kernel
theorem dL_cell_2 : decode cL_cell 2 = .ok (.arraylength, 1) := by decide +kernel
theorem dL_cell_3 : decode cL_cell 3 = .ok (.if_icmp .ge 9, 3) := by decide +kernel
theorem dL_cell_6 : decode cL_cell 6 = .ok (.aload_n 0, 1) := by decide +kernel
theorem dL_cell_7 : decode cL_cell 7 = .ok (.iload_n 1, 1) := by decide +kernel
theorem dL_cell_8 : decode cL_cell 8 = .ok (.iaload, 1) := by decide +kernel
theorem dL_cell_9 : decode cL_cell 9 = .ok (.goto 10, 3) := by decide +kernel
theorem dL_cell_12 : decode cL_cell 12 = .ok (.ldc 7, 2) := by decide +kernel
theorem dL_cell_14 : decode cL_cell 14 = .ok (.iload_n 1, 1) := by decide +kernel
theorem dL_cell_15 : decode cL_cell 15 = .ok (.imul, 1) := by decide +kernel
theorem dL_cell_16 : decode cL_cell 16 = .ok (.bipush 61, 2) := by decide +kernel
theorem dL_cell_18 : decode cL_cell 18 = .ok (.iadd, 1) := by decide +kernel
theorem dL_cell_19 : decode cL_cell 19 = .ok (.ireturn, 1) := by decide +kernel
theorem dL_low_0 : decode cL_low 0 = .ok (.iload_n 0, 1) := by decide +kernel
theorem dL_low_1 : decode cL_low 1 = .ok (.ldc 8, 2) := by decide +kernel
theorem dL_low_3 : decode cL_low 3 = .ok (.iand, 1) := by decide +kernel
theorem dL_low_4 : decode cL_low 4 = .ok (.iload_n 1, 1) := by decide +kernel
theorem dL_low_5 : decode cL_low 5 = .ok (.irem, 1) := by decide +kernel
theorem dL_low_6 : decode cL_low 6 = .ok (.ireturn, 1) := by decide +kernel
theorem dL_size_0 : decode cL_size 0 = .ok (.iload_n 0, 1) := by decide +kernel
theorem dL_size_1 : decode cL_size 1 = .ok (.ifCond .ge 8, 3) := by decide +kernel
theorem dL_size_4 : decode cL_size 4 = .ok (.iload_n 0, 1) := by decide +kernel
theorem dL_size_5 : decode cL_size 5 = .ok (.ineg, 1) := by decide +kernel
theorem dL_size_6 : decode cL_size 6 = .ok (.goto 4, 3) := by decide +kernel
theorem dL_size_9 : decode cL_size 9 = .ok (.iload_n 0, 1) := by decide +kernel
theorem dL_size_10 : decode cL_size 10 = .ok (.ireturn, 1) := by decide +kernel
theorem dL_cut_0 : decode cL_cut 0 = .ok (.iload_n 0, 1) := by decide +kernel
theorem dL_cut_1 : decode cL_cut 1 = .ok (.iload_n 1, 1) := by decide +kernel
theorem dL_cut_2 : decode cL_cut 2 = .ok (.idiv, 1) := by decide +kernel
theorem dL_cut_3 : decode cL_cut 3 = .ok (.istore_n 2, 1) := by decide +kernel
theorem dL_cut_4 : decode cL_cut 4 = .ok (.iload_n 2, 1) := by decide +kernel
theorem dL_cut_5 : decode cL_cut 5 = .ok (.iload_n 1, 1) := by decide +kernel
theorem dL_cut_6 : decode cL_cut 6 = .ok (.imul, 1) := by decide +kernel
theorem dL_cut_7 : decode cL_cut 7 = .ok (.iload_n 0, 1) := by decide +kernel
theorem dL_cut_8 : decode cL_cut 8 = .ok (.if_icmp .le 9, 3) := by decide +kernel
theorem dL_cut_11 : decode cL_cut 11 = .ok (.iload_n 2, 1) := by decide +kernel
theorem dL_cut_12 : decode cL_cut 12 = .ok (.iconst 1, 1) := by decide +kernel
theorem dL_cut_13 : decode cL_cut 13 = .ok (.isub, 1) := by decide +kernel
theorem dL_cut_14 : decode cL_cut 14 = .ok (.goto 4, 3) := by decide +kernel
theorem dL_cut_17 : decode cL_cut 17 = .ok (.iload_n 2, 1) := by decide +kernel
theorem dL_cut_18 : decode cL_cut 18 = .ok (.ireturn, 1) := by decide +kernel
theorem dL_part_0 : decode cL_part 0 = .ok (.lload_n 0, 1) := by decide +kernel
theorem dL_part_1 : decode cL_part 1 = .ok (.lconst 0, 1) := by decide +kernel
theorem dL_part_2 : decode cL_part 2 = .ok (.lcmp, 1) := by decide +kernel
theorem dL_part_3 : decode cL_part 3 = .ok (.ifCond .ge 8, 3) := by decide +kernel
theorem dL_part_6 : decode cL_part 6 = .ok (.lload_n 0, 1) := by decide +kernel
theorem dL_part_7 : decode cL_part 7 = .ok (.lneg, 1) := by decide +kernel
theorem dL_part_8 : decode cL_part 8 = .ok (.goto 4, 3) := by decide +kernel
theorem dL_part_11 : decode cL_part 11 = .ok (.lload_n 0, 1) := by decide +kernel
theorem dL_part_12 : decode cL_part 12 = .ok (.lstore 4, 2) := by decide +kernel
theorem dL_part_14 : decode cL_part 14 = .ok (.lload_n 2, 1) := by decide +kernel
theorem dL_part_15 : decode cL_part 15 = .ok (.lconst 0, 1) := by decide +kernel
theorem dL_part_16 : decode cL_part 16 = .ok (.lcmp, 1) := by decide +kernel
theorem dL_part_17 : decode cL_part 17 = .ok (.ifCond .ge 8, 3) := by decide +kernel
theorem dL_part_20 : decode cL_part 20 = .ok (.lload_n 2, 1) := by decide +kernel
theorem dL_part_21 : decode cL_part 21 = .ok (.lneg, 1) := by decide +kernel
theorem dL_part_22 : decode cL_part 22 = .ok (.goto 4, 3) := by decide +kernel
theorem dL_part_25 : decode cL_part 25 = .ok (.lload_n 2, 1) := by decide +kernel
theorem dL_part_26 : decode cL_part 26 = .ok (.lstore 6, 2) := by decide +kernel
theorem dL_part_28 : decode cL_part 28 = .ok (.lload 6, 2) := by decide +kernel
theorem dL_part_30 : decode cL_part 30 = .ok (.lconst 0, 1) := by decide +kernel
theorem dL_part_31 : decode cL_part 31 = .ok (.lcmp, 1) := by decide +kernel
theorem dL_part_32 : decode cL_part 32 = .ok (.ifCond .eq 21, 3) := by decide +kernel
theorem dL_part_35 : decode cL_part 35 = .ok (.lload 4, 2) := by decide +kernel
theorem dL_part_37 : decode cL_part 37 = .ok (.lload 6, 2) := by decide +kernel
theorem dL_part_39 : decode cL_part 39 = .ok (.lrem, 1) := by decide +kernel
theorem dL_part_40 : decode cL_part 40 = .ok (.lstore 8, 2) := by decide +kernel
theorem dL_part_42 : decode cL_part 42 = .ok (.lload 6, 2) := by decide +kernel
theorem dL_part_44 : decode cL_part 44 = .ok (.lstore 4, 2) := by decide +kernel
theorem dL_part_46 : decode cL_part 46 = .ok (.lload 8, 2) := by decide +kernel
theorem dL_part_48 : decode cL_part 48 = .ok (.lstore 6, 2) := by decide +kernel
theorem dL_part_50 : decode cL_part 50 = .ok (.goto (-22), 3) := by decide +kernel
theorem dL_part_53 : decode cL_part 53 = .ok (.lload 4, 2) := by decide +kernel
theorem dL_part_55 : decode cL_part 55 = .ok (.lreturn, 1) := by decide +kernel
theorem dL_both_0 : decode cL_both 0 = .ok (.iload_n 2, 1) := by decide +kernel
theorem dL_both_1 : decode cL_both 1 = .ok (.iconst 3, 1) := by decide +kernel
theorem dL_both_2 : decode cL_both 2 = .ok (.iand, 1) := by decide +kernel
theorem dL_both_3 : decode cL_both 3 = .ok (.istore 4, 2) := by decide +kernel
theorem dL_both_5 : decode cL_both 5 = .ok (.iload_n 2, 1) := by decide +kernel
theorem dL_both_6 : decode cL_both 6 = .ok (.iconst 2, 1) := by decide +kernel
theorem dL_both_7 : decode cL_both 7 = .ok (.ishr, 1) := by decide +kernel
theorem dL_both_8 : decode cL_both 8 = .ok (.bipush 8, 2) := by decide +kernel
theorem dL_both_10 : decode cL_both 10 = .ok (.invokestatic 57, 3) := by decide +kernel
theorem dL_both_13 : decode cL_both 13 = .ok (.istore 5, 2) := by decide +kernel
theorem dL_both_15 : decode cL_both 15 = .ok (.iload 5, 2) := by decide +kernel
theorem dL_both_17 : decode cL_both 17 = .ok (.iconst 1, 1) := by decide +kernel
theorem dL_both_18 : decode cL_both 18 = .ok (.iadd, 1) := by decide +kernel
theorem dL_both_19 : decode cL_both 19 = .ok (.iload_n 2, 1) := by decide +kernel
theorem dL_both_20 : decode cL_both 20 = .ok (.iconst 5, 1) := by decide +kernel
theorem dL_both_21 : decode cL_both 21 = .ok (.ishr, 1) := by decide +kernel
theorem dL_both_22 : decode cL_both 22 = .ok (.bipush 7, 2) := by decide +kernel
theorem dL_both_24 : decode cL_both 24 = .ok (.invokestatic 57, 3) := by decide +kernel
theorem dL_both_27 : decode cL_both 27 = .ok (.iadd, 1) := by decide +kernel
theorem dL_both_28 : decode cL_both 28 = .ok (.bipush 8, 2) := by decide +kernel
theorem dL_both_30 : decode cL_both 30 = .ok (.irem, 1) := by decide +kernel
theorem dL_both_31 : decode cL_both 31 = .ok (.istore 6, 2) := by decide +kernel
theorem dL_both_33 : decode cL_both 33 = .ok (.aload_n 0, 1) := by decide +kernel
theorem dL_both_34 : decode cL_both 34 = .ok (.iload_n 3, 1) := by decide +kernel
theorem dL_both_35 : decode cL_both 35 = .ok (.iload 5, 2) := by decide +kernel
theorem dL_both_37 : decode cL_both 37 = .ok (.iload 6, 2) := by decide +kernel
theorem dL_both_39 : decode cL_both 39 = .ok (.iload 4, 2) := by decide +kernel
theorem dL_both_41 : decode cL_both 41 = .ok (.invokevirtual 67, 3) := by decide +kernel
theorem dL_both_44 : decode cL_both 44 = .ok (.ifCond .ne 17, 3) := by decide +kernel
theorem dL_both_47 : decode cL_both 47 = .ok (.aload_n 1, 1) := by decide +kernel
theorem dL_both_48 : decode cL_both 48 = .ok (.iload_n 3, 1) := by decide +kernel
theorem dL_both_49 : decode cL_both 49 = .ok (.iload 5, 2) := by decide +kernel
theorem dL_both_51 : decode cL_both 51 = .ok (.iload 6, 2) := by decide +kernel
theorem dL_both_53 : decode cL_both 53 = .ok (.iload 4, 2) := by decide +kernel
theorem dL_both_55 : decode cL_both 55 = .ok (.invokevirtual 67, 3) := by decide +kernel
theorem dL_both_58 : decode cL_both 58 = .ok (.ifCond .eq 5, 3) := by decide +kernel
theorem dL_both_61 : decode cL_both 61 = .ok (.iconst 0, 1) := by decide +kernel
theorem dL_both_62 : decode cL_both 62 = .ok (.ireturn, 1) := by decide +kernel
theorem dL_both_63 : decode cL_both 63 = .ok (.iconst 1, 1) := by decide +kernel
theorem dL_both_64 : decode cL_both 64 = .ok (.iload_n 2, 1) := by decide +kernel
theorem dL_both_65 : decode cL_both 65 = .ok (.bipush 8, 2) := by decide +kernel
theorem dL_both_67 : decode cL_both 67 = .ok (.ishr, 1) := by decide +kernel
theorem dL_both_68 : decode cL_both 68 = .ok (.sipush 5000, 3) := by decide +kernel
theorem dL_both_71 : decode cL_both 71 = .ok (.invokestatic 57, 3) := by decide +kernel
theorem dL_both_74 : decode cL_both 74 = .ok (.iadd, 1) := by decide +kernel
theorem dL_both_75 : decode cL_both 75 = .ok (.istore 7, 2) := by decide +kernel
theorem dL_both_77 : decode cL_both 77 = .ok (.iconst 1, 1) := by decide +kernel
theorem dL_both_78 : decode cL_both 78 = .ok (.iload_n 2, 1) := by decide +kernel
theorem dL_both_79 : decode cL_both 79 = .ok (.bipush 11, 2) := by decide +kernel
theorem dL_both_81 : decode cL_both 81 = .ok (.ishr, 1) := by decide +kernel
theorem dL_both_82 : decode cL_both 82 = .ok (.sipush 700, 3) := by decide +kernel
theorem dL_both_85 : decode cL_both 85 = .ok (.invokestatic 57, 3) := by decide +kernel
theorem dL_both_88 : decode cL_both 88 = .ok (.iadd, 1) := by decide +kernel
theorem dL_both_89 : decode cL_both 89 = .ok (.istore 8, 2) := by decide +kernel
theorem dL_both_91 : decode cL_both 91 = .ok (.iload_n 2, 1) := by decide +kernel
theorem dL_both_92 : decode cL_both 92 = .ok (.bipush 14, 2) := by decide +kernel
theorem dL_both_94 : decode cL_both 94 = .ok (.ishr, 1) := by decide +kernel
theorem dL_both_95 : decode cL_both 95 = .ok (.sipush 400, 3) := by decide +kernel
theorem dL_both_98 : decode cL_both 98 = .ok (.invokestatic 57, 3) := by decide +kernel
theorem dL_both_101 : decode cL_both 101 = .ok (.istore 9, 2) := by decide +kernel
theorem dL_both_103 : decode cL_both 103 = .ok (.iload_n 2, 1) := by decide +kernel
theorem dL_both_104 : decode cL_both 104 = .ok (.bipush 17, 2) := by decide +kernel
theorem dL_both_106 : decode cL_both 106 = .ok (.ishr, 1) := by decide +kernel
theorem dL_both_107 : decode cL_both 107 = .ok (.sipush 2500, 3) := by decide +kernel
theorem dL_both_110 : decode cL_both 110 = .ok (.invokestatic 57, 3) := by decide +kernel
theorem dL_both_113 : decode cL_both 113 = .ok (.istore 10, 2) := by decide +kernel
theorem dL_both_115 : decode cL_both 115 = .ok (.iload_n 2, 1) := by decide +kernel
theorem dL_both_116 : decode cL_both 116 = .ok (.bipush 20, 2) := by decide +kernel
theorem dL_both_118 : decode cL_both 118 = .ok (.ishr, 1) := by decide +kernel
theorem dL_both_119 : decode cL_both 119 = .ok (.bipush 6, 2) := by decide +kernel
theorem dL_both_121 : decode cL_both 121 = .ok (.invokestatic 57, 3) := by decide +kernel
theorem dL_both_124 : decode cL_both 124 = .ok (.istore 11, 2) := by decide +kernel
theorem dL_both_126 : decode cL_both 126 = .ok (.aload_n 0, 1) := by decide +kernel
theorem dL_both_127 : decode cL_both 127 = .ok (.iload_n 3, 1) := by decide +kernel
theorem dL_both_128 : decode cL_both 128 = .ok (.iconst 0, 1) := by decide +kernel
theorem dL_both_129 : decode cL_both 129 = .ok (.iload 7, 2) := by decide +kernel
theorem dL_both_131 : decode cL_both 131 = .ok (.invokevirtual 71, 3) := by decide +kernel
theorem dL_both_134 : decode cL_both 134 = .ok (.sipush 1000, 3) := by decide +kernel
theorem dL_both_137 : decode cL_both 137 = .ok (.if_icmp .ne 115, 3) := by decide +kernel
theorem dL_both_140 : decode cL_both 140 = .ok (.aload_n 1, 1) := by decide +kernel
theorem dL_both_141 : decode cL_both 141 = .ok (.iload_n 3, 1) := by decide +kernel
theorem dL_both_142 : decode cL_both 142 = .ok (.iconst 0, 1) := by decide +kernel
theorem dL_both_143 : decode cL_both 143 = .ok (.iload 7, 2) := by decide +kernel
theorem dL_both_145 : decode cL_both 145 = .ok (.invokevirtual 71, 3) := by decide +kernel
theorem dL_both_148 : decode cL_both 148 = .ok (.sipush 1000, 3) := by decide +kernel
theorem dL_both_151 : decode cL_both 151 = .ok (.if_icmp .ne 101, 3) := by decide +kernel
theorem dL_both_154 : decode cL_both 154 = .ok (.aload_n 0, 1) := by decide +kernel
theorem dL_both_155 : decode cL_both 155 = .ok (.iload_n 3, 1) := by decide +kernel
theorem dL_both_156 : decode cL_both 156 = .ok (.iconst 1, 1) := by decide +kernel
theorem dL_both_157 : decode cL_both 157 = .ok (.iload 8, 2) := by decide +kernel
theorem dL_both_159 : decode cL_both 159 = .ok (.invokevirtual 71, 3) := by decide +kernel
theorem dL_both_162 : decode cL_both 162 = .ok (.sipush 600, 3) := by decide +kernel
theorem dL_both_165 : decode cL_both 165 = .ok (.if_icmp .ne 87, 3) := by decide +kernel
theorem dL_both_168 : decode cL_both 168 = .ok (.aload_n 1, 1) := by decide +kernel
theorem dL_both_169 : decode cL_both 169 = .ok (.iload_n 3, 1) := by decide +kernel
theorem dL_both_170 : decode cL_both 170 = .ok (.iconst 1, 1) := by decide +kernel
theorem dL_both_171 : decode cL_both 171 = .ok (.iload 8, 2) := by decide +kernel
theorem dL_both_173 : decode cL_both 173 = .ok (.invokevirtual 71, 3) := by decide +kernel
theorem dL_both_176 : decode cL_both 176 = .ok (.sipush 600, 3) := by decide +kernel
theorem dL_both_179 : decode cL_both 179 = .ok (.if_icmp .ne 73, 3) := by decide +kernel
theorem dL_both_182 : decode cL_both 182 = .ok (.aload_n 0, 1) := by decide +kernel
theorem dL_both_183 : decode cL_both 183 = .ok (.iload_n 3, 1) := by decide +kernel
theorem dL_both_184 : decode cL_both 184 = .ok (.iconst 2, 1) := by decide +kernel
theorem dL_both_185 : decode cL_both 185 = .ok (.iload 9, 2) := by decide +kernel
theorem dL_both_187 : decode cL_both 187 = .ok (.invokevirtual 71, 3) := by decide +kernel
theorem dL_both_190 : decode cL_both 190 = .ok (.ifCond .ne 62, 3) := by decide +kernel
theorem dL_both_193 : decode cL_both 193 = .ok (.aload_n 1, 1) := by decide +kernel
theorem dL_both_194 : decode cL_both 194 = .ok (.iload_n 3, 1) := by decide +kernel
theorem dL_both_195 : decode cL_both 195 = .ok (.iconst 2, 1) := by decide +kernel
theorem dL_both_196 : decode cL_both 196 = .ok (.iload 9, 2) := by decide +kernel
theorem dL_both_198 : decode cL_both 198 = .ok (.invokevirtual 71, 3) := by decide +kernel
theorem dL_both_201 : decode cL_both 201 = .ok (.ifCond .ne 51, 3) := by decide +kernel
theorem dL_both_204 : decode cL_both 204 = .ok (.aload_n 0, 1) := by decide +kernel
theorem dL_both_205 : decode cL_both 205 = .ok (.iload_n 3, 1) := by decide +kernel
theorem dL_both_206 : decode cL_both 206 = .ok (.iconst 3, 1) := by decide +kernel
theorem dL_both_207 : decode cL_both 207 = .ok (.iload 10, 2) := by decide +kernel
theorem dL_both_209 : decode cL_both 209 = .ok (.invokevirtual 71, 3) := by decide +kernel
theorem dL_both_212 : decode cL_both 212 = .ok (.ifCond .ne 40, 3) := by decide +kernel
theorem dL_both_215 : decode cL_both 215 = .ok (.aload_n 1, 1) := by decide +kernel
theorem dL_both_216 : decode cL_both 216 = .ok (.iload_n 3, 1) := by decide +kernel
theorem dL_both_217 : decode cL_both 217 = .ok (.iconst 3, 1) := by decide +kernel
theorem dL_both_218 : decode cL_both 218 = .ok (.iload 10, 2) := by decide +kernel
theorem dL_both_220 : decode cL_both 220 = .ok (.invokevirtual 71, 3) := by decide +kernel
theorem dL_both_223 : decode cL_both 223 = .ok (.ifCond .ne 29, 3) := by decide +kernel
theorem dL_both_226 : decode cL_both 226 = .ok (.aload_n 0, 1) := by decide +kernel
theorem dL_both_227 : decode cL_both 227 = .ok (.iload_n 3, 1) := by decide +kernel
theorem dL_both_228 : decode cL_both 228 = .ok (.iconst 4, 1) := by decide +kernel
theorem dL_both_229 : decode cL_both 229 = .ok (.iload 11, 2) := by decide +kernel
theorem dL_both_231 : decode cL_both 231 = .ok (.invokevirtual 71, 3) := by decide +kernel
theorem dL_both_234 : decode cL_both 234 = .ok (.ifCond .ne 18, 3) := by decide +kernel
theorem dL_both_237 : decode cL_both 237 = .ok (.aload_n 1, 1) := by decide +kernel
theorem dL_both_238 : decode cL_both 238 = .ok (.iload_n 3, 1) := by decide +kernel
theorem dL_both_239 : decode cL_both 239 = .ok (.iconst 4, 1) := by decide +kernel
theorem dL_both_240 : decode cL_both 240 = .ok (.iload 11, 2) := by decide +kernel
theorem dL_both_242 : decode cL_both 242 = .ok (.invokevirtual 71, 3) := by decide +kernel
theorem dL_both_245 : decode cL_both 245 = .ok (.ifCond .ne 7, 3) := by decide +kernel
theorem dL_both_248 : decode cL_both 248 = .ok (.iconst 1, 1) := by decide +kernel
theorem dL_both_249 : decode cL_both 249 = .ok (.goto 4, 3) := by decide +kernel
theorem dL_both_252 : decode cL_both 252 = .ok (.iconst 0, 1) := by decide +kernel
theorem dL_both_253 : decode cL_both 253 = .ok (.ireturn, 1) := by decide +kernel
theorem dL_fits_0 : decode cL_fits 0 = .ok (.aload_n 0, 1) := by decide +kernel
theorem dL_fits_1 : decode cL_fits 1 = .ok (.iload_n 1, 1) := by decide +kernel
theorem dL_fits_2 : decode cL_fits 2 = .ok (.iload_n 2, 1) := by decide +kernel
theorem dL_fits_3 : decode cL_fits 3 = .ok (.iconst 1, 1) := by decide +kernel
theorem dL_fits_4 : decode cL_fits 4 = .ok (.invokevirtual 75, 3) := by decide +kernel
theorem dL_fits_7 : decode cL_fits 7 = .ok (.lstore_n 3, 1) := by decide +kernel
theorem dL_fits_8 : decode cL_fits 8 = .ok (.lload_n 3, 1) := by decide +kernel
theorem dL_fits_9 : decode cL_fits 9 = .ok (.ldc2_w 79, 3) := by decide +kernel
theorem dL_fits_12 : decode cL_fits 12 = .ok (.lcmp, 1) := by decide +kernel
theorem dL_fits_13 : decode cL_fits 13 = .ok (.ifCond .ne 37, 3) := by decide +kernel
theorem dL_fits_16 : decode cL_fits 16 = .ok (.aload_n 0, 1) := by decide +kernel
theorem dL_fits_17 : decode cL_fits 17 = .ok (.iload_n 1, 1) := by decide +kernel
theorem dL_fits_18 : decode cL_fits 18 = .ok (.iload_n 2, 1) := by decide +kernel
theorem dL_fits_19 : decode cL_fits 19 = .ok (.iconst 0, 1) := by decide +kernel
theorem dL_fits_20 : decode cL_fits 20 = .ok (.invokevirtual 75, 3) := by decide +kernel
theorem dL_fits_23 : decode cL_fits 23 = .ok (.ldc2_w 79, 3) := by decide +kernel
theorem dL_fits_26 : decode cL_fits 26 = .ok (.lcmp, 1) := by decide +kernel
theorem dL_fits_27 : decode cL_fits 27 = .ok (.ifCond .ne 21, 3) := by decide +kernel
theorem dL_fits_30 : decode cL_fits 30 = .ok (.aload_n 0, 1) := by decide +kernel
theorem dL_fits_31 : decode cL_fits 31 = .ok (.iload_n 1, 1) := by decide +kernel
theorem dL_fits_32 : decode cL_fits 32 = .ok (.iload_n 2, 1) := by decide +kernel
theorem dL_fits_33 : decode cL_fits 33 = .ok (.iconst 4, 1) := by decide +kernel
theorem dL_fits_34 : decode cL_fits 34 = .ok (.invokevirtual 75, 3) := by decide +kernel
theorem dL_fits_37 : decode cL_fits 37 = .ok (.ldc2_w 79, 3) := by decide +kernel
theorem dL_fits_40 : decode cL_fits 40 = .ok (.lcmp, 1) := by decide +kernel
theorem dL_fits_41 : decode cL_fits 41 = .ok (.ifCond .ne 7, 3) := by decide +kernel
theorem dL_fits_44 : decode cL_fits 44 = .ok (.iconst 1, 1) := by decide +kernel
theorem dL_fits_45 : decode cL_fits 45 = .ok (.goto 4, 3) := by decide +kernel
theorem dL_fits_48 : decode cL_fits 48 = .ok (.iconst 0, 1) := by decide +kernel
theorem dL_fits_49 : decode cL_fits 49 = .ok (.ireturn, 1) := by decide +kernel
theorem dL_fits_50 : decode cL_fits 50 = .ok (.aload_n 0, 1) := by decide +kernel
theorem dL_fits_51 : decode cL_fits 51 = .ok (.iload_n 1, 1) := by decide +kernel
theorem dL_fits_52 : decode cL_fits 52 = .ok (.iload_n 2, 1) := by decide +kernel
theorem dL_fits_53 : decode cL_fits 53 = .ok (.iconst 0, 1) := by decide +kernel
theorem dL_fits_54 : decode cL_fits 54 = .ok (.invokevirtual 75, 3) := by decide +kernel
theorem dL_fits_57 : decode cL_fits 57 = .ok (.lstore 5, 2) := by decide +kernel
theorem dL_fits_59 : decode cL_fits 59 = .ok (.aload_n 0, 1) := by decide +kernel
theorem dL_fits_60 : decode cL_fits 60 = .ok (.iload_n 1, 1) := by decide +kernel
theorem dL_fits_61 : decode cL_fits 61 = .ok (.iload_n 2, 1) := by decide +kernel
theorem dL_fits_62 : decode cL_fits 62 = .ok (.iconst 2, 1) := by decide +kernel
theorem dL_fits_63 : decode cL_fits 63 = .ok (.invokevirtual 75, 3) := by decide +kernel
theorem dL_fits_66 : decode cL_fits 66 = .ok (.lstore 7, 2) := by decide +kernel
theorem dL_fits_68 : decode cL_fits 68 = .ok (.aload_n 0, 1) := by decide +kernel
theorem dL_fits_69 : decode cL_fits 69 = .ok (.iload_n 1, 1) := by decide +kernel
theorem dL_fits_70 : decode cL_fits 70 = .ok (.iload_n 2, 1) := by decide +kernel
theorem dL_fits_71 : decode cL_fits 71 = .ok (.iconst 3, 1) := by decide +kernel
theorem dL_fits_72 : decode cL_fits 72 = .ok (.invokevirtual 75, 3) := by decide +kernel
theorem dL_fits_75 : decode cL_fits 75 = .ok (.lstore 9, 2) := by decide +kernel
theorem dL_fits_77 : decode cL_fits 77 = .ok (.iload_n 2, 1) := by decide +kernel
theorem dL_fits_78 : decode cL_fits 78 = .ok (.iload_n 1, 1) := by decide +kernel
theorem dL_fits_79 : decode cL_fits 79 = .ok (.isub, 1) := by decide +kernel
theorem dL_fits_80 : decode cL_fits 80 = .ok (.iconst 1, 1) := by decide +kernel
theorem dL_fits_81 : decode cL_fits 81 = .ok (.iadd, 1) := by decide +kernel
theorem dL_fits_82 : decode cL_fits 82 = .ok (.i2l, 1) := by decide +kernel
theorem dL_fits_83 : decode cL_fits 83 = .ok (.lstore 11, 2) := by decide +kernel
theorem dL_fits_85 : decode cL_fits 85 = .ok (.lconst 0, 1) := by decide +kernel
theorem dL_fits_86 : decode cL_fits 86 = .ok (.lstore 13, 2) := by decide +kernel
theorem dL_fits_88 : decode cL_fits 88 = .ok (.lconst 0, 1) := by decide +kernel
theorem dL_fits_89 : decode cL_fits 89 = .ok (.lstore 15, 2) := by decide +kernel
theorem dL_fits_91 : decode cL_fits 91 = .ok (.iload_n 1, 1) := by decide +kernel
theorem dL_fits_92 : decode cL_fits 92 = .ok (.istore 17, 2) := by decide +kernel
theorem dL_fits_94 : decode cL_fits 94 = .ok (.iload 17, 2) := by decide +kernel
theorem dL_fits_96 : decode cL_fits 96 = .ok (.iload_n 2, 1) := by decide +kernel
theorem dL_fits_97 : decode cL_fits 97 = .ok (.if_icmp .gt 42, 3) := by decide +kernel
theorem dL_fits_100 : decode cL_fits 100 = .ok (.lload 13, 2) := by decide +kernel
theorem dL_fits_102 : decode cL_fits 102 = .ok (.aload_n 0, 1) := by decide +kernel
theorem dL_fits_103 : decode cL_fits 103 = .ok (.iload 17, 2) := by decide +kernel
theorem dL_fits_105 : decode cL_fits 105 = .ok (.iconst 1, 1) := by decide +kernel
theorem dL_fits_106 : decode cL_fits 106 = .ok (.invokevirtual 47, 3) := by decide +kernel
theorem dL_fits_109 : decode cL_fits 109 = .ok (.sipush 10000, 3) := by decide +kernel
theorem dL_fits_112 : decode cL_fits 112 = .ok (.isub, 1) := by decide +kernel
theorem dL_fits_113 : decode cL_fits 113 = .ok (.i2l, 1) := by decide +kernel
theorem dL_fits_114 : decode cL_fits 114 = .ok (.ladd, 1) := by decide +kernel
theorem dL_fits_115 : decode cL_fits 115 = .ok (.lstore 13, 2) := by decide +kernel
theorem dL_fits_117 : decode cL_fits 117 = .ok (.lload 15, 2) := by decide +kernel
theorem dL_fits_119 : decode cL_fits 119 = .ok (.aload_n 0, 1) := by decide +kernel
theorem dL_fits_120 : decode cL_fits 120 = .ok (.iload 17, 2) := by decide +kernel
theorem dL_fits_122 : decode cL_fits 122 = .ok (.iconst 2, 1) := by decide +kernel
theorem dL_fits_123 : decode cL_fits 123 = .ok (.invokevirtual 47, 3) := by decide +kernel
theorem dL_fits_126 : decode cL_fits 126 = .ok (.ldc 25, 2) := by decide +kernel
theorem dL_fits_128 : decode cL_fits 128 = .ok (.isub, 1) := by decide +kernel
theorem dL_fits_129 : decode cL_fits 129 = .ok (.i2l, 1) := by decide +kernel
theorem dL_fits_130 : decode cL_fits 130 = .ok (.ladd, 1) := by decide +kernel
theorem dL_fits_131 : decode cL_fits 131 = .ok (.lstore 15, 2) := by decide +kernel
theorem dL_fits_133 : decode cL_fits 133 = .ok (.iinc 17 1, 3) := by decide +kernel
theorem dL_fits_136 : decode cL_fits 136 = .ok (.goto (-42), 3) := by decide +kernel
theorem dL_fits_139 : decode cL_fits 139 = .ok (.lload_n 3, 1) := by decide +kernel
theorem dL_fits_140 : decode cL_fits 140 = .ok (.lload 9, 2) := by decide +kernel
theorem dL_fits_142 : decode cL_fits 142 = .ok (.invokestatic 81, 3) := by decide +kernel
theorem dL_fits_145 : decode cL_fits 145 = .ok (.lstore 17, 2) := by decide +kernel
theorem dL_fits_147 : decode cL_fits 147 = .ok (.lload_n 3, 1) := by decide +kernel
theorem dL_fits_148 : decode cL_fits 148 = .ok (.lload 17, 2) := by decide +kernel
theorem dL_fits_150 : decode cL_fits 150 = .ok (.ldiv, 1) := by decide +kernel
theorem dL_fits_151 : decode cL_fits 151 = .ok (.lload 9, 2) := by decide +kernel
theorem dL_fits_153 : decode cL_fits 153 = .ok (.lmul, 1) := by decide +kernel
theorem dL_fits_154 : decode cL_fits 154 = .ok (.lstore 19, 2) := by decide +kernel
theorem dL_fits_156 : decode cL_fits 156 = .ok (.lload_n 3, 1) := by decide +kernel
theorem dL_fits_157 : decode cL_fits 157 = .ok (.lconst 1, 1) := by decide +kernel
theorem dL_fits_158 : decode cL_fits 158 = .ok (.lcmp, 1) := by decide +kernel
theorem dL_fits_159 : decode cL_fits 159 = .ok (.ifCond .lt 41, 3) := by decide +kernel
theorem dL_fits_162 : decode cL_fits 162 = .ok (.lload 9, 2) := by decide +kernel
theorem dL_fits_164 : decode cL_fits 164 = .ok (.lconst 1, 1) := by decide +kernel
theorem dL_fits_165 : decode cL_fits 165 = .ok (.lcmp, 1) := by decide +kernel
theorem dL_fits_166 : decode cL_fits 166 = .ok (.ifCond .lt 34, 3) := by decide +kernel
theorem dL_fits_169 : decode cL_fits 169 = .ok (.lload 5, 2) := by decide +kernel
theorem dL_fits_171 : decode cL_fits 171 = .ok (.lload 19, 2) := by decide +kernel
theorem dL_fits_173 : decode cL_fits 173 = .ok (.lload_n 3, 1) := by decide +kernel
theorem dL_fits_174 : decode cL_fits 174 = .ok (.ldiv, 1) := by decide +kernel
theorem dL_fits_175 : decode cL_fits 175 = .ok (.lmul, 1) := by decide +kernel
theorem dL_fits_176 : decode cL_fits 176 = .ok (.lload 13, 2) := by decide +kernel
theorem dL_fits_178 : decode cL_fits 178 = .ok (.lmul, 1) := by decide +kernel
theorem dL_fits_179 : decode cL_fits 179 = .ok (.lload 11, 2) := by decide +kernel
theorem dL_fits_181 : decode cL_fits 181 = .ok (.lload 7, 2) := by decide +kernel
theorem dL_fits_183 : decode cL_fits 183 = .ok (.lmul, 1) := by decide +kernel
theorem dL_fits_184 : decode cL_fits 184 = .ok (.lload 19, 2) := by decide +kernel
theorem dL_fits_186 : decode cL_fits 186 = .ok (.lload 9, 2) := by decide +kernel
theorem dL_fits_188 : decode cL_fits 188 = .ok (.ldiv, 1) := by decide +kernel
theorem dL_fits_189 : decode cL_fits 189 = .ok (.lmul, 1) := by decide +kernel
theorem dL_fits_190 : decode cL_fits 190 = .ok (.ladd, 1) := by decide +kernel
theorem dL_fits_191 : decode cL_fits 191 = .ok (.lload 15, 2) := by decide +kernel
theorem dL_fits_193 : decode cL_fits 193 = .ok (.lload 19, 2) := by decide +kernel
theorem dL_fits_195 : decode cL_fits 195 = .ok (.lmul, 1) := by decide +kernel
theorem dL_fits_196 : decode cL_fits 196 = .ok (.lcmp, 1) := by decide +kernel
theorem dL_fits_197 : decode cL_fits 197 = .ok (.ifCond .eq 5, 3) := by decide +kernel
theorem dL_fits_200 : decode cL_fits 200 = .ok (.iconst 0, 1) := by decide +kernel
theorem dL_fits_201 : decode cL_fits 201 = .ok (.ireturn, 1) := by decide +kernel
theorem dL_fits_202 : decode cL_fits 202 = .ok (.aload_n 0, 1) := by decide +kernel
theorem dL_fits_203 : decode cL_fits 203 = .ok (.iload_n 1, 1) := by decide +kernel
theorem dL_fits_204 : decode cL_fits 204 = .ok (.iload_n 2, 1) := by decide +kernel
theorem dL_fits_205 : decode cL_fits 205 = .ok (.iconst 4, 1) := by decide +kernel
theorem dL_fits_206 : decode cL_fits 206 = .ok (.invokevirtual 75, 3) := by decide +kernel
theorem dL_fits_209 : decode cL_fits 209 = .ok (.lstore 21, 2) := by decide +kernel
theorem dL_fits_211 : decode cL_fits 211 = .ok (.aload_n 0, 1) := by decide +kernel
theorem dL_fits_212 : decode cL_fits 212 = .ok (.iload_n 1, 1) := by decide +kernel
theorem dL_fits_213 : decode cL_fits 213 = .ok (.iload_n 2, 1) := by decide +kernel
theorem dL_fits_214 : decode cL_fits 214 = .ok (.iconst 5, 1) := by decide +kernel
theorem dL_fits_215 : decode cL_fits 215 = .ok (.invokevirtual 75, 3) := by decide +kernel
theorem dL_fits_218 : decode cL_fits 218 = .ok (.lstore 23, 2) := by decide +kernel
theorem dL_fits_220 : decode cL_fits 220 = .ok (.lload 5, 2) := by decide +kernel
theorem dL_fits_222 : decode cL_fits 222 = .ok (.lconst 0, 1) := by decide +kernel
theorem dL_fits_223 : decode cL_fits 223 = .ok (.lcmp, 1) := by decide +kernel
theorem dL_fits_224 : decode cL_fits 224 = .ok (.ifCond .ne 29, 3) := by decide +kernel
theorem dL_fits_227 : decode cL_fits 227 = .ok (.lload 21, 2) := by decide +kernel
theorem dL_fits_229 : decode cL_fits 229 = .ok (.ldc2_w 79, 3) := by decide +kernel
theorem dL_fits_232 : decode cL_fits 232 = .ok (.lcmp, 1) := by decide +kernel
theorem dL_fits_233 : decode cL_fits 233 = .ok (.ifCond .ne 16, 3) := by decide +kernel
theorem dL_fits_236 : decode cL_fits 236 = .ok (.lload 23, 2) := by decide +kernel
theorem dL_fits_238 : decode cL_fits 238 = .ok (.ldc2_w 79, 3) := by decide +kernel
theorem dL_fits_241 : decode cL_fits 241 = .ok (.lcmp, 1) := by decide +kernel
theorem dL_fits_242 : decode cL_fits 242 = .ok (.ifCond .ne 7, 3) := by decide +kernel
theorem dL_fits_245 : decode cL_fits 245 = .ok (.iconst 1, 1) := by decide +kernel
theorem dL_fits_246 : decode cL_fits 246 = .ok (.goto 79, 3) := by decide +kernel
theorem dL_fits_249 : decode cL_fits 249 = .ok (.iconst 0, 1) := by decide +kernel
theorem dL_fits_250 : decode cL_fits 250 = .ok (.goto 75, 3) := by decide +kernel
theorem dL_fits_253 : decode cL_fits 253 = .ok (.lload 23, 2) := by decide +kernel
theorem dL_fits_255 : decode cL_fits 255 = .ok (.lconst 0, 1) := by decide +kernel
theorem dL_fits_256 : decode cL_fits 256 = .ok (.lcmp, 1) := by decide +kernel
theorem dL_fits_257 : decode cL_fits 257 = .ok (.ifCond .le 67, 3) := by decide +kernel
theorem dL_fits_260 : decode cL_fits 260 = .ok (.lload 21, 2) := by decide +kernel
theorem dL_fits_262 : decode cL_fits 262 = .ok (.lload 23, 2) := by decide +kernel
theorem dL_fits_264 : decode cL_fits 264 = .ok (.invokestatic 81, 3) := by decide +kernel
theorem dL_fits_267 : decode cL_fits 267 = .ok (.lconst 1, 1) := by decide +kernel
theorem dL_fits_268 : decode cL_fits 268 = .ok (.lcmp, 1) := by decide +kernel
theorem dL_fits_269 : decode cL_fits 269 = .ok (.ifCond .ne 55, 3) := by decide +kernel
theorem dL_fits_272 : decode cL_fits 272 = .ok (.lload 21, 2) := by decide +kernel
theorem dL_fits_274 : decode cL_fits 274 = .ok (.lconst 0, 1) := by decide +kernel
theorem dL_fits_275 : decode cL_fits 275 = .ok (.lcmp, 1) := by decide +kernel
theorem dL_fits_276 : decode cL_fits 276 = .ok (.ifCond .ge 7, 3) := by decide +kernel
theorem dL_fits_279 : decode cL_fits 279 = .ok (.iconst 1, 1) := by decide +kernel
theorem dL_fits_280 : decode cL_fits 280 = .ok (.goto 4, 3) := by decide +kernel
theorem dL_fits_283 : decode cL_fits 283 = .ok (.iconst 0, 1) := by decide +kernel
theorem dL_fits_284 : decode cL_fits 284 = .ok (.lload 7, 2) := by decide +kernel
theorem dL_fits_286 : decode cL_fits 286 = .ok (.lconst 0, 1) := by decide +kernel
theorem dL_fits_287 : decode cL_fits 287 = .ok (.lcmp, 1) := by decide +kernel
theorem dL_fits_288 : decode cL_fits 288 = .ok (.ifCond .le 10, 3) := by decide +kernel
theorem dL_fits_291 : decode cL_fits 291 = .ok (.lload 5, 2) := by decide +kernel
theorem dL_fits_293 : decode cL_fits 293 = .ok (.lconst 0, 1) := by decide +kernel
theorem dL_fits_294 : decode cL_fits 294 = .ok (.lcmp, 1) := by decide +kernel
theorem dL_fits_295 : decode cL_fits 295 = .ok (.ifCond .gt 17, 3) := by decide +kernel
theorem dL_fits_298 : decode cL_fits 298 = .ok (.lload 7, 2) := by decide +kernel
theorem dL_fits_300 : decode cL_fits 300 = .ok (.lconst 0, 1) := by decide +kernel
theorem dL_fits_301 : decode cL_fits 301 = .ok (.lcmp, 1) := by decide +kernel
theorem dL_fits_302 : decode cL_fits 302 = .ok (.ifCond .ge 14, 3) := by decide +kernel
theorem dL_fits_305 : decode cL_fits 305 = .ok (.lload 5, 2) := by decide +kernel
theorem dL_fits_307 : decode cL_fits 307 = .ok (.lconst 0, 1) := by decide +kernel
theorem dL_fits_308 : decode cL_fits 308 = .ok (.lcmp, 1) := by decide +kernel
theorem dL_fits_309 : decode cL_fits 309 = .ok (.ifCond .ge 7, 3) := by decide +kernel
theorem dL_fits_312 : decode cL_fits 312 = .ok (.iconst 1, 1) := by decide +kernel
theorem dL_fits_313 : decode cL_fits 313 = .ok (.goto 4, 3) := by decide +kernel
theorem dL_fits_316 : decode cL_fits 316 = .ok (.iconst 0, 1) := by decide +kernel
theorem dL_fits_317 : decode cL_fits 317 = .ok (.if_icmp .ne 7, 3) := by decide +kernel
theorem dL_fits_320 : decode cL_fits 320 = .ok (.iconst 1, 1) := by decide +kernel
theorem dL_fits_321 : decode cL_fits 321 = .ok (.goto 4, 3) := by decide +kernel
theorem dL_fits_324 : decode cL_fits 324 = .ok (.iconst 0, 1) := by decide +kernel
theorem dL_fits_325 : decode cL_fits 325 = .ok (.ireturn, 1) := by decide +kernel
theorem dL_found_0 : decode cL_found 0 = .ok (.aload_n 0, 1) := by decide +kernel
theorem dL_found_1 : decode cL_found 1 = .ok (.iconst 0, 1) := by decide +kernel
theorem dL_found_2 : decode cL_found 2 = .ok (.invokevirtual 9, 3) := by decide +kernel
theorem dL_found_5 : decode cL_found 5 = .ok (.istore_n 2, 1) := by decide +kernel
theorem dL_found_6 : decode cL_found 6 = .ok (.iload_n 2, 1) := by decide +kernel
theorem dL_found_7 : decode cL_found 7 = .ok (.ifCond .lt 25, 3) := by decide +kernel
theorem dL_found_10 : decode cL_found 10 = .ok (.aload_n 0, 1) := by decide +kernel
theorem dL_found_11 : decode cL_found 11 = .ok (.iconst 0, 1) := by decide +kernel
theorem dL_found_12 : decode cL_found 12 = .ok (.invokevirtual 15, 3) := by decide +kernel
theorem dL_found_15 : decode cL_found 15 = .ok (.aload_n 0, 1) := by decide +kernel
theorem dL_found_16 : decode cL_found 16 = .ok (.iload_n 2, 1) := by decide +kernel
theorem dL_found_17 : decode cL_found 17 = .ok (.iconst 0, 1) := by decide +kernel
theorem dL_found_18 : decode cL_found 18 = .ok (.invokevirtual 18, 3) := by decide +kernel
theorem dL_found_21 : decode cL_found 21 = .ok (.ishr, 1) := by decide +kernel
theorem dL_found_22 : decode cL_found 22 = .ok (.iconst 1, 1) := by decide +kernel
theorem dL_found_23 : decode cL_found 23 = .ok (.iand, 1) := by decide +kernel
theorem dL_found_24 : decode cL_found 24 = .ok (.iconst 1, 1) := by decide +kernel
theorem dL_found_25 : decode cL_found 25 = .ok (.if_icmp .ne 7, 3) := by decide +kernel
theorem dL_found_28 : decode cL_found 28 = .ok (.iconst 1, 1) := by decide +kernel
theorem dL_found_29 : decode cL_found 29 = .ok (.goto 4, 3) := by decide +kernel
theorem dL_found_32 : decode cL_found 32 = .ok (.iconst 0, 1) := by decide +kernel
theorem dL_found_33 : decode cL_found 33 = .ok (.istore_n 3, 1) := by decide +kernel
theorem dL_found_34 : decode cL_found 34 = .ok (.aload_n 0, 1) := by decide +kernel
theorem dL_found_35 : decode cL_found 35 = .ok (.iload_n 1, 1) := by decide +kernel
theorem dL_found_36 : decode cL_found 36 = .ok (.iconst 0, 1) := by decide +kernel
theorem dL_found_37 : decode cL_found 37 = .ok (.invokevirtual 22, 3) := by decide +kernel
theorem dL_found_40 : decode cL_found 40 = .ok (.sipush 10000, 3) := by decide +kernel
theorem dL_found_43 : decode cL_found 43 = .ok (.isub, 1) := by decide +kernel
theorem dL_found_44 : decode cL_found 44 = .ok (.istore 4, 2) := by decide +kernel
theorem dL_found_46 : decode cL_found 46 = .ok (.aload_n 0, 1) := by decide +kernel
theorem dL_found_47 : decode cL_found 47 = .ok (.iload_n 1, 1) := by decide +kernel
theorem dL_found_48 : decode cL_found 48 = .ok (.iconst 1, 1) := by decide +kernel
theorem dL_found_49 : decode cL_found 49 = .ok (.invokevirtual 22, 3) := by decide +kernel
theorem dL_found_52 : decode cL_found 52 = .ok (.ldc 25, 2) := by decide +kernel
theorem dL_found_54 : decode cL_found 54 = .ok (.isub, 1) := by decide +kernel
theorem dL_found_55 : decode cL_found 55 = .ok (.istore 5, 2) := by decide +kernel
theorem dL_found_57 : decode cL_found 57 = .ok (.aload_n 0, 1) := by decide +kernel
theorem dL_found_58 : decode cL_found 58 = .ok (.iload_n 1, 1) := by decide +kernel
theorem dL_found_59 : decode cL_found 59 = .ok (.iconst 2, 1) := by decide +kernel
theorem dL_found_60 : decode cL_found 60 = .ok (.invokevirtual 22, 3) := by decide +kernel
theorem dL_found_63 : decode cL_found 63 = .ok (.istore 6, 2) := by decide +kernel
theorem dL_found_65 : decode cL_found 65 = .ok (.iload 4, 2) := by decide +kernel
theorem dL_found_67 : decode cL_found 67 = .ok (.ifCond .ge 7, 3) := by decide +kernel
theorem dL_found_70 : decode cL_found 70 = .ok (.iload_n 1, 1) := by decide +kernel
theorem dL_found_71 : decode cL_found 71 = .ok (.ifCond .ge 48, 3) := by decide +kernel
theorem dL_found_74 : decode cL_found 74 = .ok (.iload 4, 2) := by decide +kernel
theorem dL_found_76 : decode cL_found 76 = .ok (.ifCond .le 7, 3) := by decide +kernel
theorem dL_found_79 : decode cL_found 79 = .ok (.iload_n 1, 1) := by decide +kernel
theorem dL_found_80 : decode cL_found 80 = .ok (.ifCond .le 39, 3) := by decide +kernel
theorem dL_found_83 : decode cL_found 83 = .ok (.iload 4, 2) := by decide +kernel
theorem dL_found_85 : decode cL_found 85 = .ok (.invokestatic 26, 3) := by decide +kernel
theorem dL_found_88 : decode cL_found 88 = .ok (.iload_n 1, 1) := by decide +kernel
theorem dL_found_89 : decode cL_found 89 = .ok (.invokestatic 26, 3) := by decide +kernel
theorem dL_found_92 : decode cL_found 92 = .ok (.if_icmp .gt 27, 3) := by decide +kernel
theorem dL_found_95 : decode cL_found 95 = .ok (.iload 6, 2) := by decide +kernel
theorem dL_found_97 : decode cL_found 97 = .ok (.ifCond .ne 7, 3) := by decide +kernel
theorem dL_found_100 : decode cL_found 100 = .ok (.iconst 1, 1) := by decide +kernel
theorem dL_found_101 : decode cL_found 101 = .ok (.goto 4, 3) := by decide +kernel
theorem dL_found_104 : decode cL_found 104 = .ok (.iconst 0, 1) := by decide +kernel
theorem dL_found_105 : decode cL_found 105 = .ok (.iload 4, 2) := by decide +kernel
theorem dL_found_107 : decode cL_found 107 = .ok (.iload_n 1, 1) := by decide +kernel
theorem dL_found_108 : decode cL_found 108 = .ok (.if_icmp .ne 7, 3) := by decide +kernel
theorem dL_found_111 : decode cL_found 111 = .ok (.iconst 1, 1) := by decide +kernel
theorem dL_found_112 : decode cL_found 112 = .ok (.goto 4, 3) := by decide +kernel
theorem dL_found_115 : decode cL_found 115 = .ok (.iconst 0, 1) := by decide +kernel
theorem dL_found_116 : decode cL_found 116 = .ok (.if_icmp .eq 5, 3) := by decide +kernel
theorem dL_found_119 : decode cL_found 119 = .ok (.iconst 0, 1) := by decide +kernel
theorem dL_found_120 : decode cL_found 120 = .ok (.ireturn, 1) := by decide +kernel
theorem dL_found_121 : decode cL_found 121 = .ok (.iload_n 1, 1) := by decide +kernel
theorem dL_found_122 : decode cL_found 122 = .ok (.ifCond .ge 7, 3) := by decide +kernel
theorem dL_found_125 : decode cL_found 125 = .ok (.iconst (-1), 1) := by decide +kernel
theorem dL_found_126 : decode cL_found 126 = .ok (.goto 4, 3) := by decide +kernel
theorem dL_found_129 : decode cL_found 129 = .ok (.iconst 1, 1) := by decide +kernel
theorem dL_found_130 : decode cL_found 130 = .ok (.istore 7, 2) := by decide +kernel
theorem dL_found_132 : decode cL_found 132 = .ok (.iconst 0, 1) := by decide +kernel
theorem dL_found_133 : decode cL_found 133 = .ok (.istore 8, 2) := by decide +kernel
theorem dL_found_135 : decode cL_found 135 = .ok (.iload 8, 2) := by decide +kernel
theorem dL_found_137 : decode cL_found 137 = .ok (.invokestatic 26, 3) := by decide +kernel
theorem dL_found_140 : decode cL_found 140 = .ok (.iload 4, 2) := by decide +kernel
theorem dL_found_142 : decode cL_found 142 = .ok (.invokestatic 26, 3) := by decide +kernel
theorem dL_found_145 : decode cL_found 145 = .ok (.iconst 1, 1) := by decide +kernel
theorem dL_found_146 : decode cL_found 146 = .ok (.iadd, 1) := by decide +kernel
theorem dL_found_147 : decode cL_found 147 = .ok (.if_icmp .gt 187, 3) := by decide +kernel
theorem dL_found_150 : decode cL_found 150 = .ok (.iload 8, 2) := by decide +kernel
theorem dL_found_152 : decode cL_found 152 = .ok (.invokestatic 26, 3) := by decide +kernel
theorem dL_found_155 : decode cL_found 155 = .ok (.iload_n 1, 1) := by decide +kernel
theorem dL_found_156 : decode cL_found 156 = .ok (.invokestatic 26, 3) := by decide +kernel
theorem dL_found_159 : decode cL_found 159 = .ok (.if_icmp .gt 175, 3) := by decide +kernel
theorem dL_found_162 : decode cL_found 162 = .ok (.iload_n 3, 1) := by decide +kernel
theorem dL_found_163 : decode cL_found 163 = .ok (.ifCond .eq 16, 3) := by decide +kernel
theorem dL_found_166 : decode cL_found 166 = .ok (.aload_n 0, 1) := by decide +kernel
theorem dL_found_167 : decode cL_found 167 = .ok (.iload_n 2, 1) := by decide +kernel
theorem dL_found_168 : decode cL_found 168 = .ok (.iload 8, 2) := by decide +kernel
theorem dL_found_170 : decode cL_found 170 = .ok (.invokevirtual 31, 3) := by decide +kernel
theorem dL_found_173 : decode cL_found 173 = .ok (.ldc 25, 2) := by decide +kernel
theorem dL_found_175 : decode cL_found 175 = .ok (.isub, 1) := by decide +kernel
theorem dL_found_176 : decode cL_found 176 = .ok (.goto 14, 3) := by decide +kernel
theorem dL_found_179 : decode cL_found 179 = .ok (.ldc 25, 2) := by decide +kernel
theorem dL_found_181 : decode cL_found 181 = .ok (.aload_n 0, 1) := by decide +kernel
theorem dL_found_182 : decode cL_found 182 = .ok (.iload_n 2, 1) := by decide +kernel
theorem dL_found_183 : decode cL_found 183 = .ok (.iload 8, 2) := by decide +kernel
theorem dL_found_185 : decode cL_found 185 = .ok (.ineg, 1) := by decide +kernel
theorem dL_found_186 : decode cL_found 186 = .ok (.invokevirtual 31, 3) := by decide +kernel
theorem dL_found_189 : decode cL_found 189 = .ok (.isub, 1) := by decide +kernel
theorem dL_found_190 : decode cL_found 190 = .ok (.istore 9, 2) := by decide +kernel
theorem dL_found_192 : decode cL_found 192 = .ok (.iload 9, 2) := by decide +kernel
theorem dL_found_194 : decode cL_found 194 = .ok (.invokestatic 26, 3) := by decide +kernel
theorem dL_found_197 : decode cL_found 197 = .ok (.aload_n 0, 1) := by decide +kernel
theorem dL_found_198 : decode cL_found 198 = .ok (.iconst 3, 1) := by decide +kernel
theorem dL_found_199 : decode cL_found 199 = .ok (.invokevirtual 9, 3) := by decide +kernel
theorem dL_found_202 : decode cL_found 202 = .ok (.if_icmp .le 7, 3) := by decide +kernel
theorem dL_found_205 : decode cL_found 205 = .ok (.iconst 1, 1) := by decide +kernel
theorem dL_found_206 : decode cL_found 206 = .ok (.goto 4, 3) := by decide +kernel
theorem dL_found_209 : decode cL_found 209 = .ok (.iconst 0, 1) := by decide +kernel
theorem dL_found_210 : decode cL_found 210 = .ok (.istore 10, 2) := by decide +kernel
theorem dL_found_212 : decode cL_found 212 = .ok (.aload_n 0, 1) := by decide +kernel
theorem dL_found_213 : decode cL_found 213 = .ok (.iconst 1, 1) := by decide +kernel
theorem dL_found_214 : decode cL_found 214 = .ok (.invokevirtual 9, 3) := by decide +kernel
theorem dL_found_217 : decode cL_found 217 = .ok (.iconst 2, 1) := by decide +kernel
theorem dL_found_218 : decode cL_found 218 = .ok (.if_icmp .ne 34, 3) := by decide +kernel
theorem dL_found_221 : decode cL_found 221 = .ok (.iload 8, 2) := by decide +kernel
theorem dL_found_223 : decode cL_found 223 = .ok (.iload 9, 2) := by decide +kernel
theorem dL_found_225 : decode cL_found 225 = .ok (.aload_n 0, 1) := by decide +kernel
theorem dL_found_226 : decode cL_found 226 = .ok (.iconst 4, 1) := by decide +kernel
theorem dL_found_227 : decode cL_found 227 = .ok (.invokevirtual 9, 3) := by decide +kernel
theorem dL_found_230 : decode cL_found 230 = .ok (.imul, 1) := by decide +kernel
theorem dL_found_231 : decode cL_found 231 = .ok (.sipush 1000, 3) := by decide +kernel
theorem dL_found_234 : decode cL_found 234 = .ok (.invokestatic 34, 3) := by decide +kernel
theorem dL_found_237 : decode cL_found 237 = .ok (.iadd, 1) := by decide +kernel
theorem dL_found_238 : decode cL_found 238 = .ok (.invokestatic 26, 3) := by decide +kernel
theorem dL_found_241 : decode cL_found 241 = .ok (.iload_n 1, 1) := by decide +kernel
theorem dL_found_242 : decode cL_found 242 = .ok (.invokestatic 26, 3) := by decide +kernel
theorem dL_found_245 : decode cL_found 245 = .ok (.if_icmp .le 7, 3) := by decide +kernel
theorem dL_found_248 : decode cL_found 248 = .ok (.iconst 1, 1) := by decide +kernel
theorem dL_found_249 : decode cL_found 249 = .ok (.goto 4, 3) := by decide +kernel
theorem dL_found_252 : decode cL_found 252 = .ok (.iconst 0, 1) := by decide +kernel
theorem dL_found_253 : decode cL_found 253 = .ok (.istore 11, 2) := by decide +kernel
theorem dL_found_255 : decode cL_found 255 = .ok (.iload 8, 2) := by decide +kernel
theorem dL_found_257 : decode cL_found 257 = .ok (.invokestatic 26, 3) := by decide +kernel
theorem dL_found_260 : decode cL_found 260 = .ok (.iload 4, 2) := by decide +kernel
theorem dL_found_262 : decode cL_found 262 = .ok (.invokestatic 26, 3) := by decide +kernel
theorem dL_found_265 : decode cL_found 265 = .ok (.if_icmp .gt 16, 3) := by decide +kernel
theorem dL_found_268 : decode cL_found 268 = .ok (.iload 10, 2) := by decide +kernel
theorem dL_found_270 : decode cL_found 270 = .ok (.ifCond .ne 36, 3) := by decide +kernel
theorem dL_found_273 : decode cL_found 273 = .ok (.iload 11, 2) := by decide +kernel
theorem dL_found_275 : decode cL_found 275 = .ok (.ifCond .eq 33, 3) := by decide +kernel
theorem dL_found_278 : decode cL_found 278 = .ok (.goto 28, 3) := by decide +kernel
theorem dL_found_281 : decode cL_found 281 = .ok (.iload 6, 2) := by decide +kernel
theorem dL_found_283 : decode cL_found 283 = .ok (.iload 10, 2) := by decide +kernel
theorem dL_found_285 : decode cL_found 285 = .ok (.ifCond .eq 7, 3) := by decide +kernel
theorem dL_found_288 : decode cL_found 288 = .ok (.iconst 1, 1) := by decide +kernel
theorem dL_found_289 : decode cL_found 289 = .ok (.goto 14, 3) := by decide +kernel
theorem dL_found_292 : decode cL_found 292 = .ok (.iload 11, 2) := by decide +kernel
theorem dL_found_294 : decode cL_found 294 = .ok (.ifCond .eq 7, 3) := by decide +kernel
theorem dL_found_297 : decode cL_found 297 = .ok (.iconst 2, 1) := by decide +kernel
theorem dL_found_298 : decode cL_found 298 = .ok (.goto 5, 3) := by decide +kernel
theorem dL_found_301 : decode cL_found 301 = .ok (.bipush 9, 2) := by decide +kernel
theorem dL_found_303 : decode cL_found 303 = .ok (.if_icmp .eq 5, 3) := by decide +kernel
theorem dL_found_306 : decode cL_found 306 = .ok (.iconst 0, 1) := by decide +kernel
theorem dL_found_307 : decode cL_found 307 = .ok (.ireturn, 1) := by decide +kernel
theorem dL_found_308 : decode cL_found 308 = .ok (.iload 8, 2) := by decide +kernel
theorem dL_found_310 : decode cL_found 310 = .ok (.iload 4, 2) := by decide +kernel
theorem dL_found_312 : decode cL_found 312 = .ok (.if_icmp .ne 12, 3) := by decide +kernel
theorem dL_found_315 : decode cL_found 315 = .ok (.iload 9, 2) := by decide +kernel
theorem dL_found_317 : decode cL_found 317 = .ok (.iload 5, 2) := by decide +kernel
theorem dL_found_319 : decode cL_found 319 = .ok (.if_icmp .eq 5, 3) := by decide +kernel
theorem dL_found_322 : decode cL_found 322 = .ok (.iconst 0, 1) := by decide +kernel
theorem dL_found_323 : decode cL_found 323 = .ok (.ireturn, 1) := by decide +kernel
theorem dL_found_324 : decode cL_found 324 = .ok (.iload 8, 2) := by decide +kernel
theorem dL_found_326 : decode cL_found 326 = .ok (.iload 7, 2) := by decide +kernel
theorem dL_found_328 : decode cL_found 328 = .ok (.iadd, 1) := by decide +kernel
theorem dL_found_329 : decode cL_found 329 = .ok (.istore 8, 2) := by decide +kernel
theorem dL_found_331 : decode cL_found 331 = .ok (.goto (-196), 3) := by decide +kernel
theorem dL_found_334 : decode cL_found 334 = .ok (.iconst 1, 1) := by decide +kernel
theorem dL_found_335 : decode cL_found 335 = .ok (.ireturn, 1) := by decide +kernel
