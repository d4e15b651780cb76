theorem dL_cell_0 : decode cL_cell 0 = .ok (.iload_n 1, 1) := by decide +kernel
theorem dL_cell_1 : decode cL_cell 1 = .ok (.aload_n 0, 1) := by decide +kernel
theorem dL_cell_2 : decode cL_cell 2 = .ok (.arraylength, 1) := by decide +kernel
theorem dL_cell_3 : decode cL_cell 3 = .ok (.if_icmp .ge 9, 3) := by decide +kernel
theorem dL_cell_6 : decode cL_cell 6 = .ok (.aload_n 0, 1) := by decide +kernel
theorem dL_cell_7 : decode cL_cell 7 = .ok (.iload_n 1, 1) := by decide +kernel
theorem dL_cell_8 : decode cL_cell 8 = .ok (.iaload, 1) := by decide +kernel
theorem dL_cell_9 : decode cL_cell 9 = .ok (.goto 10, 3) := by decide +kernel
theorem dL_cell_12 : decode cL_cell 12 = .ok (.ldc 7, 2) := by decide +kernel
theorem dL_cell_14 : decode cL_cell 14 = .ok (.iload_n 1, 1) := by decide +kernel
theorem dL_cell_15 : decode cL_cell 15 = .ok (.imul, 1) := by decide +kernel
theorem dL_cell_16 : decode cL_cell 16 = .ok (.bipush 61, 2) := by decide +kernel
theorem dL_cell_18 : decode cL_cell 18 = .ok (.iadd, 1) := by decide +kernel
theorem dL_cell_19 : decode cL_cell 19 = .ok (.ireturn, 1) := by decide +kernel
theorem dL_low_0 : decode cL_low 0 = .ok (.iload_n 0, 1) := by decide +kernel
theorem dL_low_1 : decode cL_low 1 = .ok (.ldc 8, 2) := by decide +kernel
theorem dL_low_3 : decode cL_low 3 = .ok (.iand, 1) := by decide +kernel
theorem dL_low_4 : decode cL_low 4 = .ok (.iload_n 1, 1) := by decide +kernel
theorem dL_low_5 : decode cL_low 5 = .ok (.irem, 1) := by decide +kernel
theorem dL_low_6 : decode cL_low 6 = .ok (.ireturn, 1) := by decide +kernel
theorem dL_size_0 : decode cL_size 0 = .ok (.iload_n 0, 1) := by decide +kernel
theorem dL_size_1 : decode cL_size 1 = .ok (.ifCond .ge 8, 3) := by decide +kernel
theorem dL_size_4 : decode cL_size 4 = .ok (.iload_n 0, 1) := by decide +kernel
theorem dL_size_5 : decode cL_size 5 = .ok (.ineg, 1) := by decide +kernel
theorem dL_size_6 : decode cL_size 6 = .ok (.goto 4, 3) := by decide +kernel
theorem dL_size_9 : decode cL_size 9 = .ok (.iload_n 0, 1) := by decide +kernel
theorem dL_size_10 : decode cL_size 10 = .ok (.ireturn, 1) := by decide +kernel
theorem dL_cut_0 : decode cL_cut 0 = .ok (.iload_n 0, 1) := by decide +kernel
theorem dL_cut_1 : decode cL_cut 1 = .ok (.iload_n 1, 1) := by decide +kernel
theorem dL_cut_2 : decode cL_cut 2 = .ok (.idiv, 1) := by decide +kernel
theorem dL_cut_3 : decode cL_cut 3 = .ok (.istore_n 2, 1) := by decide +kernel
theorem dL_cut_4 : decode cL_cut 4 = .ok (.iload_n 2, 1) := by decide +kernel
theorem dL_cut_5 : decode cL_cut 5 = .ok (.iload_n 1, 1) := by decide +kernel
theorem dL_cut_6 : decode cL_cut 6 = .ok (.imul, 1) := by decide +kernel
theorem dL_cut_7 : decode cL_cut 7 = .ok (.iload_n 0, 1) := by decide +kernel
theorem dL_cut_8 : decode cL_cut 8 = .ok (.if_icmp .le 9, 3) := by decide +kernel
theorem dL_cut_11 : decode cL_cut 11 = .ok (.iload_n 2, 1) := by decide +kernel
theorem dL_cut_12 : decode cL_cut 12 = .ok (.iconst 1, 1) := by decide +kernel
theorem dL_cut_13 : decode cL_cut 13 = .ok (.isub, 1) := by decide +kernel
theorem dL_cut_14 : decode cL_cut 14 = .ok (.goto 4, 3) := by decide +kernel
theorem dL_cut_17 : decode cL_cut 17 = .ok (.iload_n 2, 1) := by decide +kernel
theorem dL_cut_18 : decode cL_cut 18 = .ok (.ireturn, 1) := by decide +kernel
set_option maxRecDepth 20000 in
theorem ggL_found_X3_now : GoodIn wsL_found wsX3_now := goodIn_r _ [6, 7, 8, 9, 10, 11, 12, 5, 13, 14, 15, 16, 17, 18, 19, 20, 21, 22, 23, 24, 25, 26, 27, 28, 29, 30, 31, 32, 33, 34, 35, 36, 37, 135, 136, 137, 138, 139, 140, 141, 142, 143, 144, 145, 146, 147, 148, 149, 150, 151, 152, 153] (by decide +kernel) (by decide +kernel)
set_option maxRecDepth 20000 in
theorem gL_found_X3_now : GoodIn wsL_found (wsV RL 9 RX3 yX3_now wsX3_now) := goodIn_app (goodIn_of _ (by decide +kernel)) ggL_found_X3_now
set_option maxRecDepth 20000 in
theorem ggL_found_X3_pins : GoodIn wsL_found wsX3_pins := goodIn_r _ [41, 20, 42, 43, 5, 44, 135, 136, 137, 138, 139, 140, 141] (by decide +kernel) (by decide +kernel)
set_option maxRecDepth 20000 in
theorem gL_found_X3_pins : GoodIn wsL_found (wsV RL 15 RX3 yX3_pins wsX3_pins) := goodIn_app (goodIn_of _ (by decide +kernel)) ggL_found_X3_pins
set_option maxRecDepth 20000 in
theorem ggL_found_X3_ofPart : GoodIn wsL_found wsX3_ofPart := goodIn_r _ [48, 32, 33, 49, 50, 51, 52, 53, 54, 55, 5, 56, 14, 15, 42, 43, 44, 57, 58, 59, 60, 61, 62, 63, 64, 65, 66, 142, 143, 144, 145, 146, 147, 148, 149, 150, 151, 152, 153, 135, 136, 137, 138, 139, 140, 141] (by decide +kernel) (by decide +kernel)
set_option maxRecDepth 20000 in
theorem gL_found_X3_ofPart : GoodIn wsL_found (wsV RL 18 RX3 yX3_ofPart wsX3_ofPart) := goodIn_app (goodIn_of _ (by decide +kernel)) ggL_found_X3_ofPart
set_option maxRecDepth 20000 in
theorem ggL_found_X3_would : GoodIn wsL_found wsX3_would := goodIn_r _ [70, 71, 72, 73, 5, 74, 42, 43, 44, 10, 11, 12, 13, 14, 15, 16, 17, 18, 19, 20, 21, 22, 23, 24, 25, 26, 27, 28, 29, 30, 31, 32, 33, 53, 54, 55, 56, 75, 76, 77, 78, 79, 80, 81, 82, 83, 84, 85, 86, 8, 87, 88, 89, 90, 91, 92, 93, 94, 95, 96, 97, 60, 98, 66, 99, 100, 101, 102, 103, 104, 105, 106, 62, 64, 63, 107, 108, 109, 110, 34, 35, 36, 37, 111, 112, 113, 114, 9, 115, 116, 117, 118, 119, 120, 121, 122, 123, 135, 136, 137, 138, 139, 140, 141, 142, 143, 144, 145, 146, 147, 148, 149, 150, 151, 152, 153] (by decide +kernel) (by decide +kernel)
set_option maxRecDepth 20000 in
theorem gL_found_X3_would : GoodIn wsL_found (wsV RL 22 RX3 yX3_would wsX3_would) := goodIn_app (goodIn_of _ (by decide +kernel)) ggL_found_X3_would
set_option maxRecDepth 20000 in
theorem ggL_found_L_size : GoodIn wsL_found wsL_size := goodIn_r _ [127] (by decide +kernel) (by decide +kernel)
set_option maxRecDepth 20000 in
theorem gL_found_L_size : GoodIn wsL_found (va_wsS RL 26 yL_size wsL_size) := goodIn_app (goodIn_of _ (by decide +kernel)) ggL_found_L_size
set_option maxRecDepth 20000 in
theorem ggL_found_X3_amps : GoodIn wsL_found wsX3_amps := goodIn_r _ [131, 71, 53, 54, 55, 5, 56, 14, 15, 42, 43, 44, 72, 73, 74, 95, 96, 97, 60, 98, 66, 99, 100, 101, 102, 103, 104, 105, 106, 62, 64, 63, 107, 108, 109, 110, 135, 136, 137, 138, 139, 140, 141, 142, 143, 144, 145, 146, 147, 148, 149, 150, 151, 152, 153] (by decide +kernel) (by decide +kernel)
set_option maxRecDepth 20000 in
theorem gL_found_X3_amps : GoodIn wsL_found (wsV RL 31 RX3 yX3_amps wsX3_amps) := goodIn_app (goodIn_of _ (by decide +kernel)) ggL_found_X3_amps
set_option maxRecDepth 20000 in
theorem ggL_found_L_cut : GoodIn wsL_found wsL_cut := goodIn_r _ [134] (by decide +kernel) (by decide +kernel)
set_option maxRecDepth 20000 in
theorem gL_found_L_cut : GoodIn wsL_found (va_wsS RL 34 yL_cut wsL_cut) := goodIn_app (goodIn_of _ (by decide +kernel)) ggL_found_L_cut
theorem dL_found_0 : decode cL_found 0 = .ok (.aload_n 0, 1) := by decide +kernel
theorem dL_found_1 : decode cL_found 1 = .ok (.iconst 0, 1) := by decide +kernel
theorem dL_found_2 : decode cL_found 2 = .ok (.invokevirtual 9, 3) := by decide +kernel
theorem dL_found_5 : decode cL_found 5 = .ok (.istore_n 2, 1) := by decide +kernel
theorem dL_found_6 : decode cL_found 6 = .ok (.iload_n 2, 1) := by decide +kernel
theorem dL_found_7 : decode cL_found 7 = .ok (.ifCond .lt 25, 3) := by decide +kernel
theorem dL_found_10 : decode cL_found 10 = .ok (.aload_n 0, 1) := by decide +kernel
theorem dL_found_11 : decode cL_found 11 = .ok (.iconst 0, 1) := by decide +kernel
theorem dL_found_12 : decode cL_found 12 = .ok (.invokevirtual 15, 3) := by decide +kernel
theorem dL_found_15 : decode cL_found 15 = .ok (.aload_n 0, 1) := by decide +kernel
theorem dL_found_16 : decode cL_found 16 = .ok (.iload_n 2, 1) := by decide +kernel
theorem dL_found_17 : decode cL_found 17 = .ok (.iconst 0, 1) := by decide +kernel
theorem dL_found_18 : decode cL_found 18 = .ok (.invokevirtual 18, 3) := by decide +kernel
theorem dL_found_21 : decode cL_found 21 = .ok (.ishr, 1) := by decide +kernel
theorem dL_found_22 : decode cL_found 22 = .ok (.iconst 1, 1) := by decide +kernel
theorem dL_found_23 : decode cL_found 23 = .ok (.iand, 1) := by decide +kernel
theorem dL_found_24 : decode cL_found 24 = .ok (.iconst 1, 1) := by decide +kernel
theorem dL_found_25 : decode cL_found 25 = .ok (.if_icmp .ne 7, 3) := by decide +kernel
theorem dL_found_28 : decode cL_found 28 = .ok (.iconst 1, 1) := by decide +kernel
theorem dL_found_29 : decode cL_found 29 = .ok (.goto 4, 3) := by decide +kernel
theorem dL_found_32 : decode cL_found 32 = .ok (.iconst 0, 1) := by decide +kernel
theorem dL_found_33 : decode cL_found 33 = .ok (.istore_n 3, 1) := by decide +kernel
theorem dL_found_34 : decode cL_found 34 = .ok (.aload_n 0, 1) := by decide +kernel
theorem dL_found_35 : decode cL_found 35 = .ok (.iload_n 1, 1) := by decide +kernel
theorem dL_found_36 : decode cL_found 36 = .ok (.iconst 0, 1) := by decide +kernel
theorem dL_found_37 : decode cL_found 37 = .ok (.invokevirtual 22, 3) := by decide +kernel
theorem dL_found_40 : decode cL_found 40 = .ok (.sipush 10000, 3) := by decide +kernel
theorem dL_found_43 : decode cL_found 43 = .ok (.isub, 1) := by decide +kernel
theorem dL_found_44 : decode cL_found 44 = .ok (.istore 4, 2) := by decide +kernel
theorem dL_found_46 : decode cL_found 46 = .ok (.aload_n 0, 1) := by decide +kernel
theorem dL_found_47 : decode cL_found 47 = .ok (.iload_n 1, 1) := by decide +kernel
theorem dL_found_48 : decode cL_found 48 = .ok (.iconst 1, 1) := by decide +kernel
theorem dL_found_49 : decode cL_found 49 = .ok (.invokevirtual 22, 3) := by decide +kernel
theorem dL_found_52 : decode cL_found 52 = .ok (.ldc 25, 2) := by decide +kernel
theorem dL_found_54 : decode cL_found 54 = .ok (.isub, 1) := by decide +kernel
theorem dL_found_55 : decode cL_found 55 = .ok (.istore 5, 2) := by decide +kernel
theorem dL_found_57 : decode cL_found 57 = .ok (.aload_n 0, 1) := by decide +kernel
theorem dL_found_58 : decode cL_found 58 = .ok (.iload_n 1, 1) := by decide +kernel
theorem dL_found_59 : decode cL_found 59 = .ok (.iconst 2, 1) := by decide +kernel
theorem dL_found_60 : decode cL_found 60 = .ok (.invokevirtual 22, 3) := by decide +kernel
theorem dL_found_63 : decode cL_found 63 = .ok (.istore 6, 2) := by decide +kernel
theorem dL_found_65 : decode cL_found 65 = .ok (.iload 4, 2) := by decide +kernel
theorem dL_found_67 : decode cL_found 67 = .ok (.ifCond .ge 7, 3) := by decide +kernel
theorem dL_found_70 : decode cL_found 70 = .ok (.iload_n 1, 1) := by decide +kernel
theorem dL_found_71 : decode cL_found 71 = .ok (.ifCond .ge 48, 3) := by decide +kernel
theorem dL_found_74 : decode cL_found 74 = .ok (.iload 4, 2) := by decide +kernel
theorem dL_found_76 : decode cL_found 76 = .ok (.ifCond .le 7, 3) := by decide +kernel
theorem dL_found_79 : decode cL_found 79 = .ok (.iload_n 1, 1) := by decide +kernel
theorem dL_found_80 : decode cL_found 80 = .ok (.ifCond .le 39, 3) := by decide +kernel
theorem dL_found_83 : decode cL_found 83 = .ok (.iload 4, 2) := by decide +kernel
theorem dL_found_85 : decode cL_found 85 = .ok (.invokestatic 26, 3) := by decide +kernel
theorem dL_found_88 : decode cL_found 88 = .ok (.iload_n 1, 1) := by decide +kernel
theorem dL_found_89 : decode cL_found 89 = .ok (.invokestatic 26, 3) := by decide +kernel
theorem dL_found_92 : decode cL_found 92 = .ok (.if_icmp .gt 27, 3) := by decide +kernel
theorem dL_found_95 : decode cL_found 95 = .ok (.iload 6, 2) := by decide +kernel
theorem dL_found_97 : decode cL_found 97 = .ok (.ifCond .ne 7, 3) := by decide +kernel
theorem dL_found_100 : decode cL_found 100 = .ok (.iconst 1, 1) := by decide +kernel
theorem dL_found_101 : decode cL_found 101 = .ok (.goto 4, 3) := by decide +kernel
theorem dL_found_104 : decode cL_found 104 = .ok (.iconst 0, 1) := by decide +kernel
theorem dL_found_105 : decode cL_found 105 = .ok (.iload 4, 2) := by decide +kernel
theorem dL_found_107 : decode cL_found 107 = .ok (.iload_n 1, 1) := by decide +kernel
theorem dL_found_108 : decode cL_found 108 = .ok (.if_icmp .ne 7, 3) := by decide +kernel
theorem dL_found_111 : decode cL_found 111 = .ok (.iconst 1, 1) := by decide +kernel
theorem dL_found_112 : decode cL_found 112 = .ok (.goto 4, 3) := by decide +kernel
theorem dL_found_115 : decode cL_found 115 = .ok (.iconst 0, 1) := by decide +kernel
theorem dL_found_116 : decode cL_found 116 = .ok (.if_icmp .eq 5, 3) := by decide +kernel
theorem dL_found_119 : decode cL_found 119 = .ok (.iconst 0, 1) := by decide +kernel
theorem dL_found_120 : decode cL_found 120 = .ok (.ireturn, 1) := by decide +kernel
theorem dL_found_121 : decode cL_found 121 = .ok (.iload_n 1, 1) := by decide +kernel
theorem dL_found_122 : decode cL_found 122 = .ok (.ifCond .ge 7, 3) := by decide +kernel
theorem dL_found_125 : decode cL_found 125 = .ok (.iconst (-1), 1) := by decide +kernel
theorem dL_found_126 : decode cL_found 126 = .ok (.goto 4, 3) := by decide +kernel
theorem dL_found_129 : decode cL_found 129 = .ok (.iconst 1, 1) := by decide +kernel
theorem dL_found_130 : decode cL_found 130 = .ok (.istore 7, 2) := by decide +kernel
theorem dL_found_132 : decode cL_found 132 = .ok (.iconst 0, 1) := by decide +kernel
theorem dL_found_133 : decode cL_found 133 = .ok (.istore 8, 2) := by decide +kernel
theorem dL_found_135 : decode cL_found 135 = .ok (.iload 8, 2) := by decide +kernel
theorem dL_found_137 : decode cL_found 137 = .ok (.invokestatic 26, 3) := by decide +kernel
theorem dL_found_140 : decode cL_found 140 = .ok (.iload 4, 2) := by decide +kernel
theorem dL_found_142 : decode cL_found 142 = .ok (.invokestatic 26, 3) := by decide +kernel
theorem dL_found_145 : decode cL_found 145 = .ok (.iconst 1, 1) := by decide +kernel
theorem dL_found_146 : decode cL_found 146 = .ok (.iadd, 1) := by decide +kernel
theorem dL_found_147 : decode cL_found 147 = .ok (.if_icmp .gt 187, 3) := by decide +kernel
theorem dL_found_150 : decode cL_found 150 = .ok (.iload 8, 2) := by decide +kernel
theorem dL_found_152 : decode cL_found 152 = .ok (.invokestatic 26, 3) := by decide +kernel
theorem dL_found_155 : decode cL_found 155 = .ok (.iload_n 1, 1) := by decide +kernel
theorem dL_found_156 : decode cL_found 156 = .ok (.invokestatic 26, 3) := by decide +kernel
theorem dL_found_159 : decode cL_found 159 = .ok (.if_icmp .gt 175, 3) := by decide +kernel
theorem dL_found_162 : decode cL_found 162 = .ok (.iload_n 3, 1) := by decide +kernel
theorem dL_found_163 : decode cL_found 163 = .ok (.ifCond .eq 16, 3) := by decide +kernel
theorem dL_found_166 : decode cL_found 166 = .ok (.aload_n 0, 1) := by decide +kernel
theorem dL_found_167 : decode cL_found 167 = .ok (.iload_n 2, 1) := by decide +kernel
theorem dL_found_168 : decode cL_found 168 = .ok (.iload 8, 2) := by decide +kernel
theorem dL_found_170 : decode cL_found 170 = .ok (.invokevirtual 31, 3) := by decide +kernel
theorem dL_found_173 : decode cL_found 173 = .ok (.ldc 25, 2) := by decide +kernel
theorem dL_found_175 : decode cL_found 175 = .ok (.isub, 1) := by decide +kernel
theorem dL_found_176 : decode cL_found 176 = .ok (.goto 14, 3) := by decide +kernel
theorem dL_found_179 : decode cL_found 179 = .ok (.ldc 25, 2) := by decide +kernel
theorem dL_found_181 : decode cL_found 181 = .ok (.aload_n 0, 1) := by decide +kernel
theorem dL_found_182 : decode cL_found 182 = .ok (.iload_n 2, 1) := by decide +kernel
theorem dL_found_183 : decode cL_found 183 = .ok (.iload 8, 2) := by decide +kernel
theorem dL_found_185 : decode cL_found 185 = .ok (.ineg, 1) := by decide +kernel
theorem dL_found_186 : decode cL_found 186 = .ok (.invokevirtual 31, 3) := by decide +kernel
theorem dL_found_189 : decode cL_found 189 = .ok (.isub, 1) := by decide +kernel
theorem dL_found_190 : decode cL_found 190 = .ok (.istore 9, 2) := by decide +kernel
theorem dL_found_192 : decode cL_found 192 = .ok (.iload 9, 2) := by decide +kernel
theorem dL_found_194 : decode cL_found 194 = .ok (.invokestatic 26, 3) := by decide +kernel
theorem dL_found_197 : decode cL_found 197 = .ok (.aload_n 0, 1) := by decide +kernel
theorem dL_found_198 : decode cL_found 198 = .ok (.iconst 3, 1) := by decide +kernel
theorem dL_found_199 : decode cL_found 199 = .ok (.invokevirtual 9, 3) := by decide +kernel
theorem dL_found_202 : decode cL_found 202 = .ok (.if_icmp .le 7, 3) := by decide +kernel
theorem dL_found_205 : decode cL_found 205 = .ok (.iconst 1, 1) := by decide +kernel
theorem dL_found_206 : decode cL_found 206 = .ok (.goto 4, 3) := by decide +kernel
theorem dL_found_209 : decode cL_found 209 = .ok (.iconst 0, 1) := by decide +kernel
theorem dL_found_210 : decode cL_found 210 = .ok (.istore 10, 2) := by decide +kernel
theorem dL_found_212 : decode cL_found 212 = .ok (.aload_n 0, 1) := by decide +kernel
theorem dL_found_213 : decode cL_found 213 = .ok (.iconst 1, 1) := by decide +kernel
theorem dL_found_214 : decode cL_found 214 = .ok (.invokevirtual 9, 3) := by decide +kernel
theorem dL_found_217 : decode cL_found 217 = .ok (.iconst 2, 1) := by decide +kernel
theorem dL_found_218 : decode cL_found 218 = .ok (.if_icmp .ne 34, 3) := by decide +kernel
theorem dL_found_221 : decode cL_found 221 = .ok (.iload 8, 2) := by decide +kernel
theorem dL_found_223 : decode cL_found 223 = .ok (.iload 9, 2) := by decide +kernel
theorem dL_found_225 : decode cL_found 225 = .ok (.aload_n 0, 1) := by decide +kernel
theorem dL_found_226 : decode cL_found 226 = .ok (.iconst 4, 1) := by decide +kernel
theorem dL_found_227 : decode cL_found 227 = .ok (.invokevirtual 9, 3) := by decide +kernel
theorem dL_found_230 : decode cL_found 230 = .ok (.imul, 1) := by decide +kernel
theorem dL_found_231 : decode cL_found 231 = .ok (.sipush 1000, 3) := by decide +kernel
theorem dL_found_234 : decode cL_found 234 = .ok (.invokestatic 34, 3) := by decide +kernel
theorem dL_found_237 : decode cL_found 237 = .ok (.iadd, 1) := by decide +kernel
theorem dL_found_238 : decode cL_found 238 = .ok (.invokestatic 26, 3) := by decide +kernel
theorem dL_found_241 : decode cL_found 241 = .ok (.iload_n 1, 1) := by decide +kernel
theorem dL_found_242 : decode cL_found 242 = .ok (.invokestatic 26, 3) := by decide +kernel
theorem dL_found_245 : decode cL_found 245 = .ok (.if_icmp .le 7, 3) := by decide +kernel
theorem dL_found_248 : decode cL_found 248 = .ok (.iconst 1, 1) := by decide +kernel
theorem dL_found_249 : decode cL_found 249 = .ok (.goto 4, 3) := by decide +kernel
theorem dL_found_252 : decode cL_found 252 = .ok (.iconst 0, 1) := by decide +kernel
theorem dL_found_253 : decode cL_found 253 = .ok (.istore 11, 2) := by decide +kernel
theorem dL_found_255 : decode cL_found 255 = .ok (.iload 8, 2) := by decide +kernel
theorem dL_found_257 : decode cL_found 257 = .ok (.invokestatic 26, 3) := by decide +kernel
theorem dL_found_260 : decode cL_found 260 = .ok (.iload 4, 2) := by decide +kernel
theorem dL_found_262 : decode cL_found 262 = .ok (.invokestatic 26, 3) := by decide +kernel
theorem dL_found_265 : decode cL_found 265 = .ok (.if_icmp .gt 16, 3) := by decide +kernel
theorem dL_found_268 : decode cL_found 268 = .ok (.iload 10, 2) := by decide +kernel
theorem dL_found_270 : decode cL_found 270 = .ok (.ifCond .ne 36, 3) := by decide +kernel
theorem dL_found_273 : decode cL_found 273 = .ok (.iload 11, 2) := by decide +kernel
theorem dL_found_275 : decode cL_found 275 = .ok (.ifCond .eq 33, 3) := by decide +kernel
theorem dL_found_278 : decode cL_found 278 = .ok (.goto 28, 3) := by decide +kernel
theorem dL_found_281 : decode cL_found 281 = .ok (.iload 6, 2) := by decide +kernel
theorem dL_found_283 : decode cL_found 283 = .ok (.iload 10, 2) := by decide +kernel
theorem dL_found_285 : decode cL_found 285 = .ok (.ifCond .eq 7, 3) := by decide +kernel
theorem dL_found_288 : decode cL_found 288 = .ok (.iconst 1, 1) := by decide +kernel
theorem dL_found_289 : decode cL_found 289 = .ok (.goto 14, 3) := by decide +kernel
theorem dL_found_292 : decode cL_found 292 = .ok (.iload 11, 2) := by decide +kernel
theorem dL_found_294 : decode cL_found 294 = .ok (.ifCond .eq 7, 3) := by decide +kernel
theorem dL_found_297 : decode cL_found 297 = .ok (.iconst 2, 1) := by decide +kernel
theorem dL_found_298 : decode cL_found 298 = .ok (.goto 5, 3) := by decide +kernel
theorem dL_found_301 : decode cL_found 301 = .ok (.bipush 9, 2) := by decide +kernel
theorem dL_found_303 : decode cL_found 303 = .ok (.if_icmp .eq 5, 3) := by decide +kernel
theorem dL_found_306 : decode cL_found 306 = .ok (.iconst 0, 1) := by decide +kernel
theorem dL_found_307 : decode cL_found 307 = .ok (.ireturn, 1) := by decide +kernel
theorem dL_found_308 : decode cL_found 308 = .ok (.iload 8, 2) := by decide +kernel
theorem dL_found_310 : decode cL_found 310 = .ok (.iload 4, 2) := by decide +kernel
theorem dL_found_312 : decode cL_found 312 = .ok (.if_icmp .ne 12, 3) := by decide +kernel
theorem dL_found_315 : decode cL_found 315 = .ok (.iload 9, 2) := by decide +kernel
theorem dL_found_317 : decode cL_found 317 = .ok (.iload 5, 2) := by decide +kernel
theorem dL_found_319 : decode cL_found 319 = .ok (.if_icmp .eq 5, 3) := by decide +kernel
theorem dL_found_322 : decode cL_found 322 = .ok (.iconst 0, 1) := by decide +kernel
theorem dL_found_323 : decode cL_found 323 = .ok (.ireturn, 1) := by decide +kernel
theorem dL_found_324 : decode cL_found 324 = .ok (.iload 8, 2) := by decide +kernel
theorem dL_found_326 : decode cL_found 326 = .ok (.iload 7, 2) := by decide +kernel
theorem dL_found_328 : decode cL_found 328 = .ok (.iadd, 1) := by decide +kernel
theorem dL_found_329 : decode cL_found 329 = .ok (.istore 8, 2) := by decide +kernel
theorem dL_found_331 : decode cL_found 331 = .ok (.goto (-196), 3) := by decide +kernel
theorem dL_found_334 : decode cL_found 334 = .ok (.iconst 1, 1) := by decide +kernel
theorem dL_found_335 : decode cL_found 335 = .ok (.ireturn, 1) := by decide +kernel
set_option maxRecDepth 20000 in
theorem ggL_pulse_X3_now : GoodIn wsL_pulse wsX3_now := goodIn_r _ [8, 9, 10, 11, 12, 13, 14, 7, 15, 16, 17, 18, 19, 20, 21, 22, 23, 24, 25, 26, 27, 28, 29, 30, 31, 32, 33, 34, 35, 36, 37, 38, 39, 233, 234, 235, 236, 237, 238, 239, 240, 241, 242, 243, 244, 245, 246, 247, 248, 249, 250, 251] (by decide +kernel) (by decide +kernel)
set_option maxRecDepth 20000 in
theorem gL_pulse_X3_now : GoodIn wsL_pulse (wsV RL 9 RX3 yX3_now wsX3_now) := goodIn_app (goodIn_of _ (by decide +kernel)) ggL_pulse_X3_now
set_option maxRecDepth 20000 in
theorem ggL_pulse_X3_many : GoodIn wsL_pulse wsX3_many := goodIn_r _ [43, 44, 45, 46, 47, 48, 7, 49, 16, 17, 50, 51, 52, 53, 54, 22, 23, 24, 25, 26, 27, 28, 29, 55, 56, 57, 58, 59, 60, 61, 233, 234, 235, 236, 237, 238, 239, 252, 253, 254, 255, 256, 240, 241, 242, 243, 244, 245, 246, 247, 248, 249, 250, 251] (by decide +kernel) (by decide +kernel)
set_option maxRecDepth 20000 in
theorem gL_pulse_X3_many : GoodIn wsL_pulse (wsV RL 37 RX3 yX3_many wsX3_many) := goodIn_app (goodIn_of _ (by decide +kernel)) ggL_pulse_X3_many
set_option maxRecDepth 20000 in
theorem ggL_pulse_X3_pulse : GoodIn wsL_pulse wsX3_pulse := goodIn_r _ [65, 9, 44, 66, 45, 67, 68, 7, 69, 70, 71, 72, 12, 13, 14, 15, 16, 17, 18, 19, 20, 21, 22, 23, 24, 25, 26, 27, 28, 29, 30, 31, 32, 33, 34, 35, 73, 74, 75, 76, 77, 78, 79, 58, 80, 60, 81, 82, 83, 84, 85, 86, 87, 88, 89, 90, 91, 92, 93, 94, 95, 96, 97, 98, 99, 100, 101, 102, 103, 10, 104, 105, 106, 107, 108, 109, 110, 111, 112, 113, 114, 115, 116, 117, 118, 119, 120, 121, 122, 123, 124, 125, 126, 127, 128, 129, 130, 131, 132, 36, 37, 38, 39, 133, 134, 135, 136, 11, 137, 138, 139, 140, 141, 142, 143, 144, 145, 146, 147, 148, 149, 150, 151, 152, 153, 154, 155, 156, 61, 157, 158, 159, 160, 161, 162, 163, 164, 165, 166, 167, 168, 169, 170, 171, 172, 173, 174, 175, 176, 177, 178, 179, 180, 181, 182, 183, 233, 234, 235, 236, 237, 238, 239, 252, 253, 254, 255, 256, 240, 241, 242, 243, 244, 245, 246, 247, 248, 249, 250, 251, 257, 258, 259] (by decide +kernel) (by decide +kernel)
set_option maxRecDepth 20000 in
theorem gL_pulse_X3_pulse : GoodIn wsL_pulse (wsV RL 40 RX3 yX3_pulse wsX3_pulse) := goodIn_app (goodIn_of _ (by decide +kernel)) ggL_pulse_X3_pulse
set_option maxRecDepth 20000 in
theorem ggL_pulse_X3_clear : GoodIn wsL_pulse wsX3_clear := goodIn_r _ [187, 44, 45, 233, 234, 235, 236, 237, 238, 239, 252, 253, 254, 255, 256] (by decide +kernel) (by decide +kernel)
set_option maxRecDepth 20000 in
theorem gL_pulse_X3_clear : GoodIn wsL_pulse (wsV RL 43 RX3 yX3_clear wsX3_clear) := goodIn_app (goodIn_of _ (by decide +kernel)) ggL_pulse_X3_clear
set_option maxRecDepth 20000 in
theorem ggL_pulse_X3_pins : GoodIn wsL_pulse wsX3_pins := goodIn_r _ [191, 22, 70, 71, 7, 72, 233, 234, 235, 236, 237, 238, 239] (by decide +kernel) (by decide +kernel)
set_option maxRecDepth 20000 in
theorem gL_pulse_X3_pins : GoodIn wsL_pulse (wsV RL 15 RX3 yX3_pins wsX3_pins) := goodIn_app (goodIn_of _ (by decide +kernel)) ggL_pulse_X3_pins
set_option maxRecDepth 20000 in
theorem ggL_pulse_X3_ofPart : GoodIn wsL_pulse wsX3_ofPart := goodIn_r _ [195, 34, 35, 196, 197, 50, 91, 73, 74, 75, 7, 76, 16, 17, 70, 71, 72, 198, 199, 200, 115, 201, 126, 128, 127, 173, 117, 240, 241, 242, 243, 244, 245, 246, 247, 248, 249, 250, 251, 233, 234, 235, 236, 237, 238, 239] (by decide +kernel) (by decide +kernel)
set_option maxRecDepth 20000 in
theorem gL_pulse_X3_ofPart : GoodIn wsL_pulse (wsV RL 18 RX3 yX3_ofPart wsX3_ofPart) := goodIn_app (goodIn_of _ (by decide +kernel)) ggL_pulse_X3_ofPart
set_option maxRecDepth 20000 in
theorem ggL_pulse_X3_would : GoodIn wsL_pulse wsX3_would := goodIn_r _ [205, 206, 67, 68, 7, 69, 70, 71, 72, 12, 13, 14, 15, 16, 17, 18, 19, 20, 21, 22, 23, 24, 25, 26, 27, 28, 29, 30, 31, 32, 33, 34, 35, 73, 74, 75, 76, 92, 93, 94, 95, 96, 97, 98, 99, 100, 101, 102, 103, 10, 104, 105, 106, 107, 108, 109, 110, 111, 112, 113, 114, 115, 116, 117, 118, 119, 120, 121, 122, 123, 124, 125, 126, 127, 128, 129, 130, 131, 132, 36, 37, 38, 39, 133, 134, 135, 136, 11, 137, 142, 143, 144, 145, 146, 147, 148, 149, 233, 234, 235, 236, 237, 238, 239, 240, 241, 242, 243, 244, 245, 246, 247, 248, 249, 250, 251] (by decide +kernel) (by decide +kernel)
set_option maxRecDepth 20000 in
theorem gL_pulse_X3_would : GoodIn wsL_pulse (wsV RL 22 RX3 yX3_would wsX3_would) := goodIn_app (goodIn_of _ (by decide +kernel)) ggL_pulse_X3_would
set_option maxRecDepth 20000 in
theorem ggL_pulse_X3_reading : GoodIn wsL_pulse wsX3_reading := goodIn_r _ [210, 44, 211, 212, 213, 206, 214, 215, 216, 217, 58, 218, 60, 233, 234, 235, 236, 237, 238, 239, 252, 253, 254, 255, 256] (by decide +kernel) (by decide +kernel)
set_option maxRecDepth 20000 in
theorem gL_pulse_X3_reading : GoodIn wsL_pulse (wsV RL 47 RX3 yX3_reading wsX3_reading) := goodIn_app (goodIn_of _ (by decide +kernel)) ggL_pulse_X3_reading
set_option maxRecDepth 20000 in
theorem ggL_pulse_L_size : GoodIn wsL_pulse wsL_size := goodIn_r _ [222] (by decide +kernel) (by decide +kernel)
set_option maxRecDepth 20000 in
theorem gL_pulse_L_size : GoodIn wsL_pulse (va_wsS RL 26 yL_size wsL_size) := goodIn_app (goodIn_of _ (by decide +kernel)) ggL_pulse_L_size
set_option maxRecDepth 20000 in
theorem ggL_pulse_L_cut : GoodIn wsL_pulse wsL_cut := goodIn_r _ [225] (by decide +kernel) (by decide +kernel)
set_option maxRecDepth 20000 in
theorem gL_pulse_L_cut : GoodIn wsL_pulse (va_wsS RL 34 yL_cut wsL_cut) := goodIn_app (goodIn_of _ (by decide +kernel)) ggL_pulse_L_cut
set_option maxRecDepth 20000 in
theorem ggL_pulse_X3_why : GoodIn wsL_pulse wsX3_why := goodIn_r _ [229, 66, 230, 231, 232, 70, 71, 7, 72, 233, 234, 235, 236, 237, 238, 239, 257, 258, 259] (by decide +kernel) (by decide +kernel)
set_option maxRecDepth 20000 in
theorem gL_pulse_X3_why : GoodIn wsL_pulse (wsV RL 54 RX3 yX3_why wsX3_why) := goodIn_app (goodIn_of _ (by decide +kernel)) ggL_pulse_X3_why
theorem dL_pulse_0 : decode cL_pulse 0 = .ok (.aload_n 0, 1) := by decide +kernel
theorem dL_pulse_1 : decode cL_pulse 1 = .ok (.iconst 0, 1) := by decide +kernel
theorem dL_pulse_2 : decode cL_pulse 2 = .ok (.invokevirtual 9, 3) := by decide +kernel
theorem dL_pulse_5 : decode cL_pulse 5 = .ok (.istore_n 3, 1) := by decide +kernel
theorem dL_pulse_6 : decode cL_pulse 6 = .ok (.aload_n 0, 1) := by decide +kernel
theorem dL_pulse_7 : decode cL_pulse 7 = .ok (.iconst 1, 1) := by decide +kernel
theorem dL_pulse_8 : decode cL_pulse 8 = .ok (.invokevirtual 37, 3) := by decide +kernel
theorem dL_pulse_11 : decode cL_pulse 11 = .ok (.istore 4, 2) := by decide +kernel
theorem dL_pulse_13 : decode cL_pulse 13 = .ok (.iload 4, 2) := by decide +kernel
theorem dL_pulse_15 : decode cL_pulse 15 = .ok (.bipush 60, 2) := by decide +kernel
theorem dL_pulse_17 : decode cL_pulse 17 = .ok (.if_icmp .ne 29, 3) := by decide +kernel
theorem dL_pulse_20 : decode cL_pulse 20 = .ok (.aload_n 0, 1) := by decide +kernel
theorem dL_pulse_21 : decode cL_pulse 21 = .ok (.iload_n 1, 1) := by decide +kernel
theorem dL_pulse_22 : decode cL_pulse 22 = .ok (.iload_n 2, 1) := by decide +kernel
theorem dL_pulse_23 : decode cL_pulse 23 = .ok (.invokevirtual 40, 3) := by decide +kernel
theorem dL_pulse_26 : decode cL_pulse 26 = .ok (.bipush (-4), 2) := by decide +kernel
theorem dL_pulse_28 : decode cL_pulse 28 = .ok (.if_icmp .ne 16, 3) := by decide +kernel
theorem dL_pulse_31 : decode cL_pulse 31 = .ok (.aload_n 0, 1) := by decide +kernel
theorem dL_pulse_32 : decode cL_pulse 32 = .ok (.invokevirtual 43, 3) := by decide +kernel
theorem dL_pulse_35 : decode cL_pulse 35 = .ok (.bipush 60, 2) := by decide +kernel
theorem dL_pulse_37 : decode cL_pulse 37 = .ok (.if_icmp .ne 7, 3) := by decide +kernel
theorem dL_pulse_40 : decode cL_pulse 40 = .ok (.iconst 1, 1) := by decide +kernel
theorem dL_pulse_41 : decode cL_pulse 41 = .ok (.goto 4, 3) := by decide +kernel
theorem dL_pulse_44 : decode cL_pulse 44 = .ok (.iconst 0, 1) := by decide +kernel
theorem dL_pulse_45 : decode cL_pulse 45 = .ok (.ireturn, 1) := by decide +kernel
theorem dL_pulse_46 : decode cL_pulse 46 = .ok (.aload_n 0, 1) := by decide +kernel
theorem dL_pulse_47 : decode cL_pulse 47 = .ok (.iconst 0, 1) := by decide +kernel
theorem dL_pulse_48 : decode cL_pulse 48 = .ok (.invokevirtual 15, 3) := by decide +kernel
theorem dL_pulse_51 : decode cL_pulse 51 = .ok (.aload_n 0, 1) := by decide +kernel
theorem dL_pulse_52 : decode cL_pulse 52 = .ok (.iload_n 3, 1) := by decide +kernel
theorem dL_pulse_53 : decode cL_pulse 53 = .ok (.iconst 0, 1) := by decide +kernel
theorem dL_pulse_54 : decode cL_pulse 54 = .ok (.invokevirtual 18, 3) := by decide +kernel
theorem dL_pulse_57 : decode cL_pulse 57 = .ok (.ishr, 1) := by decide +kernel
theorem dL_pulse_58 : decode cL_pulse 58 = .ok (.iconst 1, 1) := by decide +kernel
theorem dL_pulse_59 : decode cL_pulse 59 = .ok (.iand, 1) := by decide +kernel
theorem dL_pulse_60 : decode cL_pulse 60 = .ok (.iconst 1, 1) := by decide +kernel
theorem dL_pulse_61 : decode cL_pulse 61 = .ok (.if_icmp .ne 7, 3) := by decide +kernel
theorem dL_pulse_64 : decode cL_pulse 64 = .ok (.iconst 1, 1) := by decide +kernel
theorem dL_pulse_65 : decode cL_pulse 65 = .ok (.goto 4, 3) := by decide +kernel
theorem dL_pulse_68 : decode cL_pulse 68 = .ok (.iconst 0, 1) := by decide +kernel
theorem dL_pulse_69 : decode cL_pulse 69 = .ok (.istore 5, 2) := by decide +kernel
theorem dL_pulse_71 : decode cL_pulse 71 = .ok (.aload_n 0, 1) := by decide +kernel
theorem dL_pulse_72 : decode cL_pulse 72 = .ok (.iload_n 1, 1) := by decide +kernel
theorem dL_pulse_73 : decode cL_pulse 73 = .ok (.iconst 0, 1) := by decide +kernel
theorem dL_pulse_74 : decode cL_pulse 74 = .ok (.invokevirtual 22, 3) := by decide +kernel
theorem dL_pulse_77 : decode cL_pulse 77 = .ok (.sipush 10000, 3) := by decide +kernel
theorem dL_pulse_80 : decode cL_pulse 80 = .ok (.isub, 1) := by decide +kernel
theorem dL_pulse_81 : decode cL_pulse 81 = .ok (.istore 6, 2) := by decide +kernel
theorem dL_pulse_83 : decode cL_pulse 83 = .ok (.aload_n 0, 1) := by decide +kernel
theorem dL_pulse_84 : decode cL_pulse 84 = .ok (.iload_n 3, 1) := by decide +kernel
theorem dL_pulse_85 : decode cL_pulse 85 = .ok (.iconst 2, 1) := by decide +kernel
theorem dL_pulse_86 : decode cL_pulse 86 = .ok (.invokevirtual 18, 3) := by decide +kernel
theorem dL_pulse_89 : decode cL_pulse 89 = .ok (.iconst 3, 1) := by decide +kernel
theorem dL_pulse_90 : decode cL_pulse 90 = .ok (.if_icmp .ne 48, 3) := by decide +kernel
theorem dL_pulse_93 : decode cL_pulse 93 = .ok (.aload_n 0, 1) := by decide +kernel
theorem dL_pulse_94 : decode cL_pulse 94 = .ok (.iload_n 3, 1) := by decide +kernel
theorem dL_pulse_95 : decode cL_pulse 95 = .ok (.iconst 4, 1) := by decide +kernel
theorem dL_pulse_96 : decode cL_pulse 96 = .ok (.invokevirtual 18, 3) := by decide +kernel
theorem dL_pulse_99 : decode cL_pulse 99 = .ok (.ifCond .ne 39, 3) := by decide +kernel
theorem dL_pulse_102 : decode cL_pulse 102 = .ok (.aload_n 0, 1) := by decide +kernel
theorem dL_pulse_103 : decode cL_pulse 103 = .ok (.iload_n 3, 1) := by decide +kernel
theorem dL_pulse_104 : decode cL_pulse 104 = .ok (.iconst 5, 1) := by decide +kernel
theorem dL_pulse_105 : decode cL_pulse 105 = .ok (.invokevirtual 18, 3) := by decide +kernel
theorem dL_pulse_108 : decode cL_pulse 108 = .ok (.ifCond .ne 30, 3) := by decide +kernel
theorem dL_pulse_111 : decode cL_pulse 111 = .ok (.iload 5, 2) := by decide +kernel
theorem dL_pulse_113 : decode cL_pulse 113 = .ok (.ifCond .eq 8, 3) := by decide +kernel
theorem dL_pulse_116 : decode cL_pulse 116 = .ok (.iload 6, 2) := by decide +kernel
theorem dL_pulse_118 : decode cL_pulse 118 = .ok (.goto 6, 3) := by decide +kernel
theorem dL_pulse_121 : decode cL_pulse 121 = .ok (.iload 6, 2) := by decide +kernel
theorem dL_pulse_123 : decode cL_pulse 123 = .ok (.ineg, 1) := by decide +kernel
theorem dL_pulse_124 : decode cL_pulse 124 = .ok (.aload_n 0, 1) := by decide +kernel
theorem dL_pulse_125 : decode cL_pulse 125 = .ok (.iload_n 3, 1) := by decide +kernel
theorem dL_pulse_126 : decode cL_pulse 126 = .ok (.bipush 11, 2) := by decide +kernel
theorem dL_pulse_128 : decode cL_pulse 128 = .ok (.invokevirtual 18, 3) := by decide +kernel
theorem dL_pulse_131 : decode cL_pulse 131 = .ok (.if_icmp .lt 7, 3) := by decide +kernel
theorem dL_pulse_134 : decode cL_pulse 134 = .ok (.iconst 1, 1) := by decide +kernel
theorem dL_pulse_135 : decode cL_pulse 135 = .ok (.goto 4, 3) := by decide +kernel
theorem dL_pulse_138 : decode cL_pulse 138 = .ok (.iconst 0, 1) := by decide +kernel
theorem dL_pulse_139 : decode cL_pulse 139 = .ok (.istore 7, 2) := by decide +kernel
theorem dL_pulse_141 : decode cL_pulse 141 = .ok (.aload_n 0, 1) := by decide +kernel
theorem dL_pulse_142 : decode cL_pulse 142 = .ok (.iload_n 1, 1) := by decide +kernel
theorem dL_pulse_143 : decode cL_pulse 143 = .ok (.iconst 1, 1) := by decide +kernel
theorem dL_pulse_144 : decode cL_pulse 144 = .ok (.invokevirtual 22, 3) := by decide +kernel
theorem dL_pulse_147 : decode cL_pulse 147 = .ok (.ldc 25, 2) := by decide +kernel
theorem dL_pulse_149 : decode cL_pulse 149 = .ok (.isub, 1) := by decide +kernel
theorem dL_pulse_150 : decode cL_pulse 150 = .ok (.istore 8, 2) := by decide +kernel
theorem dL_pulse_152 : decode cL_pulse 152 = .ok (.aload_n 0, 1) := by decide +kernel
theorem dL_pulse_153 : decode cL_pulse 153 = .ok (.iload_n 3, 1) := by decide +kernel
theorem dL_pulse_154 : decode cL_pulse 154 = .ok (.iconst 3, 1) := by decide +kernel
theorem dL_pulse_155 : decode cL_pulse 155 = .ok (.invokevirtual 18, 3) := by decide +kernel
theorem dL_pulse_158 : decode cL_pulse 158 = .ok (.istore 9, 2) := by decide +kernel
theorem dL_pulse_160 : decode cL_pulse 160 = .ok (.aload_n 0, 1) := by decide +kernel
theorem dL_pulse_161 : decode cL_pulse 161 = .ok (.iload_n 3, 1) := by decide +kernel
theorem dL_pulse_162 : decode cL_pulse 162 = .ok (.iconst 4, 1) := by decide +kernel
theorem dL_pulse_163 : decode cL_pulse 163 = .ok (.invokevirtual 18, 3) := by decide +kernel
theorem dL_pulse_166 : decode cL_pulse 166 = .ok (.istore 10, 2) := by decide +kernel
theorem dL_pulse_168 : decode cL_pulse 168 = .ok (.aload_n 0, 1) := by decide +kernel
theorem dL_pulse_169 : decode cL_pulse 169 = .ok (.iload_n 1, 1) := by decide +kernel
theorem dL_pulse_170 : decode cL_pulse 170 = .ok (.iconst 2, 1) := by decide +kernel
theorem dL_pulse_171 : decode cL_pulse 171 = .ok (.invokevirtual 22, 3) := by decide +kernel
theorem dL_pulse_174 : decode cL_pulse 174 = .ok (.istore 11, 2) := by decide +kernel
theorem dL_pulse_176 : decode cL_pulse 176 = .ok (.aload_n 0, 1) := by decide +kernel
theorem dL_pulse_177 : decode cL_pulse 177 = .ok (.iload_n 1, 1) := by decide +kernel
theorem dL_pulse_178 : decode cL_pulse 178 = .ok (.iload_n 2, 1) := by decide +kernel
theorem dL_pulse_179 : decode cL_pulse 179 = .ok (.invokevirtual 40, 3) := by decide +kernel
theorem dL_pulse_182 : decode cL_pulse 182 = .ok (.iload 4, 2) := by decide +kernel
theorem dL_pulse_184 : decode cL_pulse 184 = .ok (.iconst 1, 1) := by decide +kernel
theorem dL_pulse_185 : decode cL_pulse 185 = .ok (.iadd, 1) := by decide +kernel
theorem dL_pulse_186 : decode cL_pulse 186 = .ok (.if_icmp .ne 18, 3) := by decide +kernel
theorem dL_pulse_189 : decode cL_pulse 189 = .ok (.aload_n 0, 1) := by decide +kernel
theorem dL_pulse_190 : decode cL_pulse 190 = .ok (.iload 4, 2) := by decide +kernel
theorem dL_pulse_192 : decode cL_pulse 192 = .ok (.iconst 0, 1) := by decide +kernel
theorem dL_pulse_193 : decode cL_pulse 193 = .ok (.invokevirtual 47, 3) := by decide +kernel
theorem dL_pulse_196 : decode cL_pulse 196 = .ok (.iload_n 1, 1) := by decide +kernel
theorem dL_pulse_197 : decode cL_pulse 197 = .ok (.sipush 10000, 3) := by decide +kernel
theorem dL_pulse_200 : decode cL_pulse 200 = .ok (.iadd, 1) := by decide +kernel
theorem dL_pulse_201 : decode cL_pulse 201 = .ok (.if_icmp .eq 5, 3) := by decide +kernel
theorem dL_pulse_204 : decode cL_pulse 204 = .ok (.iconst 0, 1) := by decide +kernel
theorem dL_pulse_205 : decode cL_pulse 205 = .ok (.ireturn, 1) := by decide +kernel
theorem dL_pulse_206 : decode cL_pulse 206 = .ok (.aload_n 0, 1) := by decide +kernel
theorem dL_pulse_207 : decode cL_pulse 207 = .ok (.iload 4, 2) := by decide +kernel
theorem dL_pulse_209 : decode cL_pulse 209 = .ok (.iconst 1, 1) := by decide +kernel
theorem dL_pulse_210 : decode cL_pulse 210 = .ok (.invokevirtual 47, 3) := by decide +kernel
theorem dL_pulse_213 : decode cL_pulse 213 = .ok (.sipush 10000, 3) := by decide +kernel
theorem dL_pulse_216 : decode cL_pulse 216 = .ok (.isub, 1) := by decide +kernel
theorem dL_pulse_217 : decode cL_pulse 217 = .ok (.istore 12, 2) := by decide +kernel
theorem dL_pulse_219 : decode cL_pulse 219 = .ok (.aload_n 0, 1) := by decide +kernel
theorem dL_pulse_220 : decode cL_pulse 220 = .ok (.iload 4, 2) := by decide +kernel
theorem dL_pulse_222 : decode cL_pulse 222 = .ok (.iconst 2, 1) := by decide +kernel
theorem dL_pulse_223 : decode cL_pulse 223 = .ok (.invokevirtual 47, 3) := by decide +kernel
theorem dL_pulse_226 : decode cL_pulse 226 = .ok (.ldc 25, 2) := by decide +kernel
theorem dL_pulse_228 : decode cL_pulse 228 = .ok (.isub, 1) := by decide +kernel
theorem dL_pulse_229 : decode cL_pulse 229 = .ok (.istore 13, 2) := by decide +kernel
theorem dL_pulse_231 : decode cL_pulse 231 = .ok (.iload 7, 2) := by decide +kernel
theorem dL_pulse_233 : decode cL_pulse 233 = .ok (.ifCond .ne 239, 3) := by decide +kernel
theorem dL_pulse_236 : decode cL_pulse 236 = .ok (.iload 6, 2) := by decide +kernel
theorem dL_pulse_238 : decode cL_pulse 238 = .ok (.invokestatic 26, 3) := by decide +kernel
theorem dL_pulse_241 : decode cL_pulse 241 = .ok (.i2l, 1) := by decide +kernel
theorem dL_pulse_242 : decode cL_pulse 242 = .ok (.iload 8, 2) := by decide +kernel
theorem dL_pulse_244 : decode cL_pulse 244 = .ok (.invokestatic 26, 3) := by decide +kernel
theorem dL_pulse_247 : decode cL_pulse 247 = .ok (.i2l, 1) := by decide +kernel
theorem dL_pulse_248 : decode cL_pulse 248 = .ok (.lmul, 1) := by decide +kernel
theorem dL_pulse_249 : decode cL_pulse 249 = .ok (.iload_n 2, 1) := by decide +kernel
theorem dL_pulse_250 : decode cL_pulse 250 = .ok (.i2l, 1) := by decide +kernel
theorem dL_pulse_251 : decode cL_pulse 251 = .ok (.lmul, 1) := by decide +kernel
theorem dL_pulse_252 : decode cL_pulse 252 = .ok (.ldc2_w 50, 3) := by decide +kernel
theorem dL_pulse_255 : decode cL_pulse 255 = .ok (.ldiv, 1) := by decide +kernel
theorem dL_pulse_256 : decode cL_pulse 256 = .ok (.lstore 14, 2) := by decide +kernel
theorem dL_pulse_258 : decode cL_pulse 258 = .ok (.iload 9, 2) := by decide +kernel
theorem dL_pulse_260 : decode cL_pulse 260 = .ok (.i2l, 1) := by decide +kernel
theorem dL_pulse_261 : decode cL_pulse 261 = .ok (.lload 14, 2) := by decide +kernel
theorem dL_pulse_263 : decode cL_pulse 263 = .ok (.ladd, 1) := by decide +kernel
theorem dL_pulse_264 : decode cL_pulse 264 = .ok (.lstore 16, 2) := by decide +kernel
theorem dL_pulse_266 : decode cL_pulse 266 = .ok (.lload 16, 2) := by decide +kernel
theorem dL_pulse_268 : decode cL_pulse 268 = .ok (.ldc2_w 52, 3) := by decide +kernel
theorem dL_pulse_271 : decode cL_pulse 271 = .ok (.lcmp, 1) := by decide +kernel
theorem dL_pulse_272 : decode cL_pulse 272 = .ok (.ifCond .le 12, 3) := by decide +kernel
theorem dL_pulse_275 : decode cL_pulse 275 = .ok (.iload 10, 2) := by decide +kernel
theorem dL_pulse_277 : decode cL_pulse 277 = .ok (.ifCond .ne 7, 3) := by decide +kernel
theorem dL_pulse_280 : decode cL_pulse 280 = .ok (.iconst 1, 1) := by decide +kernel
theorem dL_pulse_281 : decode cL_pulse 281 = .ok (.goto 4, 3) := by decide +kernel
theorem dL_pulse_284 : decode cL_pulse 284 = .ok (.iconst 0, 1) := by decide +kernel
theorem dL_pulse_285 : decode cL_pulse 285 = .ok (.istore 18, 2) := by decide +kernel
theorem dL_pulse_287 : decode cL_pulse 287 = .ok (.aload_n 0, 1) := by decide +kernel
theorem dL_pulse_288 : decode cL_pulse 288 = .ok (.iconst 1, 1) := by decide +kernel
theorem dL_pulse_289 : decode cL_pulse 289 = .ok (.invokevirtual 9, 3) := by decide +kernel
theorem dL_pulse_292 : decode cL_pulse 292 = .ok (.iconst 2, 1) := by decide +kernel
theorem dL_pulse_293 : decode cL_pulse 293 = .ok (.if_icmp .ne 20, 3) := by decide +kernel
theorem dL_pulse_296 : decode cL_pulse 296 = .ok (.iload 8, 2) := by decide +kernel
theorem dL_pulse_298 : decode cL_pulse 298 = .ok (.aload_n 0, 1) := by decide +kernel
theorem dL_pulse_299 : decode cL_pulse 299 = .ok (.iconst 4, 1) := by decide +kernel
theorem dL_pulse_300 : decode cL_pulse 300 = .ok (.invokevirtual 9, 3) := by decide +kernel
theorem dL_pulse_303 : decode cL_pulse 303 = .ok (.imul, 1) := by decide +kernel
theorem dL_pulse_304 : decode cL_pulse 304 = .ok (.sipush 1000, 3) := by decide +kernel
theorem dL_pulse_307 : decode cL_pulse 307 = .ok (.invokestatic 34, 3) := by decide +kernel
theorem dL_pulse_310 : decode cL_pulse 310 = .ok (.goto 4, 3) := by decide +kernel
theorem dL_pulse_313 : decode cL_pulse 313 = .ok (.iconst 0, 1) := by decide +kernel
theorem dL_pulse_314 : decode cL_pulse 314 = .ok (.istore 19, 2) := by decide +kernel
theorem dL_pulse_316 : decode cL_pulse 316 = .ok (.iload 13, 2) := by decide +kernel
theorem dL_pulse_318 : decode cL_pulse 318 = .ok (.iload 8, 2) := by decide +kernel
theorem dL_pulse_320 : decode cL_pulse 320 = .ok (.if_icmp .ne 72, 3) := by decide +kernel
theorem dL_pulse_323 : decode cL_pulse 323 = .ok (.iload 12, 2) := by decide +kernel
theorem dL_pulse_325 : decode cL_pulse 325 = .ok (.iload 6, 2) := by decide +kernel
theorem dL_pulse_327 : decode cL_pulse 327 = .ok (.iload 19, 2) := by decide +kernel
theorem dL_pulse_329 : decode cL_pulse 329 = .ok (.iadd, 1) := by decide +kernel
theorem dL_pulse_330 : decode cL_pulse 330 = .ok (.if_icmp .ne 62, 3) := by decide +kernel
theorem dL_pulse_333 : decode cL_pulse 333 = .ok (.aload_n 0, 1) := by decide +kernel
theorem dL_pulse_334 : decode cL_pulse 334 = .ok (.iload 4, 2) := by decide +kernel
theorem dL_pulse_336 : decode cL_pulse 336 = .ok (.iconst 3, 1) := by decide +kernel
theorem dL_pulse_337 : decode cL_pulse 337 = .ok (.invokevirtual 47, 3) := by decide +kernel
theorem dL_pulse_340 : decode cL_pulse 340 = .ok (.iload 11, 2) := by decide +kernel
theorem dL_pulse_342 : decode cL_pulse 342 = .ok (.if_icmp .ne 50, 3) := by decide +kernel
theorem dL_pulse_345 : decode cL_pulse 345 = .ok (.aload_n 0, 1) := by decide +kernel
theorem dL_pulse_346 : decode cL_pulse 346 = .ok (.iload_n 3, 1) := by decide +kernel
theorem dL_pulse_347 : decode cL_pulse 347 = .ok (.iconst 3, 1) := by decide +kernel
theorem dL_pulse_348 : decode cL_pulse 348 = .ok (.invokevirtual 18, 3) := by decide +kernel
theorem dL_pulse_351 : decode cL_pulse 351 = .ok (.lload 16, 2) := by decide +kernel
theorem dL_pulse_353 : decode cL_pulse 353 = .ok (.ldc2_w 52, 3) := by decide +kernel
theorem dL_pulse_356 : decode cL_pulse 356 = .ok (.lcmp, 1) := by decide +kernel
theorem dL_pulse_357 : decode cL_pulse 357 = .ok (.ifCond .le 9, 3) := by decide +kernel
theorem dL_pulse_360 : decode cL_pulse 360 = .ok (.sipush 1000, 3) := by decide +kernel
theorem dL_pulse_363 : decode cL_pulse 363 = .ok (.goto 6, 3) := by decide +kernel
theorem dL_pulse_366 : decode cL_pulse 366 = .ok (.lload 16, 2) := by decide +kernel
theorem dL_pulse_368 : decode cL_pulse 368 = .ok (.l2i, 1) := by decide +kernel
theorem dL_pulse_369 : decode cL_pulse 369 = .ok (.if_icmp .ne 23, 3) := by decide +kernel
theorem dL_pulse_372 : decode cL_pulse 372 = .ok (.aload_n 0, 1) := by decide +kernel
theorem dL_pulse_373 : decode cL_pulse 373 = .ok (.iload_n 3, 1) := by decide +kernel
theorem dL_pulse_374 : decode cL_pulse 374 = .ok (.iconst 4, 1) := by decide +kernel
theorem dL_pulse_375 : decode cL_pulse 375 = .ok (.invokevirtual 18, 3) := by decide +kernel
theorem dL_pulse_378 : decode cL_pulse 378 = .ok (.iload 18, 2) := by decide +kernel
theorem dL_pulse_380 : decode cL_pulse 380 = .ok (.ifCond .eq 7, 3) := by decide +kernel
theorem dL_pulse_383 : decode cL_pulse 383 = .ok (.iconst 1, 1) := by decide +kernel
theorem dL_pulse_384 : decode cL_pulse 384 = .ok (.goto 5, 3) := by decide +kernel
theorem dL_pulse_387 : decode cL_pulse 387 = .ok (.iload 10, 2) := by decide +kernel
theorem dL_pulse_389 : decode cL_pulse 389 = .ok (.if_icmp .eq 5, 3) := by decide +kernel
theorem dL_pulse_392 : decode cL_pulse 392 = .ok (.iconst 0, 1) := by decide +kernel
theorem dL_pulse_393 : decode cL_pulse 393 = .ok (.ireturn, 1) := by decide +kernel
theorem dL_pulse_394 : decode cL_pulse 394 = .ok (.iload 18, 2) := by decide +kernel
theorem dL_pulse_396 : decode cL_pulse 396 = .ok (.ifCond .eq 63, 3) := by decide +kernel
theorem dL_pulse_399 : decode cL_pulse 399 = .ok (.aload_n 0, 1) := by decide +kernel
theorem dL_pulse_400 : decode cL_pulse 400 = .ok (.iconst 0, 1) := by decide +kernel
theorem dL_pulse_401 : decode cL_pulse 401 = .ok (.iconst 0, 1) := by decide +kernel
theorem dL_pulse_402 : decode cL_pulse 402 = .ok (.invokevirtual 54, 3) := by decide +kernel
theorem dL_pulse_405 : decode cL_pulse 405 = .ok (.iconst 2, 1) := by decide +kernel
theorem dL_pulse_406 : decode cL_pulse 406 = .ok (.if_icmp .ne 64, 3) := by decide +kernel
theorem dL_pulse_409 : decode cL_pulse 409 = .ok (.aload_n 0, 1) := by decide +kernel
theorem dL_pulse_410 : decode cL_pulse 410 = .ok (.iconst 0, 1) := by decide +kernel
theorem dL_pulse_411 : decode cL_pulse 411 = .ok (.iconst 1, 1) := by decide +kernel
theorem dL_pulse_412 : decode cL_pulse 412 = .ok (.invokevirtual 54, 3) := by decide +kernel
theorem dL_pulse_415 : decode cL_pulse 415 = .ok (.iload_n 3, 1) := by decide +kernel
theorem dL_pulse_416 : decode cL_pulse 416 = .ok (.if_icmp .ne 54, 3) := by decide +kernel
theorem dL_pulse_419 : decode cL_pulse 419 = .ok (.aload_n 0, 1) := by decide +kernel
theorem dL_pulse_420 : decode cL_pulse 420 = .ok (.iconst 1, 1) := by decide +kernel
theorem dL_pulse_421 : decode cL_pulse 421 = .ok (.iconst 0, 1) := by decide +kernel
theorem dL_pulse_422 : decode cL_pulse 422 = .ok (.invokevirtual 54, 3) := by decide +kernel
theorem dL_pulse_425 : decode cL_pulse 425 = .ok (.iconst 3, 1) := by decide +kernel
theorem dL_pulse_426 : decode cL_pulse 426 = .ok (.if_icmp .ne 44, 3) := by decide +kernel
theorem dL_pulse_429 : decode cL_pulse 429 = .ok (.aload_n 0, 1) := by decide +kernel
theorem dL_pulse_430 : decode cL_pulse 430 = .ok (.iconst 1, 1) := by decide +kernel
theorem dL_pulse_431 : decode cL_pulse 431 = .ok (.iconst 1, 1) := by decide +kernel
theorem dL_pulse_432 : decode cL_pulse 432 = .ok (.invokevirtual 54, 3) := by decide +kernel
theorem dL_pulse_435 : decode cL_pulse 435 = .ok (.lload 16, 2) := by decide +kernel
theorem dL_pulse_437 : decode cL_pulse 437 = .ok (.l2i, 1) := by decide +kernel
theorem dL_pulse_438 : decode cL_pulse 438 = .ok (.sipush 999, 3) := by decide +kernel
theorem dL_pulse_441 : decode cL_pulse 441 = .ok (.isub, 1) := by decide +kernel
theorem dL_pulse_442 : decode cL_pulse 442 = .ok (.if_icmp .ne 28, 3) := by decide +kernel
theorem dL_pulse_445 : decode cL_pulse 445 = .ok (.aload_n 0, 1) := by decide +kernel
theorem dL_pulse_446 : decode cL_pulse 446 = .ok (.iconst 2, 1) := by decide +kernel
theorem dL_pulse_447 : decode cL_pulse 447 = .ok (.iconst 0, 1) := by decide +kernel
theorem dL_pulse_448 : decode cL_pulse 448 = .ok (.invokevirtual 54, 3) := by decide +kernel
theorem dL_pulse_451 : decode cL_pulse 451 = .ok (.bipush (-9), 2) := by decide +kernel
theorem dL_pulse_453 : decode cL_pulse 453 = .ok (.if_icmp .eq 19, 3) := by decide +kernel
theorem dL_pulse_456 : decode cL_pulse 456 = .ok (.goto 14, 3) := by decide +kernel
theorem dL_pulse_459 : decode cL_pulse 459 = .ok (.aload_n 0, 1) := by decide +kernel
theorem dL_pulse_460 : decode cL_pulse 460 = .ok (.iconst 0, 1) := by decide +kernel
theorem dL_pulse_461 : decode cL_pulse 461 = .ok (.iconst 0, 1) := by decide +kernel
theorem dL_pulse_462 : decode cL_pulse 462 = .ok (.invokevirtual 54, 3) := by decide +kernel
theorem dL_pulse_465 : decode cL_pulse 465 = .ok (.bipush (-9), 2) := by decide +kernel
theorem dL_pulse_467 : decode cL_pulse 467 = .ok (.if_icmp .eq 5, 3) := by decide +kernel
theorem dL_pulse_470 : decode cL_pulse 470 = .ok (.iconst 0, 1) := by decide +kernel
theorem dL_pulse_471 : decode cL_pulse 471 = .ok (.ireturn, 1) := by decide +kernel
theorem dL_pulse_472 : decode cL_pulse 472 = .ok (.aload_n 0, 1) := by decide +kernel
theorem dL_pulse_473 : decode cL_pulse 473 = .ok (.iload_n 3, 1) := by decide +kernel
theorem dL_pulse_474 : decode cL_pulse 474 = .ok (.iconst 2, 1) := by decide +kernel
theorem dL_pulse_475 : decode cL_pulse 475 = .ok (.invokevirtual 18, 3) := by decide +kernel
theorem dL_pulse_478 : decode cL_pulse 478 = .ok (.iconst 3, 1) := by decide +kernel
theorem dL_pulse_479 : decode cL_pulse 479 = .ok (.if_icmp .ne 30, 3) := by decide +kernel
theorem dL_pulse_482 : decode cL_pulse 482 = .ok (.iload 5, 2) := by decide +kernel
theorem dL_pulse_484 : decode cL_pulse 484 = .ok (.ifCond .eq 8, 3) := by decide +kernel
theorem dL_pulse_487 : decode cL_pulse 487 = .ok (.iload 13, 2) := by decide +kernel
theorem dL_pulse_489 : decode cL_pulse 489 = .ok (.goto 6, 3) := by decide +kernel
theorem dL_pulse_492 : decode cL_pulse 492 = .ok (.iload 13, 2) := by decide +kernel
theorem dL_pulse_494 : decode cL_pulse 494 = .ok (.ineg, 1) := by decide +kernel
theorem dL_pulse_495 : decode cL_pulse 495 = .ok (.aload_n 0, 1) := by decide +kernel
theorem dL_pulse_496 : decode cL_pulse 496 = .ok (.iload_n 3, 1) := by decide +kernel
theorem dL_pulse_497 : decode cL_pulse 497 = .ok (.bipush 13, 2) := by decide +kernel
theorem dL_pulse_499 : decode cL_pulse 499 = .ok (.invokevirtual 18, 3) := by decide +kernel
theorem dL_pulse_502 : decode cL_pulse 502 = .ok (.if_icmp .ge 7, 3) := by decide +kernel
theorem dL_pulse_505 : decode cL_pulse 505 = .ok (.iconst 1, 1) := by decide +kernel
theorem dL_pulse_506 : decode cL_pulse 506 = .ok (.goto 4, 3) := by decide +kernel
theorem dL_pulse_509 : decode cL_pulse 509 = .ok (.iconst 0, 1) := by decide +kernel
theorem dL_pulse_510 : decode cL_pulse 510 = .ok (.istore 14, 2) := by decide +kernel
theorem dL_pulse_512 : decode cL_pulse 512 = .ok (.iload 13, 2) := by decide +kernel
theorem dL_pulse_514 : decode cL_pulse 514 = .ok (.invokestatic 26, 3) := by decide +kernel
theorem dL_pulse_517 : decode cL_pulse 517 = .ok (.aload_n 0, 1) := by decide +kernel
theorem dL_pulse_518 : decode cL_pulse 518 = .ok (.iconst 3, 1) := by decide +kernel
theorem dL_pulse_519 : decode cL_pulse 519 = .ok (.invokevirtual 9, 3) := by decide +kernel
theorem dL_pulse_522 : decode cL_pulse 522 = .ok (.if_icmp .gt 34, 3) := by decide +kernel
theorem dL_pulse_525 : decode cL_pulse 525 = .ok (.iload 12, 2) := by decide +kernel
theorem dL_pulse_527 : decode cL_pulse 527 = .ok (.invokestatic 26, 3) := by decide +kernel
theorem dL_pulse_530 : decode cL_pulse 530 = .ok (.iload_n 1, 1) := by decide +kernel
theorem dL_pulse_531 : decode cL_pulse 531 = .ok (.invokestatic 26, 3) := by decide +kernel
theorem dL_pulse_534 : decode cL_pulse 534 = .ok (.if_icmp .gt 22, 3) := by decide +kernel
theorem dL_pulse_537 : decode cL_pulse 537 = .ok (.iload 14, 2) := by decide +kernel
theorem dL_pulse_539 : decode cL_pulse 539 = .ok (.ifCond .eq 13, 3) := by decide +kernel
theorem dL_pulse_542 : decode cL_pulse 542 = .ok (.aload_n 0, 1) := by decide +kernel
theorem dL_pulse_543 : decode cL_pulse 543 = .ok (.iload_n 3, 1) := by decide +kernel
theorem dL_pulse_544 : decode cL_pulse 544 = .ok (.iconst 5, 1) := by decide +kernel
theorem dL_pulse_545 : decode cL_pulse 545 = .ok (.invokevirtual 18, 3) := by decide +kernel
theorem dL_pulse_548 : decode cL_pulse 548 = .ok (.iconst 1, 1) := by decide +kernel
theorem dL_pulse_549 : decode cL_pulse 549 = .ok (.if_icmp .eq 7, 3) := by decide +kernel
theorem dL_pulse_552 : decode cL_pulse 552 = .ok (.iconst 1, 1) := by decide +kernel
theorem dL_pulse_553 : decode cL_pulse 553 = .ok (.goto 4, 3) := by decide +kernel
theorem dL_pulse_556 : decode cL_pulse 556 = .ok (.iconst 0, 1) := by decide +kernel
theorem dL_pulse_557 : decode cL_pulse 557 = .ok (.ireturn, 1) := by decide +kernel
set_option maxRecDepth 20000 in
theorem ggL_sweep_L_low : GoodIn wsL_sweep wsL_low := goodIn_r _ [4, 5] (by decide +kernel) (by decide +kernel)
set_option maxRecDepth 20000 in
theorem gL_sweep_L_low : GoodIn wsL_sweep (va_wsS RL 57 yL_low wsL_low) := goodIn_app (goodIn_of _ (by decide +kernel)) ggL_sweep_L_low
set_option maxRecDepth 20000 in
theorem ggL_sweep_X3_clear : GoodIn wsL_sweep wsX3_clear := goodIn_r _ [10, 11, 12, 242, 243, 244, 245, 246, 247, 248, 249, 250, 251, 252, 253] (by decide +kernel) (by decide +kernel)
set_option maxRecDepth 20000 in
theorem gL_sweep_X3_clear : GoodIn wsL_sweep (wsV RL 43 RX3 yX3_clear wsX3_clear) := goodIn_app (goodIn_of _ (by decide +kernel)) ggL_sweep_X3_clear
set_option maxRecDepth 20000 in
theorem ggL_sweep_L_size : GoodIn wsL_sweep wsL_size := goodIn_r _ [15] (by decide +kernel) (by decide +kernel)
set_option maxRecDepth 20000 in
theorem gL_sweep_L_size : GoodIn wsL_sweep (va_wsS RL 26 yL_size wsL_size) := goodIn_app (goodIn_of _ (by decide +kernel)) ggL_sweep_L_size
set_option maxRecDepth 20000 in
theorem ggL_sweep_X3_sweep : GoodIn wsL_sweep wsX3_sweep := goodIn_r _ [19, 20, 21, 22, 23, 24, 11, 25, 26, 27, 9, 28, 29, 30, 31, 32, 33, 34, 35, 36, 37, 38, 39, 40, 41, 42, 43, 44, 45, 46, 47, 48, 49, 50, 51, 52, 53, 54, 55, 56, 57, 58, 59, 60, 61, 62, 63, 64, 65, 66, 67, 68, 69, 70, 71, 72, 73, 74, 75, 76, 77, 78, 79, 80, 81, 82, 83, 84, 85, 86, 87, 88, 89, 90, 91, 92, 93, 94, 95, 96, 97, 98, 99, 100, 101, 102, 103, 104, 105, 106, 107, 108, 109, 110, 111, 112, 113, 114, 115, 116, 117, 118, 119, 120, 121, 122, 123, 124, 125, 126, 127, 128, 129, 130, 131, 132, 133, 134, 135, 136, 137, 138, 139, 140, 141, 142, 143, 144, 145, 146, 147, 148, 149, 150, 151, 152, 153, 154, 155, 156, 157, 158, 159, 160, 161, 162, 163, 164, 165, 166, 167, 168, 169, 170, 171, 172, 173, 174, 175, 176, 177, 178, 179, 242, 243, 244, 245, 246, 247, 248, 254, 255, 256, 257, 258, 259, 260, 261, 262, 263, 264, 265, 249, 250, 251, 252, 253, 266, 267, 268] (by decide +kernel) (by decide +kernel)
set_option maxRecDepth 20000 in
theorem gL_sweep_X3_sweep : GoodIn wsL_sweep (wsV RL 60 RX3 yX3_sweep wsX3_sweep) := goodIn_app (goodIn_of _ (by decide +kernel)) ggL_sweep_X3_sweep
set_option maxRecDepth 20000 in
theorem ggL_sweep_X3_many : GoodIn wsL_sweep wsX3_many := goodIn_r _ [183, 11, 12, 184, 185, 186, 9, 187, 36, 37, 188, 189, 190, 191, 192, 42, 43, 44, 45, 46, 47, 48, 49, 193, 194, 195, 63, 196, 65, 144, 242, 243, 244, 245, 246, 247, 248, 249, 250, 251, 252, 253, 254, 255, 256, 257, 258, 259, 260, 261, 262, 263, 264, 265] (by decide +kernel) (by decide +kernel)
set_option maxRecDepth 20000 in
theorem gL_sweep_X3_many : GoodIn wsL_sweep (wsV RL 37 RX3 yX3_many wsX3_many) := goodIn_app (goodIn_of _ (by decide +kernel)) ggL_sweep_X3_many
set_option maxRecDepth 20000 in
theorem ggL_sweep_X3_now : GoodIn wsL_sweep wsX3_now := goodIn_r _ [200, 20, 85, 123, 32, 33, 34, 9, 35, 36, 37, 38, 39, 40, 41, 42, 43, 44, 45, 46, 47, 48, 49, 50, 51, 52, 53, 54, 55, 115, 116, 117, 118, 242, 243, 244, 245, 246, 247, 248, 254, 255, 256, 257, 258, 259, 260, 261, 262, 263, 264, 265] (by decide +kernel) (by decide +kernel)
set_option maxRecDepth 20000 in
theorem gL_sweep_X3_now : GoodIn wsL_sweep (wsV RL 9 RX3 yX3_now wsX3_now) := goodIn_app (goodIn_of _ (by decide +kernel)) ggL_sweep_X3_now
set_option maxRecDepth 20000 in
theorem ggL_sweep_X3_ofPart : GoodIn wsL_sweep wsX3_ofPart := goodIn_r _ [204, 54, 55, 205, 206, 188, 76, 56, 57, 58, 9, 59, 36, 37, 29, 30, 31, 207, 208, 209, 97, 210, 108, 110, 109, 161, 99, 254, 255, 256, 257, 258, 259, 260, 261, 262, 263, 264, 265, 242, 243, 244, 245, 246, 247, 248] (by decide +kernel) (by decide +kernel)
set_option maxRecDepth 20000 in
theorem gL_sweep_X3_ofPart : GoodIn wsL_sweep (wsV RL 18 RX3 yX3_ofPart wsX3_ofPart) := goodIn_app (goodIn_of _ (by decide +kernel)) ggL_sweep_X3_ofPart
set_option maxRecDepth 20000 in
theorem ggL_sweep_X3_pulse : GoodIn wsL_sweep wsX3_pulse := goodIn_r _ [214, 20, 11, 25, 12, 26, 27, 9, 28, 29, 30, 31, 32, 33, 34, 35, 36, 37, 38, 39, 40, 41, 42, 43, 44, 45, 46, 47, 48, 49, 50, 51, 52, 53, 54, 55, 56, 57, 58, 59, 60, 61, 62, 63, 64, 65, 66, 67, 68, 69, 70, 71, 72, 73, 74, 75, 76, 77, 78, 79, 80, 21, 22, 23, 24, 81, 82, 83, 84, 85, 86, 87, 88, 89, 90, 91, 92, 93, 94, 95, 96, 97, 98, 99, 100, 101, 102, 103, 104, 105, 106, 107, 108, 109, 110, 111, 112, 113, 114, 115, 116, 117, 118, 119, 120, 121, 122, 123, 124, 125, 126, 127, 128, 129, 130, 131, 132, 133, 134, 135, 136, 137, 138, 139, 140, 141, 142, 143, 144, 145, 146, 147, 148, 149, 150, 151, 152, 153, 154, 155, 156, 157, 158, 159, 160, 161, 168, 169, 170, 171, 162, 163, 164, 165, 166, 167, 242, 243, 244, 245, 246, 247, 248, 249, 250, 251, 252, 253, 254, 255, 256, 257, 258, 259, 260, 261, 262, 263, 264, 265, 266, 267, 268] (by decide +kernel) (by decide +kernel)
set_option maxRecDepth 20000 in
theorem gL_sweep_X3_pulse : GoodIn wsL_sweep (wsV RL 40 RX3 yX3_pulse wsX3_pulse) := goodIn_app (goodIn_of _ (by decide +kernel)) ggL_sweep_X3_pulse
set_option maxRecDepth 20000 in
theorem ggL_sweep_X3_rest : GoodIn wsL_sweep wsX3_rest := goodIn_r _ [218, 36, 37, 206, 219, 220, 23, 221, 29, 30, 9, 31, 172, 173, 174, 175, 176, 177, 178, 97, 179, 100, 242, 243, 244, 245, 246, 247, 248, 254, 255, 256, 257, 258, 259, 260, 261, 262, 263, 264, 265] (by decide +kernel) (by decide +kernel)
set_option maxRecDepth 20000 in
theorem gL_sweep_X3_rest : GoodIn wsL_sweep (wsV RL 64 RX3 yX3_rest wsX3_rest) := goodIn_app (goodIn_of _ (by decide +kernel)) ggL_sweep_X3_rest
set_option maxRecDepth 20000 in
theorem ggL_sweep_X3_why : GoodIn wsL_sweep wsX3_why := goodIn_r _ [225, 25, 226, 227, 228, 29, 30, 9, 31, 242, 243, 244, 245, 246, 247, 248, 266, 267, 268] (by decide +kernel) (by decide +kernel)
set_option maxRecDepth 20000 in
theorem gL_sweep_X3_why : GoodIn wsL_sweep (wsV RL 54 RX3 yX3_why wsX3_why) := goodIn_app (goodIn_of _ (by decide +kernel)) ggL_sweep_X3_why
set_option maxRecDepth 20000 in
theorem ggL_sweep_X3_reading : GoodIn wsL_sweep wsX3_reading := goodIn_r _ [232, 11, 233, 234, 235, 236, 237, 238, 239, 240, 63, 241, 65, 242, 243, 244, 245, 246, 247, 248, 249, 250, 251, 252, 253] (by decide +kernel) (by decide +kernel)
set_option maxRecDepth 20000 in
theorem gL_sweep_X3_reading : GoodIn wsL_sweep (wsV RL 47 RX3 yX3_reading wsX3_reading) := goodIn_app (goodIn_of _ (by decide +kernel)) ggL_sweep_X3_reading
theorem dL_sweep_0 : decode cL_sweep 0 = .ok (.iload_n 2, 1) := by decide +kernel
theorem dL_sweep_1 : decode cL_sweep 1 = .ok (.sipush 1200, 3) := by decide +kernel
theorem dL_sweep_4 : decode cL_sweep 4 = .ok (.invokestatic 57, 3) := by decide +kernel
theorem dL_sweep_7 : decode cL_sweep 7 = .ok (.sipush 600, 3) := by decide +kernel
theorem dL_sweep_10 : decode cL_sweep 10 = .ok (.isub, 1) := by decide +kernel
theorem dL_sweep_11 : decode cL_sweep 11 = .ok (.istore_n 3, 1) := by decide +kernel
theorem dL_sweep_12 : decode cL_sweep 12 = .ok (.iload_n 2, 1) := by decide +kernel
theorem dL_sweep_13 : decode cL_sweep 13 = .ok (.iconst 5, 1) := by decide +kernel
theorem dL_sweep_14 : decode cL_sweep 14 = .ok (.ishr, 1) := by decide +kernel
theorem dL_sweep_15 : decode cL_sweep 15 = .ok (.sipush 1200, 3) := by decide +kernel
theorem dL_sweep_18 : decode cL_sweep 18 = .ok (.invokestatic 57, 3) := by decide +kernel
theorem dL_sweep_21 : decode cL_sweep 21 = .ok (.sipush 600, 3) := by decide +kernel
theorem dL_sweep_24 : decode cL_sweep 24 = .ok (.isub, 1) := by decide +kernel
theorem dL_sweep_25 : decode cL_sweep 25 = .ok (.istore 4, 2) := by decide +kernel
theorem dL_sweep_27 : decode cL_sweep 27 = .ok (.bipush 40, 2) := by decide +kernel
theorem dL_sweep_29 : decode cL_sweep 29 = .ok (.iload_n 2, 1) := by decide +kernel
theorem dL_sweep_30 : decode cL_sweep 30 = .ok (.bipush 9, 2) := by decide +kernel
theorem dL_sweep_32 : decode cL_sweep 32 = .ok (.ishr, 1) := by decide +kernel
theorem dL_sweep_33 : decode cL_sweep 33 = .ok (.sipush 300, 3) := by decide +kernel
theorem dL_sweep_36 : decode cL_sweep 36 = .ok (.invokestatic 57, 3) := by decide +kernel
theorem dL_sweep_39 : decode cL_sweep 39 = .ok (.iadd, 1) := by decide +kernel
theorem dL_sweep_40 : decode cL_sweep 40 = .ok (.istore 5, 2) := by decide +kernel
theorem dL_sweep_42 : decode cL_sweep 42 = .ok (.iconst 1, 1) := by decide +kernel
theorem dL_sweep_43 : decode cL_sweep 43 = .ok (.iload_n 2, 1) := by decide +kernel
theorem dL_sweep_44 : decode cL_sweep 44 = .ok (.bipush 13, 2) := by decide +kernel
theorem dL_sweep_46 : decode cL_sweep 46 = .ok (.ishr, 1) := by decide +kernel
theorem dL_sweep_47 : decode cL_sweep 47 = .ok (.bipush 20, 2) := by decide +kernel
theorem dL_sweep_49 : decode cL_sweep 49 = .ok (.invokestatic 57, 3) := by decide +kernel
theorem dL_sweep_52 : decode cL_sweep 52 = .ok (.iadd, 1) := by decide +kernel
theorem dL_sweep_53 : decode cL_sweep 53 = .ok (.istore 6, 2) := by decide +kernel
theorem dL_sweep_55 : decode cL_sweep 55 = .ok (.iload_n 2, 1) := by decide +kernel
theorem dL_sweep_56 : decode cL_sweep 56 = .ok (.bipush 17, 2) := by decide +kernel
theorem dL_sweep_58 : decode cL_sweep 58 = .ok (.ishr, 1) := by decide +kernel
theorem dL_sweep_59 : decode cL_sweep 59 = .ok (.iconst 4, 1) := by decide +kernel
theorem dL_sweep_60 : decode cL_sweep 60 = .ok (.invokestatic 57, 3) := by decide +kernel
theorem dL_sweep_63 : decode cL_sweep 63 = .ok (.istore 7, 2) := by decide +kernel
theorem dL_sweep_65 : decode cL_sweep 65 = .ok (.iload_n 2, 1) := by decide +kernel
theorem dL_sweep_66 : decode cL_sweep 66 = .ok (.bipush 20, 2) := by decide +kernel
theorem dL_sweep_68 : decode cL_sweep 68 = .ok (.ishr, 1) := by decide +kernel
theorem dL_sweep_69 : decode cL_sweep 69 = .ok (.iconst 1, 1) := by decide +kernel
theorem dL_sweep_70 : decode cL_sweep 70 = .ok (.iand, 1) := by decide +kernel
theorem dL_sweep_71 : decode cL_sweep 71 = .ok (.istore 8, 2) := by decide +kernel
theorem dL_sweep_73 : decode cL_sweep 73 = .ok (.aload_n 0, 1) := by decide +kernel
theorem dL_sweep_74 : decode cL_sweep 74 = .ok (.invokevirtual 43, 3) := by decide +kernel
theorem dL_sweep_77 : decode cL_sweep 77 = .ok (.ifCond .lt 10, 3) := by decide +kernel
theorem dL_sweep_80 : decode cL_sweep 80 = .ok (.aload_n 1, 1) := by decide +kernel
theorem dL_sweep_81 : decode cL_sweep 81 = .ok (.invokevirtual 43, 3) := by decide +kernel
theorem dL_sweep_84 : decode cL_sweep 84 = .ok (.ifCond .ge 5, 3) := by decide +kernel
theorem dL_sweep_87 : decode cL_sweep 87 = .ok (.iconst 0, 1) := by decide +kernel
theorem dL_sweep_88 : decode cL_sweep 88 = .ok (.ireturn, 1) := by decide +kernel
theorem dL_sweep_89 : decode cL_sweep 89 = .ok (.iload 4, 2) := by decide +kernel
theorem dL_sweep_91 : decode cL_sweep 91 = .ok (.iload_n 3, 1) := by decide +kernel
theorem dL_sweep_92 : decode cL_sweep 92 = .ok (.isub, 1) := by decide +kernel
theorem dL_sweep_93 : decode cL_sweep 93 = .ok (.invokestatic 26, 3) := by decide +kernel
theorem dL_sweep_96 : decode cL_sweep 96 = .ok (.iload 5, 2) := by decide +kernel
theorem dL_sweep_98 : decode cL_sweep 98 = .ok (.idiv, 1) := by decide +kernel
theorem dL_sweep_99 : decode cL_sweep 99 = .ok (.iconst 1, 1) := by decide +kernel
theorem dL_sweep_100 : decode cL_sweep 100 = .ok (.iadd, 1) := by decide +kernel
theorem dL_sweep_101 : decode cL_sweep 101 = .ok (.istore 9, 2) := by decide +kernel
theorem dL_sweep_103 : decode cL_sweep 103 = .ok (.iload 8, 2) := by decide +kernel
theorem dL_sweep_105 : decode cL_sweep 105 = .ok (.iconst 1, 1) := by decide +kernel
theorem dL_sweep_106 : decode cL_sweep 106 = .ok (.if_icmp .ne 12, 3) := by decide +kernel
theorem dL_sweep_109 : decode cL_sweep 109 = .ok (.iconst 2, 1) := by decide +kernel
theorem dL_sweep_110 : decode cL_sweep 110 = .ok (.iload 9, 2) := by decide +kernel
theorem dL_sweep_112 : decode cL_sweep 112 = .ok (.imul, 1) := by decide +kernel
theorem dL_sweep_113 : decode cL_sweep 113 = .ok (.iconst 1, 1) := by decide +kernel
theorem dL_sweep_114 : decode cL_sweep 114 = .ok (.isub, 1) := by decide +kernel
theorem dL_sweep_115 : decode cL_sweep 115 = .ok (.goto 5, 3) := by decide +kernel
theorem dL_sweep_118 : decode cL_sweep 118 = .ok (.iload 9, 2) := by decide +kernel
theorem dL_sweep_120 : decode cL_sweep 120 = .ok (.istore 10, 2) := by decide +kernel
theorem dL_sweep_122 : decode cL_sweep 122 = .ok (.aload_n 0, 1) := by decide +kernel
theorem dL_sweep_123 : decode cL_sweep 123 = .ok (.iload_n 3, 1) := by decide +kernel
theorem dL_sweep_124 : decode cL_sweep 124 = .ok (.iload 4, 2) := by decide +kernel
theorem dL_sweep_126 : decode cL_sweep 126 = .ok (.iload 5, 2) := by decide +kernel
theorem dL_sweep_128 : decode cL_sweep 128 = .ok (.iload 6, 2) := by decide +kernel
theorem dL_sweep_130 : decode cL_sweep 130 = .ok (.iload 7, 2) := by decide +kernel
theorem dL_sweep_132 : decode cL_sweep 132 = .ok (.iload 8, 2) := by decide +kernel
theorem dL_sweep_134 : decode cL_sweep 134 = .ok (.invokevirtual 60, 3) := by decide +kernel
theorem dL_sweep_137 : decode cL_sweep 137 = .ok (.istore 11, 2) := by decide +kernel
theorem dL_sweep_139 : decode cL_sweep 139 = .ok (.iload 10, 2) := by decide +kernel
theorem dL_sweep_141 : decode cL_sweep 141 = .ok (.bipush 60, 2) := by decide +kernel
theorem dL_sweep_143 : decode cL_sweep 143 = .ok (.if_icmp .le 24, 3) := by decide +kernel
theorem dL_sweep_146 : decode cL_sweep 146 = .ok (.iload 11, 2) := by decide +kernel
theorem dL_sweep_148 : decode cL_sweep 148 = .ok (.bipush (-4), 2) := by decide +kernel
theorem dL_sweep_150 : decode cL_sweep 150 = .ok (.if_icmp .ne 15, 3) := by decide +kernel
theorem dL_sweep_153 : decode cL_sweep 153 = .ok (.aload_n 0, 1) := by decide +kernel
theorem dL_sweep_154 : decode cL_sweep 154 = .ok (.iconst 1, 1) := by decide +kernel
theorem dL_sweep_155 : decode cL_sweep 155 = .ok (.invokevirtual 37, 3) := by decide +kernel
theorem dL_sweep_158 : decode cL_sweep 158 = .ok (.ifCond .ne 7, 3) := by decide +kernel
theorem dL_sweep_161 : decode cL_sweep 161 = .ok (.iconst 1, 1) := by decide +kernel
theorem dL_sweep_162 : decode cL_sweep 162 = .ok (.goto 4, 3) := by decide +kernel
theorem dL_sweep_165 : decode cL_sweep 165 = .ok (.iconst 0, 1) := by decide +kernel
theorem dL_sweep_166 : decode cL_sweep 166 = .ok (.ireturn, 1) := by decide +kernel
theorem dL_sweep_167 : decode cL_sweep 167 = .ok (.iconst 0, 1) := by decide +kernel
theorem dL_sweep_168 : decode cL_sweep 168 = .ok (.istore 12, 2) := by decide +kernel
theorem dL_sweep_170 : decode cL_sweep 170 = .ok (.iconst 0, 1) := by decide +kernel
theorem dL_sweep_171 : decode cL_sweep 171 = .ok (.istore 13, 2) := by decide +kernel
theorem dL_sweep_173 : decode cL_sweep 173 = .ok (.iconst 0, 1) := by decide +kernel
theorem dL_sweep_174 : decode cL_sweep 174 = .ok (.istore 14, 2) := by decide +kernel
theorem dL_sweep_176 : decode cL_sweep 176 = .ok (.iload 14, 2) := by decide +kernel
theorem dL_sweep_178 : decode cL_sweep 178 = .ok (.iload 10, 2) := by decide +kernel
theorem dL_sweep_180 : decode cL_sweep 180 = .ok (.if_icmp .ge 127, 3) := by decide +kernel
theorem dL_sweep_183 : decode cL_sweep 183 = .ok (.iload 13, 2) := by decide +kernel
theorem dL_sweep_185 : decode cL_sweep 185 = .ok (.ifCond .ne 122, 3) := by decide +kernel
theorem dL_sweep_188 : decode cL_sweep 188 = .ok (.iload 14, 2) := by decide +kernel
theorem dL_sweep_190 : decode cL_sweep 190 = .ok (.iload 9, 2) := by decide +kernel
theorem dL_sweep_192 : decode cL_sweep 192 = .ok (.if_icmp .ge 8, 3) := by decide +kernel
theorem dL_sweep_195 : decode cL_sweep 195 = .ok (.iload 14, 2) := by decide +kernel
theorem dL_sweep_197 : decode cL_sweep 197 = .ok (.goto 10, 3) := by decide +kernel
theorem dL_sweep_200 : decode cL_sweep 200 = .ok (.iload 10, 2) := by decide +kernel
theorem dL_sweep_202 : decode cL_sweep 202 = .ok (.iconst 1, 1) := by decide +kernel
theorem dL_sweep_203 : decode cL_sweep 203 = .ok (.isub, 1) := by decide +kernel
theorem dL_sweep_204 : decode cL_sweep 204 = .ok (.iload 14, 2) := by decide +kernel
theorem dL_sweep_206 : decode cL_sweep 206 = .ok (.isub, 1) := by decide +kernel
theorem dL_sweep_207 : decode cL_sweep 207 = .ok (.istore 15, 2) := by decide +kernel
theorem dL_sweep_209 : decode cL_sweep 209 = .ok (.aload_n 1, 1) := by decide +kernel
theorem dL_sweep_210 : decode cL_sweep 210 = .ok (.iconst 0, 1) := by decide +kernel
theorem dL_sweep_211 : decode cL_sweep 211 = .ok (.invokevirtual 9, 3) := by decide +kernel
theorem dL_sweep_214 : decode cL_sweep 214 = .ok (.istore 16, 2) := by decide +kernel
theorem dL_sweep_216 : decode cL_sweep 216 = .ok (.aload_n 1, 1) := by decide +kernel
theorem dL_sweep_217 : decode cL_sweep 217 = .ok (.iload 16, 2) := by decide +kernel
theorem dL_sweep_219 : decode cL_sweep 219 = .ok (.iconst 4, 1) := by decide +kernel
theorem dL_sweep_220 : decode cL_sweep 220 = .ok (.invokevirtual 18, 3) := by decide +kernel
theorem dL_sweep_223 : decode cL_sweep 223 = .ok (.istore 17, 2) := by decide +kernel
theorem dL_sweep_225 : decode cL_sweep 225 = .ok (.aload_n 1, 1) := by decide +kernel
theorem dL_sweep_226 : decode cL_sweep 226 = .ok (.iload 4, 2) := by decide +kernel
theorem dL_sweep_228 : decode cL_sweep 228 = .ok (.iload_n 3, 1) := by decide +kernel
theorem dL_sweep_229 : decode cL_sweep 229 = .ok (.if_icmp .ge 13, 3) := by decide +kernel
theorem dL_sweep_232 : decode cL_sweep 232 = .ok (.iload_n 3, 1) := by decide +kernel
theorem dL_sweep_233 : decode cL_sweep 233 = .ok (.iload 5, 2) := by decide +kernel
theorem dL_sweep_235 : decode cL_sweep 235 = .ok (.iload 15, 2) := by decide +kernel
theorem dL_sweep_237 : decode cL_sweep 237 = .ok (.imul, 1) := by decide +kernel
theorem dL_sweep_238 : decode cL_sweep 238 = .ok (.isub, 1) := by decide +kernel
theorem dL_sweep_239 : decode cL_sweep 239 = .ok (.goto 10, 3) := by decide +kernel
theorem dL_sweep_242 : decode cL_sweep 242 = .ok (.iload_n 3, 1) := by decide +kernel
theorem dL_sweep_243 : decode cL_sweep 243 = .ok (.iload 5, 2) := by decide +kernel
theorem dL_sweep_245 : decode cL_sweep 245 = .ok (.iload 15, 2) := by decide +kernel
theorem dL_sweep_247 : decode cL_sweep 247 = .ok (.imul, 1) := by decide +kernel
theorem dL_sweep_248 : decode cL_sweep 248 = .ok (.iadd, 1) := by decide +kernel
theorem dL_sweep_249 : decode cL_sweep 249 = .ok (.iload 6, 2) := by decide +kernel
theorem dL_sweep_251 : decode cL_sweep 251 = .ok (.invokevirtual 40, 3) := by decide +kernel
theorem dL_sweep_254 : decode cL_sweep 254 = .ok (.iload 14, 2) := by decide +kernel
theorem dL_sweep_256 : decode cL_sweep 256 = .ok (.iconst 1, 1) := by decide +kernel
theorem dL_sweep_257 : decode cL_sweep 257 = .ok (.iadd, 1) := by decide +kernel
theorem dL_sweep_258 : decode cL_sweep 258 = .ok (.if_icmp .eq 5, 3) := by decide +kernel
theorem dL_sweep_261 : decode cL_sweep 261 = .ok (.iconst 0, 1) := by decide +kernel
theorem dL_sweep_262 : decode cL_sweep 262 = .ok (.ireturn, 1) := by decide +kernel
theorem dL_sweep_263 : decode cL_sweep 263 = .ok (.iinc 12 1, 3) := by decide +kernel
theorem dL_sweep_266 : decode cL_sweep 266 = .ok (.aload_n 1, 1) := by decide +kernel
theorem dL_sweep_267 : decode cL_sweep 267 = .ok (.iload 16, 2) := by decide +kernel
theorem dL_sweep_269 : decode cL_sweep 269 = .ok (.iconst 4, 1) := by decide +kernel
theorem dL_sweep_270 : decode cL_sweep 270 = .ok (.invokevirtual 18, 3) := by decide +kernel
theorem dL_sweep_273 : decode cL_sweep 273 = .ok (.iload 17, 2) := by decide +kernel
theorem dL_sweep_275 : decode cL_sweep 275 = .ok (.if_icmp .eq 7, 3) := by decide +kernel
theorem dL_sweep_278 : decode cL_sweep 278 = .ok (.iconst 1, 1) := by decide +kernel
theorem dL_sweep_279 : decode cL_sweep 279 = .ok (.goto 4, 3) := by decide +kernel
theorem dL_sweep_282 : decode cL_sweep 282 = .ok (.iconst 0, 1) := by decide +kernel
theorem dL_sweep_283 : decode cL_sweep 283 = .ok (.istore 13, 2) := by decide +kernel
theorem dL_sweep_285 : decode cL_sweep 285 = .ok (.iload 13, 2) := by decide +kernel
theorem dL_sweep_287 : decode cL_sweep 287 = .ok (.ifCond .ne 14, 3) := by decide +kernel
theorem dL_sweep_290 : decode cL_sweep 290 = .ok (.aload_n 1, 1) := by decide +kernel
theorem dL_sweep_291 : decode cL_sweep 291 = .ok (.iload 7, 2) := by decide +kernel
theorem dL_sweep_293 : decode cL_sweep 293 = .ok (.invokevirtual 64, 3) := by decide +kernel
theorem dL_sweep_296 : decode cL_sweep 296 = .ok (.ifCond .ge 5, 3) := by decide +kernel
theorem dL_sweep_299 : decode cL_sweep 299 = .ok (.iconst 0, 1) := by decide +kernel
theorem dL_sweep_300 : decode cL_sweep 300 = .ok (.ireturn, 1) := by decide +kernel
theorem dL_sweep_301 : decode cL_sweep 301 = .ok (.iinc 14 1, 3) := by decide +kernel
theorem dL_sweep_304 : decode cL_sweep 304 = .ok (.goto (-128), 3) := by decide +kernel
theorem dL_sweep_307 : decode cL_sweep 307 = .ok (.iload 11, 2) := by decide +kernel
theorem dL_sweep_309 : decode cL_sweep 309 = .ok (.iload 13, 2) := by decide +kernel
theorem dL_sweep_311 : decode cL_sweep 311 = .ok (.ifCond .eq 11, 3) := by decide +kernel
theorem dL_sweep_314 : decode cL_sweep 314 = .ok (.bipush (-100), 2) := by decide +kernel
theorem dL_sweep_316 : decode cL_sweep 316 = .ok (.iload 12, 2) := by decide +kernel
theorem dL_sweep_318 : decode cL_sweep 318 = .ok (.isub, 1) := by decide +kernel
theorem dL_sweep_319 : decode cL_sweep 319 = .ok (.goto 5, 3) := by decide +kernel
theorem dL_sweep_322 : decode cL_sweep 322 = .ok (.iload 12, 2) := by decide +kernel
theorem dL_sweep_324 : decode cL_sweep 324 = .ok (.if_icmp .ne 85, 3) := by decide +kernel
theorem dL_sweep_327 : decode cL_sweep 327 = .ok (.aload_n 0, 1) := by decide +kernel
theorem dL_sweep_328 : decode cL_sweep 328 = .ok (.iconst 1, 1) := by decide +kernel
theorem dL_sweep_329 : decode cL_sweep 329 = .ok (.invokevirtual 37, 3) := by decide +kernel
theorem dL_sweep_332 : decode cL_sweep 332 = .ok (.iload 12, 2) := by decide +kernel
theorem dL_sweep_334 : decode cL_sweep 334 = .ok (.if_icmp .ne 75, 3) := by decide +kernel
theorem dL_sweep_337 : decode cL_sweep 337 = .ok (.iload 13, 2) := by decide +kernel
theorem dL_sweep_339 : decode cL_sweep 339 = .ok (.ifCond .eq 59, 3) := by decide +kernel
theorem dL_sweep_342 : decode cL_sweep 342 = .ok (.aload_n 0, 1) := by decide +kernel
theorem dL_sweep_343 : decode cL_sweep 343 = .ok (.iconst 0, 1) := by decide +kernel
theorem dL_sweep_344 : decode cL_sweep 344 = .ok (.iconst 0, 1) := by decide +kernel
theorem dL_sweep_345 : decode cL_sweep 345 = .ok (.invokevirtual 54, 3) := by decide +kernel
theorem dL_sweep_348 : decode cL_sweep 348 = .ok (.iconst 1, 1) := by decide +kernel
theorem dL_sweep_349 : decode cL_sweep 349 = .ok (.if_icmp .ne 60, 3) := by decide +kernel
theorem dL_sweep_352 : decode cL_sweep 352 = .ok (.aload_n 0, 1) := by decide +kernel
theorem dL_sweep_353 : decode cL_sweep 353 = .ok (.iconst 0, 1) := by decide +kernel
theorem dL_sweep_354 : decode cL_sweep 354 = .ok (.iconst 1, 1) := by decide +kernel
theorem dL_sweep_355 : decode cL_sweep 355 = .ok (.invokevirtual 54, 3) := by decide +kernel
theorem dL_sweep_358 : decode cL_sweep 358 = .ok (.iload 12, 2) := by decide +kernel
theorem dL_sweep_360 : decode cL_sweep 360 = .ok (.iconst 1, 1) := by decide +kernel
theorem dL_sweep_361 : decode cL_sweep 361 = .ok (.isub, 1) := by decide +kernel
theorem dL_sweep_362 : decode cL_sweep 362 = .ok (.if_icmp .ne 47, 3) := by decide +kernel
theorem dL_sweep_365 : decode cL_sweep 365 = .ok (.aload_n 0, 1) := by decide +kernel
theorem dL_sweep_366 : decode cL_sweep 366 = .ok (.iconst 1, 1) := by decide +kernel
theorem dL_sweep_367 : decode cL_sweep 367 = .ok (.iconst 1, 1) := by decide +kernel
theorem dL_sweep_368 : decode cL_sweep 368 = .ok (.invokevirtual 54, 3) := by decide +kernel
theorem dL_sweep_371 : decode cL_sweep 371 = .ok (.aload_n 1, 1) := by decide +kernel
theorem dL_sweep_372 : decode cL_sweep 372 = .ok (.iconst 0, 1) := by decide +kernel
theorem dL_sweep_373 : decode cL_sweep 373 = .ok (.iconst 1, 1) := by decide +kernel
theorem dL_sweep_374 : decode cL_sweep 374 = .ok (.invokevirtual 54, 3) := by decide +kernel
theorem dL_sweep_377 : decode cL_sweep 377 = .ok (.if_icmp .ne 32, 3) := by decide +kernel
theorem dL_sweep_380 : decode cL_sweep 380 = .ok (.aload_n 0, 1) := by decide +kernel
theorem dL_sweep_381 : decode cL_sweep 381 = .ok (.iconst 2, 1) := by decide +kernel
theorem dL_sweep_382 : decode cL_sweep 382 = .ok (.iconst 1, 1) := by decide +kernel
theorem dL_sweep_383 : decode cL_sweep 383 = .ok (.invokevirtual 54, 3) := by decide +kernel
theorem dL_sweep_386 : decode cL_sweep 386 = .ok (.aload_n 1, 1) := by decide +kernel
theorem dL_sweep_387 : decode cL_sweep 387 = .ok (.iconst 1, 1) := by decide +kernel
theorem dL_sweep_388 : decode cL_sweep 388 = .ok (.iconst 1, 1) := by decide +kernel
theorem dL_sweep_389 : decode cL_sweep 389 = .ok (.invokevirtual 54, 3) := by decide +kernel
theorem dL_sweep_392 : decode cL_sweep 392 = .ok (.if_icmp .eq 19, 3) := by decide +kernel
theorem dL_sweep_395 : decode cL_sweep 395 = .ok (.goto 14, 3) := by decide +kernel
theorem dL_sweep_398 : decode cL_sweep 398 = .ok (.aload_n 0, 1) := by decide +kernel
theorem dL_sweep_399 : decode cL_sweep 399 = .ok (.iconst 0, 1) := by decide +kernel
theorem dL_sweep_400 : decode cL_sweep 400 = .ok (.iconst 0, 1) := by decide +kernel
theorem dL_sweep_401 : decode cL_sweep 401 = .ok (.invokevirtual 54, 3) := by decide +kernel
theorem dL_sweep_404 : decode cL_sweep 404 = .ok (.bipush (-9), 2) := by decide +kernel
theorem dL_sweep_406 : decode cL_sweep 406 = .ok (.if_icmp .eq 5, 3) := by decide +kernel
theorem dL_sweep_409 : decode cL_sweep 409 = .ok (.iconst 0, 1) := by decide +kernel
theorem dL_sweep_410 : decode cL_sweep 410 = .ok (.ireturn, 1) := by decide +kernel
theorem dL_sweep_411 : decode cL_sweep 411 = .ok (.iconst 0, 1) := by decide +kernel
theorem dL_sweep_412 : decode cL_sweep 412 = .ok (.istore 14, 2) := by decide +kernel
theorem dL_sweep_414 : decode cL_sweep 414 = .ok (.iload 14, 2) := by decide +kernel
theorem dL_sweep_416 : decode cL_sweep 416 = .ok (.iload 12, 2) := by decide +kernel
theorem dL_sweep_418 : decode cL_sweep 418 = .ok (.if_icmp .ge 45, 3) := by decide +kernel
theorem dL_sweep_421 : decode cL_sweep 421 = .ok (.iconst 0, 1) := by decide +kernel
theorem dL_sweep_422 : decode cL_sweep 422 = .ok (.istore 15, 2) := by decide +kernel
theorem dL_sweep_424 : decode cL_sweep 424 = .ok (.iload 15, 2) := by decide +kernel
theorem dL_sweep_426 : decode cL_sweep 426 = .ok (.iconst 4, 1) := by decide +kernel
theorem dL_sweep_427 : decode cL_sweep 427 = .ok (.if_icmp .ge 30, 3) := by decide +kernel
theorem dL_sweep_430 : decode cL_sweep 430 = .ok (.aload_n 0, 1) := by decide +kernel
theorem dL_sweep_431 : decode cL_sweep 431 = .ok (.iload 14, 2) := by decide +kernel
theorem dL_sweep_433 : decode cL_sweep 433 = .ok (.iload 15, 2) := by decide +kernel
theorem dL_sweep_435 : decode cL_sweep 435 = .ok (.invokevirtual 47, 3) := by decide +kernel
theorem dL_sweep_438 : decode cL_sweep 438 = .ok (.aload_n 1, 1) := by decide +kernel
theorem dL_sweep_439 : decode cL_sweep 439 = .ok (.iload 14, 2) := by decide +kernel
theorem dL_sweep_441 : decode cL_sweep 441 = .ok (.iload 15, 2) := by decide +kernel
theorem dL_sweep_443 : decode cL_sweep 443 = .ok (.invokevirtual 47, 3) := by decide +kernel
theorem dL_sweep_446 : decode cL_sweep 446 = .ok (.if_icmp .eq 5, 3) := by decide +kernel
theorem dL_sweep_449 : decode cL_sweep 449 = .ok (.iconst 0, 1) := by decide +kernel
theorem dL_sweep_450 : decode cL_sweep 450 = .ok (.ireturn, 1) := by decide +kernel
theorem dL_sweep_451 : decode cL_sweep 451 = .ok (.iinc 15 1, 3) := by decide +kernel
theorem dL_sweep_454 : decode cL_sweep 454 = .ok (.goto (-30), 3) := by decide +kernel
theorem dL_sweep_457 : decode cL_sweep 457 = .ok (.iinc 14 1, 3) := by decide +kernel
theorem dL_sweep_460 : decode cL_sweep 460 = .ok (.goto (-46), 3) := by decide +kernel
theorem dL_sweep_463 : decode cL_sweep 463 = .ok (.iconst 0, 1) := by decide +kernel
theorem dL_sweep_464 : decode cL_sweep 464 = .ok (.istore 14, 2) := by decide +kernel
theorem dL_sweep_466 : decode cL_sweep 466 = .ok (.iload 14, 2) := by decide +kernel
theorem dL_sweep_468 : decode cL_sweep 468 = .ok (.iconst 4, 1) := by decide +kernel
theorem dL_sweep_469 : decode cL_sweep 469 = .ok (.if_icmp .ge 46, 3) := by decide +kernel
theorem dL_sweep_472 : decode cL_sweep 472 = .ok (.iconst 0, 1) := by decide +kernel
theorem dL_sweep_473 : decode cL_sweep 473 = .ok (.istore 15, 2) := by decide +kernel
theorem dL_sweep_475 : decode cL_sweep 475 = .ok (.iload 15, 2) := by decide +kernel
theorem dL_sweep_477 : decode cL_sweep 477 = .ok (.bipush 6, 2) := by decide +kernel
theorem dL_sweep_479 : decode cL_sweep 479 = .ok (.if_icmp .ge 30, 3) := by decide +kernel
theorem dL_sweep_482 : decode cL_sweep 482 = .ok (.aload_n 0, 1) := by decide +kernel
theorem dL_sweep_483 : decode cL_sweep 483 = .ok (.iload 14, 2) := by decide +kernel
theorem dL_sweep_485 : decode cL_sweep 485 = .ok (.iload 15, 2) := by decide +kernel
theorem dL_sweep_487 : decode cL_sweep 487 = .ok (.invokevirtual 18, 3) := by decide +kernel
theorem dL_sweep_490 : decode cL_sweep 490 = .ok (.aload_n 1, 1) := by decide +kernel
theorem dL_sweep_491 : decode cL_sweep 491 = .ok (.iload 14, 2) := by decide +kernel
theorem dL_sweep_493 : decode cL_sweep 493 = .ok (.iload 15, 2) := by decide +kernel
theorem dL_sweep_495 : decode cL_sweep 495 = .ok (.invokevirtual 18, 3) := by decide +kernel
theorem dL_sweep_498 : decode cL_sweep 498 = .ok (.if_icmp .eq 5, 3) := by decide +kernel
theorem dL_sweep_501 : decode cL_sweep 501 = .ok (.iconst 0, 1) := by decide +kernel
theorem dL_sweep_502 : decode cL_sweep 502 = .ok (.ireturn, 1) := by decide +kernel
theorem dL_sweep_503 : decode cL_sweep 503 = .ok (.iinc 15 1, 3) := by decide +kernel
theorem dL_sweep_506 : decode cL_sweep 506 = .ok (.goto (-31), 3) := by decide +kernel
theorem dL_sweep_509 : decode cL_sweep 509 = .ok (.iinc 14 1, 3) := by decide +kernel
theorem dL_sweep_512 : decode cL_sweep 512 = .ok (.goto (-46), 3) := by decide +kernel
theorem dL_sweep_515 : decode cL_sweep 515 = .ok (.aload_n 0, 1) := by decide +kernel
theorem dL_sweep_516 : decode cL_sweep 516 = .ok (.iload 12, 2) := by decide +kernel
theorem dL_sweep_518 : decode cL_sweep 518 = .ok (.iconst 0, 1) := by decide +kernel
theorem dL_sweep_519 : decode cL_sweep 519 = .ok (.invokevirtual 47, 3) := by decide +kernel
theorem dL_sweep_522 : decode cL_sweep 522 = .ok (.iconst (-1), 1) := by decide +kernel
theorem dL_sweep_523 : decode cL_sweep 523 = .ok (.if_icmp .ne 7, 3) := by decide +kernel
theorem dL_sweep_526 : decode cL_sweep 526 = .ok (.iconst 1, 1) := by decide +kernel
theorem dL_sweep_527 : decode cL_sweep 527 = .ok (.goto 4, 3) := by decide +kernel
theorem dL_sweep_530 : decode cL_sweep 530 = .ok (.iconst 0, 1) := by decide +kernel
theorem dL_sweep_531 : decode cL_sweep 531 = .ok (.ireturn, 1) := by decide +kernel
set_option maxRecDepth 20000 in
theorem ggL_both_L_low : GoodIn wsL_both wsL_low := goodIn_r _ [4, 5] (by decide +kernel) (by decide +kernel)
set_option maxRecDepth 20000 in
theorem gL_both_L_low : GoodIn wsL_both (va_wsS RL 57 yL_low wsL_low) := goodIn_app (goodIn_of _ (by decide +kernel)) ggL_both_L_low
set_option maxRecDepth 20000 in
theorem ggL_both_X3_part : GoodIn wsL_both wsX3_part := goodIn_r _ [10, 11, 12, 13, 14, 15, 9, 16, 17, 18, 19, 20, 21, 22, 23, 24, 25, 26, 27, 28, 29, 30, 31, 32, 33, 55, 56, 57, 58, 59, 60, 61, 62, 63, 64, 65, 66, 67, 68, 69, 70, 71, 72, 73] (by decide +kernel) (by decide +kernel)
set_option maxRecDepth 20000 in
theorem gL_both_X3_part : GoodIn wsL_both (wsV RL 67 RX3 yX3_part wsX3_part) := goodIn_app (goodIn_of _ (by decide +kernel)) ggL_both_X3_part
set_option maxRecDepth 20000 in
theorem ggL_both_X3_set : GoodIn wsL_both wsX3_set := goodIn_r _ [37, 38, 39, 40, 9, 41, 12, 13, 14, 15, 16, 42, 43, 20, 44, 45, 46, 47, 48, 49, 50, 29, 30, 31, 32, 33, 51, 52, 53, 54, 55, 56, 57, 58, 59, 60, 61, 62, 63, 64, 65, 66, 67, 68, 69, 70, 71, 72, 73] (by decide +kernel) (by decide +kernel)
set_option maxRecDepth 20000 in
theorem gL_both_X3_set : GoodIn wsL_both (wsV RL 71 RX3 yX3_set wsX3_set) := goodIn_app (goodIn_of _ (by decide +kernel)) ggL_both_X3_set
theorem dL_both_0 : decode cL_both 0 = .ok (.iload_n 2, 1) := by decide +kernel
theorem dL_both_1 : decode cL_both 1 = .ok (.iconst 3, 1) := by decide +kernel
theorem dL_both_2 : decode cL_both 2 = .ok (.iand, 1) := by decide +kernel
theorem dL_both_3 : decode cL_both 3 = .ok (.istore 4, 2) := by decide +kernel
theorem dL_both_5 : decode cL_both 5 = .ok (.iload_n 2, 1) := by decide +kernel
theorem dL_both_6 : decode cL_both 6 = .ok (.iconst 2, 1) := by decide +kernel
theorem dL_both_7 : decode cL_both 7 = .ok (.ishr, 1) := by decide +kernel
theorem dL_both_8 : decode cL_both 8 = .ok (.bipush 8, 2) := by decide +kernel
theorem dL_both_10 : decode cL_both 10 = .ok (.invokestatic 57, 3) := by decide +kernel
theorem dL_both_13 : decode cL_both 13 = .ok (.istore 5, 2) := by decide +kernel
theorem dL_both_15 : decode cL_both 15 = .ok (.iload 5, 2) := by decide +kernel
theorem dL_both_17 : decode cL_both 17 = .ok (.iconst 1, 1) := by decide +kernel
theorem dL_both_18 : decode cL_both 18 = .ok (.iadd, 1) := by decide +kernel
theorem dL_both_19 : decode cL_both 19 = .ok (.iload_n 2, 1) := by decide +kernel
theorem dL_both_20 : decode cL_both 20 = .ok (.iconst 5, 1) := by decide +kernel
theorem dL_both_21 : decode cL_both 21 = .ok (.ishr, 1) := by decide +kernel
theorem dL_both_22 : decode cL_both 22 = .ok (.bipush 7, 2) := by decide +kernel
theorem dL_both_24 : decode cL_both 24 = .ok (.invokestatic 57, 3) := by decide +kernel
theorem dL_both_27 : decode cL_both 27 = .ok (.iadd, 1) := by decide +kernel
theorem dL_both_28 : decode cL_both 28 = .ok (.bipush 8, 2) := by decide +kernel
theorem dL_both_30 : decode cL_both 30 = .ok (.irem, 1) := by decide +kernel
theorem dL_both_31 : decode cL_both 31 = .ok (.istore 6, 2) := by decide +kernel
theorem dL_both_33 : decode cL_both 33 = .ok (.aload_n 0, 1) := by decide +kernel
theorem dL_both_34 : decode cL_both 34 = .ok (.iload_n 3, 1) := by decide +kernel
theorem dL_both_35 : decode cL_both 35 = .ok (.iload 5, 2) := by decide +kernel
theorem dL_both_37 : decode cL_both 37 = .ok (.iload 6, 2) := by decide +kernel
theorem dL_both_39 : decode cL_both 39 = .ok (.iload 4, 2) := by decide +kernel
theorem dL_both_41 : decode cL_both 41 = .ok (.invokevirtual 67, 3) := by decide +kernel
theorem dL_both_44 : decode cL_both 44 = .ok (.ifCond .ne 17, 3) := by decide +kernel
theorem dL_both_47 : decode cL_both 47 = .ok (.aload_n 1, 1) := by decide +kernel
theorem dL_both_48 : decode cL_both 48 = .ok (.iload_n 3, 1) := by decide +kernel
theorem dL_both_49 : decode cL_both 49 = .ok (.iload 5, 2) := by decide +kernel
theorem dL_both_51 : decode cL_both 51 = .ok (.iload 6, 2) := by decide +kernel
theorem dL_both_53 : decode cL_both 53 = .ok (.iload 4, 2) := by decide +kernel
theorem dL_both_55 : decode cL_both 55 = .ok (.invokevirtual 67, 3) := by decide +kernel
theorem dL_both_58 : decode cL_both 58 = .ok (.ifCond .eq 5, 3) := by decide +kernel
theorem dL_both_61 : decode cL_both 61 = .ok (.iconst 0, 1) := by decide +kernel
theorem dL_both_62 : decode cL_both 62 = .ok (.ireturn, 1) := by decide +kernel
theorem dL_both_63 : decode cL_both 63 = .ok (.iconst 1, 1) := by decide +kernel
theorem dL_both_64 : decode cL_both 64 = .ok (.iload_n 2, 1) := by decide +kernel
theorem dL_both_65 : decode cL_both 65 = .ok (.bipush 8, 2) := by decide +kernel
theorem dL_both_67 : decode cL_both 67 = .ok (.ishr, 1) := by decide +kernel
theorem dL_both_68 : decode cL_both 68 = .ok (.sipush 5000, 3) := by decide +kernel
theorem dL_both_71 : decode cL_both 71 = .ok (.invokestatic 57, 3) := by decide +kernel
theorem dL_both_74 : decode cL_both 74 = .ok (.iadd, 1) := by decide +kernel
theorem dL_both_75 : decode cL_both 75 = .ok (.istore 7, 2) := by decide +kernel
theorem dL_both_77 : decode cL_both 77 = .ok (.iconst 1, 1) := by decide +kernel
theorem dL_both_78 : decode cL_both 78 = .ok (.iload_n 2, 1) := by decide +kernel
theorem dL_both_79 : decode cL_both 79 = .ok (.bipush 11, 2) := by decide +kernel
theorem dL_both_81 : decode cL_both 81 = .ok (.ishr, 1) := by decide +kernel
theorem dL_both_82 : decode cL_both 82 = .ok (.sipush 700, 3) := by decide +kernel
theorem dL_both_85 : decode cL_both 85 = .ok (.invokestatic 57, 3) := by decide +kernel
theorem dL_both_88 : decode cL_both 88 = .ok (.iadd, 1) := by decide +kernel
theorem dL_both_89 : decode cL_both 89 = .ok (.istore 8, 2) := by decide +kernel
theorem dL_both_91 : decode cL_both 91 = .ok (.iload_n 2, 1) := by decide +kernel
theorem dL_both_92 : decode cL_both 92 = .ok (.bipush 14, 2) := by decide +kernel
theorem dL_both_94 : decode cL_both 94 = .ok (.ishr, 1) := by decide +kernel
theorem dL_both_95 : decode cL_both 95 = .ok (.sipush 400, 3) := by decide +kernel
theorem dL_both_98 : decode cL_both 98 = .ok (.invokestatic 57, 3) := by decide +kernel
theorem dL_both_101 : decode cL_both 101 = .ok (.istore 9, 2) := by decide +kernel
theorem dL_both_103 : decode cL_both 103 = .ok (.iload_n 2, 1) := by decide +kernel
theorem dL_both_104 : decode cL_both 104 = .ok (.bipush 17, 2) := by decide +kernel
theorem dL_both_106 : decode cL_both 106 = .ok (.ishr, 1) := by decide +kernel
theorem dL_both_107 : decode cL_both 107 = .ok (.sipush 2500, 3) := by decide +kernel
theorem dL_both_110 : decode cL_both 110 = .ok (.invokestatic 57, 3) := by decide +kernel
theorem dL_both_113 : decode cL_both 113 = .ok (.istore 10, 2) := by decide +kernel
theorem dL_both_115 : decode cL_both 115 = .ok (.iload_n 2, 1) := by decide +kernel
theorem dL_both_116 : decode cL_both 116 = .ok (.bipush 20, 2) := by decide +kernel
theorem dL_both_118 : decode cL_both 118 = .ok (.ishr, 1) := by decide +kernel
theorem dL_both_119 : decode cL_both 119 = .ok (.bipush 6, 2) := by decide +kernel
theorem dL_both_121 : decode cL_both 121 = .ok (.invokestatic 57, 3) := by decide +kernel
theorem dL_both_124 : decode cL_both 124 = .ok (.istore 11, 2) := by decide +kernel
theorem dL_both_126 : decode cL_both 126 = .ok (.aload_n 0, 1) := by decide +kernel
theorem dL_both_127 : decode cL_both 127 = .ok (.iload_n 3, 1) := by decide +kernel
theorem dL_both_128 : decode cL_both 128 = .ok (.iconst 0, 1) := by decide +kernel
theorem dL_both_129 : decode cL_both 129 = .ok (.iload 7, 2) := by decide +kernel
theorem dL_both_131 : decode cL_both 131 = .ok (.invokevirtual 71, 3) := by decide +kernel
theorem dL_both_134 : decode cL_both 134 = .ok (.sipush 1000, 3) := by decide +kernel
theorem dL_both_137 : decode cL_both 137 = .ok (.if_icmp .ne 115, 3) := by decide +kernel
theorem dL_both_140 : decode cL_both 140 = .ok (.aload_n 1, 1) := by decide +kernel
theorem dL_both_141 : decode cL_both 141 = .ok (.iload_n 3, 1) := by decide +kernel
theorem dL_both_142 : decode cL_both 142 = .ok (.iconst 0, 1) := by decide +kernel
theorem dL_both_143 : decode cL_both 143 = .ok (.iload 7, 2) := by decide +kernel
theorem dL_both_145 : decode cL_both 145 = .ok (.invokevirtual 71, 3) := by decide +kernel
theorem dL_both_148 : decode cL_both 148 = .ok (.sipush 1000, 3) := by decide +kernel
theorem dL_both_151 : decode cL_both 151 = .ok (.if_icmp .ne 101, 3) := by decide +kernel
theorem dL_both_154 : decode cL_both 154 = .ok (.aload_n 0, 1) := by decide +kernel
theorem dL_both_155 : decode cL_both 155 = .ok (.iload_n 3, 1) := by decide +kernel
theorem dL_both_156 : decode cL_both 156 = .ok (.iconst 1, 1) := by decide +kernel
theorem dL_both_157 : decode cL_both 157 = .ok (.iload 8, 2) := by decide +kernel
theorem dL_both_159 : decode cL_both 159 = .ok (.invokevirtual 71, 3) := by decide +kernel
theorem dL_both_162 : decode cL_both 162 = .ok (.sipush 600, 3) := by decide +kernel
theorem dL_both_165 : decode cL_both 165 = .ok (.if_icmp .ne 87, 3) := by decide +kernel
theorem dL_both_168 : decode cL_both 168 = .ok (.aload_n 1, 1) := by decide +kernel
theorem dL_both_169 : decode cL_both 169 = .ok (.iload_n 3, 1) := by decide +kernel
theorem dL_both_170 : decode cL_both 170 = .ok (.iconst 1, 1) := by decide +kernel
theorem dL_both_171 : decode cL_both 171 = .ok (.iload 8, 2) := by decide +kernel
theorem dL_both_173 : decode cL_both 173 = .ok (.invokevirtual 71, 3) := by decide +kernel
theorem dL_both_176 : decode cL_both 176 = .ok (.sipush 600, 3) := by decide +kernel
theorem dL_both_179 : decode cL_both 179 = .ok (.if_icmp .ne 73, 3) := by decide +kernel
theorem dL_both_182 : decode cL_both 182 = .ok (.aload_n 0, 1) := by decide +kernel
theorem dL_both_183 : decode cL_both 183 = .ok (.iload_n 3, 1) := by decide +kernel
theorem dL_both_184 : decode cL_both 184 = .ok (.iconst 2, 1) := by decide +kernel
theorem dL_both_185 : decode cL_both 185 = .ok (.iload 9, 2) := by decide +kernel
theorem dL_both_187 : decode cL_both 187 = .ok (.invokevirtual 71, 3) := by decide +kernel
theorem dL_both_190 : decode cL_both 190 = .ok (.ifCond .ne 62, 3) := by decide +kernel
theorem dL_both_193 : decode cL_both 193 = .ok (.aload_n 1, 1) := by decide +kernel
theorem dL_both_194 : decode cL_both 194 = .ok (.iload_n 3, 1) := by decide +kernel
theorem dL_both_195 : decode cL_both 195 = .ok (.iconst 2, 1) := by decide +kernel
theorem dL_both_196 : decode cL_both 196 = .ok (.iload 9, 2) := by decide +kernel
theorem dL_both_198 : decode cL_both 198 = .ok (.invokevirtual 71, 3) := by decide +kernel
theorem dL_both_201 : decode cL_both 201 = .ok (.ifCond .ne 51, 3) := by decide +kernel
theorem dL_both_204 : decode cL_both 204 = .ok (.aload_n 0, 1) := by decide +kernel
theorem dL_both_205 : decode cL_both 205 = .ok (.iload_n 3, 1) := by decide +kernel
theorem dL_both_206 : decode cL_both 206 = .ok (.iconst 3, 1) := by decide +kernel
theorem dL_both_207 : decode cL_both 207 = .ok (.iload 10, 2) := by decide +kernel
theorem dL_both_209 : decode cL_both 209 = .ok (.invokevirtual 71, 3) := by decide +kernel
theorem dL_both_212 : decode cL_both 212 = .ok (.ifCond .ne 40, 3) := by decide +kernel
theorem dL_both_215 : decode cL_both 215 = .ok (.aload_n 1, 1) := by decide +kernel
theorem dL_both_216 : decode cL_both 216 = .ok (.iload_n 3, 1) := by decide +kernel
theorem dL_both_217 : decode cL_both 217 = .ok (.iconst 3, 1) := by decide +kernel
theorem dL_both_218 : decode cL_both 218 = .ok (.iload 10, 2) := by decide +kernel
theorem dL_both_220 : decode cL_both 220 = .ok (.invokevirtual 71, 3) := by decide +kernel
theorem dL_both_223 : decode cL_both 223 = .ok (.ifCond .ne 29, 3) := by decide +kernel
theorem dL_both_226 : decode cL_both 226 = .ok (.aload_n 0, 1) := by decide +kernel
theorem dL_both_227 : decode cL_both 227 = .ok (.iload_n 3, 1) := by decide +kernel
theorem dL_both_228 : decode cL_both 228 = .ok (.iconst 4, 1) := by decide +kernel
theorem dL_both_229 : decode cL_both 229 = .ok (.iload 11, 2) := by decide +kernel
theorem dL_both_231 : decode cL_both 231 = .ok (.invokevirtual 71, 3) := by decide +kernel
theorem dL_both_234 : decode cL_both 234 = .ok (.ifCond .ne 18, 3) := by decide +kernel
theorem dL_both_237 : decode cL_both 237 = .ok (.aload_n 1, 1) := by decide +kernel
theorem dL_both_238 : decode cL_both 238 = .ok (.iload_n 3, 1) := by decide +kernel
theorem dL_both_239 : decode cL_both 239 = .ok (.iconst 4, 1) := by decide +kernel
theorem dL_both_240 : decode cL_both 240 = .ok (.iload 11, 2) := by decide +kernel
theorem dL_both_242 : decode cL_both 242 = .ok (.invokevirtual 71, 3) := by decide +kernel
theorem dL_both_245 : decode cL_both 245 = .ok (.ifCond .ne 7, 3) := by decide +kernel
theorem dL_both_248 : decode cL_both 248 = .ok (.iconst 1, 1) := by decide +kernel
theorem dL_both_249 : decode cL_both 249 = .ok (.goto 4, 3) := by decide +kernel
theorem dL_both_252 : decode cL_both 252 = .ok (.iconst 0, 1) := by decide +kernel
theorem dL_both_253 : decode cL_both 253 = .ok (.ireturn, 1) := by decide +kernel
set_option maxRecDepth 20000 in
theorem ggL_fits_X3_fit : GoodIn wsL_fits wsX3_fit := goodIn_r _ [7, 8, 9, 10, 11, 12, 13, 14, 15, 16, 17, 6, 18, 19, 20, 21, 22, 23, 24, 25, 26, 27, 28, 29, 30, 31, 32, 33, 34, 35, 36, 37, 38, 39, 40, 41, 55, 56, 57, 58, 59, 60, 61, 62, 63, 64, 65, 66] (by decide +kernel) (by decide +kernel)
set_option maxRecDepth 20000 in
theorem gL_fits_X3_fit : GoodIn wsL_fits (wsV RL 75 RX3 yX3_fit wsX3_fit) := goodIn_app (goodIn_of _ (by decide +kernel)) ggL_fits_X3_fit
set_option maxRecDepth 20000 in
theorem ggL_fits_X3_reading : GoodIn wsL_fits wsX3_reading := goodIn_r _ [45, 8, 46, 47, 48, 49, 50, 10, 11, 12, 13, 14, 15, 55, 56, 57, 58, 59, 60, 61, 62, 63, 64, 65, 66] (by decide +kernel) (by decide +kernel)
set_option maxRecDepth 20000 in
theorem gL_fits_X3_reading : GoodIn wsL_fits (wsV RL 47 RX3 yX3_reading wsX3_reading) := goodIn_app (goodIn_of _ (by decide +kernel)) ggL_fits_X3_reading
set_option maxRecDepth 20000 in
theorem ggL_fits_L_part : GoodIn wsL_fits wsL_part := goodIn_r _ [54] (by decide +kernel) (by decide +kernel)
set_option maxRecDepth 20000 in
theorem gL_fits_L_part : GoodIn wsL_fits (va_wsS RL 81 yL_part wsL_part) := goodIn_app (goodIn_of _ (by decide +kernel)) ggL_fits_L_part
theorem dL_fits_0 : decode cL_fits 0 = .ok (.aload_n 0, 1) := by decide +kernel
theorem dL_fits_1 : decode cL_fits 1 = .ok (.iload_n 1, 1) := by decide +kernel
theorem dL_fits_2 : decode cL_fits 2 = .ok (.iload_n 2, 1) := by decide +kernel
theorem dL_fits_3 : decode cL_fits 3 = .ok (.iconst 1, 1) := by decide +kernel
theorem dL_fits_4 : decode cL_fits 4 = .ok (.invokevirtual 75, 3) := by decide +kernel
theorem dL_fits_7 : decode cL_fits 7 = .ok (.lstore_n 3, 1) := by decide +kernel
theorem dL_fits_8 : decode cL_fits 8 = .ok (.lload_n 3, 1) := by decide +kernel
theorem dL_fits_9 : decode cL_fits 9 = .ok (.ldc2_w 79, 3) := by decide +kernel
theorem dL_fits_12 : decode cL_fits 12 = .ok (.lcmp, 1) := by decide +kernel
theorem dL_fits_13 : decode cL_fits 13 = .ok (.ifCond .ne 37, 3) := by decide +kernel
theorem dL_fits_16 : decode cL_fits 16 = .ok (.aload_n 0, 1) := by decide +kernel
theorem dL_fits_17 : decode cL_fits 17 = .ok (.iload_n 1, 1) := by decide +kernel
theorem dL_fits_18 : decode cL_fits 18 = .ok (.iload_n 2, 1) := by decide +kernel
theorem dL_fits_19 : decode cL_fits 19 = .ok (.iconst 0, 1) := by decide +kernel
theorem dL_fits_20 : decode cL_fits 20 = .ok (.invokevirtual 75, 3) := by decide +kernel
theorem dL_fits_23 : decode cL_fits 23 = .ok (.ldc2_w 79, 3) := by decide +kernel
theorem dL_fits_26 : decode cL_fits 26 = .ok (.lcmp, 1) := by decide +kernel
theorem dL_fits_27 : decode cL_fits 27 = .ok (.ifCond .ne 21, 3) := by decide +kernel
theorem dL_fits_30 : decode cL_fits 30 = .ok (.aload_n 0, 1) := by decide +kernel
theorem dL_fits_31 : decode cL_fits 31 = .ok (.iload_n 1, 1) := by decide +kernel
theorem dL_fits_32 : decode cL_fits 32 = .ok (.iload_n 2, 1) := by decide +kernel
theorem dL_fits_33 : decode cL_fits 33 = .ok (.iconst 4, 1) := by decide +kernel
theorem dL_fits_34 : decode cL_fits 34 = .ok (.invokevirtual 75, 3) := by decide +kernel
theorem dL_fits_37 : decode cL_fits 37 = .ok (.ldc2_w 79, 3) := by decide +kernel
theorem dL_fits_40 : decode cL_fits 40 = .ok (.lcmp, 1) := by decide +kernel
theorem dL_fits_41 : decode cL_fits 41 = .ok (.ifCond .ne 7, 3) := by decide +kernel
theorem dL_fits_44 : decode cL_fits 44 = .ok (.iconst 1, 1) := by decide +kernel
theorem dL_fits_45 : decode cL_fits 45 = .ok (.goto 4, 3) := by decide +kernel
theorem dL_fits_48 : decode cL_fits 48 = .ok (.iconst 0, 1) := by decide +kernel
theorem dL_fits_49 : decode cL_fits 49 = .ok (.ireturn, 1) := by decide +kernel
theorem dL_fits_50 : decode cL_fits 50 = .ok (.aload_n 0, 1) := by decide +kernel
theorem dL_fits_51 : decode cL_fits 51 = .ok (.iload_n 1, 1) := by decide +kernel
theorem dL_fits_52 : decode cL_fits 52 = .ok (.iload_n 2, 1) := by decide +kernel
theorem dL_fits_53 : decode cL_fits 53 = .ok (.iconst 0, 1) := by decide +kernel
theorem dL_fits_54 : decode cL_fits 54 = .ok (.invokevirtual 75, 3) := by decide +kernel
theorem dL_fits_57 : decode cL_fits 57 = .ok (.lstore 5, 2) := by decide +kernel
theorem dL_fits_59 : decode cL_fits 59 = .ok (.aload_n 0, 1) := by decide +kernel
theorem dL_fits_60 : decode cL_fits 60 = .ok (.iload_n 1, 1) := by decide +kernel
theorem dL_fits_61 : decode cL_fits 61 = .ok (.iload_n 2, 1) := by decide +kernel
theorem dL_fits_62 : decode cL_fits 62 = .ok (.iconst 2, 1) := by decide +kernel
theorem dL_fits_63 : decode cL_fits 63 = .ok (.invokevirtual 75, 3) := by decide +kernel
theorem dL_fits_66 : decode cL_fits 66 = .ok (.lstore 7, 2) := by decide +kernel
theorem dL_fits_68 : decode cL_fits 68 = .ok (.aload_n 0, 1) := by decide +kernel
theorem dL_fits_69 : decode cL_fits 69 = .ok (.iload_n 1, 1) := by decide +kernel
theorem dL_fits_70 : decode cL_fits 70 = .ok (.iload_n 2, 1) := by decide +kernel
theorem dL_fits_71 : decode cL_fits 71 = .ok (.iconst 3, 1) := by decide +kernel
theorem dL_fits_72 : decode cL_fits 72 = .ok (.invokevirtual 75, 3) := by decide +kernel
theorem dL_fits_75 : decode cL_fits 75 = .ok (.lstore 9, 2) := by decide +kernel
theorem dL_fits_77 : decode cL_fits 77 = .ok (.iload_n 2, 1) := by decide +kernel
theorem dL_fits_78 : decode cL_fits 78 = .ok (.iload_n 1, 1) := by decide +kernel
theorem dL_fits_79 : decode cL_fits 79 = .ok (.isub, 1) := by decide +kernel
theorem dL_fits_80 : decode cL_fits 80 = .ok (.iconst 1, 1) := by decide +kernel
theorem dL_fits_81 : decode cL_fits 81 = .ok (.iadd, 1) := by decide +kernel
theorem dL_fits_82 : decode cL_fits 82 = .ok (.i2l, 1) := by decide +kernel
theorem dL_fits_83 : decode cL_fits 83 = .ok (.lstore 11, 2) := by decide +kernel
theorem dL_fits_85 : decode cL_fits 85 = .ok (.lconst 0, 1) := by decide +kernel
theorem dL_fits_86 : decode cL_fits 86 = .ok (.lstore 13, 2) := by decide +kernel
theorem dL_fits_88 : decode cL_fits 88 = .ok (.lconst 0, 1) := by decide +kernel
theorem dL_fits_89 : decode cL_fits 89 = .ok (.lstore 15, 2) := by decide +kernel
theorem dL_fits_91 : decode cL_fits 91 = .ok (.iload_n 1, 1) := by decide +kernel
theorem dL_fits_92 : decode cL_fits 92 = .ok (.istore 17, 2) := by decide +kernel
theorem dL_fits_94 : decode cL_fits 94 = .ok (.iload 17, 2) := by decide +kernel
theorem dL_fits_96 : decode cL_fits 96 = .ok (.iload_n 2, 1) := by decide +kernel
theorem dL_fits_97 : decode cL_fits 97 = .ok (.if_icmp .gt 42, 3) := by decide +kernel
theorem dL_fits_100 : decode cL_fits 100 = .ok (.lload 13, 2) := by decide +kernel
theorem dL_fits_102 : decode cL_fits 102 = .ok (.aload_n 0, 1) := by decide +kernel
theorem dL_fits_103 : decode cL_fits 103 = .ok (.iload 17, 2) := by decide +kernel
theorem dL_fits_105 : decode cL_fits 105 = .ok (.iconst 1, 1) := by decide +kernel
theorem dL_fits_106 : decode cL_fits 106 = .ok (.invokevirtual 47, 3) := by decide +kernel
theorem dL_fits_109 : decode cL_fits 109 = .ok (.sipush 10000, 3) := by decide +kernel
theorem dL_fits_112 : decode cL_fits 112 = .ok (.isub, 1) := by decide +kernel
theorem dL_fits_113 : decode cL_fits 113 = .ok (.i2l, 1) := by decide +kernel
theorem dL_fits_114 : decode cL_fits 114 = .ok (.ladd, 1) := by decide +kernel
theorem dL_fits_115 : decode cL_fits 115 = .ok (.lstore 13, 2) := by decide +kernel
theorem dL_fits_117 : decode cL_fits 117 = .ok (.lload 15, 2) := by decide +kernel
theorem dL_fits_119 : decode cL_fits 119 = .ok (.aload_n 0, 1) := by decide +kernel
theorem dL_fits_120 : decode cL_fits 120 = .ok (.iload 17, 2) := by decide +kernel
theorem dL_fits_122 : decode cL_fits 122 = .ok (.iconst 2, 1) := by decide +kernel
theorem dL_fits_123 : decode cL_fits 123 = .ok (.invokevirtual 47, 3) := by decide +kernel
theorem dL_fits_126 : decode cL_fits 126 = .ok (.ldc 25, 2) := by decide +kernel
theorem dL_fits_128 : decode cL_fits 128 = .ok (.isub, 1) := by decide +kernel
theorem dL_fits_129 : decode cL_fits 129 = .ok (.i2l, 1) := by decide +kernel
theorem dL_fits_130 : decode cL_fits 130 = .ok (.ladd, 1) := by decide +kernel
theorem dL_fits_131 : decode cL_fits 131 = .ok (.lstore 15, 2) := by decide +kernel
theorem dL_fits_133 : decode cL_fits 133 = .ok (.iinc 17 1, 3) := by decide +kernel
theorem dL_fits_136 : decode cL_fits 136 = .ok (.goto (-42), 3) := by decide +kernel
theorem dL_fits_139 : decode cL_fits 139 = .ok (.lload_n 3, 1) := by decide +kernel
theorem dL_fits_140 : decode cL_fits 140 = .ok (.lload 9, 2) := by decide +kernel
theorem dL_fits_142 : decode cL_fits 142 = .ok (.invokestatic 81, 3) := by decide +kernel
theorem dL_fits_145 : decode cL_fits 145 = .ok (.lstore 17, 2) := by decide +kernel
theorem dL_fits_147 : decode cL_fits 147 = .ok (.lload_n 3, 1) := by decide +kernel
theorem dL_fits_148 : decode cL_fits 148 = .ok (.lload 17, 2) := by decide +kernel
theorem dL_fits_150 : decode cL_fits 150 = .ok (.ldiv, 1) := by decide +kernel
theorem dL_fits_151 : decode cL_fits 151 = .ok (.lload 9, 2) := by decide +kernel
theorem dL_fits_153 : decode cL_fits 153 = .ok (.lmul, 1) := by decide +kernel
theorem dL_fits_154 : decode cL_fits 154 = .ok (.lstore 19, 2) := by decide +kernel
theorem dL_fits_156 : decode cL_fits 156 = .ok (.lload_n 3, 1) := by decide +kernel
theorem dL_fits_157 : decode cL_fits 157 = .ok (.lconst 1, 1) := by decide +kernel
theorem dL_fits_158 : decode cL_fits 158 = .ok (.lcmp, 1) := by decide +kernel
theorem dL_fits_159 : decode cL_fits 159 = .ok (.ifCond .lt 41, 3) := by decide +kernel
theorem dL_fits_162 : decode cL_fits 162 = .ok (.lload 9, 2) := by decide +kernel
theorem dL_fits_164 : decode cL_fits 164 = .ok (.lconst 1, 1) := by decide +kernel
theorem dL_fits_165 : decode cL_fits 165 = .ok (.lcmp, 1) := by decide +kernel
theorem dL_fits_166 : decode cL_fits 166 = .ok (.ifCond .lt 34, 3) := by decide +kernel
theorem dL_fits_169 : decode cL_fits 169 = .ok (.lload 5, 2) := by decide +kernel
theorem dL_fits_171 : decode cL_fits 171 = .ok (.lload 19, 2) := by decide +kernel
theorem dL_fits_173 : decode cL_fits 173 = .ok (.lload_n 3, 1) := by decide +kernel
theorem dL_fits_174 : decode cL_fits 174 = .ok (.ldiv, 1) := by decide +kernel
theorem dL_fits_175 : decode cL_fits 175 = .ok (.lmul, 1) := by decide +kernel
theorem dL_fits_176 : decode cL_fits 176 = .ok (.lload 13, 2) := by decide +kernel
theorem dL_fits_178 : decode cL_fits 178 = .ok (.lmul, 1) := by decide +kernel
theorem dL_fits_179 : decode cL_fits 179 = .ok (.lload 11, 2) := by decide +kernel
theorem dL_fits_181 : decode cL_fits 181 = .ok (.lload 7, 2) := by decide +kernel
theorem dL_fits_183 : decode cL_fits 183 = .ok (.lmul, 1) := by decide +kernel
theorem dL_fits_184 : decode cL_fits 184 = .ok (.lload 19, 2) := by decide +kernel
theorem dL_fits_186 : decode cL_fits 186 = .ok (.lload 9, 2) := by decide +kernel
theorem dL_fits_188 : decode cL_fits 188 = .ok (.ldiv, 1) := by decide +kernel
theorem dL_fits_189 : decode cL_fits 189 = .ok (.lmul, 1) := by decide +kernel
theorem dL_fits_190 : decode cL_fits 190 = .ok (.ladd, 1) := by decide +kernel
theorem dL_fits_191 : decode cL_fits 191 = .ok (.lload 15, 2) := by decide +kernel
theorem dL_fits_193 : decode cL_fits 193 = .ok (.lload 19, 2) := by decide +kernel
theorem dL_fits_195 : decode cL_fits 195 = .ok (.lmul, 1) := by decide +kernel
theorem dL_fits_196 : decode cL_fits 196 = .ok (.lcmp, 1) := by decide +kernel
theorem dL_fits_197 : decode cL_fits 197 = .ok (.ifCond .eq 5, 3) := by decide +kernel
theorem dL_fits_200 : decode cL_fits 200 = .ok (.iconst 0, 1) := by decide +kernel
theorem dL_fits_201 : decode cL_fits 201 = .ok (.ireturn, 1) := by decide +kernel
theorem dL_fits_202 : decode cL_fits 202 = .ok (.aload_n 0, 1) := by decide +kernel
theorem dL_fits_203 : decode cL_fits 203 = .ok (.iload_n 1, 1) := by decide +kernel
theorem dL_fits_204 : decode cL_fits 204 = .ok (.iload_n 2, 1) := by decide +kernel
theorem dL_fits_205 : decode cL_fits 205 = .ok (.iconst 4, 1) := by decide +kernel
theorem dL_fits_206 : decode cL_fits 206 = .ok (.invokevirtual 75, 3) := by decide +kernel
theorem dL_fits_209 : decode cL_fits 209 = .ok (.lstore 21, 2) := by decide +kernel
theorem dL_fits_211 : decode cL_fits 211 = .ok (.aload_n 0, 1) := by decide +kernel
theorem dL_fits_212 : decode cL_fits 212 = .ok (.iload_n 1, 1) := by decide +kernel
theorem dL_fits_213 : decode cL_fits 213 = .ok (.iload_n 2, 1) := by decide +kernel
theorem dL_fits_214 : decode cL_fits 214 = .ok (.iconst 5, 1) := by decide +kernel
theorem dL_fits_215 : decode cL_fits 215 = .ok (.invokevirtual 75, 3) := by decide +kernel
theorem dL_fits_218 : decode cL_fits 218 = .ok (.lstore 23, 2) := by decide +kernel
theorem dL_fits_220 : decode cL_fits 220 = .ok (.lload 5, 2) := by decide +kernel
theorem dL_fits_222 : decode cL_fits 222 = .ok (.lconst 0, 1) := by decide +kernel
theorem dL_fits_223 : decode cL_fits 223 = .ok (.lcmp, 1) := by decide +kernel
theorem dL_fits_224 : decode cL_fits 224 = .ok (.ifCond .ne 29, 3) := by decide +kernel
theorem dL_fits_227 : decode cL_fits 227 = .ok (.lload 21, 2) := by decide +kernel
theorem dL_fits_229 : decode cL_fits 229 = .ok (.ldc2_w 79, 3) := by decide +kernel
theorem dL_fits_232 : decode cL_fits 232 = .ok (.lcmp, 1) := by decide +kernel
theorem dL_fits_233 : decode cL_fits 233 = .ok (.ifCond .ne 16, 3) := by decide +kernel
theorem dL_fits_236 : decode cL_fits 236 = .ok (.lload 23, 2) := by decide +kernel
theorem dL_fits_238 : decode cL_fits 238 = .ok (.ldc2_w 79, 3) := by decide +kernel
theorem dL_fits_241 : decode cL_fits 241 = .ok (.lcmp, 1) := by decide +kernel
theorem dL_fits_242 : decode cL_fits 242 = .ok (.ifCond .ne 7, 3) := by decide +kernel
theorem dL_fits_245 : decode cL_fits 245 = .ok (.iconst 1, 1) := by decide +kernel
theorem dL_fits_246 : decode cL_fits 246 = .ok (.goto 79, 3) := by decide +kernel
theorem dL_fits_249 : decode cL_fits 249 = .ok (.iconst 0, 1) := by decide +kernel
theorem dL_fits_250 : decode cL_fits 250 = .ok (.goto 75, 3) := by decide +kernel
theorem dL_fits_253 : decode cL_fits 253 = .ok (.lload 23, 2) := by decide +kernel
theorem dL_fits_255 : decode cL_fits 255 = .ok (.lconst 0, 1) := by decide +kernel
theorem dL_fits_256 : decode cL_fits 256 = .ok (.lcmp, 1) := by decide +kernel
theorem dL_fits_257 : decode cL_fits 257 = .ok (.ifCond .le 67, 3) := by decide +kernel
theorem dL_fits_260 : decode cL_fits 260 = .ok (.lload 21, 2) := by decide +kernel
theorem dL_fits_262 : decode cL_fits 262 = .ok (.lload 23, 2) := by decide +kernel
theorem dL_fits_264 : decode cL_fits 264 = .ok (.invokestatic 81, 3) := by decide +kernel
theorem dL_fits_267 : decode cL_fits 267 = .ok (.lconst 1, 1) := by decide +kernel
theorem dL_fits_268 : decode cL_fits 268 = .ok (.lcmp, 1) := by decide +kernel
theorem dL_fits_269 : decode cL_fits 269 = .ok (.ifCond .ne 55, 3) := by decide +kernel
theorem dL_fits_272 : decode cL_fits 272 = .ok (.lload 21, 2) := by decide +kernel
theorem dL_fits_274 : decode cL_fits 274 = .ok (.lconst 0, 1) := by decide +kernel
theorem dL_fits_275 : decode cL_fits 275 = .ok (.lcmp, 1) := by decide +kernel
theorem dL_fits_276 : decode cL_fits 276 = .ok (.ifCond .ge 7, 3) := by decide +kernel
theorem dL_fits_279 : decode cL_fits 279 = .ok (.iconst 1, 1) := by decide +kernel
theorem dL_fits_280 : decode cL_fits 280 = .ok (.goto 4, 3) := by decide +kernel
theorem dL_fits_283 : decode cL_fits 283 = .ok (.iconst 0, 1) := by decide +kernel
theorem dL_fits_284 : decode cL_fits 284 = .ok (.lload 7, 2) := by decide +kernel
theorem dL_fits_286 : decode cL_fits 286 = .ok (.lconst 0, 1) := by decide +kernel
theorem dL_fits_287 : decode cL_fits 287 = .ok (.lcmp, 1) := by decide +kernel
theorem dL_fits_288 : decode cL_fits 288 = .ok (.ifCond .le 10, 3) := by decide +kernel
theorem dL_fits_291 : decode cL_fits 291 = .ok (.lload 5, 2) := by decide +kernel
theorem dL_fits_293 : decode cL_fits 293 = .ok (.lconst 0, 1) := by decide +kernel
theorem dL_fits_294 : decode cL_fits 294 = .ok (.lcmp, 1) := by decide +kernel
theorem dL_fits_295 : decode cL_fits 295 = .ok (.ifCond .gt 17, 3) := by decide +kernel
theorem dL_fits_298 : decode cL_fits 298 = .ok (.lload 7, 2) := by decide +kernel
theorem dL_fits_300 : decode cL_fits 300 = .ok (.lconst 0, 1) := by decide +kernel
theorem dL_fits_301 : decode cL_fits 301 = .ok (.lcmp, 1) := by decide +kernel
theorem dL_fits_302 : decode cL_fits 302 = .ok (.ifCond .ge 14, 3) := by decide +kernel
theorem dL_fits_305 : decode cL_fits 305 = .ok (.lload 5, 2) := by decide +kernel
theorem dL_fits_307 : decode cL_fits 307 = .ok (.lconst 0, 1) := by decide +kernel
theorem dL_fits_308 : decode cL_fits 308 = .ok (.lcmp, 1) := by decide +kernel
theorem dL_fits_309 : decode cL_fits 309 = .ok (.ifCond .ge 7, 3) := by decide +kernel
theorem dL_fits_312 : decode cL_fits 312 = .ok (.iconst 1, 1) := by decide +kernel
theorem dL_fits_313 : decode cL_fits 313 = .ok (.goto 4, 3) := by decide +kernel
theorem dL_fits_316 : decode cL_fits 316 = .ok (.iconst 0, 1) := by decide +kernel
theorem dL_fits_317 : decode cL_fits 317 = .ok (.if_icmp .ne 7, 3) := by decide +kernel
theorem dL_fits_320 : decode cL_fits 320 = .ok (.iconst 1, 1) := by decide +kernel
theorem dL_fits_321 : decode cL_fits 321 = .ok (.goto 4, 3) := by decide +kernel
theorem dL_fits_324 : decode cL_fits 324 = .ok (.iconst 0, 1) := by decide +kernel
theorem dL_fits_325 : decode cL_fits 325 = .ok (.ireturn, 1) := by decide +kernel
theorem dL_part_0 : decode cL_part 0 = .ok (.lload_n 0, 1) := by decide +kernel
theorem dL_part_1 : decode cL_part 1 = .ok (.lconst 0, 1) := by decide +kernel
theorem dL_part_2 : decode cL_part 2 = .ok (.lcmp, 1) := by decide +kernel
theorem dL_part_3 : decode cL_part 3 = .ok (.ifCond .ge 8, 3) := by decide +kernel
theorem dL_part_6 : decode cL_part 6 = .ok (.lload_n 0, 1) := by decide +kernel
theorem dL_part_7 : decode cL_part 7 = .ok (.lneg, 1) := by decide +kernel
theorem dL_part_8 : decode cL_part 8 = .ok (.goto 4, 3) := by decide +kernel
theorem dL_part_11 : decode cL_part 11 = .ok (.lload_n 0, 1) := by decide +kernel
theorem dL_part_12 : decode cL_part 12 = .ok (.lstore 4, 2) := by decide +kernel
theorem dL_part_14 : decode cL_part 14 = .ok (.lload_n 2, 1) := by decide +kernel
theorem dL_part_15 : decode cL_part 15 = .ok (.lconst 0, 1) := by decide +kernel
theorem dL_part_16 : decode cL_part 16 = .ok (.lcmp, 1) := by decide +kernel
theorem dL_part_17 : decode cL_part 17 = .ok (.ifCond .ge 8, 3) := by decide +kernel
theorem dL_part_20 : decode cL_part 20 = .ok (.lload_n 2, 1) := by decide +kernel
theorem dL_part_21 : decode cL_part 21 = .ok (.lneg, 1) := by decide +kernel
theorem dL_part_22 : decode cL_part 22 = .ok (.goto 4, 3) := by decide +kernel
theorem dL_part_25 : decode cL_part 25 = .ok (.lload_n 2, 1) := by decide +kernel
theorem dL_part_26 : decode cL_part 26 = .ok (.lstore 6, 2) := by decide +kernel
theorem dL_part_28 : decode cL_part 28 = .ok (.lload 6, 2) := by decide +kernel
theorem dL_part_30 : decode cL_part 30 = .ok (.lconst 0, 1) := by decide +kernel
theorem dL_part_31 : decode cL_part 31 = .ok (.lcmp, 1) := by decide +kernel
theorem dL_part_32 : decode cL_part 32 = .ok (.ifCond .eq 21, 3) := by decide +kernel
theorem dL_part_35 : decode cL_part 35 = .ok (.lload 4, 2) := by decide +kernel
theorem dL_part_37 : decode cL_part 37 = .ok (.lload 6, 2) := by decide +kernel
theorem dL_part_39 : decode cL_part 39 = .ok (.lrem, 1) := by decide +kernel
theorem dL_part_40 : decode cL_part 40 = .ok (.lstore 8, 2) := by decide +kernel
theorem dL_part_42 : decode cL_part 42 = .ok (.lload 6, 2) := by decide +kernel
theorem dL_part_44 : decode cL_part 44 = .ok (.lstore 4, 2) := by decide +kernel
theorem dL_part_46 : decode cL_part 46 = .ok (.lload 8, 2) := by decide +kernel
theorem dL_part_48 : decode cL_part 48 = .ok (.lstore 6, 2) := by decide +kernel
theorem dL_part_50 : decode cL_part 50 = .ok (.goto (-22), 3) := by decide +kernel
theorem dL_part_53 : decode cL_part 53 = .ok (.lload 4, 2) := by decide +kernel
theorem dL_part_55 : decode cL_part 55 = .ok (.lreturn, 1) := by decide +kernel
set_option maxRecDepth 20000 in
theorem ggL_law_X3_init : GoodIn wsL_law wsX3_init := goodIn_r _ [6, 7, 8, 9, 10, 11, 12, 13, 14, 15, 16, 17, 18, 19, 20, 21, 22, 23, 24, 25, 26, 27, 28, 29, 30, 31, 32, 33, 34, 35, 36, 37, 38, 39, 40, 41, 42, 43, 385, 386, 387, 388, 389, 390, 391, 392, 393, 394, 395, 396, 397, 398, 399, 400, 401, 402, 403, 404, 405, 406, 407, 408, 409, 410, 411] (by decide +kernel) (by decide +kernel)
set_option maxRecDepth 20000 in
theorem gL_law_X3_init : GoodIn wsL_law (wsX3_init) := ggL_law_X3_init
set_option maxRecDepth 20000 in
theorem ggL_law_X3_now : GoodIn wsL_law wsX3_now := goodIn_r _ [47, 22, 23, 24, 48, 49, 50, 2, 51, 11, 52, 53, 54, 55, 56, 13, 57, 58, 59, 60, 61, 62, 63, 64, 65, 66, 67, 68, 69, 70, 71, 72, 73, 385, 386, 387, 388, 389, 390, 391, 400, 401, 402, 403, 404, 405, 406, 407, 408, 409, 410, 411] (by decide +kernel) (by decide +kernel)
set_option maxRecDepth 20000 in
theorem gL_law_X3_now : GoodIn wsL_law (wsV RL 9 RX3 yX3_now wsX3_now) := goodIn_app (goodIn_of _ (by decide +kernel)) ggL_law_X3_now
set_option maxRecDepth 20000 in
theorem ggL_law_X3_power : GoodIn wsL_law wsX3_power := goodIn_r _ [77, 22, 78, 79, 2, 80, 48, 49, 50, 51, 11, 52, 53, 54, 55, 56, 13, 57, 58, 59, 60, 61, 62, 63, 64, 65, 66, 67, 68, 69, 385, 386, 387, 388, 389, 390, 391, 400, 401, 402, 403, 404, 405, 406, 407, 408, 409, 410, 411] (by decide +kernel) (by decide +kernel)
set_option maxRecDepth 20000 in
theorem gL_law_X3_power : GoodIn wsL_law (wsV RL 85 RX3 yX3_power wsX3_power) := goodIn_app (goodIn_of _ (by decide +kernel)) ggL_law_X3_power
set_option maxRecDepth 20000 in
theorem ggL_law_X3_would : GoodIn wsL_law wsX3_would := goodIn_r _ [84, 85, 86, 87, 2, 88, 78, 79, 80, 48, 49, 50, 51, 11, 52, 53, 54, 55, 56, 13, 57, 58, 59, 60, 61, 62, 63, 64, 65, 66, 67, 68, 69, 89, 90, 91, 92, 93, 94, 95, 96, 97, 98, 99, 100, 101, 102, 103, 104, 23, 105, 106, 107, 108, 109, 110, 111, 112, 113, 114, 115, 26, 116, 117, 118, 119, 120, 121, 122, 123, 124, 125, 126, 127, 128, 129, 130, 131, 132, 70, 71, 72, 73, 133, 134, 135, 136, 24, 137, 138, 139, 140, 141, 142, 143, 144, 145, 385, 386, 387, 388, 389, 390, 391, 400, 401, 402, 403, 404, 405, 406, 407, 408, 409, 410, 411] (by decide +kernel) (by decide +kernel)
set_option maxRecDepth 20000 in
theorem gL_law_X3_would : GoodIn wsL_law (wsV RL 22 RX3 yX3_would wsX3_would) := goodIn_app (goodIn_of _ (by decide +kernel)) ggL_law_X3_would
set_option maxRecDepth 20000 in
theorem ggL_law_X3_pulse : GoodIn wsL_law wsX3_pulse := goodIn_r _ [149, 22, 17, 21, 150, 86, 87, 2, 88, 78, 79, 80, 48, 49, 50, 51, 11, 52, 53, 54, 55, 56, 13, 57, 58, 59, 60, 61, 62, 63, 64, 65, 66, 67, 68, 69, 89, 90, 91, 92, 151, 152, 153, 16, 154, 34, 155, 156, 157, 20, 158, 40, 159, 160, 161, 162, 163, 93, 94, 95, 96, 97, 98, 99, 100, 101, 102, 103, 104, 23, 105, 106, 107, 108, 109, 110, 111, 112, 113, 114, 115, 26, 116, 117, 118, 119, 120, 121, 122, 123, 124, 125, 126, 127, 128, 129, 130, 131, 132, 70, 71, 72, 73, 133, 134, 135, 136, 24, 137, 164, 165, 166, 167, 138, 139, 140, 141, 142, 143, 144, 145, 168, 169, 170, 171, 30, 31, 32, 33, 172, 173, 174, 175, 176, 177, 178, 179, 180, 181, 182, 183, 184, 185, 186, 187, 188, 189, 190, 191, 192, 193, 194, 195, 196, 38, 39, 385, 386, 387, 388, 389, 390, 391, 392, 393, 394, 395, 396, 400, 401, 402, 403, 404, 405, 406, 407, 408, 409, 410, 411, 397, 398, 399] (by decide +kernel) (by decide +kernel)
set_option maxRecDepth 20000 in
theorem gL_law_X3_pulse : GoodIn wsL_law (wsV RL 40 RX3 yX3_pulse wsX3_pulse) := goodIn_app (goodIn_of _ (by decide +kernel)) ggL_law_X3_pulse
set_option maxRecDepth 20000 in
theorem ggL_law_X3_rest : GoodIn wsL_law wsX3_rest := goodIn_r _ [200, 11, 52, 201, 202, 203, 99, 204, 78, 79, 2, 80, 205, 206, 207, 208, 209, 210, 211, 26, 212, 118, 385, 386, 387, 388, 389, 390, 391, 400, 401, 402, 403, 404, 405, 406, 407, 408, 409, 410, 411] (by decide +kernel) (by decide +kernel)
set_option maxRecDepth 20000 in
theorem gL_law_X3_rest : GoodIn wsL_law (wsV RL 64 RX3 yX3_rest wsX3_rest) := goodIn_app (goodIn_of _ (by decide +kernel)) ggL_law_X3_rest
set_option maxRecDepth 20000 in
theorem ggL_law_X3_why : GoodIn wsL_law wsX3_why := goodIn_r _ [216, 21, 217, 218, 219, 78, 79, 2, 80, 385, 386, 387, 388, 389, 390, 391, 397, 398, 399] (by decide +kernel) (by decide +kernel)
set_option maxRecDepth 20000 in
theorem gL_law_X3_why : GoodIn wsL_law (wsV RL 54 RX3 yX3_why wsX3_why) := goodIn_app (goodIn_of _ (by decide +kernel)) ggL_law_X3_why
set_option maxRecDepth 20000 in
theorem ggL_law_X3_knee : GoodIn wsL_law wsX3_knee := goodIn_r _ [223, 17, 224, 225, 226, 16, 227, 34, 228, 229, 230, 231, 31, 32, 232, 178, 99, 179, 385, 386, 387, 388, 389, 390, 391, 392, 393, 394, 395, 396] (by decide +kernel) (by decide +kernel)
set_option maxRecDepth 20000 in
theorem gL_law_X3_knee : GoodIn wsL_law (wsV RL 88 RX3 yX3_knee wsX3_knee) := goodIn_app (goodIn_of _ (by decide +kernel)) ggL_law_X3_knee
set_option maxRecDepth 20000 in
theorem ggL_law_X3_fit : GoodIn wsL_law wsX3_fit := goodIn_r _ [236, 17, 237, 224, 225, 226, 16, 227, 34, 78, 79, 2, 80, 238, 239, 240, 241, 31, 32, 242, 243, 244, 245, 246, 247, 248, 249, 250, 251, 232, 178, 99, 179, 252, 253, 254, 385, 386, 387, 388, 389, 390, 391, 392, 393, 394, 395, 396] (by decide +kernel) (by decide +kernel)
set_option maxRecDepth 20000 in
theorem gL_law_X3_fit : GoodIn wsL_law (wsV RL 75 RX3 yX3_fit wsX3_fit) := goodIn_app (goodIn_of _ (by decide +kernel)) ggL_law_X3_fit
set_option maxRecDepth 20000 in
theorem ggL_law_X3_clear : GoodIn wsL_law wsX3_clear := goodIn_r _ [258, 17, 150, 385, 386, 387, 388, 389, 390, 391, 392, 393, 394, 395, 396] (by decide +kernel) (by decide +kernel)
set_option maxRecDepth 20000 in
theorem gL_law_X3_clear : GoodIn wsL_law (wsV RL 43 RX3 yX3_clear wsX3_clear) := goodIn_app (goodIn_of _ (by decide +kernel)) ggL_law_X3_clear
set_option maxRecDepth 20000 in
theorem ggL_law_L_cell : GoodIn wsL_law wsL_cell := goodIn_r _ [262, 263] (by decide +kernel) (by decide +kernel)
set_option maxRecDepth 20000 in
theorem gL_law_L_cell : GoodIn wsL_law (va_wsS RL 91 yL_cell wsL_cell) := goodIn_app (goodIn_of _ (by decide +kernel)) ggL_law_L_cell
set_option maxRecDepth 20000 in
theorem ggL_law_L_both : GoodIn wsL_law wsL_both := goodIn_r _ [266, 267, 268, 261, 269, 270, 271, 272, 273, 2, 274, 22, 11, 52, 78, 79, 80, 275, 276, 277, 26, 278, 279, 119, 125, 280, 281, 124, 118, 126, 128, 127, 188, 117, 282, 283, 284, 285, 89, 90, 91, 92, 286, 287, 288, 289, 290, 291, 292, 293, 294, 295, 296, 297, 298, 385, 386, 387, 388, 389, 390, 391, 400, 401, 402, 403, 404, 405, 406, 407, 408, 409, 410, 411] (by decide +kernel) (by decide +kernel)
set_option maxRecDepth 20000 in
theorem gL_law_L_both : GoodIn wsL_law (va_wsS RL 95 yL_both wsL_both) := goodIn_app (goodIn_of _ (by decide +kernel)) ggL_law_L_both
set_option maxRecDepth 20000 in
theorem ggL_law_X3_ofPart : GoodIn wsL_law wsX3_ofPart := goodIn_r _ [302, 68, 69, 303, 201, 304, 163, 89, 90, 91, 2, 92, 11, 52, 78, 79, 80, 291, 292, 293, 26, 294, 126, 128, 127, 188, 117, 400, 401, 402, 403, 404, 405, 406, 407, 408, 409, 410, 411, 385, 386, 387, 388, 389, 390, 391] (by decide +kernel) (by decide +kernel)
set_option maxRecDepth 20000 in
theorem gL_law_X3_ofPart : GoodIn wsL_law (wsV RL 18 RX3 yX3_ofPart wsX3_ofPart) := goodIn_app (goodIn_of _ (by decide +kernel)) ggL_law_X3_ofPart
set_option maxRecDepth 20000 in
theorem ggL_law_X3_pins : GoodIn wsL_law wsX3_pins := goodIn_r _ [308, 13, 78, 79, 2, 80, 385, 386, 387, 388, 389, 390, 391] (by decide +kernel) (by decide +kernel)
set_option maxRecDepth 20000 in
theorem gL_law_X3_pins : GoodIn wsL_law (wsV RL 15 RX3 yX3_pins wsX3_pins) := goodIn_app (goodIn_of _ (by decide +kernel)) ggL_law_X3_pins
set_option maxRecDepth 20000 in
theorem ggL_law_X3_relay : GoodIn wsL_law wsX3_relay := goodIn_r _ [312, 22, 13, 78, 79, 2, 80, 313, 314, 315, 316, 385, 386, 387, 388, 389, 390, 391] (by decide +kernel) (by decide +kernel)
set_option maxRecDepth 20000 in
theorem gL_law_X3_relay : GoodIn wsL_law (wsV RL 99 RX3 yX3_relay wsX3_relay) := goodIn_app (goodIn_of _ (by decide +kernel)) ggL_law_X3_relay
set_option maxRecDepth 20000 in
theorem ggL_law_L_low : GoodIn wsL_law wsL_low := goodIn_r _ [269, 270] (by decide +kernel) (by decide +kernel)
set_option maxRecDepth 20000 in
theorem gL_law_L_low : GoodIn wsL_law (va_wsS RL 57 yL_low wsL_low) := goodIn_app (goodIn_of _ (by decide +kernel)) ggL_law_L_low
set_option maxRecDepth 20000 in
theorem ggL_law_X3_limit : GoodIn wsL_law wsX3_limit := goodIn_r _ [320, 23, 78, 79, 2, 80, 385, 386, 387, 388, 389, 390, 391] (by decide +kernel) (by decide +kernel)
set_option maxRecDepth 20000 in
theorem gL_law_X3_limit : GoodIn wsL_law (wsV RL 102 RX3 yX3_limit wsX3_limit) := goodIn_app (goodIn_of _ (by decide +kernel)) ggL_law_X3_limit
set_option maxRecDepth 20000 in
theorem ggL_law_X3_leads : GoodIn wsL_law wsX3_leads := goodIn_r _ [324, 24, 78, 79, 2, 80, 385, 386, 387, 388, 389, 390, 391] (by decide +kernel) (by decide +kernel)
set_option maxRecDepth 20000 in
theorem gL_law_X3_leads : GoodIn wsL_law (wsV RL 105 RX3 yX3_leads wsX3_leads) := goodIn_app (goodIn_of _ (by decide +kernel)) ggL_law_X3_leads
set_option maxRecDepth 20000 in
theorem ggL_law_X3_part : GoodIn wsL_law wsX3_part := goodIn_r _ [274, 22, 11, 52, 78, 79, 2, 80, 275, 276, 277, 26, 278, 279, 119, 125, 280, 281, 124, 118, 126, 128, 127, 188, 117, 385, 386, 387, 388, 389, 390, 391, 400, 401, 402, 403, 404, 405, 406, 407, 408, 409, 410, 411] (by decide +kernel) (by decide +kernel)
set_option maxRecDepth 20000 in
theorem gL_law_X3_part : GoodIn wsL_law (wsV RL 67 RX3 yX3_part wsX3_part) := goodIn_app (goodIn_of _ (by decide +kernel)) ggL_law_X3_part
set_option maxRecDepth 20000 in
theorem ggL_law_X3_remove : GoodIn wsL_law wsX3_remove := goodIn_r _ [328, 22, 52, 89, 90, 91, 2, 92, 11, 78, 79, 80, 385, 386, 387, 388, 389, 390, 391, 400, 401, 402, 403, 404, 405, 406, 407, 408, 409, 410, 411] (by decide +kernel) (by decide +kernel)
set_option maxRecDepth 20000 in
theorem gL_law_X3_remove : GoodIn wsL_law (wsV RL 108 RX3 yX3_remove wsX3_remove) := goodIn_app (goodIn_of _ (by decide +kernel)) ggL_law_X3_remove
set_option maxRecDepth 20000 in
theorem ggL_law_L_sweep : GoodIn wsL_law wsL_sweep := goodIn_r _ [331, 267, 268, 261, 269, 270, 255, 256, 257, 2, 258, 17, 150, 332, 333, 334, 335, 336, 337, 338, 22, 97, 98, 99, 100, 21, 86, 87, 88, 78, 79, 80, 48, 49, 50, 51, 11, 52, 53, 54, 55, 56, 13, 57, 58, 59, 60, 61, 62, 63, 64, 65, 66, 67, 68, 69, 89, 90, 91, 92, 151, 152, 153, 16, 154, 34, 155, 156, 157, 20, 158, 40, 159, 160, 161, 162, 163, 93, 94, 95, 96, 101, 102, 103, 104, 23, 105, 106, 107, 108, 109, 110, 111, 112, 113, 114, 115, 26, 116, 117, 118, 119, 120, 121, 122, 123, 124, 125, 126, 127, 128, 129, 130, 131, 132, 70, 71, 72, 73, 133, 134, 135, 136, 24, 137, 164, 165, 166, 167, 138, 139, 140, 141, 142, 143, 144, 145, 168, 169, 170, 171, 30, 31, 32, 33, 172, 173, 174, 175, 176, 177, 178, 179, 180, 181, 182, 183, 184, 185, 186, 187, 188, 193, 194, 195, 196, 38, 39, 189, 190, 191, 192, 205, 206, 207, 208, 209, 210, 211, 212, 339, 340, 341, 342, 343, 344, 345, 346, 304, 347, 348, 349, 350, 351, 352, 353, 354, 44, 45, 46, 47, 299, 300, 301, 302, 303, 201, 291, 292, 293, 294, 146, 147, 148, 149, 197, 198, 199, 200, 202, 203, 204, 213, 214, 215, 216, 217, 218, 219, 355, 356, 357, 358, 359, 360, 361, 85, 362, 224, 225, 226, 227, 385, 386, 387, 388, 389, 390, 391, 392, 393, 394, 395, 396, 400, 401, 402, 403, 404, 405, 406, 407, 408, 409, 410, 411, 397, 398, 399] (by decide +kernel) (by decide +kernel)
set_option maxRecDepth 20000 in
theorem gL_law_L_sweep : GoodIn wsL_law (va_wsS RL 111 yL_sweep wsL_sweep) := goodIn_app (goodIn_of _ (by decide +kernel)) ggL_law_L_sweep
set_option maxRecDepth 20000 in
theorem ggL_law_X3_many : GoodIn wsL_law wsX3_many := goodIn_r _ [342, 17, 150, 343, 344, 345, 2, 346, 11, 52, 304, 347, 348, 349, 350, 13, 57, 58, 59, 60, 61, 62, 63, 351, 352, 353, 16, 354, 34, 33, 385, 386, 387, 388, 389, 390, 391, 392, 393, 394, 395, 396, 400, 401, 402, 403, 404, 405, 406, 407, 408, 409, 410, 411] (by decide +kernel) (by decide +kernel)
set_option maxRecDepth 20000 in
theorem gL_law_X3_many : GoodIn wsL_law (wsV RL 37 RX3 yX3_many wsX3_many) := goodIn_app (goodIn_of _ (by decide +kernel)) ggL_law_X3_many
set_option maxRecDepth 20000 in
theorem ggL_law_L_fits : GoodIn wsL_law wsL_fits := goodIn_r _ [365, 3, 366, 233, 234, 235, 2, 236, 17, 237, 224, 225, 226, 16, 227, 34, 78, 79, 80, 238, 239, 240, 241, 31, 32, 242, 243, 244, 245, 246, 247, 248, 249, 250, 251, 232, 178, 99, 179, 252, 253, 254, 355, 356, 357, 358, 359, 360, 361, 85, 362, 367, 368, 261, 369, 385, 386, 387, 388, 389, 390, 391, 392, 393, 394, 395, 396] (by decide +kernel) (by decide +kernel)
set_option maxRecDepth 20000 in
theorem gL_law_L_fits : GoodIn wsL_law (va_wsS RL 114 yL_fits wsL_fits) := goodIn_app (goodIn_of _ (by decide +kernel)) ggL_law_L_fits
set_option maxRecDepth 20000 in
theorem ggL_law_L_found : GoodIn wsL_law wsL_found := goodIn_r _ [372, 366, 44, 45, 46, 2, 47, 22, 23, 24, 48, 49, 50, 51, 11, 52, 53, 54, 55, 56, 13, 57, 58, 59, 60, 61, 62, 63, 64, 65, 66, 67, 68, 69, 70, 71, 72, 73, 305, 306, 307, 308, 78, 79, 80, 299, 300, 301, 302, 303, 201, 304, 163, 89, 90, 91, 92, 291, 292, 293, 26, 294, 126, 128, 127, 188, 117, 81, 82, 83, 84, 85, 86, 87, 88, 93, 94, 95, 96, 97, 98, 99, 100, 101, 102, 103, 104, 105, 106, 107, 108, 109, 110, 111, 112, 113, 114, 115, 116, 118, 119, 120, 121, 122, 123, 124, 125, 129, 130, 131, 132, 133, 134, 135, 136, 137, 138, 139, 140, 141, 142, 143, 144, 145, 332, 333, 261, 334, 373, 374, 375, 376, 377, 378, 379, 385, 386, 387, 388, 389, 390, 391, 400, 401, 402, 403, 404, 405, 406, 407, 408, 409, 410, 411] (by decide +kernel) (by decide +kernel)
set_option maxRecDepth 20000 in
theorem gL_law_L_found : GoodIn wsL_law (va_wsS RL 118 yL_found wsL_found) := goodIn_app (goodIn_of _ (by decide +kernel)) ggL_law_L_found
set_option maxRecDepth 20000 in
theorem ggL_law_L_pulse : GoodIn wsL_law wsL_pulse := goodIn_r _ [382, 366, 383, 384, 44, 45, 46, 2, 47, 22, 23, 24, 48, 49, 50, 51, 11, 52, 53, 54, 55, 56, 13, 57, 58, 59, 60, 61, 62, 63, 64, 65, 66, 67, 68, 69, 70, 71, 72, 73, 339, 340, 341, 342, 17, 150, 343, 344, 345, 346, 304, 347, 348, 349, 350, 351, 352, 353, 16, 354, 34, 33, 146, 147, 148, 149, 21, 86, 87, 88, 78, 79, 80, 89, 90, 91, 92, 151, 152, 153, 154, 155, 156, 157, 20, 158, 40, 159, 160, 161, 162, 163, 93, 94, 95, 96, 97, 98, 99, 100, 101, 102, 103, 104, 105, 106, 107, 108, 109, 110, 111, 112, 113, 114, 115, 26, 116, 117, 118, 119, 120, 121, 122, 123, 124, 125, 126, 127, 128, 129, 130, 131, 132, 133, 134, 135, 136, 137, 164, 165, 166, 167, 138, 139, 140, 141, 142, 143, 144, 145, 168, 169, 170, 171, 30, 31, 32, 172, 173, 174, 175, 176, 177, 178, 179, 180, 181, 182, 183, 184, 185, 186, 187, 188, 189, 190, 191, 192, 193, 194, 195, 196, 38, 39, 255, 256, 257, 258, 305, 306, 307, 308, 299, 300, 301, 302, 303, 201, 291, 292, 293, 294, 81, 82, 83, 84, 85, 355, 356, 357, 358, 359, 360, 361, 362, 224, 225, 226, 227, 332, 333, 261, 334, 377, 378, 379, 213, 214, 215, 216, 217, 218, 219, 385, 386, 387, 388, 389, 390, 391, 400, 401, 402, 403, 404, 405, 406, 407, 408, 409, 410, 411, 392, 393, 394, 395, 396, 397, 398, 399] (by decide +kernel) (by decide +kernel)
set_option maxRecDepth 20000 in
theorem gL_law_L_pulse : GoodIn wsL_law (va_wsS RL 122 yL_pulse wsL_pulse) := goodIn_app (goodIn_of _ (by decide +kernel)) ggL_law_L_pulse
set_option maxRecDepth 20000 in
theorem ggL_law_X3_set : GoodIn wsL_law wsX3_set := goodIn_r _ [285, 89, 90, 91, 2, 92, 11, 52, 78, 79, 80, 286, 287, 26, 288, 289, 290, 291, 292, 293, 294, 126, 128, 127, 188, 117, 295, 296, 297, 298, 385, 386, 387, 388, 389, 390, 391, 400, 401, 402, 403, 404, 405, 406, 407, 408, 409, 410, 411] (by decide +kernel) (by decide +kernel)
set_option maxRecDepth 20000 in
theorem gL_law_X3_set : GoodIn wsL_law (wsV RL 71 RX3 yX3_set wsX3_set) := goodIn_app (goodIn_of _ (by decide +kernel)) ggL_law_X3_set
set_option maxRecDepth 20000 in
theorem ggL_law_X3_sweep : GoodIn wsL_law wsX3_sweep := goodIn_r _ [338, 22, 97, 98, 99, 100, 17, 21, 86, 87, 2, 88, 78, 79, 80, 48, 49, 50, 51, 11, 52, 53, 54, 55, 56, 13, 57, 58, 59, 60, 61, 62, 63, 64, 65, 66, 67, 68, 69, 89, 90, 91, 92, 151, 152, 153, 16, 154, 34, 155, 156, 157, 20, 158, 40, 159, 160, 161, 162, 163, 93, 94, 95, 96, 101, 102, 103, 104, 23, 105, 106, 107, 108, 109, 110, 111, 112, 113, 114, 115, 26, 116, 117, 118, 119, 120, 121, 122, 123, 124, 125, 126, 127, 128, 129, 130, 131, 132, 70, 71, 72, 73, 133, 134, 135, 136, 24, 137, 164, 165, 166, 167, 138, 139, 140, 141, 142, 143, 144, 145, 168, 169, 170, 171, 30, 31, 32, 33, 172, 173, 174, 175, 176, 177, 178, 179, 180, 181, 182, 183, 184, 185, 186, 187, 188, 193, 194, 195, 196, 38, 39, 189, 190, 191, 192, 205, 206, 207, 208, 209, 210, 211, 212, 385, 386, 387, 388, 389, 390, 391, 400, 401, 402, 403, 404, 405, 406, 407, 408, 409, 410, 411, 392, 393, 394, 395, 396, 397, 398, 399] (by decide +kernel) (by decide +kernel)
set_option maxRecDepth 20000 in
theorem gL_law_X3_sweep : GoodIn wsL_law (wsV RL 60 RX3 yX3_sweep wsX3_sweep) := goodIn_app (goodIn_of _ (by decide +kernel)) ggL_law_X3_sweep
set_option maxRecDepth 20000 in
theorem ggL_law_X3_amps : GoodIn wsL_law wsX3_amps := goodIn_r _ [376, 85, 89, 90, 91, 2, 92, 11, 52, 78, 79, 80, 86, 87, 88, 113, 114, 115, 26, 116, 117, 118, 119, 120, 121, 122, 123, 124, 125, 126, 127, 128, 129, 130, 131, 132, 385, 386, 387, 388, 389, 390, 391, 400, 401, 402, 403, 404, 405, 406, 407, 408, 409, 410, 411] (by decide +kernel) (by decide +kernel)
set_option maxRecDepth 20000 in
theorem gL_law_X3_amps : GoodIn wsL_law (wsV RL 31 RX3 yX3_amps wsX3_amps) := goodIn_app (goodIn_of _ (by decide +kernel)) ggL_law_X3_amps
theorem dL_law_0 : decode cL_law 0 = .ok (.new 10, 3) := by decide +kernel
theorem dL_law_3 : decode cL_law 3 = .ok (.dup, 1) := by decide +kernel
theorem dL_law_4 : decode cL_law 4 = .ok (.invokespecial 84, 3) := by decide +kernel
theorem dL_law_7 : decode cL_law 7 = .ok (.astore_n 1, 1) := by decide +kernel
theorem dL_law_8 : decode cL_law 8 = .ok (.new 10, 3) := by decide +kernel
theorem dL_law_11 : decode cL_law 11 = .ok (.dup, 1) := by decide +kernel
theorem dL_law_12 : decode cL_law 12 = .ok (.invokespecial 84, 3) := by decide +kernel
theorem dL_law_15 : decode cL_law 15 = .ok (.astore_n 2, 1) := by decide +kernel
theorem dL_law_16 : decode cL_law 16 = .ok (.aload_n 1, 1) := by decide +kernel
theorem dL_law_17 : decode cL_law 17 = .ok (.iconst 0, 1) := by decide +kernel
theorem dL_law_18 : decode cL_law 18 = .ok (.invokevirtual 9, 3) := by decide +kernel
theorem dL_law_21 : decode cL_law 21 = .ok (.bipush (-9), 2) := by decide +kernel
theorem dL_law_23 : decode cL_law 23 = .ok (.if_icmp .ne 94, 3) := by decide +kernel
theorem dL_law_26 : decode cL_law 26 = .ok (.aload_n 1, 1) := by decide +kernel
theorem dL_law_27 : decode cL_law 27 = .ok (.iconst 1, 1) := by decide +kernel
theorem dL_law_28 : decode cL_law 28 = .ok (.invokevirtual 9, 3) := by decide +kernel
theorem dL_law_31 : decode cL_law 31 = .ok (.iconst 2, 1) := by decide +kernel
theorem dL_law_32 : decode cL_law 32 = .ok (.if_icmp .ne 85, 3) := by decide +kernel
theorem dL_law_35 : decode cL_law 35 = .ok (.aload_n 1, 1) := by decide +kernel
theorem dL_law_36 : decode cL_law 36 = .ok (.iconst 1, 1) := by decide +kernel
theorem dL_law_37 : decode cL_law 37 = .ok (.invokevirtual 85, 3) := by decide +kernel
theorem dL_law_40 : decode cL_law 40 = .ok (.bipush (-3), 2) := by decide +kernel
theorem dL_law_42 : decode cL_law 42 = .ok (.if_icmp .ne 75, 3) := by decide +kernel
theorem dL_law_45 : decode cL_law 45 = .ok (.aload_n 1, 1) := by decide +kernel
theorem dL_law_46 : decode cL_law 46 = .ok (.iconst 0, 1) := by decide +kernel
theorem dL_law_47 : decode cL_law 47 = .ok (.iconst 0, 1) := by decide +kernel
theorem dL_law_48 : decode cL_law 48 = .ok (.invokevirtual 22, 3) := by decide +kernel
theorem dL_law_51 : decode cL_law 51 = .ok (.bipush (-3), 2) := by decide +kernel
theorem dL_law_53 : decode cL_law 53 = .ok (.if_icmp .ne 64, 3) := by decide +kernel
theorem dL_law_56 : decode cL_law 56 = .ok (.aload_n 1, 1) := by decide +kernel
theorem dL_law_57 : decode cL_law 57 = .ok (.iconst 0, 1) := by decide +kernel
theorem dL_law_58 : decode cL_law 58 = .ok (.iconst 1, 1) := by decide +kernel
theorem dL_law_59 : decode cL_law 59 = .ok (.invokevirtual 40, 3) := by decide +kernel
theorem dL_law_62 : decode cL_law 62 = .ok (.bipush (-3), 2) := by decide +kernel
theorem dL_law_64 : decode cL_law 64 = .ok (.if_icmp .ne 53, 3) := by decide +kernel
theorem dL_law_67 : decode cL_law 67 = .ok (.aload_n 1, 1) := by decide +kernel
theorem dL_law_68 : decode cL_law 68 = .ok (.iconst 5, 1) := by decide +kernel
theorem dL_law_69 : decode cL_law 69 = .ok (.invokevirtual 64, 3) := by decide +kernel
theorem dL_law_72 : decode cL_law 72 = .ok (.ifCond .ne 45, 3) := by decide +kernel
theorem dL_law_75 : decode cL_law 75 = .ok (.aload_n 1, 1) := by decide +kernel
theorem dL_law_76 : decode cL_law 76 = .ok (.iconst 0, 1) := by decide +kernel
theorem dL_law_77 : decode cL_law 77 = .ok (.iconst 0, 1) := by decide +kernel
theorem dL_law_78 : decode cL_law 78 = .ok (.invokevirtual 54, 3) := by decide +kernel
theorem dL_law_81 : decode cL_law 81 = .ok (.bipush (-9), 2) := by decide +kernel
theorem dL_law_83 : decode cL_law 83 = .ok (.if_icmp .ne 34, 3) := by decide +kernel
theorem dL_law_86 : decode cL_law 86 = .ok (.aload_n 1, 1) := by decide +kernel
theorem dL_law_87 : decode cL_law 87 = .ok (.iconst 0, 1) := by decide +kernel
theorem dL_law_88 : decode cL_law 88 = .ok (.iconst 0, 1) := by decide +kernel
theorem dL_law_89 : decode cL_law 89 = .ok (.invokevirtual 88, 3) := by decide +kernel
theorem dL_law_92 : decode cL_law 92 = .ok (.iconst (-1), 1) := by decide +kernel
theorem dL_law_93 : decode cL_law 93 = .ok (.if_icmp .ne 24, 3) := by decide +kernel
theorem dL_law_96 : decode cL_law 96 = .ok (.aload_n 1, 1) := by decide +kernel
theorem dL_law_97 : decode cL_law 97 = .ok (.iconst 0, 1) := by decide +kernel
theorem dL_law_98 : decode cL_law 98 = .ok (.iconst 0, 1) := by decide +kernel
theorem dL_law_99 : decode cL_law 99 = .ok (.iconst 0, 1) := by decide +kernel
theorem dL_law_100 : decode cL_law 100 = .ok (.invokevirtual 75, 3) := by decide +kernel
theorem dL_law_103 : decode cL_law 103 = .ok (.ldc2_w 79, 3) := by decide +kernel
theorem dL_law_106 : decode cL_law 106 = .ok (.lcmp, 1) := by decide +kernel
theorem dL_law_107 : decode cL_law 107 = .ok (.ifCond .ne 10, 3) := by decide +kernel
theorem dL_law_110 : decode cL_law 110 = .ok (.aload_n 1, 1) := by decide +kernel
theorem dL_law_111 : decode cL_law 111 = .ok (.invokevirtual 43, 3) := by decide +kernel
theorem dL_law_114 : decode cL_law 114 = .ok (.ifCond .eq 5, 3) := by decide +kernel
theorem dL_law_117 : decode cL_law 117 = .ok (.iconst 0, 1) := by decide +kernel
theorem dL_law_118 : decode cL_law 118 = .ok (.ireturn, 1) := by decide +kernel
theorem dL_law_119 : decode cL_law 119 = .ok (.iconst 0, 1) := by decide +kernel
theorem dL_law_120 : decode cL_law 120 = .ok (.istore_n 3, 1) := by decide +kernel
theorem dL_law_121 : decode cL_law 121 = .ok (.iload_n 3, 1) := by decide +kernel
theorem dL_law_122 : decode cL_law 122 = .ok (.iconst 4, 1) := by decide +kernel
theorem dL_law_123 : decode cL_law 123 = .ok (.if_icmp .ge 25, 3) := by decide +kernel
theorem dL_law_126 : decode cL_law 126 = .ok (.aload_n 1, 1) := by decide +kernel
theorem dL_law_127 : decode cL_law 127 = .ok (.aload_n 2, 1) := by decide +kernel
theorem dL_law_128 : decode cL_law 128 = .ok (.aload_n 0, 1) := by decide +kernel
theorem dL_law_129 : decode cL_law 129 = .ok (.iload_n 3, 1) := by decide +kernel
theorem dL_law_130 : decode cL_law 130 = .ok (.invokestatic 91, 3) := by decide +kernel
theorem dL_law_133 : decode cL_law 133 = .ok (.iload_n 3, 1) := by decide +kernel
theorem dL_law_134 : decode cL_law 134 = .ok (.invokestatic 95, 3) := by decide +kernel
theorem dL_law_137 : decode cL_law 137 = .ok (.ifCond .ne 5, 3) := by decide +kernel
theorem dL_law_140 : decode cL_law 140 = .ok (.iconst 0, 1) := by decide +kernel
theorem dL_law_141 : decode cL_law 141 = .ok (.ireturn, 1) := by decide +kernel
theorem dL_law_142 : decode cL_law 142 = .ok (.iinc 3 1, 3) := by decide +kernel
theorem dL_law_145 : decode cL_law 145 = .ok (.goto (-24), 3) := by decide +kernel
theorem dL_law_148 : decode cL_law 148 = .ok (.iconst 0, 1) := by decide +kernel
theorem dL_law_149 : decode cL_law 149 = .ok (.istore_n 3, 1) := by decide +kernel
theorem dL_law_150 : decode cL_law 150 = .ok (.iload_n 3, 1) := by decide +kernel
theorem dL_law_151 : decode cL_law 151 = .ok (.iconst 3, 1) := by decide +kernel
theorem dL_law_152 : decode cL_law 152 = .ok (.if_icmp .ge 723, 3) := by decide +kernel
theorem dL_law_155 : decode cL_law 155 = .ok (.aload_n 0, 1) := by decide +kernel
theorem dL_law_156 : decode cL_law 156 = .ok (.bipush 8, 2) := by decide +kernel
theorem dL_law_158 : decode cL_law 158 = .ok (.bipush 20, 2) := by decide +kernel
theorem dL_law_160 : decode cL_law 160 = .ok (.iload_n 3, 1) := by decide +kernel
theorem dL_law_161 : decode cL_law 161 = .ok (.imul, 1) := by decide +kernel
theorem dL_law_162 : decode cL_law 162 = .ok (.iadd, 1) := by decide +kernel
theorem dL_law_163 : decode cL_law 163 = .ok (.invokestatic 91, 3) := by decide +kernel
theorem dL_law_166 : decode cL_law 166 = .ok (.istore 4, 2) := by decide +kernel
theorem dL_law_168 : decode cL_law 168 = .ok (.iload 4, 2) := by decide +kernel
theorem dL_law_170 : decode cL_law 170 = .ok (.iconst 3, 1) := by decide +kernel
theorem dL_law_171 : decode cL_law 171 = .ok (.iand, 1) := by decide +kernel
theorem dL_law_172 : decode cL_law 172 = .ok (.istore 5, 2) := by decide +kernel
theorem dL_law_174 : decode cL_law 174 = .ok (.iload 4, 2) := by decide +kernel
theorem dL_law_176 : decode cL_law 176 = .ok (.iconst 2, 1) := by decide +kernel
theorem dL_law_177 : decode cL_law 177 = .ok (.ishr, 1) := by decide +kernel
theorem dL_law_178 : decode cL_law 178 = .ok (.iconst 1, 1) := by decide +kernel
theorem dL_law_179 : decode cL_law 179 = .ok (.iand, 1) := by decide +kernel
theorem dL_law_180 : decode cL_law 180 = .ok (.ifCond .ne 13, 3) := by decide +kernel
theorem dL_law_183 : decode cL_law 183 = .ok (.aload_n 1, 1) := by decide +kernel
theorem dL_law_184 : decode cL_law 184 = .ok (.iload 5, 2) := by decide +kernel
theorem dL_law_186 : decode cL_law 186 = .ok (.iconst 0, 1) := by decide +kernel
theorem dL_law_187 : decode cL_law 187 = .ok (.invokevirtual 18, 3) := by decide +kernel
theorem dL_law_190 : decode cL_law 190 = .ok (.goto 10, 3) := by decide +kernel
theorem dL_law_193 : decode cL_law 193 = .ok (.aload_n 1, 1) := by decide +kernel
theorem dL_law_194 : decode cL_law 194 = .ok (.iload 5, 2) := by decide +kernel
theorem dL_law_196 : decode cL_law 196 = .ok (.iconst 1, 1) := by decide +kernel
theorem dL_law_197 : decode cL_law 197 = .ok (.invokevirtual 18, 3) := by decide +kernel
theorem dL_law_200 : decode cL_law 200 = .ok (.istore 6, 2) := by decide +kernel
theorem dL_law_202 : decode cL_law 202 = .ok (.iload 4, 2) := by decide +kernel
theorem dL_law_204 : decode cL_law 204 = .ok (.iconst 2, 1) := by decide +kernel
theorem dL_law_205 : decode cL_law 205 = .ok (.ishr, 1) := by decide +kernel
theorem dL_law_206 : decode cL_law 206 = .ok (.iconst 1, 1) := by decide +kernel
theorem dL_law_207 : decode cL_law 207 = .ok (.iand, 1) := by decide +kernel
theorem dL_law_208 : decode cL_law 208 = .ok (.ifCond .ne 13, 3) := by decide +kernel
theorem dL_law_211 : decode cL_law 211 = .ok (.aload_n 1, 1) := by decide +kernel
theorem dL_law_212 : decode cL_law 212 = .ok (.iload 5, 2) := by decide +kernel
theorem dL_law_214 : decode cL_law 214 = .ok (.iconst 1, 1) := by decide +kernel
theorem dL_law_215 : decode cL_law 215 = .ok (.invokevirtual 18, 3) := by decide +kernel
theorem dL_law_218 : decode cL_law 218 = .ok (.goto 10, 3) := by decide +kernel
theorem dL_law_221 : decode cL_law 221 = .ok (.aload_n 1, 1) := by decide +kernel
theorem dL_law_222 : decode cL_law 222 = .ok (.iload 5, 2) := by decide +kernel
theorem dL_law_224 : decode cL_law 224 = .ok (.iconst 0, 1) := by decide +kernel
theorem dL_law_225 : decode cL_law 225 = .ok (.invokevirtual 18, 3) := by decide +kernel
theorem dL_law_228 : decode cL_law 228 = .ok (.istore 7, 2) := by decide +kernel
theorem dL_law_230 : decode cL_law 230 = .ok (.iload 4, 2) := by decide +kernel
theorem dL_law_232 : decode cL_law 232 = .ok (.iconst 3, 1) := by decide +kernel
theorem dL_law_233 : decode cL_law 233 = .ok (.ishr, 1) := by decide +kernel
theorem dL_law_234 : decode cL_law 234 = .ok (.iconst 1, 1) := by decide +kernel
theorem dL_law_235 : decode cL_law 235 = .ok (.iand, 1) := by decide +kernel
theorem dL_law_236 : decode cL_law 236 = .ok (.istore 8, 2) := by decide +kernel
theorem dL_law_238 : decode cL_law 238 = .ok (.iconst 0, 1) := by decide +kernel
theorem dL_law_239 : decode cL_law 239 = .ok (.istore 9, 2) := by decide +kernel
theorem dL_law_241 : decode cL_law 241 = .ok (.iload 9, 2) := by decide +kernel
theorem dL_law_243 : decode cL_law 243 = .ok (.iconst 4, 1) := by decide +kernel
theorem dL_law_244 : decode cL_law 244 = .ok (.if_icmp .ge 68, 3) := by decide +kernel
theorem dL_law_247 : decode cL_law 247 = .ok (.iconst 0, 1) := by decide +kernel
theorem dL_law_248 : decode cL_law 248 = .ok (.istore 10, 2) := by decide +kernel
theorem dL_law_250 : decode cL_law 250 = .ok (.iload 10, 2) := by decide +kernel
theorem dL_law_252 : decode cL_law 252 = .ok (.bipush 8, 2) := by decide +kernel
theorem dL_law_254 : decode cL_law 254 = .ok (.if_icmp .ge 52, 3) := by decide +kernel
theorem dL_law_257 : decode cL_law 257 = .ok (.aload_n 1, 1) := by decide +kernel
theorem dL_law_258 : decode cL_law 258 = .ok (.iload 9, 2) := by decide +kernel
theorem dL_law_260 : decode cL_law 260 = .ok (.invokevirtual 15, 3) := by decide +kernel
theorem dL_law_263 : decode cL_law 263 = .ok (.iload 10, 2) := by decide +kernel
theorem dL_law_265 : decode cL_law 265 = .ok (.ishr, 1) := by decide +kernel
theorem dL_law_266 : decode cL_law 266 = .ok (.iconst 1, 1) := by decide +kernel
theorem dL_law_267 : decode cL_law 267 = .ok (.iand, 1) := by decide +kernel
theorem dL_law_268 : decode cL_law 268 = .ok (.iconst 1, 1) := by decide +kernel
theorem dL_law_269 : decode cL_law 269 = .ok (.if_icmp .ne 31, 3) := by decide +kernel
theorem dL_law_272 : decode cL_law 272 = .ok (.aload_n 1, 1) := by decide +kernel
theorem dL_law_273 : decode cL_law 273 = .ok (.iload 9, 2) := by decide +kernel
theorem dL_law_275 : decode cL_law 275 = .ok (.iload 10, 2) := by decide +kernel
theorem dL_law_277 : decode cL_law 277 = .ok (.iconst 0, 1) := by decide +kernel
theorem dL_law_278 : decode cL_law 278 = .ok (.invokevirtual 99, 3) := by decide +kernel
theorem dL_law_281 : decode cL_law 281 = .ok (.iconst 1, 1) := by decide +kernel
theorem dL_law_282 : decode cL_law 282 = .ok (.if_icmp .ne 16, 3) := by decide +kernel
theorem dL_law_285 : decode cL_law 285 = .ok (.aload_n 2, 1) := by decide +kernel
theorem dL_law_286 : decode cL_law 286 = .ok (.iload 9, 2) := by decide +kernel
theorem dL_law_288 : decode cL_law 288 = .ok (.iload 10, 2) := by decide +kernel
theorem dL_law_290 : decode cL_law 290 = .ok (.iconst 0, 1) := by decide +kernel
theorem dL_law_291 : decode cL_law 291 = .ok (.invokevirtual 99, 3) := by decide +kernel
theorem dL_law_294 : decode cL_law 294 = .ok (.iconst 1, 1) := by decide +kernel
theorem dL_law_295 : decode cL_law 295 = .ok (.if_icmp .eq 5, 3) := by decide +kernel
theorem dL_law_298 : decode cL_law 298 = .ok (.iconst 0, 1) := by decide +kernel
theorem dL_law_299 : decode cL_law 299 = .ok (.ireturn, 1) := by decide +kernel
theorem dL_law_300 : decode cL_law 300 = .ok (.iinc 10 1, 3) := by decide +kernel
theorem dL_law_303 : decode cL_law 303 = .ok (.goto (-53), 3) := by decide +kernel
theorem dL_law_306 : decode cL_law 306 = .ok (.iinc 9 1, 3) := by decide +kernel
theorem dL_law_309 : decode cL_law 309 = .ok (.goto (-68), 3) := by decide +kernel
theorem dL_law_312 : decode cL_law 312 = .ok (.iconst 0, 1) := by decide +kernel
theorem dL_law_313 : decode cL_law 313 = .ok (.istore 9, 2) := by decide +kernel
theorem dL_law_315 : decode cL_law 315 = .ok (.iload 9, 2) := by decide +kernel
theorem dL_law_317 : decode cL_law 317 = .ok (.iconst 2, 1) := by decide +kernel
theorem dL_law_318 : decode cL_law 318 = .ok (.iconst 2, 1) := by decide +kernel
theorem dL_law_319 : decode cL_law 319 = .ok (.iload 8, 2) := by decide +kernel
theorem dL_law_321 : decode cL_law 321 = .ok (.imul, 1) := by decide +kernel
theorem dL_law_322 : decode cL_law 322 = .ok (.iadd, 1) := by decide +kernel
theorem dL_law_323 : decode cL_law 323 = .ok (.if_icmp .ge 51, 3) := by decide +kernel
theorem dL_law_326 : decode cL_law 326 = .ok (.iload 9, 2) := by decide +kernel
theorem dL_law_328 : decode cL_law 328 = .ok (.iconst 2, 1) := by decide +kernel
theorem dL_law_329 : decode cL_law 329 = .ok (.irem, 1) := by decide +kernel
theorem dL_law_330 : decode cL_law 330 = .ok (.ifCond .ne 8, 3) := by decide +kernel
theorem dL_law_333 : decode cL_law 333 = .ok (.iload 6, 2) := by decide +kernel
theorem dL_law_335 : decode cL_law 335 = .ok (.goto 5, 3) := by decide +kernel
theorem dL_law_338 : decode cL_law 338 = .ok (.iload 7, 2) := by decide +kernel
theorem dL_law_340 : decode cL_law 340 = .ok (.istore 10, 2) := by decide +kernel
theorem dL_law_342 : decode cL_law 342 = .ok (.aload_n 1, 1) := by decide +kernel
theorem dL_law_343 : decode cL_law 343 = .ok (.iload 9, 2) := by decide +kernel
theorem dL_law_345 : decode cL_law 345 = .ok (.iload 10, 2) := by decide +kernel
theorem dL_law_347 : decode cL_law 347 = .ok (.iconst 1, 1) := by decide +kernel
theorem dL_law_348 : decode cL_law 348 = .ok (.invokevirtual 99, 3) := by decide +kernel
theorem dL_law_351 : decode cL_law 351 = .ok (.ifCond .ne 15, 3) := by decide +kernel
theorem dL_law_354 : decode cL_law 354 = .ok (.aload_n 2, 1) := by decide +kernel
theorem dL_law_355 : decode cL_law 355 = .ok (.iload 9, 2) := by decide +kernel
theorem dL_law_357 : decode cL_law 357 = .ok (.iload 10, 2) := by decide +kernel
theorem dL_law_359 : decode cL_law 359 = .ok (.iconst 1, 1) := by decide +kernel
theorem dL_law_360 : decode cL_law 360 = .ok (.invokevirtual 99, 3) := by decide +kernel
theorem dL_law_363 : decode cL_law 363 = .ok (.ifCond .eq 5, 3) := by decide +kernel
theorem dL_law_366 : decode cL_law 366 = .ok (.iconst 0, 1) := by decide +kernel
theorem dL_law_367 : decode cL_law 367 = .ok (.ireturn, 1) := by decide +kernel
theorem dL_law_368 : decode cL_law 368 = .ok (.iinc 9 1, 3) := by decide +kernel
theorem dL_law_371 : decode cL_law 371 = .ok (.goto (-56), 3) := by decide +kernel
theorem dL_law_374 : decode cL_law 374 = .ok (.iconst 1, 1) := by decide +kernel
theorem dL_law_375 : decode cL_law 375 = .ok (.iload 4, 2) := by decide +kernel
theorem dL_law_377 : decode cL_law 377 = .ok (.iconst 4, 1) := by decide +kernel
theorem dL_law_378 : decode cL_law 378 = .ok (.ishr, 1) := by decide +kernel
theorem dL_law_379 : decode cL_law 379 = .ok (.sipush 4000, 3) := by decide +kernel
theorem dL_law_382 : decode cL_law 382 = .ok (.invokestatic 57, 3) := by decide +kernel
theorem dL_law_385 : decode cL_law 385 = .ok (.iadd, 1) := by decide +kernel
theorem dL_law_386 : decode cL_law 386 = .ok (.istore 9, 2) := by decide +kernel
theorem dL_law_388 : decode cL_law 388 = .ok (.iload 4, 2) := by decide +kernel
theorem dL_law_390 : decode cL_law 390 = .ok (.bipush 8, 2) := by decide +kernel
theorem dL_law_392 : decode cL_law 392 = .ok (.ishr, 1) := by decide +kernel
theorem dL_law_393 : decode cL_law 393 = .ok (.iconst 1, 1) := by decide +kernel
theorem dL_law_394 : decode cL_law 394 = .ok (.iand, 1) := by decide +kernel
theorem dL_law_395 : decode cL_law 395 = .ok (.ifCond .ne 7, 3) := by decide +kernel
theorem dL_law_398 : decode cL_law 398 = .ok (.iconst 0, 1) := by decide +kernel
theorem dL_law_399 : decode cL_law 399 = .ok (.goto 14, 3) := by decide +kernel
theorem dL_law_402 : decode cL_law 402 = .ok (.iload 4, 2) := by decide +kernel
theorem dL_law_404 : decode cL_law 404 = .ok (.bipush 9, 2) := by decide +kernel
theorem dL_law_406 : decode cL_law 406 = .ok (.ishr, 1) := by decide +kernel
theorem dL_law_407 : decode cL_law 407 = .ok (.sipush 201, 3) := by decide +kernel
theorem dL_law_410 : decode cL_law 410 = .ok (.invokestatic 57, 3) := by decide +kernel
theorem dL_law_413 : decode cL_law 413 = .ok (.istore 10, 2) := by decide +kernel
theorem dL_law_415 : decode cL_law 415 = .ok (.aload_n 1, 1) := by decide +kernel
theorem dL_law_416 : decode cL_law 416 = .ok (.iconst 1, 1) := by decide +kernel
theorem dL_law_417 : decode cL_law 417 = .ok (.iload 6, 2) := by decide +kernel
theorem dL_law_419 : decode cL_law 419 = .ok (.iconst 1, 1) := by decide +kernel
theorem dL_law_420 : decode cL_law 420 = .ok (.invokevirtual 99, 3) := by decide +kernel
theorem dL_law_423 : decode cL_law 423 = .ok (.bipush (-3), 2) := by decide +kernel
theorem dL_law_425 : decode cL_law 425 = .ok (.if_icmp .ne 126, 3) := by decide +kernel
theorem dL_law_428 : decode cL_law 428 = .ok (.aload_n 1, 1) := by decide +kernel
theorem dL_law_429 : decode cL_law 429 = .ok (.iload 9, 2) := by decide +kernel
theorem dL_law_431 : decode cL_law 431 = .ok (.invokevirtual 102, 3) := by decide +kernel
theorem dL_law_434 : decode cL_law 434 = .ok (.iconst 1, 1) := by decide +kernel
theorem dL_law_435 : decode cL_law 435 = .ok (.if_icmp .lt 116, 3) := by decide +kernel
theorem dL_law_438 : decode cL_law 438 = .ok (.aload_n 2, 1) := by decide +kernel
theorem dL_law_439 : decode cL_law 439 = .ok (.iload 9, 2) := by decide +kernel
theorem dL_law_441 : decode cL_law 441 = .ok (.invokevirtual 102, 3) := by decide +kernel
theorem dL_law_444 : decode cL_law 444 = .ok (.iconst 1, 1) := by decide +kernel
theorem dL_law_445 : decode cL_law 445 = .ok (.if_icmp .lt 106, 3) := by decide +kernel
theorem dL_law_448 : decode cL_law 448 = .ok (.aload_n 1, 1) := by decide +kernel
theorem dL_law_449 : decode cL_law 449 = .ok (.iload 10, 2) := by decide +kernel
theorem dL_law_451 : decode cL_law 451 = .ok (.invokevirtual 105, 3) := by decide +kernel
theorem dL_law_454 : decode cL_law 454 = .ok (.ifCond .lt 97, 3) := by decide +kernel
theorem dL_law_457 : decode cL_law 457 = .ok (.aload_n 2, 1) := by decide +kernel
theorem dL_law_458 : decode cL_law 458 = .ok (.iload 10, 2) := by decide +kernel
theorem dL_law_460 : decode cL_law 460 = .ok (.invokevirtual 105, 3) := by decide +kernel
theorem dL_law_463 : decode cL_law 463 = .ok (.ifCond .lt 88, 3) := by decide +kernel
theorem dL_law_466 : decode cL_law 466 = .ok (.aload_n 1, 1) := by decide +kernel
theorem dL_law_467 : decode cL_law 467 = .ok (.iconst 1, 1) := by decide +kernel
theorem dL_law_468 : decode cL_law 468 = .ok (.invokevirtual 9, 3) := by decide +kernel
theorem dL_law_471 : decode cL_law 471 = .ok (.iconst 2, 1) := by decide +kernel
theorem dL_law_472 : decode cL_law 472 = .ok (.iconst 2, 1) := by decide +kernel
theorem dL_law_473 : decode cL_law 473 = .ok (.iload 8, 2) := by decide +kernel
theorem dL_law_475 : decode cL_law 475 = .ok (.imul, 1) := by decide +kernel
theorem dL_law_476 : decode cL_law 476 = .ok (.iadd, 1) := by decide +kernel
theorem dL_law_477 : decode cL_law 477 = .ok (.if_icmp .ne 74, 3) := by decide +kernel
theorem dL_law_480 : decode cL_law 480 = .ok (.aload_n 1, 1) := by decide +kernel
theorem dL_law_481 : decode cL_law 481 = .ok (.iconst 0, 1) := by decide +kernel
theorem dL_law_482 : decode cL_law 482 = .ok (.invokevirtual 9, 3) := by decide +kernel
theorem dL_law_485 : decode cL_law 485 = .ok (.iload 5, 2) := by decide +kernel
theorem dL_law_487 : decode cL_law 487 = .ok (.if_icmp .gt 64, 3) := by decide +kernel
theorem dL_law_490 : decode cL_law 490 = .ok (.aload_n 1, 1) := by decide +kernel
theorem dL_law_491 : decode cL_law 491 = .ok (.iconst 0, 1) := by decide +kernel
theorem dL_law_492 : decode cL_law 492 = .ok (.invokevirtual 9, 3) := by decide +kernel
theorem dL_law_495 : decode cL_law 495 = .ok (.ifCond .lt 56, 3) := by decide +kernel
theorem dL_law_498 : decode cL_law 498 = .ok (.aload_n 1, 1) := by decide +kernel
theorem dL_law_499 : decode cL_law 499 = .ok (.iconst 1, 1) := by decide +kernel
theorem dL_law_500 : decode cL_law 500 = .ok (.invokevirtual 85, 3) := by decide +kernel
theorem dL_law_503 : decode cL_law 503 = .ok (.ifCond .ne 48, 3) := by decide +kernel
theorem dL_law_506 : decode cL_law 506 = .ok (.aload_n 2, 1) := by decide +kernel
theorem dL_law_507 : decode cL_law 507 = .ok (.iconst 1, 1) := by decide +kernel
theorem dL_law_508 : decode cL_law 508 = .ok (.invokevirtual 85, 3) := by decide +kernel
theorem dL_law_511 : decode cL_law 511 = .ok (.ifCond .ne 40, 3) := by decide +kernel
theorem dL_law_514 : decode cL_law 514 = .ok (.aload_n 1, 1) := by decide +kernel
theorem dL_law_515 : decode cL_law 515 = .ok (.iconst 0, 1) := by decide +kernel
theorem dL_law_516 : decode cL_law 516 = .ok (.iload 6, 2) := by decide +kernel
theorem dL_law_518 : decode cL_law 518 = .ok (.iconst 0, 1) := by decide +kernel
theorem dL_law_519 : decode cL_law 519 = .ok (.invokevirtual 99, 3) := by decide +kernel
theorem dL_law_522 : decode cL_law 522 = .ok (.bipush (-3), 2) := by decide +kernel
theorem dL_law_524 : decode cL_law 524 = .ok (.if_icmp .ne 27, 3) := by decide +kernel
theorem dL_law_527 : decode cL_law 527 = .ok (.aload_n 1, 1) := by decide +kernel
theorem dL_law_528 : decode cL_law 528 = .ok (.iconst 0, 1) := by decide +kernel
theorem dL_law_529 : decode cL_law 529 = .ok (.iconst 0, 1) := by decide +kernel
theorem dL_law_530 : decode cL_law 530 = .ok (.iconst 1, 1) := by decide +kernel
theorem dL_law_531 : decode cL_law 531 = .ok (.iconst 0, 1) := by decide +kernel
theorem dL_law_532 : decode cL_law 532 = .ok (.invokevirtual 67, 3) := by decide +kernel
theorem dL_law_535 : decode cL_law 535 = .ok (.bipush (-3), 2) := by decide +kernel
theorem dL_law_537 : decode cL_law 537 = .ok (.if_icmp .ne 14, 3) := by decide +kernel
theorem dL_law_540 : decode cL_law 540 = .ok (.aload_n 1, 1) := by decide +kernel
theorem dL_law_541 : decode cL_law 541 = .ok (.iload 5, 2) := by decide +kernel
theorem dL_law_543 : decode cL_law 543 = .ok (.invokevirtual 108, 3) := by decide +kernel
theorem dL_law_546 : decode cL_law 546 = .ok (.bipush (-3), 2) := by decide +kernel
theorem dL_law_548 : decode cL_law 548 = .ok (.if_icmp .eq 5, 3) := by decide +kernel
theorem dL_law_551 : decode cL_law 551 = .ok (.iconst 0, 1) := by decide +kernel
theorem dL_law_552 : decode cL_law 552 = .ok (.ireturn, 1) := by decide +kernel
theorem dL_law_553 : decode cL_law 553 = .ok (.aload_n 1, 1) := by decide +kernel
theorem dL_law_554 : decode cL_law 554 = .ok (.aload_n 2, 1) := by decide +kernel
theorem dL_law_555 : decode cL_law 555 = .ok (.aload_n 0, 1) := by decide +kernel
theorem dL_law_556 : decode cL_law 556 = .ok (.bipush 9, 2) := by decide +kernel
theorem dL_law_558 : decode cL_law 558 = .ok (.bipush 20, 2) := by decide +kernel
theorem dL_law_560 : decode cL_law 560 = .ok (.iload_n 3, 1) := by decide +kernel
theorem dL_law_561 : decode cL_law 561 = .ok (.imul, 1) := by decide +kernel
theorem dL_law_562 : decode cL_law 562 = .ok (.iadd, 1) := by decide +kernel
theorem dL_law_563 : decode cL_law 563 = .ok (.invokestatic 91, 3) := by decide +kernel
theorem dL_law_566 : decode cL_law 566 = .ok (.invokestatic 111, 3) := by decide +kernel
theorem dL_law_569 : decode cL_law 569 = .ok (.ifCond .ne 5, 3) := by decide +kernel
theorem dL_law_572 : decode cL_law 572 = .ok (.iconst 0, 1) := by decide +kernel
theorem dL_law_573 : decode cL_law 573 = .ok (.ireturn, 1) := by decide +kernel
theorem dL_law_574 : decode cL_law 574 = .ok (.aload_n 1, 1) := by decide +kernel
theorem dL_law_575 : decode cL_law 575 = .ok (.iconst 1, 1) := by decide +kernel
theorem dL_law_576 : decode cL_law 576 = .ok (.invokevirtual 37, 3) := by decide +kernel
theorem dL_law_579 : decode cL_law 579 = .ok (.istore 11, 2) := by decide +kernel
theorem dL_law_581 : decode cL_law 581 = .ok (.iconst 0, 1) := by decide +kernel
theorem dL_law_582 : decode cL_law 582 = .ok (.istore 12, 2) := by decide +kernel
theorem dL_law_584 : decode cL_law 584 = .ok (.iload 12, 2) := by decide +kernel
theorem dL_law_586 : decode cL_law 586 = .ok (.iconst 3, 1) := by decide +kernel
theorem dL_law_587 : decode cL_law 587 = .ok (.if_icmp .ge 75, 3) := by decide +kernel
theorem dL_law_590 : decode cL_law 590 = .ok (.iload 11, 2) := by decide +kernel
theorem dL_law_592 : decode cL_law 592 = .ok (.ifCond .le 70, 3) := by decide +kernel
theorem dL_law_595 : decode cL_law 595 = .ok (.aload_n 0, 1) := by decide +kernel
theorem dL_law_596 : decode cL_law 596 = .ok (.bipush 10, 2) := by decide +kernel
theorem dL_law_598 : decode cL_law 598 = .ok (.bipush 20, 2) := by decide +kernel
theorem dL_law_600 : decode cL_law 600 = .ok (.iload_n 3, 1) := by decide +kernel
theorem dL_law_601 : decode cL_law 601 = .ok (.imul, 1) := by decide +kernel
theorem dL_law_602 : decode cL_law 602 = .ok (.iadd, 1) := by decide +kernel
theorem dL_law_603 : decode cL_law 603 = .ok (.iload 12, 2) := by decide +kernel
theorem dL_law_605 : decode cL_law 605 = .ok (.iadd, 1) := by decide +kernel
theorem dL_law_606 : decode cL_law 606 = .ok (.invokestatic 91, 3) := by decide +kernel
theorem dL_law_609 : decode cL_law 609 = .ok (.iload 11, 2) := by decide +kernel
theorem dL_law_611 : decode cL_law 611 = .ok (.invokestatic 57, 3) := by decide +kernel
theorem dL_law_614 : decode cL_law 614 = .ok (.istore 13, 2) := by decide +kernel
theorem dL_law_616 : decode cL_law 616 = .ok (.iload 13, 2) := by decide +kernel
theorem dL_law_618 : decode cL_law 618 = .ok (.aload_n 0, 1) := by decide +kernel
theorem dL_law_619 : decode cL_law 619 = .ok (.bipush 13, 2) := by decide +kernel
theorem dL_law_621 : decode cL_law 621 = .ok (.bipush 20, 2) := by decide +kernel
theorem dL_law_623 : decode cL_law 623 = .ok (.iload_n 3, 1) := by decide +kernel
theorem dL_law_624 : decode cL_law 624 = .ok (.imul, 1) := by decide +kernel
theorem dL_law_625 : decode cL_law 625 = .ok (.iadd, 1) := by decide +kernel
theorem dL_law_626 : decode cL_law 626 = .ok (.iload 12, 2) := by decide +kernel
theorem dL_law_628 : decode cL_law 628 = .ok (.iadd, 1) := by decide +kernel
theorem dL_law_629 : decode cL_law 629 = .ok (.invokestatic 91, 3) := by decide +kernel
theorem dL_law_632 : decode cL_law 632 = .ok (.iload 11, 2) := by decide +kernel
theorem dL_law_634 : decode cL_law 634 = .ok (.iload 13, 2) := by decide +kernel
theorem dL_law_636 : decode cL_law 636 = .ok (.isub, 1) := by decide +kernel
theorem dL_law_637 : decode cL_law 637 = .ok (.invokestatic 57, 3) := by decide +kernel
theorem dL_law_640 : decode cL_law 640 = .ok (.iadd, 1) := by decide +kernel
theorem dL_law_641 : decode cL_law 641 = .ok (.istore 14, 2) := by decide +kernel
theorem dL_law_643 : decode cL_law 643 = .ok (.aload_n 1, 1) := by decide +kernel
theorem dL_law_644 : decode cL_law 644 = .ok (.iload 13, 2) := by decide +kernel
theorem dL_law_646 : decode cL_law 646 = .ok (.iload 14, 2) := by decide +kernel
theorem dL_law_648 : decode cL_law 648 = .ok (.invokestatic 114, 3) := by decide +kernel
theorem dL_law_651 : decode cL_law 651 = .ok (.ifCond .ne 5, 3) := by decide +kernel
theorem dL_law_654 : decode cL_law 654 = .ok (.iconst 0, 1) := by decide +kernel
theorem dL_law_655 : decode cL_law 655 = .ok (.ireturn, 1) := by decide +kernel
theorem dL_law_656 : decode cL_law 656 = .ok (.iinc 12 1, 3) := by decide +kernel
theorem dL_law_659 : decode cL_law 659 = .ok (.goto (-75), 3) := by decide +kernel
theorem dL_law_662 : decode cL_law 662 = .ok (.iconst 0, 1) := by decide +kernel
theorem dL_law_663 : decode cL_law 663 = .ok (.istore 12, 2) := by decide +kernel
theorem dL_law_665 : decode cL_law 665 = .ok (.iload 12, 2) := by decide +kernel
theorem dL_law_667 : decode cL_law 667 = .ok (.iconst 5, 1) := by decide +kernel
theorem dL_law_668 : decode cL_law 668 = .ok (.if_icmp .ge 120, 3) := by decide +kernel
theorem dL_law_671 : decode cL_law 671 = .ok (.aload_n 0, 1) := by decide +kernel
theorem dL_law_672 : decode cL_law 672 = .ok (.bipush 16, 2) := by decide +kernel
theorem dL_law_674 : decode cL_law 674 = .ok (.bipush 20, 2) := by decide +kernel
theorem dL_law_676 : decode cL_law 676 = .ok (.iload_n 3, 1) := by decide +kernel
theorem dL_law_677 : decode cL_law 677 = .ok (.imul, 1) := by decide +kernel
theorem dL_law_678 : decode cL_law 678 = .ok (.iadd, 1) := by decide +kernel
theorem dL_law_679 : decode cL_law 679 = .ok (.iload 12, 2) := by decide +kernel
theorem dL_law_681 : decode cL_law 681 = .ok (.iadd, 1) := by decide +kernel
theorem dL_law_682 : decode cL_law 682 = .ok (.invokestatic 91, 3) := by decide +kernel
theorem dL_law_685 : decode cL_law 685 = .ok (.istore 13, 2) := by decide +kernel
theorem dL_law_687 : decode cL_law 687 = .ok (.iload 13, 2) := by decide +kernel
theorem dL_law_689 : decode cL_law 689 = .ok (.iload 13, 2) := by decide +kernel
theorem dL_law_691 : decode cL_law 691 = .ok (.bipush 20, 2) := by decide +kernel
theorem dL_law_693 : decode cL_law 693 = .ok (.ishr, 1) := by decide +kernel
theorem dL_law_694 : decode cL_law 694 = .ok (.iconst 3, 1) := by decide +kernel
theorem dL_law_695 : decode cL_law 695 = .ok (.iand, 1) := by decide +kernel
theorem dL_law_696 : decode cL_law 696 = .ok (.ifCond .ne 9, 3) := by decide +kernel
theorem dL_law_699 : decode cL_law 699 = .ok (.sipush 6001, 3) := by decide +kernel
theorem dL_law_702 : decode cL_law 702 = .ok (.goto 6, 3) := by decide +kernel
theorem dL_law_705 : decode cL_law 705 = .ok (.sipush 1201, 3) := by decide +kernel
theorem dL_law_708 : decode cL_law 708 = .ok (.invokestatic 57, 3) := by decide +kernel
theorem dL_law_711 : decode cL_law 711 = .ok (.istore 14, 2) := by decide +kernel
theorem dL_law_713 : decode cL_law 713 = .ok (.iload 14, 2) := by decide +kernel
theorem dL_law_715 : decode cL_law 715 = .ok (.iload 14, 2) := by decide +kernel
theorem dL_law_717 : decode cL_law 717 = .ok (.sipush 1200, 3) := by decide +kernel
theorem dL_law_720 : decode cL_law 720 = .ok (.if_icmp .le 9, 3) := by decide +kernel
theorem dL_law_723 : decode cL_law 723 = .ok (.sipush 3000, 3) := by decide +kernel
theorem dL_law_726 : decode cL_law 726 = .ok (.goto 6, 3) := by decide +kernel
theorem dL_law_729 : decode cL_law 729 = .ok (.sipush 600, 3) := by decide +kernel
theorem dL_law_732 : decode cL_law 732 = .ok (.isub, 1) := by decide +kernel
theorem dL_law_733 : decode cL_law 733 = .ok (.istore 14, 2) := by decide +kernel
theorem dL_law_735 : decode cL_law 735 = .ok (.aload_n 1, 1) := by decide +kernel
theorem dL_law_736 : decode cL_law 736 = .ok (.iload 14, 2) := by decide +kernel
theorem dL_law_738 : decode cL_law 738 = .ok (.invokestatic 118, 3) := by decide +kernel
theorem dL_law_741 : decode cL_law 741 = .ok (.ifCond .eq 39, 3) := by decide +kernel
theorem dL_law_744 : decode cL_law 744 = .ok (.aload_n 1, 1) := by decide +kernel
theorem dL_law_745 : decode cL_law 745 = .ok (.iload 14, 2) := by decide +kernel
theorem dL_law_747 : decode cL_law 747 = .ok (.iconst 1, 1) := by decide +kernel
theorem dL_law_748 : decode cL_law 748 = .ok (.iload 13, 2) := by decide +kernel
theorem dL_law_750 : decode cL_law 750 = .ok (.bipush 12, 2) := by decide +kernel
theorem dL_law_752 : decode cL_law 752 = .ok (.ishr, 1) := by decide +kernel
theorem dL_law_753 : decode cL_law 753 = .ok (.bipush 50, 2) := by decide +kernel
theorem dL_law_755 : decode cL_law 755 = .ok (.invokestatic 57, 3) := by decide +kernel
theorem dL_law_758 : decode cL_law 758 = .ok (.iadd, 1) := by decide +kernel
theorem dL_law_759 : decode cL_law 759 = .ok (.invokestatic 122, 3) := by decide +kernel
theorem dL_law_762 : decode cL_law 762 = .ok (.ifCond .eq 18, 3) := by decide +kernel
theorem dL_law_765 : decode cL_law 765 = .ok (.aload_n 1, 1) := by decide +kernel
theorem dL_law_766 : decode cL_law 766 = .ok (.iload 13, 2) := by decide +kernel
theorem dL_law_768 : decode cL_law 768 = .ok (.bipush 18, 2) := by decide +kernel
theorem dL_law_770 : decode cL_law 770 = .ok (.ishr, 1) := by decide +kernel
theorem dL_law_771 : decode cL_law 771 = .ok (.bipush 7, 2) := by decide +kernel
theorem dL_law_773 : decode cL_law 773 = .ok (.iand, 1) := by decide +kernel
theorem dL_law_774 : decode cL_law 774 = .ok (.invokevirtual 64, 3) := by decide +kernel
theorem dL_law_777 : decode cL_law 777 = .ok (.ifCond .ge 5, 3) := by decide +kernel
theorem dL_law_780 : decode cL_law 780 = .ok (.iconst 0, 1) := by decide +kernel
theorem dL_law_781 : decode cL_law 781 = .ok (.ireturn, 1) := by decide +kernel
theorem dL_law_782 : decode cL_law 782 = .ok (.iinc 12 1, 3) := by decide +kernel
theorem dL_law_785 : decode cL_law 785 = .ok (.goto (-120), 3) := by decide +kernel
theorem dL_law_788 : decode cL_law 788 = .ok (.aload_n 1, 1) := by decide +kernel
theorem dL_law_789 : decode cL_law 789 = .ok (.iconst 0, 1) := by decide +kernel
theorem dL_law_790 : decode cL_law 790 = .ok (.invokevirtual 85, 3) := by decide +kernel
theorem dL_law_793 : decode cL_law 793 = .ok (.iconst 1, 1) := by decide +kernel
theorem dL_law_794 : decode cL_law 794 = .ok (.if_icmp .ne 12, 3) := by decide +kernel
theorem dL_law_797 : decode cL_law 797 = .ok (.aload_n 2, 1) := by decide +kernel
theorem dL_law_798 : decode cL_law 798 = .ok (.iconst 0, 1) := by decide +kernel
theorem dL_law_799 : decode cL_law 799 = .ok (.invokevirtual 85, 3) := by decide +kernel
theorem dL_law_802 : decode cL_law 802 = .ok (.iconst 1, 1) := by decide +kernel
theorem dL_law_803 : decode cL_law 803 = .ok (.if_icmp .eq 5, 3) := by decide +kernel
theorem dL_law_806 : decode cL_law 806 = .ok (.iconst 0, 1) := by decide +kernel
theorem dL_law_807 : decode cL_law 807 = .ok (.ireturn, 1) := by decide +kernel
theorem dL_law_808 : decode cL_law 808 = .ok (.iconst 0, 1) := by decide +kernel
theorem dL_law_809 : decode cL_law 809 = .ok (.istore 12, 2) := by decide +kernel
theorem dL_law_811 : decode cL_law 811 = .ok (.iload 12, 2) := by decide +kernel
theorem dL_law_813 : decode cL_law 813 = .ok (.iconst 4, 1) := by decide +kernel
theorem dL_law_814 : decode cL_law 814 = .ok (.if_icmp .ge 55, 3) := by decide +kernel
theorem dL_law_817 : decode cL_law 817 = .ok (.aload_n 1, 1) := by decide +kernel
theorem dL_law_818 : decode cL_law 818 = .ok (.iload 12, 2) := by decide +kernel
theorem dL_law_820 : decode cL_law 820 = .ok (.invokevirtual 108, 3) := by decide +kernel
theorem dL_law_823 : decode cL_law 823 = .ok (.iconst 1, 1) := by decide +kernel
theorem dL_law_824 : decode cL_law 824 = .ok (.if_icmp .ne 37, 3) := by decide +kernel
theorem dL_law_827 : decode cL_law 827 = .ok (.aload_n 2, 1) := by decide +kernel
theorem dL_law_828 : decode cL_law 828 = .ok (.iload 12, 2) := by decide +kernel
theorem dL_law_830 : decode cL_law 830 = .ok (.invokevirtual 108, 3) := by decide +kernel
theorem dL_law_833 : decode cL_law 833 = .ok (.iconst 1, 1) := by decide +kernel
theorem dL_law_834 : decode cL_law 834 = .ok (.if_icmp .ne 27, 3) := by decide +kernel
theorem dL_law_837 : decode cL_law 837 = .ok (.aload_n 1, 1) := by decide +kernel
theorem dL_law_838 : decode cL_law 838 = .ok (.aload_n 2, 1) := by decide +kernel
theorem dL_law_839 : decode cL_law 839 = .ok (.aload_n 0, 1) := by decide +kernel
theorem dL_law_840 : decode cL_law 840 = .ok (.bipush 22, 2) := by decide +kernel
theorem dL_law_842 : decode cL_law 842 = .ok (.bipush 20, 2) := by decide +kernel
theorem dL_law_844 : decode cL_law 844 = .ok (.iload_n 3, 1) := by decide +kernel
theorem dL_law_845 : decode cL_law 845 = .ok (.imul, 1) := by decide +kernel
theorem dL_law_846 : decode cL_law 846 = .ok (.iadd, 1) := by decide +kernel
theorem dL_law_847 : decode cL_law 847 = .ok (.iload 12, 2) := by decide +kernel
theorem dL_law_849 : decode cL_law 849 = .ok (.iadd, 1) := by decide +kernel
theorem dL_law_850 : decode cL_law 850 = .ok (.invokestatic 91, 3) := by decide +kernel
theorem dL_law_853 : decode cL_law 853 = .ok (.iload 12, 2) := by decide +kernel
theorem dL_law_855 : decode cL_law 855 = .ok (.invokestatic 95, 3) := by decide +kernel
theorem dL_law_858 : decode cL_law 858 = .ok (.ifCond .ne 5, 3) := by decide +kernel
theorem dL_law_861 : decode cL_law 861 = .ok (.iconst 0, 1) := by decide +kernel
theorem dL_law_862 : decode cL_law 862 = .ok (.ireturn, 1) := by decide +kernel
theorem dL_law_863 : decode cL_law 863 = .ok (.iinc 12 1, 3) := by decide +kernel
theorem dL_law_866 : decode cL_law 866 = .ok (.goto (-55), 3) := by decide +kernel
theorem dL_law_869 : decode cL_law 869 = .ok (.iinc 3 1, 3) := by decide +kernel
theorem dL_law_872 : decode cL_law 872 = .ok (.goto (-722), 3) := by decide +kernel
theorem dL_law_875 : decode cL_law 875 = .ok (.aload_n 1, 1) := by decide +kernel
theorem dL_law_876 : decode cL_law 876 = .ok (.iconst 4, 1) := by decide +kernel
theorem dL_law_877 : decode cL_law 877 = .ok (.iconst 0, 1) := by decide +kernel
theorem dL_law_878 : decode cL_law 878 = .ok (.iconst 1, 1) := by decide +kernel
theorem dL_law_879 : decode cL_law 879 = .ok (.iconst 0, 1) := by decide +kernel
theorem dL_law_880 : decode cL_law 880 = .ok (.invokevirtual 67, 3) := by decide +kernel
theorem dL_law_883 : decode cL_law 883 = .ok (.iconst (-1), 1) := by decide +kernel
theorem dL_law_884 : decode cL_law 884 = .ok (.if_icmp .ne 147, 3) := by decide +kernel
theorem dL_law_887 : decode cL_law 887 = .ok (.aload_n 1, 1) := by decide +kernel
theorem dL_law_888 : decode cL_law 888 = .ok (.iconst 0, 1) := by decide +kernel
theorem dL_law_889 : decode cL_law 889 = .ok (.bipush 8, 2) := by decide +kernel
theorem dL_law_891 : decode cL_law 891 = .ok (.iconst 1, 1) := by decide +kernel
theorem dL_law_892 : decode cL_law 892 = .ok (.iconst 0, 1) := by decide +kernel
theorem dL_law_893 : decode cL_law 893 = .ok (.invokevirtual 67, 3) := by decide +kernel
theorem dL_law_896 : decode cL_law 896 = .ok (.iconst (-1), 1) := by decide +kernel
theorem dL_law_897 : decode cL_law 897 = .ok (.if_icmp .ne 134, 3) := by decide +kernel
theorem dL_law_900 : decode cL_law 900 = .ok (.aload_n 1, 1) := by decide +kernel
theorem dL_law_901 : decode cL_law 901 = .ok (.iconst 0, 1) := by decide +kernel
theorem dL_law_902 : decode cL_law 902 = .ok (.iconst 0, 1) := by decide +kernel
theorem dL_law_903 : decode cL_law 903 = .ok (.iconst 1, 1) := by decide +kernel
theorem dL_law_904 : decode cL_law 904 = .ok (.iconst 4, 1) := by decide +kernel
theorem dL_law_905 : decode cL_law 905 = .ok (.invokevirtual 67, 3) := by decide +kernel
theorem dL_law_908 : decode cL_law 908 = .ok (.bipush (-2), 2) := by decide +kernel
theorem dL_law_910 : decode cL_law 910 = .ok (.if_icmp .ne 121, 3) := by decide +kernel
theorem dL_law_913 : decode cL_law 913 = .ok (.aload_n 1, 1) := by decide +kernel
theorem dL_law_914 : decode cL_law 914 = .ok (.iconst 0, 1) := by decide +kernel
theorem dL_law_915 : decode cL_law 915 = .ok (.iconst 1, 1) := by decide +kernel
theorem dL_law_916 : decode cL_law 916 = .ok (.iconst 1, 1) := by decide +kernel
theorem dL_law_917 : decode cL_law 917 = .ok (.iconst 0, 1) := by decide +kernel
theorem dL_law_918 : decode cL_law 918 = .ok (.invokevirtual 67, 3) := by decide +kernel
theorem dL_law_921 : decode cL_law 921 = .ok (.bipush (-3), 2) := by decide +kernel
theorem dL_law_923 : decode cL_law 923 = .ok (.if_icmp .ne 108, 3) := by decide +kernel
theorem dL_law_926 : decode cL_law 926 = .ok (.aload_n 1, 1) := by decide +kernel
theorem dL_law_927 : decode cL_law 927 = .ok (.iconst 0, 1) := by decide +kernel
theorem dL_law_928 : decode cL_law 928 = .ok (.iconst 0, 1) := by decide +kernel
theorem dL_law_929 : decode cL_law 929 = .ok (.iconst 0, 1) := by decide +kernel
theorem dL_law_930 : decode cL_law 930 = .ok (.invokevirtual 71, 3) := by decide +kernel
theorem dL_law_933 : decode cL_law 933 = .ok (.bipush (-2), 2) := by decide +kernel
theorem dL_law_935 : decode cL_law 935 = .ok (.if_icmp .ne 96, 3) := by decide +kernel
theorem dL_law_938 : decode cL_law 938 = .ok (.aload_n 1, 1) := by decide +kernel
theorem dL_law_939 : decode cL_law 939 = .ok (.iconst 0, 1) := by decide +kernel
theorem dL_law_940 : decode cL_law 940 = .ok (.iconst 4, 1) := by decide +kernel
theorem dL_law_941 : decode cL_law 941 = .ok (.bipush 6, 2) := by decide +kernel
theorem dL_law_943 : decode cL_law 943 = .ok (.invokevirtual 71, 3) := by decide +kernel
theorem dL_law_946 : decode cL_law 946 = .ok (.bipush (-2), 2) := by decide +kernel
theorem dL_law_948 : decode cL_law 948 = .ok (.if_icmp .ne 83, 3) := by decide +kernel
theorem dL_law_951 : decode cL_law 951 = .ok (.aload_n 1, 1) := by decide +kernel
theorem dL_law_952 : decode cL_law 952 = .ok (.iconst 0, 1) := by decide +kernel
theorem dL_law_953 : decode cL_law 953 = .ok (.invokevirtual 102, 3) := by decide +kernel
theorem dL_law_956 : decode cL_law 956 = .ok (.bipush (-2), 2) := by decide +kernel
theorem dL_law_958 : decode cL_law 958 = .ok (.if_icmp .ne 73, 3) := by decide +kernel
theorem dL_law_961 : decode cL_law 961 = .ok (.aload_n 1, 1) := by decide +kernel
theorem dL_law_962 : decode cL_law 962 = .ok (.sipush 201, 3) := by decide +kernel
theorem dL_law_965 : decode cL_law 965 = .ok (.invokevirtual 105, 3) := by decide +kernel
theorem dL_law_968 : decode cL_law 968 = .ok (.bipush (-2), 2) := by decide +kernel
theorem dL_law_970 : decode cL_law 970 = .ok (.if_icmp .ne 61, 3) := by decide +kernel
theorem dL_law_973 : decode cL_law 973 = .ok (.aload_n 1, 1) := by decide +kernel
theorem dL_law_974 : decode cL_law 974 = .ok (.iconst 0, 1) := by decide +kernel
theorem dL_law_975 : decode cL_law 975 = .ok (.iconst 0, 1) := by decide +kernel
theorem dL_law_976 : decode cL_law 976 = .ok (.iconst 0, 1) := by decide +kernel
theorem dL_law_977 : decode cL_law 977 = .ok (.iconst 1, 1) := by decide +kernel
theorem dL_law_978 : decode cL_law 978 = .ok (.iconst 0, 1) := by decide +kernel
theorem dL_law_979 : decode cL_law 979 = .ok (.iconst 0, 1) := by decide +kernel
theorem dL_law_980 : decode cL_law 980 = .ok (.invokevirtual 60, 3) := by decide +kernel
theorem dL_law_983 : decode cL_law 983 = .ok (.bipush (-2), 2) := by decide +kernel
theorem dL_law_985 : decode cL_law 985 = .ok (.if_icmp .ne 46, 3) := by decide +kernel
theorem dL_law_988 : decode cL_law 988 = .ok (.aload_n 1, 1) := by decide +kernel
theorem dL_law_989 : decode cL_law 989 = .ok (.iconst 0, 1) := by decide +kernel
theorem dL_law_990 : decode cL_law 990 = .ok (.iconst 0, 1) := by decide +kernel
theorem dL_law_991 : decode cL_law 991 = .ok (.iconst 1, 1) := by decide +kernel
theorem dL_law_992 : decode cL_law 992 = .ok (.iconst 1, 1) := by decide +kernel
theorem dL_law_993 : decode cL_law 993 = .ok (.iconst 0, 1) := by decide +kernel
theorem dL_law_994 : decode cL_law 994 = .ok (.iconst 0, 1) := by decide +kernel
theorem dL_law_995 : decode cL_law 995 = .ok (.invokevirtual 60, 3) := by decide +kernel
theorem dL_law_998 : decode cL_law 998 = .ok (.bipush (-3), 2) := by decide +kernel
theorem dL_law_1000 : decode cL_law 1000 = .ok (.if_icmp .ne 31, 3) := by decide +kernel
theorem dL_law_1003 : decode cL_law 1003 = .ok (.aload_n 1, 1) := by decide +kernel
theorem dL_law_1004 : decode cL_law 1004 = .ok (.bipush 101, 2) := by decide +kernel
theorem dL_law_1006 : decode cL_law 1006 = .ok (.invokevirtual 64, 3) := by decide +kernel
theorem dL_law_1009 : decode cL_law 1009 = .ok (.bipush (-2), 2) := by decide +kernel
theorem dL_law_1011 : decode cL_law 1011 = .ok (.if_icmp .ne 20, 3) := by decide +kernel
theorem dL_law_1014 : decode cL_law 1014 = .ok (.aload_n 1, 1) := by decide +kernel
theorem dL_law_1015 : decode cL_law 1015 = .ok (.iconst 0, 1) := by decide +kernel
theorem dL_law_1016 : decode cL_law 1016 = .ok (.sipush 3001, 3) := by decide +kernel
theorem dL_law_1019 : decode cL_law 1019 = .ok (.invokevirtual 31, 3) := by decide +kernel
theorem dL_law_1022 : decode cL_law 1022 = .ok (.bipush (-2), 2) := by decide +kernel
theorem dL_law_1024 : decode cL_law 1024 = .ok (.if_icmp .ne 7, 3) := by decide +kernel
theorem dL_law_1027 : decode cL_law 1027 = .ok (.iconst 1, 1) := by decide +kernel
theorem dL_law_1028 : decode cL_law 1028 = .ok (.goto 4, 3) := by decide +kernel
theorem dL_law_1031 : decode cL_law 1031 = .ok (.iconst 0, 1) := by decide +kernel
theorem dL_law_1032 : decode cL_law 1032 = .ok (.ireturn, 1) := by decide +kernel
