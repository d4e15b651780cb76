set_option maxRecDepth 20000 in
theorem ggX4_isPin_X4_within : GoodIn wsX4_isPin wsX4_within := goodIn_r _ [4] (by decide +kernel) (by decide +kernel)
set_option maxRecDepth 20000 in
theorem gX4_isPin_X4_within : GoodIn wsX4_isPin (va_wsS RX4 66 yX4_within wsX4_within) := goodIn_app (goodIn_of _ (by decide +kernel)) ggX4_isPin_X4_within
theorem dX4_isPin_0 : decode cX4_isPin 0 = .ok (.iload_n 0, 1) := by decide +kernel
theorem dX4_isPin_1 : decode cX4_isPin 1 = .ok (.iconst 0, 1) := by decide +kernel
theorem dX4_isPin_2 : decode cX4_isPin 2 = .ok (.bipush 7, 2) := by decide +kernel
theorem dX4_isPin_4 : decode cX4_isPin 4 = .ok (.invokestatic 66, 3) := by decide +kernel
theorem dX4_isPin_7 : decode cX4_isPin 7 = .ok (.ireturn, 1) := by decide +kernel
set_option maxRecDepth 20000 in
theorem ggX4_isPart_X4_within : GoodIn wsX4_isPart wsX4_within := goodIn_r _ [5] (by decide +kernel) (by decide +kernel)
set_option maxRecDepth 20000 in
theorem gX4_isPart_X4_within : GoodIn wsX4_isPart (va_wsS RX4 66 yX4_within wsX4_within) := goodIn_app (goodIn_of _ (by decide +kernel)) ggX4_isPart_X4_within
theorem dX4_isPart_0 : decode cX4_isPart 0 = .ok (.iload_n 1, 1) := by decide +kernel
theorem dX4_isPart_1 : decode cX4_isPart 1 = .ok (.iconst 0, 1) := by decide +kernel
theorem dX4_isPart_2 : decode cX4_isPart 2 = .ok (.iconst 3, 1) := by decide +kernel
theorem dX4_isPart_3 : decode cX4_isPart 3 = .ok (.invokestatic 66, 3) := by decide +kernel
theorem dX4_isPart_6 : decode cX4_isPart 6 = .ok (.ifCond .eq 16, 3) := by decide +kernel
theorem dX4_isPart_9 : decode cX4_isPart 9 = .ok (.aload_n 0, 1) := by decide +kernel
theorem dX4_isPart_10 : decode cX4_isPart 10 = .ok (.getfield 7, 3) := by decide +kernel
theorem dX4_isPart_13 : decode cX4_isPart 13 = .ok (.iload_n 1, 1) := by decide +kernel
theorem dX4_isPart_14 : decode cX4_isPart 14 = .ok (.baload, 1) := by decide +kernel
theorem dX4_isPart_15 : decode cX4_isPart 15 = .ok (.ifCond .eq 7, 3) := by decide +kernel
theorem dX4_isPart_18 : decode cX4_isPart 18 = .ok (.iconst 1, 1) := by decide +kernel
theorem dX4_isPart_19 : decode cX4_isPart 19 = .ok (.goto 4, 3) := by decide +kernel
theorem dX4_isPart_22 : decode cX4_isPart 22 = .ok (.iconst 0, 1) := by decide +kernel
theorem dX4_isPart_23 : decode cX4_isPart 23 = .ok (.ireturn, 1) := by decide +kernel
theorem dX4_number_0 : decode cX4_number 0 = .ok (.aload_n 0, 1) := by decide +kernel
theorem dX4_number_1 : decode cX4_number 1 = .ok (.getfield 23, 3) := by decide +kernel
theorem dX4_number_4 : decode cX4_number 4 = .ok (.iconst 5, 1) := by decide +kernel
theorem dX4_number_5 : decode cX4_number 5 = .ok (.iload_n 1, 1) := by decide +kernel
theorem dX4_number_6 : decode cX4_number 6 = .ok (.imul, 1) := by decide +kernel
theorem dX4_number_7 : decode cX4_number 7 = .ok (.iload_n 2, 1) := by decide +kernel
theorem dX4_number_8 : decode cX4_number 8 = .ok (.iadd, 1) := by decide +kernel
theorem dX4_number_9 : decode cX4_number 9 = .ok (.iaload, 1) := by decide +kernel
theorem dX4_number_10 : decode cX4_number 10 = .ok (.ireturn, 1) := by decide +kernel
set_option maxRecDepth 20000 in
theorem ggX4_part_X4_within : GoodIn wsX4_part wsX4_within := goodIn_r _ [13] (by decide +kernel) (by decide +kernel)
set_option maxRecDepth 20000 in
theorem gX4_part_X4_within : GoodIn wsX4_part (va_wsS RX4 66 yX4_within wsX4_within) := goodIn_app (goodIn_of _ (by decide +kernel)) ggX4_part_X4_within
set_option maxRecDepth 20000 in
theorem ggX4_part_X4_isPin : GoodIn wsX4_part wsX4_isPin := goodIn_r _ [16, 10, 11, 12, 13] (by decide +kernel) (by decide +kernel)
set_option maxRecDepth 20000 in
theorem gX4_part_X4_isPin : GoodIn wsX4_part (va_wsS RX4 70 yX4_isPin wsX4_isPin) := goodIn_app (goodIn_of _ (by decide +kernel)) ggX4_part_X4_isPin
theorem dX4_part_0 : decode cX4_part 0 = .ok (.iload_n 1, 1) := by decide +kernel
theorem dX4_part_1 : decode cX4_part 1 = .ok (.iconst 0, 1) := by decide +kernel
theorem dX4_part_2 : decode cX4_part 2 = .ok (.iconst 3, 1) := by decide +kernel
theorem dX4_part_3 : decode cX4_part 3 = .ok (.invokestatic 66, 3) := by decide +kernel
theorem dX4_part_6 : decode cX4_part 6 = .ok (.ifCond .eq 17, 3) := by decide +kernel
theorem dX4_part_9 : decode cX4_part 9 = .ok (.iload_n 2, 1) := by decide +kernel
theorem dX4_part_10 : decode cX4_part 10 = .ok (.invokestatic 70, 3) := by decide +kernel
theorem dX4_part_13 : decode cX4_part 13 = .ok (.ifCond .eq 10, 3) := by decide +kernel
theorem dX4_part_16 : decode cX4_part 16 = .ok (.iload_n 3, 1) := by decide +kernel
theorem dX4_part_17 : decode cX4_part 17 = .ok (.invokestatic 70, 3) := by decide +kernel
theorem dX4_part_20 : decode cX4_part 20 = .ok (.ifCond .ne 5, 3) := by decide +kernel
theorem dX4_part_23 : decode cX4_part 23 = .ok (.iconst (-1), 1) := by decide +kernel
theorem dX4_part_24 : decode cX4_part 24 = .ok (.ireturn, 1) := by decide +kernel
theorem dX4_part_25 : decode cX4_part 25 = .ok (.iload 4, 2) := by decide +kernel
theorem dX4_part_27 : decode cX4_part 27 = .ok (.iconst 0, 1) := by decide +kernel
theorem dX4_part_28 : decode cX4_part 28 = .ok (.iconst 3, 1) := by decide +kernel
theorem dX4_part_29 : decode cX4_part 29 = .ok (.invokestatic 66, 3) := by decide +kernel
theorem dX4_part_32 : decode cX4_part 32 = .ok (.ifCond .ne 6, 3) := by decide +kernel
theorem dX4_part_35 : decode cX4_part 35 = .ok (.bipush (-2), 2) := by decide +kernel
theorem dX4_part_37 : decode cX4_part 37 = .ok (.ireturn, 1) := by decide +kernel
theorem dX4_part_38 : decode cX4_part 38 = .ok (.iload_n 2, 1) := by decide +kernel
theorem dX4_part_39 : decode cX4_part 39 = .ok (.iload_n 3, 1) := by decide +kernel
theorem dX4_part_40 : decode cX4_part 40 = .ok (.if_icmp .eq 10, 3) := by decide +kernel
theorem dX4_part_43 : decode cX4_part 43 = .ok (.aload_n 0, 1) := by decide +kernel
theorem dX4_part_44 : decode cX4_part 44 = .ok (.getfield 74, 3) := by decide +kernel
theorem dX4_part_47 : decode cX4_part 47 = .ok (.ifCond .eq 6, 3) := by decide +kernel
theorem dX4_part_50 : decode cX4_part 50 = .ok (.bipush (-3), 2) := by decide +kernel
theorem dX4_part_52 : decode cX4_part 52 = .ok (.ireturn, 1) := by decide +kernel
theorem dX4_part_53 : decode cX4_part 53 = .ok (.aload_n 0, 1) := by decide +kernel
theorem dX4_part_54 : decode cX4_part 54 = .ok (.getfield 7, 3) := by decide +kernel
theorem dX4_part_57 : decode cX4_part 57 = .ok (.iload_n 1, 1) := by decide +kernel
theorem dX4_part_58 : decode cX4_part 58 = .ok (.baload, 1) := by decide +kernel
theorem dX4_part_59 : decode cX4_part 59 = .ok (.ifCond .eq 7, 3) := by decide +kernel
theorem dX4_part_62 : decode cX4_part 62 = .ok (.iconst 1, 1) := by decide +kernel
theorem dX4_part_63 : decode cX4_part 63 = .ok (.goto 4, 3) := by decide +kernel
theorem dX4_part_66 : decode cX4_part 66 = .ok (.iconst 0, 1) := by decide +kernel
theorem dX4_part_67 : decode cX4_part 67 = .ok (.istore 5, 2) := by decide +kernel
theorem dX4_part_69 : decode cX4_part 69 = .ok (.aload_n 0, 1) := by decide +kernel
theorem dX4_part_70 : decode cX4_part 70 = .ok (.getfield 7, 3) := by decide +kernel
theorem dX4_part_73 : decode cX4_part 73 = .ok (.iload_n 1, 1) := by decide +kernel
theorem dX4_part_74 : decode cX4_part 74 = .ok (.iconst 1, 1) := by decide +kernel
theorem dX4_part_75 : decode cX4_part 75 = .ok (.bastore, 1) := by decide +kernel
theorem dX4_part_76 : decode cX4_part 76 = .ok (.aload_n 0, 1) := by decide +kernel
theorem dX4_part_77 : decode cX4_part 77 = .ok (.getfield 13, 3) := by decide +kernel
theorem dX4_part_80 : decode cX4_part 80 = .ok (.iload_n 1, 1) := by decide +kernel
theorem dX4_part_81 : decode cX4_part 81 = .ok (.iload_n 2, 1) := by decide +kernel
theorem dX4_part_82 : decode cX4_part 82 = .ok (.iastore, 1) := by decide +kernel
theorem dX4_part_83 : decode cX4_part 83 = .ok (.aload_n 0, 1) := by decide +kernel
theorem dX4_part_84 : decode cX4_part 84 = .ok (.getfield 17, 3) := by decide +kernel
theorem dX4_part_87 : decode cX4_part 87 = .ok (.iload_n 1, 1) := by decide +kernel
theorem dX4_part_88 : decode cX4_part 88 = .ok (.iload_n 3, 1) := by decide +kernel
theorem dX4_part_89 : decode cX4_part 89 = .ok (.iastore, 1) := by decide +kernel
theorem dX4_part_90 : decode cX4_part 90 = .ok (.aload_n 0, 1) := by decide +kernel
theorem dX4_part_91 : decode cX4_part 91 = .ok (.getfield 20, 3) := by decide +kernel
theorem dX4_part_94 : decode cX4_part 94 = .ok (.iload_n 1, 1) := by decide +kernel
theorem dX4_part_95 : decode cX4_part 95 = .ok (.iload 4, 2) := by decide +kernel
theorem dX4_part_97 : decode cX4_part 97 = .ok (.iastore, 1) := by decide +kernel
theorem dX4_part_98 : decode cX4_part 98 = .ok (.aload_n 0, 1) := by decide +kernel
theorem dX4_part_99 : decode cX4_part 99 = .ok (.getfield 23, 3) := by decide +kernel
theorem dX4_part_102 : decode cX4_part 102 = .ok (.iconst 5, 1) := by decide +kernel
theorem dX4_part_103 : decode cX4_part 103 = .ok (.iload_n 1, 1) := by decide +kernel
theorem dX4_part_104 : decode cX4_part 104 = .ok (.imul, 1) := by decide +kernel
theorem dX4_part_105 : decode cX4_part 105 = .ok (.iconst 0, 1) := by decide +kernel
theorem dX4_part_106 : decode cX4_part 106 = .ok (.iadd, 1) := by decide +kernel
theorem dX4_part_107 : decode cX4_part 107 = .ok (.sipush 1000, 3) := by decide +kernel
theorem dX4_part_110 : decode cX4_part 110 = .ok (.iastore, 1) := by decide +kernel
theorem dX4_part_111 : decode cX4_part 111 = .ok (.aload_n 0, 1) := by decide +kernel
theorem dX4_part_112 : decode cX4_part 112 = .ok (.getfield 23, 3) := by decide +kernel
theorem dX4_part_115 : decode cX4_part 115 = .ok (.iconst 5, 1) := by decide +kernel
theorem dX4_part_116 : decode cX4_part 116 = .ok (.iload_n 1, 1) := by decide +kernel
theorem dX4_part_117 : decode cX4_part 117 = .ok (.imul, 1) := by decide +kernel
theorem dX4_part_118 : decode cX4_part 118 = .ok (.iconst 1, 1) := by decide +kernel
theorem dX4_part_119 : decode cX4_part 119 = .ok (.iadd, 1) := by decide +kernel
theorem dX4_part_120 : decode cX4_part 120 = .ok (.sipush 600, 3) := by decide +kernel
theorem dX4_part_123 : decode cX4_part 123 = .ok (.iastore, 1) := by decide +kernel
theorem dX4_part_124 : decode cX4_part 124 = .ok (.aload_n 0, 1) := by decide +kernel
theorem dX4_part_125 : decode cX4_part 125 = .ok (.getfield 23, 3) := by decide +kernel
theorem dX4_part_128 : decode cX4_part 128 = .ok (.iconst 5, 1) := by decide +kernel
theorem dX4_part_129 : decode cX4_part 129 = .ok (.iload_n 1, 1) := by decide +kernel
theorem dX4_part_130 : decode cX4_part 130 = .ok (.imul, 1) := by decide +kernel
theorem dX4_part_131 : decode cX4_part 131 = .ok (.iconst 2, 1) := by decide +kernel
theorem dX4_part_132 : decode cX4_part 132 = .ok (.iadd, 1) := by decide +kernel
theorem dX4_part_133 : decode cX4_part 133 = .ok (.iconst 0, 1) := by decide +kernel
theorem dX4_part_134 : decode cX4_part 134 = .ok (.iastore, 1) := by decide +kernel
theorem dX4_part_135 : decode cX4_part 135 = .ok (.aload_n 0, 1) := by decide +kernel
theorem dX4_part_136 : decode cX4_part 136 = .ok (.getfield 23, 3) := by decide +kernel
theorem dX4_part_139 : decode cX4_part 139 = .ok (.iconst 5, 1) := by decide +kernel
theorem dX4_part_140 : decode cX4_part 140 = .ok (.iload_n 1, 1) := by decide +kernel
theorem dX4_part_141 : decode cX4_part 141 = .ok (.imul, 1) := by decide +kernel
theorem dX4_part_142 : decode cX4_part 142 = .ok (.iconst 3, 1) := by decide +kernel
theorem dX4_part_143 : decode cX4_part 143 = .ok (.iadd, 1) := by decide +kernel
theorem dX4_part_144 : decode cX4_part 144 = .ok (.iconst 0, 1) := by decide +kernel
theorem dX4_part_145 : decode cX4_part 145 = .ok (.iastore, 1) := by decide +kernel
theorem dX4_part_146 : decode cX4_part 146 = .ok (.aload_n 0, 1) := by decide +kernel
theorem dX4_part_147 : decode cX4_part 147 = .ok (.getfield 23, 3) := by decide +kernel
theorem dX4_part_150 : decode cX4_part 150 = .ok (.iconst 5, 1) := by decide +kernel
theorem dX4_part_151 : decode cX4_part 151 = .ok (.iload_n 1, 1) := by decide +kernel
theorem dX4_part_152 : decode cX4_part 152 = .ok (.imul, 1) := by decide +kernel
theorem dX4_part_153 : decode cX4_part 153 = .ok (.iconst 4, 1) := by decide +kernel
theorem dX4_part_154 : decode cX4_part 154 = .ok (.iadd, 1) := by decide +kernel
theorem dX4_part_155 : decode cX4_part 155 = .ok (.iconst 0, 1) := by decide +kernel
theorem dX4_part_156 : decode cX4_part 156 = .ok (.iastore, 1) := by decide +kernel
theorem dX4_part_157 : decode cX4_part 157 = .ok (.aload_n 0, 1) := by decide +kernel
theorem dX4_part_158 : decode cX4_part 158 = .ok (.getfield 32, 3) := by decide +kernel
theorem dX4_part_161 : decode cX4_part 161 = .ok (.iload_n 1, 1) := by decide +kernel
theorem dX4_part_162 : decode cX4_part 162 = .ok (.iconst 0, 1) := by decide +kernel
theorem dX4_part_163 : decode cX4_part 163 = .ok (.iastore, 1) := by decide +kernel
theorem dX4_part_164 : decode cX4_part 164 = .ok (.aload_n 0, 1) := by decide +kernel
theorem dX4_part_165 : decode cX4_part 165 = .ok (.getfield 35, 3) := by decide +kernel
theorem dX4_part_168 : decode cX4_part 168 = .ok (.iload_n 1, 1) := by decide +kernel
theorem dX4_part_169 : decode cX4_part 169 = .ok (.iconst 0, 1) := by decide +kernel
theorem dX4_part_170 : decode cX4_part 170 = .ok (.bastore, 1) := by decide +kernel
theorem dX4_part_171 : decode cX4_part 171 = .ok (.aload_n 0, 1) := by decide +kernel
theorem dX4_part_172 : decode cX4_part 172 = .ok (.getfield 38, 3) := by decide +kernel
theorem dX4_part_175 : decode cX4_part 175 = .ok (.iload_n 1, 1) := by decide +kernel
theorem dX4_part_176 : decode cX4_part 176 = .ok (.iconst 0, 1) := by decide +kernel
theorem dX4_part_177 : decode cX4_part 177 = .ok (.bastore, 1) := by decide +kernel
theorem dX4_part_178 : decode cX4_part 178 = .ok (.iload 5, 2) := by decide +kernel
theorem dX4_part_180 : decode cX4_part 180 = .ok (.ireturn, 1) := by decide +kernel
set_option maxRecDepth 20000 in
theorem ggX4_remove_X4_isPart : GoodIn wsX4_remove wsX4_isPart := goodIn_r _ [7, 2, 8, 9, 6, 10, 11, 12, 13, 14, 15, 16, 17, 18, 19, 20, 21, 22, 23, 24, 25, 26, 27, 28, 29, 30, 31, 32, 33, 34, 35] (by decide +kernel) (by decide +kernel)
set_option maxRecDepth 20000 in
theorem gX4_remove_X4_isPart : GoodIn wsX4_remove (wsV RX4 78 RX4 yX4_isPart wsX4_isPart) := goodIn_app (goodIn_of _ (by decide +kernel)) ggX4_remove_X4_isPart
theorem dX4_remove_0 : decode cX4_remove 0 = .ok (.aload_n 0, 1) := by decide +kernel
theorem dX4_remove_1 : decode cX4_remove 1 = .ok (.iload_n 1, 1) := by decide +kernel
theorem dX4_remove_2 : decode cX4_remove 2 = .ok (.invokevirtual 78, 3) := by decide +kernel
theorem dX4_remove_5 : decode cX4_remove 5 = .ok (.ifCond .ne 5, 3) := by decide +kernel
theorem dX4_remove_8 : decode cX4_remove 8 = .ok (.iconst (-1), 1) := by decide +kernel
theorem dX4_remove_9 : decode cX4_remove 9 = .ok (.ireturn, 1) := by decide +kernel
theorem dX4_remove_10 : decode cX4_remove 10 = .ok (.aload_n 0, 1) := by decide +kernel
theorem dX4_remove_11 : decode cX4_remove 11 = .ok (.getfield 74, 3) := by decide +kernel
theorem dX4_remove_14 : decode cX4_remove 14 = .ok (.ifCond .eq 6, 3) := by decide +kernel
theorem dX4_remove_17 : decode cX4_remove 17 = .ok (.bipush (-3), 2) := by decide +kernel
theorem dX4_remove_19 : decode cX4_remove 19 = .ok (.ireturn, 1) := by decide +kernel
theorem dX4_remove_20 : decode cX4_remove 20 = .ok (.aload_n 0, 1) := by decide +kernel
theorem dX4_remove_21 : decode cX4_remove 21 = .ok (.getfield 7, 3) := by decide +kernel
theorem dX4_remove_24 : decode cX4_remove 24 = .ok (.iload_n 1, 1) := by decide +kernel
theorem dX4_remove_25 : decode cX4_remove 25 = .ok (.iconst 0, 1) := by decide +kernel
theorem dX4_remove_26 : decode cX4_remove 26 = .ok (.bastore, 1) := by decide +kernel
theorem dX4_remove_27 : decode cX4_remove 27 = .ok (.iconst 1, 1) := by decide +kernel
theorem dX4_remove_28 : decode cX4_remove 28 = .ok (.ireturn, 1) := by decide +kernel
set_option maxRecDepth 20000 in
theorem ggX4_set_X4_isPart : GoodIn wsX4_set wsX4_isPart := goodIn_r _ [8, 9, 10, 11, 7, 12, 17, 18, 19, 20, 21, 22, 23, 24, 25, 26, 27, 28, 29, 30, 31, 32, 33, 34, 35, 36, 37, 38, 39, 40, 41] (by decide +kernel) (by decide +kernel)
set_option maxRecDepth 20000 in
theorem gX4_set_X4_isPart : GoodIn wsX4_set (wsV RX4 78 RX4 yX4_isPart wsX4_isPart) := goodIn_app (goodIn_of _ (by decide +kernel)) ggX4_set_X4_isPart
set_option maxRecDepth 20000 in
theorem ggX4_set_X4_within : GoodIn wsX4_set wsX4_within := goodIn_r _ [12] (by decide +kernel) (by decide +kernel)
set_option maxRecDepth 20000 in
theorem gX4_set_X4_within : GoodIn wsX4_set (va_wsS RX4 66 yX4_within wsX4_within) := goodIn_app (goodIn_of _ (by decide +kernel)) ggX4_set_X4_within
set_option maxRecDepth 20000 in
theorem ggX4_set_X4_number : GoodIn wsX4_set wsX4_number := goodIn_r _ [16, 3, 17, 18, 19, 20, 21, 22, 23, 24, 25, 26, 27, 28, 29, 30, 31, 32, 33, 34, 35, 36, 37, 38, 39, 40, 41] (by decide +kernel) (by decide +kernel)
set_option maxRecDepth 20000 in
theorem gX4_set_X4_number : GoodIn wsX4_set (wsV RX4 81 RX4 yX4_number wsX4_number) := goodIn_app (goodIn_of _ (by decide +kernel)) ggX4_set_X4_number
theorem dX4_set_0 : decode cX4_set 0 = .ok (.aload_n 0, 1) := by decide +kernel
theorem dX4_set_1 : decode cX4_set 1 = .ok (.iload_n 1, 1) := by decide +kernel
theorem dX4_set_2 : decode cX4_set 2 = .ok (.invokevirtual 78, 3) := by decide +kernel
theorem dX4_set_5 : decode cX4_set 5 = .ok (.ifCond .ne 5, 3) := by decide +kernel
theorem dX4_set_8 : decode cX4_set 8 = .ok (.iconst (-1), 1) := by decide +kernel
theorem dX4_set_9 : decode cX4_set 9 = .ok (.ireturn, 1) := by decide +kernel
theorem dX4_set_10 : decode cX4_set 10 = .ok (.iload_n 2, 1) := by decide +kernel
theorem dX4_set_11 : decode cX4_set 11 = .ok (.iconst 0, 1) := by decide +kernel
theorem dX4_set_12 : decode cX4_set 12 = .ok (.iconst 4, 1) := by decide +kernel
theorem dX4_set_13 : decode cX4_set 13 = .ok (.invokestatic 66, 3) := by decide +kernel
theorem dX4_set_16 : decode cX4_set 16 = .ok (.ifCond .eq 22, 3) := by decide +kernel
theorem dX4_set_19 : decode cX4_set 19 = .ok (.iload_n 3, 1) := by decide +kernel
theorem dX4_set_20 : decode cX4_set 20 = .ok (.aload_n 0, 1) := by decide +kernel
theorem dX4_set_21 : decode cX4_set 21 = .ok (.getfield 26, 3) := by decide +kernel
theorem dX4_set_24 : decode cX4_set 24 = .ok (.iload_n 2, 1) := by decide +kernel
theorem dX4_set_25 : decode cX4_set 25 = .ok (.iaload, 1) := by decide +kernel
theorem dX4_set_26 : decode cX4_set 26 = .ok (.aload_n 0, 1) := by decide +kernel
theorem dX4_set_27 : decode cX4_set 27 = .ok (.getfield 29, 3) := by decide +kernel
theorem dX4_set_30 : decode cX4_set 30 = .ok (.iload_n 2, 1) := by decide +kernel
theorem dX4_set_31 : decode cX4_set 31 = .ok (.iaload, 1) := by decide +kernel
theorem dX4_set_32 : decode cX4_set 32 = .ok (.invokestatic 66, 3) := by decide +kernel
theorem dX4_set_35 : decode cX4_set 35 = .ok (.ifCond .ne 6, 3) := by decide +kernel
theorem dX4_set_38 : decode cX4_set 38 = .ok (.bipush (-2), 2) := by decide +kernel
theorem dX4_set_40 : decode cX4_set 40 = .ok (.ireturn, 1) := by decide +kernel
theorem dX4_set_41 : decode cX4_set 41 = .ok (.aload_n 0, 1) := by decide +kernel
theorem dX4_set_42 : decode cX4_set 42 = .ok (.iload_n 1, 1) := by decide +kernel
theorem dX4_set_43 : decode cX4_set 43 = .ok (.iload_n 2, 1) := by decide +kernel
theorem dX4_set_44 : decode cX4_set 44 = .ok (.invokevirtual 81, 3) := by decide +kernel
theorem dX4_set_47 : decode cX4_set 47 = .ok (.istore 4, 2) := by decide +kernel
theorem dX4_set_49 : decode cX4_set 49 = .ok (.aload_n 0, 1) := by decide +kernel
theorem dX4_set_50 : decode cX4_set 50 = .ok (.getfield 23, 3) := by decide +kernel
theorem dX4_set_53 : decode cX4_set 53 = .ok (.iconst 5, 1) := by decide +kernel
theorem dX4_set_54 : decode cX4_set 54 = .ok (.iload_n 1, 1) := by decide +kernel
theorem dX4_set_55 : decode cX4_set 55 = .ok (.imul, 1) := by decide +kernel
theorem dX4_set_56 : decode cX4_set 56 = .ok (.iload_n 2, 1) := by decide +kernel
theorem dX4_set_57 : decode cX4_set 57 = .ok (.iadd, 1) := by decide +kernel
theorem dX4_set_58 : decode cX4_set 58 = .ok (.iload_n 3, 1) := by decide +kernel
theorem dX4_set_59 : decode cX4_set 59 = .ok (.iastore, 1) := by decide +kernel
theorem dX4_set_60 : decode cX4_set 60 = .ok (.iload 4, 2) := by decide +kernel
theorem dX4_set_62 : decode cX4_set 62 = .ok (.ireturn, 1) := by decide +kernel
set_option maxRecDepth 20000 in
theorem ggX4_ofPart_X4_isPart : GoodIn wsX4_ofPart wsX4_isPart := goodIn_r _ [11, 12, 13, 14, 10, 15, 21, 22, 23, 24, 25, 26, 27, 28, 29, 30, 31, 32, 33, 34, 35, 36, 37, 38, 39, 40, 41, 42, 43, 44, 45] (by decide +kernel) (by decide +kernel)
set_option maxRecDepth 20000 in
theorem gX4_ofPart_X4_isPart : GoodIn wsX4_ofPart (wsV RX4 78 RX4 yX4_isPart wsX4_isPart) := goodIn_app (goodIn_of _ (by decide +kernel)) ggX4_ofPart_X4_isPart
set_option maxRecDepth 20000 in
theorem ggX4_ofPart_X4_within : GoodIn wsX4_ofPart wsX4_within := goodIn_r _ [15] (by decide +kernel) (by decide +kernel)
set_option maxRecDepth 20000 in
theorem gX4_ofPart_X4_within : GoodIn wsX4_ofPart (va_wsS RX4 66 yX4_within wsX4_within) := goodIn_app (goodIn_of _ (by decide +kernel)) ggX4_ofPart_X4_within
set_option maxRecDepth 20000 in
theorem ggX4_ofPart_X4_number : GoodIn wsX4_ofPart wsX4_number := goodIn_r _ [19, 20, 21, 22, 23, 24, 25, 26, 27, 28, 29, 30, 31, 32, 33, 34, 35, 36, 37, 38, 39, 40, 41, 42, 43, 44, 45] (by decide +kernel) (by decide +kernel)
set_option maxRecDepth 20000 in
theorem gX4_ofPart_X4_number : GoodIn wsX4_ofPart (wsV RX4 81 RX4 yX4_number wsX4_number) := goodIn_app (goodIn_of _ (by decide +kernel)) ggX4_ofPart_X4_number
theorem dX4_ofPart_0 : decode cX4_ofPart 0 = .ok (.aload_n 0, 1) := by decide +kernel
theorem dX4_ofPart_1 : decode cX4_ofPart 1 = .ok (.iload_n 1, 1) := by decide +kernel
theorem dX4_ofPart_2 : decode cX4_ofPart 2 = .ok (.invokevirtual 78, 3) := by decide +kernel
theorem dX4_ofPart_5 : decode cX4_ofPart 5 = .ok (.ifCond .ne 5, 3) := by decide +kernel
theorem dX4_ofPart_8 : decode cX4_ofPart 8 = .ok (.iconst (-1), 1) := by decide +kernel
theorem dX4_ofPart_9 : decode cX4_ofPart 9 = .ok (.ireturn, 1) := by decide +kernel
theorem dX4_ofPart_10 : decode cX4_ofPart 10 = .ok (.iload_n 2, 1) := by decide +kernel
theorem dX4_ofPart_11 : decode cX4_ofPart 11 = .ok (.bipush 10, 2) := by decide +kernel
theorem dX4_ofPart_13 : decode cX4_ofPart 13 = .ok (.bipush 14, 2) := by decide +kernel
theorem dX4_ofPart_15 : decode cX4_ofPart 15 = .ok (.invokestatic 66, 3) := by decide +kernel
theorem dX4_ofPart_18 : decode cX4_ofPart 18 = .ok (.ifCond .eq 13, 3) := by decide +kernel
theorem dX4_ofPart_21 : decode cX4_ofPart 21 = .ok (.aload_n 0, 1) := by decide +kernel
theorem dX4_ofPart_22 : decode cX4_ofPart 22 = .ok (.iload_n 1, 1) := by decide +kernel
theorem dX4_ofPart_23 : decode cX4_ofPart 23 = .ok (.iload_n 2, 1) := by decide +kernel
theorem dX4_ofPart_24 : decode cX4_ofPart 24 = .ok (.bipush 10, 2) := by decide +kernel
theorem dX4_ofPart_26 : decode cX4_ofPart 26 = .ok (.isub, 1) := by decide +kernel
theorem dX4_ofPart_27 : decode cX4_ofPart 27 = .ok (.invokevirtual 81, 3) := by decide +kernel
theorem dX4_ofPart_30 : decode cX4_ofPart 30 = .ok (.ireturn, 1) := by decide +kernel
theorem dX4_ofPart_31 : decode cX4_ofPart 31 = .ok (.iload_n 2, 1) := by decide +kernel
theorem dX4_ofPart_32 : decode cX4_ofPart 32 = .ok (.tableswitch 98 0 5 #[40, 47, 54, 61, 68, 83], 40) := by decide +kernel
theorem dX4_ofPart_72 : decode cX4_ofPart 72 = .ok (.aload_n 0, 1) := by decide +kernel
theorem dX4_ofPart_73 : decode cX4_ofPart 73 = .ok (.getfield 13, 3) := by decide +kernel
theorem dX4_ofPart_76 : decode cX4_ofPart 76 = .ok (.iload_n 1, 1) := by decide +kernel
theorem dX4_ofPart_77 : decode cX4_ofPart 77 = .ok (.iaload, 1) := by decide +kernel
theorem dX4_ofPart_78 : decode cX4_ofPart 78 = .ok (.ireturn, 1) := by decide +kernel
theorem dX4_ofPart_79 : decode cX4_ofPart 79 = .ok (.aload_n 0, 1) := by decide +kernel
theorem dX4_ofPart_80 : decode cX4_ofPart 80 = .ok (.getfield 17, 3) := by decide +kernel
theorem dX4_ofPart_83 : decode cX4_ofPart 83 = .ok (.iload_n 1, 1) := by decide +kernel
theorem dX4_ofPart_84 : decode cX4_ofPart 84 = .ok (.iaload, 1) := by decide +kernel
theorem dX4_ofPart_85 : decode cX4_ofPart 85 = .ok (.ireturn, 1) := by decide +kernel
theorem dX4_ofPart_86 : decode cX4_ofPart 86 = .ok (.aload_n 0, 1) := by decide +kernel
theorem dX4_ofPart_87 : decode cX4_ofPart 87 = .ok (.getfield 20, 3) := by decide +kernel
theorem dX4_ofPart_90 : decode cX4_ofPart 90 = .ok (.iload_n 1, 1) := by decide +kernel
theorem dX4_ofPart_91 : decode cX4_ofPart 91 = .ok (.iaload, 1) := by decide +kernel
theorem dX4_ofPart_92 : decode cX4_ofPart 92 = .ok (.ireturn, 1) := by decide +kernel
theorem dX4_ofPart_93 : decode cX4_ofPart 93 = .ok (.aload_n 0, 1) := by decide +kernel
theorem dX4_ofPart_94 : decode cX4_ofPart 94 = .ok (.getfield 32, 3) := by decide +kernel
theorem dX4_ofPart_97 : decode cX4_ofPart 97 = .ok (.iload_n 1, 1) := by decide +kernel
theorem dX4_ofPart_98 : decode cX4_ofPart 98 = .ok (.iaload, 1) := by decide +kernel
theorem dX4_ofPart_99 : decode cX4_ofPart 99 = .ok (.ireturn, 1) := by decide +kernel
theorem dX4_ofPart_100 : decode cX4_ofPart 100 = .ok (.aload_n 0, 1) := by decide +kernel
theorem dX4_ofPart_101 : decode cX4_ofPart 101 = .ok (.getfield 35, 3) := by decide +kernel
theorem dX4_ofPart_104 : decode cX4_ofPart 104 = .ok (.iload_n 1, 1) := by decide +kernel
theorem dX4_ofPart_105 : decode cX4_ofPart 105 = .ok (.baload, 1) := by decide +kernel
theorem dX4_ofPart_106 : decode cX4_ofPart 106 = .ok (.ifCond .eq 7, 3) := by decide +kernel
theorem dX4_ofPart_109 : decode cX4_ofPart 109 = .ok (.iconst 1, 1) := by decide +kernel
theorem dX4_ofPart_110 : decode cX4_ofPart 110 = .ok (.goto 4, 3) := by decide +kernel
theorem dX4_ofPart_113 : decode cX4_ofPart 113 = .ok (.iconst 0, 1) := by decide +kernel
theorem dX4_ofPart_114 : decode cX4_ofPart 114 = .ok (.ireturn, 1) := by decide +kernel
theorem dX4_ofPart_115 : decode cX4_ofPart 115 = .ok (.aload_n 0, 1) := by decide +kernel
theorem dX4_ofPart_116 : decode cX4_ofPart 116 = .ok (.getfield 38, 3) := by decide +kernel
theorem dX4_ofPart_119 : decode cX4_ofPart 119 = .ok (.iload_n 1, 1) := by decide +kernel
theorem dX4_ofPart_120 : decode cX4_ofPart 120 = .ok (.baload, 1) := by decide +kernel
theorem dX4_ofPart_121 : decode cX4_ofPart 121 = .ok (.ifCond .eq 7, 3) := by decide +kernel
theorem dX4_ofPart_124 : decode cX4_ofPart 124 = .ok (.iconst 1, 1) := by decide +kernel
theorem dX4_ofPart_125 : decode cX4_ofPart 125 = .ok (.goto 4, 3) := by decide +kernel
theorem dX4_ofPart_128 : decode cX4_ofPart 128 = .ok (.iconst 0, 1) := by decide +kernel
theorem dX4_ofPart_129 : decode cX4_ofPart 129 = .ok (.ireturn, 1) := by decide +kernel
theorem dX4_ofPart_130 : decode cX4_ofPart 130 = .ok (.bipush (-2), 2) := by decide +kernel
theorem dX4_ofPart_132 : decode cX4_ofPart 132 = .ok (.ireturn, 1) := by decide +kernel
set_option maxRecDepth 20000 in
theorem ggX4_isTerminal_X4_within : GoodIn wsX4_isTerminal wsX4_within := goodIn_r _ [4] (by decide +kernel) (by decide +kernel)
set_option maxRecDepth 20000 in
theorem gX4_isTerminal_X4_within : GoodIn wsX4_isTerminal (va_wsS RX4 66 yX4_within wsX4_within) := goodIn_app (goodIn_of _ (by decide +kernel)) ggX4_isTerminal_X4_within
theorem dX4_isTerminal_0 : decode cX4_isTerminal 0 = .ok (.iload_n 0, 1) := by decide +kernel
theorem dX4_isTerminal_1 : decode cX4_isTerminal 1 = .ok (.iconst 0, 1) := by decide +kernel
theorem dX4_isTerminal_2 : decode cX4_isTerminal 2 = .ok (.iconst 3, 1) := by decide +kernel
theorem dX4_isTerminal_3 : decode cX4_isTerminal 3 = .ok (.invokestatic 66, 3) := by decide +kernel
theorem dX4_isTerminal_6 : decode cX4_isTerminal 6 = .ok (.ireturn, 1) := by decide +kernel
set_option maxRecDepth 20000 in
theorem ggX4_relay_X4_isTerminal : GoodIn wsX4_relay wsX4_isTerminal := goodIn_r _ [6, 7, 8, 5, 9] (by decide +kernel) (by decide +kernel)
set_option maxRecDepth 20000 in
theorem gX4_relay_X4_isTerminal : GoodIn wsX4_relay (va_wsS RX4 85 yX4_isTerminal wsX4_isTerminal) := goodIn_app (goodIn_of _ (by decide +kernel)) ggX4_relay_X4_isTerminal
set_option maxRecDepth 20000 in
theorem ggX4_relay_X4_isPin : GoodIn wsX4_relay wsX4_isPin := goodIn_r _ [12, 7, 8, 5, 9] (by decide +kernel) (by decide +kernel)
set_option maxRecDepth 20000 in
theorem gX4_relay_X4_isPin : GoodIn wsX4_relay (va_wsS RX4 70 yX4_isPin wsX4_isPin) := goodIn_app (goodIn_of _ (by decide +kernel)) ggX4_relay_X4_isPin
set_option maxRecDepth 20000 in
theorem ggX4_relay_X4_within : GoodIn wsX4_relay wsX4_within := goodIn_r _ [9] (by decide +kernel) (by decide +kernel)
set_option maxRecDepth 20000 in
theorem gX4_relay_X4_within : GoodIn wsX4_relay (va_wsS RX4 66 yX4_within wsX4_within) := goodIn_app (goodIn_of _ (by decide +kernel)) ggX4_relay_X4_within
theorem dX4_relay_0 : decode cX4_relay 0 = .ok (.iload_n 1, 1) := by decide +kernel
theorem dX4_relay_1 : decode cX4_relay 1 = .ok (.invokestatic 85, 3) := by decide +kernel
theorem dX4_relay_4 : decode cX4_relay 4 = .ok (.ifCond .eq 10, 3) := by decide +kernel
theorem dX4_relay_7 : decode cX4_relay 7 = .ok (.iload_n 2, 1) := by decide +kernel
theorem dX4_relay_8 : decode cX4_relay 8 = .ok (.invokestatic 70, 3) := by decide +kernel
theorem dX4_relay_11 : decode cX4_relay 11 = .ok (.ifCond .ne 5, 3) := by decide +kernel
theorem dX4_relay_14 : decode cX4_relay 14 = .ok (.iconst (-1), 1) := by decide +kernel
theorem dX4_relay_15 : decode cX4_relay 15 = .ok (.ireturn, 1) := by decide +kernel
theorem dX4_relay_16 : decode cX4_relay 16 = .ok (.iload_n 3, 1) := by decide +kernel
theorem dX4_relay_17 : decode cX4_relay 17 = .ok (.iconst 0, 1) := by decide +kernel
theorem dX4_relay_18 : decode cX4_relay 18 = .ok (.iconst 1, 1) := by decide +kernel
theorem dX4_relay_19 : decode cX4_relay 19 = .ok (.invokestatic 66, 3) := by decide +kernel
theorem dX4_relay_22 : decode cX4_relay 22 = .ok (.ifCond .ne 6, 3) := by decide +kernel
theorem dX4_relay_25 : decode cX4_relay 25 = .ok (.bipush (-2), 2) := by decide +kernel
theorem dX4_relay_27 : decode cX4_relay 27 = .ok (.ireturn, 1) := by decide +kernel
theorem dX4_relay_28 : decode cX4_relay 28 = .ok (.iload_n 1, 1) := by decide +kernel
theorem dX4_relay_29 : decode cX4_relay 29 = .ok (.iconst 2, 1) := by decide +kernel
theorem dX4_relay_30 : decode cX4_relay 30 = .ok (.if_icmp .ge 28, 3) := by decide +kernel
theorem dX4_relay_33 : decode cX4_relay 33 = .ok (.iload_n 3, 1) := by decide +kernel
theorem dX4_relay_34 : decode cX4_relay 34 = .ok (.iconst 1, 1) := by decide +kernel
theorem dX4_relay_35 : decode cX4_relay 35 = .ok (.if_icmp .ne 23, 3) := by decide +kernel
theorem dX4_relay_38 : decode cX4_relay 38 = .ok (.aload_n 0, 1) := by decide +kernel
theorem dX4_relay_39 : decode cX4_relay 39 = .ok (.getfield 41, 3) := by decide +kernel
theorem dX4_relay_42 : decode cX4_relay 42 = .ok (.iconst 1, 1) := by decide +kernel
theorem dX4_relay_43 : decode cX4_relay 43 = .ok (.iload_n 1, 1) := by decide +kernel
theorem dX4_relay_44 : decode cX4_relay 44 = .ok (.isub, 1) := by decide +kernel
theorem dX4_relay_45 : decode cX4_relay 45 = .ok (.iaload, 1) := by decide +kernel
theorem dX4_relay_46 : decode cX4_relay 46 = .ok (.iload_n 2, 1) := by decide +kernel
theorem dX4_relay_47 : decode cX4_relay 47 = .ok (.ishr, 1) := by decide +kernel
theorem dX4_relay_48 : decode cX4_relay 48 = .ok (.iconst 1, 1) := by decide +kernel
theorem dX4_relay_49 : decode cX4_relay 49 = .ok (.iand, 1) := by decide +kernel
theorem dX4_relay_50 : decode cX4_relay 50 = .ok (.iconst 1, 1) := by decide +kernel
theorem dX4_relay_51 : decode cX4_relay 51 = .ok (.if_icmp .ne 7, 3) := by decide +kernel
theorem dX4_relay_54 : decode cX4_relay 54 = .ok (.iconst 1, 1) := by decide +kernel
theorem dX4_relay_55 : decode cX4_relay 55 = .ok (.goto 4, 3) := by decide +kernel
theorem dX4_relay_58 : decode cX4_relay 58 = .ok (.iconst 0, 1) := by decide +kernel
theorem dX4_relay_59 : decode cX4_relay 59 = .ok (.istore 4, 2) := by decide +kernel
theorem dX4_relay_61 : decode cX4_relay 61 = .ok (.aload_n 0, 1) := by decide +kernel
theorem dX4_relay_62 : decode cX4_relay 62 = .ok (.getfield 74, 3) := by decide +kernel
theorem dX4_relay_65 : decode cX4_relay 65 = .ok (.ifCond .ne 8, 3) := by decide +kernel
theorem dX4_relay_68 : decode cX4_relay 68 = .ok (.iload 4, 2) := by decide +kernel
theorem dX4_relay_70 : decode cX4_relay 70 = .ok (.ifCond .eq 6, 3) := by decide +kernel
theorem dX4_relay_73 : decode cX4_relay 73 = .ok (.bipush (-3), 2) := by decide +kernel
theorem dX4_relay_75 : decode cX4_relay 75 = .ok (.ireturn, 1) := by decide +kernel
theorem dX4_relay_76 : decode cX4_relay 76 = .ok (.aload_n 0, 1) := by decide +kernel
theorem dX4_relay_77 : decode cX4_relay 77 = .ok (.getfield 41, 3) := by decide +kernel
theorem dX4_relay_80 : decode cX4_relay 80 = .ok (.iload_n 1, 1) := by decide +kernel
theorem dX4_relay_81 : decode cX4_relay 81 = .ok (.iaload, 1) := by decide +kernel
theorem dX4_relay_82 : decode cX4_relay 82 = .ok (.iload_n 2, 1) := by decide +kernel
theorem dX4_relay_83 : decode cX4_relay 83 = .ok (.ishr, 1) := by decide +kernel
theorem dX4_relay_84 : decode cX4_relay 84 = .ok (.iconst 1, 1) := by decide +kernel
theorem dX4_relay_85 : decode cX4_relay 85 = .ok (.iand, 1) := by decide +kernel
theorem dX4_relay_86 : decode cX4_relay 86 = .ok (.istore 5, 2) := by decide +kernel
theorem dX4_relay_88 : decode cX4_relay 88 = .ok (.aload_n 0, 1) := by decide +kernel
theorem dX4_relay_89 : decode cX4_relay 89 = .ok (.getfield 41, 3) := by decide +kernel
theorem dX4_relay_92 : decode cX4_relay 92 = .ok (.iload_n 1, 1) := by decide +kernel
theorem dX4_relay_93 : decode cX4_relay 93 = .ok (.aload_n 0, 1) := by decide +kernel
theorem dX4_relay_94 : decode cX4_relay 94 = .ok (.getfield 41, 3) := by decide +kernel
theorem dX4_relay_97 : decode cX4_relay 97 = .ok (.iload_n 1, 1) := by decide +kernel
theorem dX4_relay_98 : decode cX4_relay 98 = .ok (.iaload, 1) := by decide +kernel
theorem dX4_relay_99 : decode cX4_relay 99 = .ok (.iconst 1, 1) := by decide +kernel
theorem dX4_relay_100 : decode cX4_relay 100 = .ok (.iload_n 2, 1) := by decide +kernel
theorem dX4_relay_101 : decode cX4_relay 101 = .ok (.ishl, 1) := by decide +kernel
theorem dX4_relay_102 : decode cX4_relay 102 = .ok (.iconst (-1), 1) := by decide +kernel
theorem dX4_relay_103 : decode cX4_relay 103 = .ok (.ixor, 1) := by decide +kernel
theorem dX4_relay_104 : decode cX4_relay 104 = .ok (.iand, 1) := by decide +kernel
theorem dX4_relay_105 : decode cX4_relay 105 = .ok (.iload_n 3, 1) := by decide +kernel
theorem dX4_relay_106 : decode cX4_relay 106 = .ok (.iload_n 2, 1) := by decide +kernel
theorem dX4_relay_107 : decode cX4_relay 107 = .ok (.ishl, 1) := by decide +kernel
theorem dX4_relay_108 : decode cX4_relay 108 = .ok (.ior, 1) := by decide +kernel
theorem dX4_relay_109 : decode cX4_relay 109 = .ok (.iastore, 1) := by decide +kernel
theorem dX4_relay_110 : decode cX4_relay 110 = .ok (.iload 5, 2) := by decide +kernel
theorem dX4_relay_112 : decode cX4_relay 112 = .ok (.ireturn, 1) := by decide +kernel
set_option maxRecDepth 20000 in
theorem ggX4_pins_X4_isTerminal : GoodIn wsX4_pins wsX4_isTerminal := goodIn_r _ [5, 6, 7, 4, 8] (by decide +kernel) (by decide +kernel)
set_option maxRecDepth 20000 in
theorem gX4_pins_X4_isTerminal : GoodIn wsX4_pins (va_wsS RX4 85 yX4_isTerminal wsX4_isTerminal) := goodIn_app (goodIn_of _ (by decide +kernel)) ggX4_pins_X4_isTerminal
theorem dX4_pins_0 : decode cX4_pins 0 = .ok (.iload_n 1, 1) := by decide +kernel
theorem dX4_pins_1 : decode cX4_pins 1 = .ok (.invokestatic 85, 3) := by decide +kernel
theorem dX4_pins_4 : decode cX4_pins 4 = .ok (.ifCond .eq 12, 3) := by decide +kernel
theorem dX4_pins_7 : decode cX4_pins 7 = .ok (.aload_n 0, 1) := by decide +kernel
theorem dX4_pins_8 : decode cX4_pins 8 = .ok (.getfield 41, 3) := by decide +kernel
theorem dX4_pins_11 : decode cX4_pins 11 = .ok (.iload_n 1, 1) := by decide +kernel
theorem dX4_pins_12 : decode cX4_pins 12 = .ok (.iaload, 1) := by decide +kernel
theorem dX4_pins_13 : decode cX4_pins 13 = .ok (.goto 4, 3) := by decide +kernel
theorem dX4_pins_16 : decode cX4_pins 16 = .ok (.iconst (-1), 1) := by decide +kernel
theorem dX4_pins_17 : decode cX4_pins 17 = .ok (.ireturn, 1) := by decide +kernel
theorem dX4_pinOf_0 : decode cX4_pinOf 0 = .ok (.bipush (-9), 2) := by decide +kernel
theorem dX4_pinOf_2 : decode cX4_pinOf 2 = .ok (.istore_n 2, 1) := by decide +kernel
theorem dX4_pinOf_3 : decode cX4_pinOf 3 = .ok (.iconst 0, 1) := by decide +kernel
theorem dX4_pinOf_4 : decode cX4_pinOf 4 = .ok (.istore_n 3, 1) := by decide +kernel
theorem dX4_pinOf_5 : decode cX4_pinOf 5 = .ok (.iconst 0, 1) := by decide +kernel
theorem dX4_pinOf_6 : decode cX4_pinOf 6 = .ok (.istore 4, 2) := by decide +kernel
theorem dX4_pinOf_8 : decode cX4_pinOf 8 = .ok (.iload 4, 2) := by decide +kernel
theorem dX4_pinOf_10 : decode cX4_pinOf 10 = .ok (.bipush 8, 2) := by decide +kernel
theorem dX4_pinOf_12 : decode cX4_pinOf 12 = .ok (.if_icmp .ge 30, 3) := by decide +kernel
theorem dX4_pinOf_15 : decode cX4_pinOf 15 = .ok (.aload_n 0, 1) := by decide +kernel
theorem dX4_pinOf_16 : decode cX4_pinOf 16 = .ok (.getfield 41, 3) := by decide +kernel
theorem dX4_pinOf_19 : decode cX4_pinOf 19 = .ok (.iload_n 1, 1) := by decide +kernel
theorem dX4_pinOf_20 : decode cX4_pinOf 20 = .ok (.iaload, 1) := by decide +kernel
theorem dX4_pinOf_21 : decode cX4_pinOf 21 = .ok (.iload 4, 2) := by decide +kernel
theorem dX4_pinOf_23 : decode cX4_pinOf 23 = .ok (.ishr, 1) := by decide +kernel
theorem dX4_pinOf_24 : decode cX4_pinOf 24 = .ok (.iconst 1, 1) := by decide +kernel
theorem dX4_pinOf_25 : decode cX4_pinOf 25 = .ok (.iand, 1) := by decide +kernel
theorem dX4_pinOf_26 : decode cX4_pinOf 26 = .ok (.iconst 1, 1) := by decide +kernel
theorem dX4_pinOf_27 : decode cX4_pinOf 27 = .ok (.if_icmp .ne 9, 3) := by decide +kernel
theorem dX4_pinOf_30 : decode cX4_pinOf 30 = .ok (.iload 4, 2) := by decide +kernel
theorem dX4_pinOf_32 : decode cX4_pinOf 32 = .ok (.istore_n 2, 1) := by decide +kernel
theorem dX4_pinOf_33 : decode cX4_pinOf 33 = .ok (.iinc 3 1, 3) := by decide +kernel
theorem dX4_pinOf_36 : decode cX4_pinOf 36 = .ok (.iinc 4 1, 3) := by decide +kernel
theorem dX4_pinOf_39 : decode cX4_pinOf 39 = .ok (.goto (-31), 3) := by decide +kernel
theorem dX4_pinOf_42 : decode cX4_pinOf 42 = .ok (.iload_n 3, 1) := by decide +kernel
theorem dX4_pinOf_43 : decode cX4_pinOf 43 = .ok (.iconst 1, 1) := by decide +kernel
theorem dX4_pinOf_44 : decode cX4_pinOf 44 = .ok (.if_icmp .ne 7, 3) := by decide +kernel
theorem dX4_pinOf_47 : decode cX4_pinOf 47 = .ok (.iload_n 2, 1) := by decide +kernel
theorem dX4_pinOf_48 : decode cX4_pinOf 48 = .ok (.goto 5, 3) := by decide +kernel
theorem dX4_pinOf_51 : decode cX4_pinOf 51 = .ok (.bipush (-9), 2) := by decide +kernel
theorem dX4_pinOf_53 : decode cX4_pinOf 53 = .ok (.ireturn, 1) := by decide +kernel
set_option maxRecDepth 20000 in
theorem ggX4_inHand_X4_pinOf : GoodIn wsX4_inHand wsX4_pinOf := goodIn_r _ [8, 9, 10, 11, 12, 13, 14, 15, 16, 17, 18, 19, 20, 21, 22, 23, 24, 25, 26, 27, 28, 29, 30, 31, 32, 33, 34] (by decide +kernel) (by decide +kernel)
set_option maxRecDepth 20000 in
theorem gX4_inHand_X4_pinOf : GoodIn wsX4_inHand (wsV RX4 88 RX4 yX4_pinOf wsX4_pinOf) := goodIn_app (goodIn_of _ (by decide +kernel)) ggX4_inHand_X4_pinOf
theorem dX4_inHand_0 : decode cX4_inHand 0 = .ok (.aload_n 0, 1) := by decide +kernel
theorem dX4_inHand_1 : decode cX4_inHand 1 = .ok (.iconst 0, 1) := by decide +kernel
theorem dX4_inHand_2 : decode cX4_inHand 2 = .ok (.invokevirtual 88, 3) := by decide +kernel
theorem dX4_inHand_5 : decode cX4_inHand 5 = .ok (.istore_n 1, 1) := by decide +kernel
theorem dX4_inHand_6 : decode cX4_inHand 6 = .ok (.aload_n 0, 1) := by decide +kernel
theorem dX4_inHand_7 : decode cX4_inHand 7 = .ok (.iconst 1, 1) := by decide +kernel
theorem dX4_inHand_8 : decode cX4_inHand 8 = .ok (.invokevirtual 88, 3) := by decide +kernel
theorem dX4_inHand_11 : decode cX4_inHand 11 = .ok (.istore_n 2, 1) := by decide +kernel
theorem dX4_inHand_12 : decode cX4_inHand 12 = .ok (.iload_n 1, 1) := by decide +kernel
theorem dX4_inHand_13 : decode cX4_inHand 13 = .ok (.bipush (-9), 2) := by decide +kernel
theorem dX4_inHand_15 : decode cX4_inHand 15 = .ok (.if_icmp .eq 9, 3) := by decide +kernel
theorem dX4_inHand_18 : decode cX4_inHand 18 = .ok (.iload_n 2, 1) := by decide +kernel
theorem dX4_inHand_19 : decode cX4_inHand 19 = .ok (.bipush (-9), 2) := by decide +kernel
theorem dX4_inHand_21 : decode cX4_inHand 21 = .ok (.if_icmp .ne 6, 3) := by decide +kernel
theorem dX4_inHand_24 : decode cX4_inHand 24 = .ok (.bipush (-9), 2) := by decide +kernel
theorem dX4_inHand_26 : decode cX4_inHand 26 = .ok (.ireturn, 1) := by decide +kernel
theorem dX4_inHand_27 : decode cX4_inHand 27 = .ok (.iconst 0, 1) := by decide +kernel
theorem dX4_inHand_28 : decode cX4_inHand 28 = .ok (.istore_n 3, 1) := by decide +kernel
theorem dX4_inHand_29 : decode cX4_inHand 29 = .ok (.iload_n 3, 1) := by decide +kernel
theorem dX4_inHand_30 : decode cX4_inHand 30 = .ok (.iconst 4, 1) := by decide +kernel
theorem dX4_inHand_31 : decode cX4_inHand 31 = .ok (.if_icmp .ge 72, 3) := by decide +kernel
theorem dX4_inHand_34 : decode cX4_inHand 34 = .ok (.aload_n 0, 1) := by decide +kernel
theorem dX4_inHand_35 : decode cX4_inHand 35 = .ok (.getfield 13, 3) := by decide +kernel
theorem dX4_inHand_38 : decode cX4_inHand 38 = .ok (.iload_n 3, 1) := by decide +kernel
theorem dX4_inHand_39 : decode cX4_inHand 39 = .ok (.iaload, 1) := by decide +kernel
theorem dX4_inHand_40 : decode cX4_inHand 40 = .ok (.iload_n 1, 1) := by decide +kernel
theorem dX4_inHand_41 : decode cX4_inHand 41 = .ok (.if_icmp .ne 13, 3) := by decide +kernel
theorem dX4_inHand_44 : decode cX4_inHand 44 = .ok (.aload_n 0, 1) := by decide +kernel
theorem dX4_inHand_45 : decode cX4_inHand 45 = .ok (.getfield 17, 3) := by decide +kernel
theorem dX4_inHand_48 : decode cX4_inHand 48 = .ok (.iload_n 3, 1) := by decide +kernel
theorem dX4_inHand_49 : decode cX4_inHand 49 = .ok (.iaload, 1) := by decide +kernel
theorem dX4_inHand_50 : decode cX4_inHand 50 = .ok (.iload_n 2, 1) := by decide +kernel
theorem dX4_inHand_51 : decode cX4_inHand 51 = .ok (.if_icmp .eq 23, 3) := by decide +kernel
theorem dX4_inHand_54 : decode cX4_inHand 54 = .ok (.aload_n 0, 1) := by decide +kernel
theorem dX4_inHand_55 : decode cX4_inHand 55 = .ok (.getfield 13, 3) := by decide +kernel
theorem dX4_inHand_58 : decode cX4_inHand 58 = .ok (.iload_n 3, 1) := by decide +kernel
theorem dX4_inHand_59 : decode cX4_inHand 59 = .ok (.iaload, 1) := by decide +kernel
theorem dX4_inHand_60 : decode cX4_inHand 60 = .ok (.iload_n 2, 1) := by decide +kernel
theorem dX4_inHand_61 : decode cX4_inHand 61 = .ok (.if_icmp .ne 17, 3) := by decide +kernel
theorem dX4_inHand_64 : decode cX4_inHand 64 = .ok (.aload_n 0, 1) := by decide +kernel
theorem dX4_inHand_65 : decode cX4_inHand 65 = .ok (.getfield 17, 3) := by decide +kernel
theorem dX4_inHand_68 : decode cX4_inHand 68 = .ok (.iload_n 3, 1) := by decide +kernel
theorem dX4_inHand_69 : decode cX4_inHand 69 = .ok (.iaload, 1) := by decide +kernel
theorem dX4_inHand_70 : decode cX4_inHand 70 = .ok (.iload_n 1, 1) := by decide +kernel
theorem dX4_inHand_71 : decode cX4_inHand 71 = .ok (.if_icmp .ne 7, 3) := by decide +kernel
theorem dX4_inHand_74 : decode cX4_inHand 74 = .ok (.iconst 1, 1) := by decide +kernel
theorem dX4_inHand_75 : decode cX4_inHand 75 = .ok (.goto 4, 3) := by decide +kernel
theorem dX4_inHand_78 : decode cX4_inHand 78 = .ok (.iconst 0, 1) := by decide +kernel
theorem dX4_inHand_79 : decode cX4_inHand 79 = .ok (.istore 4, 2) := by decide +kernel
theorem dX4_inHand_81 : decode cX4_inHand 81 = .ok (.aload_n 0, 1) := by decide +kernel
theorem dX4_inHand_82 : decode cX4_inHand 82 = .ok (.getfield 7, 3) := by decide +kernel
theorem dX4_inHand_85 : decode cX4_inHand 85 = .ok (.iload_n 3, 1) := by decide +kernel
theorem dX4_inHand_86 : decode cX4_inHand 86 = .ok (.baload, 1) := by decide +kernel
theorem dX4_inHand_87 : decode cX4_inHand 87 = .ok (.ifCond .eq 10, 3) := by decide +kernel
theorem dX4_inHand_90 : decode cX4_inHand 90 = .ok (.iload 4, 2) := by decide +kernel
theorem dX4_inHand_92 : decode cX4_inHand 92 = .ok (.ifCond .eq 5, 3) := by decide +kernel
theorem dX4_inHand_95 : decode cX4_inHand 95 = .ok (.iload_n 3, 1) := by decide +kernel
theorem dX4_inHand_96 : decode cX4_inHand 96 = .ok (.ireturn, 1) := by decide +kernel
theorem dX4_inHand_97 : decode cX4_inHand 97 = .ok (.iinc 3 1, 3) := by decide +kernel
theorem dX4_inHand_100 : decode cX4_inHand 100 = .ok (.goto (-71), 3) := by decide +kernel
theorem dX4_inHand_103 : decode cX4_inHand 103 = .ok (.bipush (-9), 2) := by decide +kernel
theorem dX4_inHand_105 : decode cX4_inHand 105 = .ok (.ireturn, 1) := by decide +kernel
set_option maxRecDepth 20000 in
theorem ggX4_isFourWires_X4_pinOf : GoodIn wsX4_isFourWires wsX4_pinOf := goodIn_r _ [5, 6, 7, 8, 9, 10, 11, 12, 13, 14, 15, 16, 17, 18, 19, 20, 21, 22, 23, 24, 25, 26, 27, 28, 29, 30, 31] (by decide +kernel) (by decide +kernel)
set_option maxRecDepth 20000 in
theorem gX4_isFourWires_X4_pinOf : GoodIn wsX4_isFourWires (wsV RX4 88 RX4 yX4_pinOf wsX4_pinOf) := goodIn_app (goodIn_of _ (by decide +kernel)) ggX4_isFourWires_X4_pinOf
theorem dX4_isFourWires_0 : decode cX4_isFourWires 0 = .ok (.aload_n 0, 1) := by decide +kernel
theorem dX4_isFourWires_1 : decode cX4_isFourWires 1 = .ok (.iconst 0, 1) := by decide +kernel
theorem dX4_isFourWires_2 : decode cX4_isFourWires 2 = .ok (.invokevirtual 88, 3) := by decide +kernel
theorem dX4_isFourWires_5 : decode cX4_isFourWires 5 = .ok (.bipush (-9), 2) := by decide +kernel
theorem dX4_isFourWires_7 : decode cX4_isFourWires 7 = .ok (.if_icmp .eq 43, 3) := by decide +kernel
theorem dX4_isFourWires_10 : decode cX4_isFourWires 10 = .ok (.aload_n 0, 1) := by decide +kernel
theorem dX4_isFourWires_11 : decode cX4_isFourWires 11 = .ok (.iconst 2, 1) := by decide +kernel
theorem dX4_isFourWires_12 : decode cX4_isFourWires 12 = .ok (.invokevirtual 88, 3) := by decide +kernel
theorem dX4_isFourWires_15 : decode cX4_isFourWires 15 = .ok (.aload_n 0, 1) := by decide +kernel
theorem dX4_isFourWires_16 : decode cX4_isFourWires 16 = .ok (.iconst 0, 1) := by decide +kernel
theorem dX4_isFourWires_17 : decode cX4_isFourWires 17 = .ok (.invokevirtual 88, 3) := by decide +kernel
theorem dX4_isFourWires_20 : decode cX4_isFourWires 20 = .ok (.if_icmp .ne 30, 3) := by decide +kernel
theorem dX4_isFourWires_23 : decode cX4_isFourWires 23 = .ok (.aload_n 0, 1) := by decide +kernel
theorem dX4_isFourWires_24 : decode cX4_isFourWires 24 = .ok (.iconst 1, 1) := by decide +kernel
theorem dX4_isFourWires_25 : decode cX4_isFourWires 25 = .ok (.invokevirtual 88, 3) := by decide +kernel
theorem dX4_isFourWires_28 : decode cX4_isFourWires 28 = .ok (.bipush (-9), 2) := by decide +kernel
theorem dX4_isFourWires_30 : decode cX4_isFourWires 30 = .ok (.if_icmp .eq 20, 3) := by decide +kernel
theorem dX4_isFourWires_33 : decode cX4_isFourWires 33 = .ok (.aload_n 0, 1) := by decide +kernel
theorem dX4_isFourWires_34 : decode cX4_isFourWires 34 = .ok (.iconst 3, 1) := by decide +kernel
theorem dX4_isFourWires_35 : decode cX4_isFourWires 35 = .ok (.invokevirtual 88, 3) := by decide +kernel
theorem dX4_isFourWires_38 : decode cX4_isFourWires 38 = .ok (.aload_n 0, 1) := by decide +kernel
theorem dX4_isFourWires_39 : decode cX4_isFourWires 39 = .ok (.iconst 1, 1) := by decide +kernel
theorem dX4_isFourWires_40 : decode cX4_isFourWires 40 = .ok (.invokevirtual 88, 3) := by decide +kernel
theorem dX4_isFourWires_43 : decode cX4_isFourWires 43 = .ok (.if_icmp .ne 7, 3) := by decide +kernel
theorem dX4_isFourWires_46 : decode cX4_isFourWires 46 = .ok (.iconst 1, 1) := by decide +kernel
theorem dX4_isFourWires_47 : decode cX4_isFourWires 47 = .ok (.goto 4, 3) := by decide +kernel
theorem dX4_isFourWires_50 : decode cX4_isFourWires 50 = .ok (.iconst 0, 1) := by decide +kernel
theorem dX4_isFourWires_51 : decode cX4_isFourWires 51 = .ok (.ireturn, 1) := by decide +kernel
set_option maxRecDepth 20000 in
theorem ggX4_power_X4_within : GoodIn wsX4_power wsX4_within := goodIn_r _ [5] (by decide +kernel) (by decide +kernel)
set_option maxRecDepth 20000 in
theorem gX4_power_X4_within : GoodIn wsX4_power (va_wsS RX4 66 yX4_within wsX4_within) := goodIn_app (goodIn_of _ (by decide +kernel)) ggX4_power_X4_within
set_option maxRecDepth 20000 in
theorem ggX4_power_X4_inHand : GoodIn wsX4_power wsX4_inHand := goodIn_r _ [9, 10, 11, 12, 13, 14, 15, 4, 16, 17, 18, 19, 20, 21, 22, 23, 24, 25, 26, 27, 28, 29, 30, 31, 32, 33, 34, 35, 36, 37, 38, 39, 40, 41, 42] (by decide +kernel) (by decide +kernel)
set_option maxRecDepth 20000 in
theorem gX4_power_X4_inHand : GoodIn wsX4_power (wsV RX4 92 RX4 yX4_inHand wsX4_inHand) := goodIn_app (goodIn_of _ (by decide +kernel)) ggX4_power_X4_inHand
theorem dX4_power_0 : decode cX4_power 0 = .ok (.iload_n 1, 1) := by decide +kernel
theorem dX4_power_1 : decode cX4_power 1 = .ok (.iconst 0, 1) := by decide +kernel
theorem dX4_power_2 : decode cX4_power 2 = .ok (.iconst 1, 1) := by decide +kernel
theorem dX4_power_3 : decode cX4_power 3 = .ok (.invokestatic 66, 3) := by decide +kernel
theorem dX4_power_6 : decode cX4_power 6 = .ok (.ifCond .ne 6, 3) := by decide +kernel
theorem dX4_power_9 : decode cX4_power 9 = .ok (.bipush (-2), 2) := by decide +kernel
theorem dX4_power_11 : decode cX4_power 11 = .ok (.ireturn, 1) := by decide +kernel
theorem dX4_power_12 : decode cX4_power 12 = .ok (.iload_n 1, 1) := by decide +kernel
theorem dX4_power_13 : decode cX4_power 13 = .ok (.iconst 1, 1) := by decide +kernel
theorem dX4_power_14 : decode cX4_power 14 = .ok (.if_icmp .ne 15, 3) := by decide +kernel
theorem dX4_power_17 : decode cX4_power 17 = .ok (.aload_n 0, 1) := by decide +kernel
theorem dX4_power_18 : decode cX4_power 18 = .ok (.invokevirtual 92, 3) := by decide +kernel
theorem dX4_power_21 : decode cX4_power 21 = .ok (.bipush (-9), 2) := by decide +kernel
theorem dX4_power_23 : decode cX4_power 23 = .ok (.if_icmp .ne 6, 3) := by decide +kernel
theorem dX4_power_26 : decode cX4_power 26 = .ok (.bipush (-3), 2) := by decide +kernel
theorem dX4_power_28 : decode cX4_power 28 = .ok (.ireturn, 1) := by decide +kernel
theorem dX4_power_29 : decode cX4_power 29 = .ok (.aload_n 0, 1) := by decide +kernel
theorem dX4_power_30 : decode cX4_power 30 = .ok (.getfield 74, 3) := by decide +kernel
theorem dX4_power_33 : decode cX4_power 33 = .ok (.ifCond .eq 7, 3) := by decide +kernel
theorem dX4_power_36 : decode cX4_power 36 = .ok (.iconst 1, 1) := by decide +kernel
theorem dX4_power_37 : decode cX4_power 37 = .ok (.goto 4, 3) := by decide +kernel
theorem dX4_power_40 : decode cX4_power 40 = .ok (.iconst 0, 1) := by decide +kernel
theorem dX4_power_41 : decode cX4_power 41 = .ok (.istore_n 2, 1) := by decide +kernel
theorem dX4_power_42 : decode cX4_power 42 = .ok (.aload_n 0, 1) := by decide +kernel
theorem dX4_power_43 : decode cX4_power 43 = .ok (.iload_n 1, 1) := by decide +kernel
theorem dX4_power_44 : decode cX4_power 44 = .ok (.iconst 1, 1) := by decide +kernel
theorem dX4_power_45 : decode cX4_power 45 = .ok (.if_icmp .ne 7, 3) := by decide +kernel
theorem dX4_power_48 : decode cX4_power 48 = .ok (.iconst 1, 1) := by decide +kernel
theorem dX4_power_49 : decode cX4_power 49 = .ok (.goto 4, 3) := by decide +kernel
theorem dX4_power_52 : decode cX4_power 52 = .ok (.iconst 0, 1) := by decide +kernel
theorem dX4_power_53 : decode cX4_power 53 = .ok (.putfield 74, 3) := by decide +kernel
theorem dX4_power_56 : decode cX4_power 56 = .ok (.iload_n 2, 1) := by decide +kernel
theorem dX4_power_57 : decode cX4_power 57 = .ok (.ireturn, 1) := by decide +kernel
set_option maxRecDepth 20000 in
theorem ggX4_limit_X4_within : GoodIn wsX4_limit wsX4_within := goodIn_r _ [5] (by decide +kernel) (by decide +kernel)
set_option maxRecDepth 20000 in
theorem gX4_limit_X4_within : GoodIn wsX4_limit (va_wsS RX4 66 yX4_within wsX4_within) := goodIn_app (goodIn_of _ (by decide +kernel)) ggX4_limit_X4_within
theorem dX4_limit_0 : decode cX4_limit 0 = .ok (.iload_n 1, 1) := by decide +kernel
theorem dX4_limit_1 : decode cX4_limit 1 = .ok (.iconst 1, 1) := by decide +kernel
theorem dX4_limit_2 : decode cX4_limit 2 = .ok (.sipush 20000, 3) := by decide +kernel
theorem dX4_limit_5 : decode cX4_limit 5 = .ok (.invokestatic 66, 3) := by decide +kernel
theorem dX4_limit_8 : decode cX4_limit 8 = .ok (.ifCond .ne 6, 3) := by decide +kernel
theorem dX4_limit_11 : decode cX4_limit 11 = .ok (.bipush (-2), 2) := by decide +kernel
theorem dX4_limit_13 : decode cX4_limit 13 = .ok (.ireturn, 1) := by decide +kernel
theorem dX4_limit_14 : decode cX4_limit 14 = .ok (.aload_n 0, 1) := by decide +kernel
theorem dX4_limit_15 : decode cX4_limit 15 = .ok (.getfield 44, 3) := by decide +kernel
theorem dX4_limit_18 : decode cX4_limit 18 = .ok (.istore_n 2, 1) := by decide +kernel
theorem dX4_limit_19 : decode cX4_limit 19 = .ok (.aload_n 0, 1) := by decide +kernel
theorem dX4_limit_20 : decode cX4_limit 20 = .ok (.iload_n 1, 1) := by decide +kernel
theorem dX4_limit_21 : decode cX4_limit 21 = .ok (.putfield 44, 3) := by decide +kernel
theorem dX4_limit_24 : decode cX4_limit 24 = .ok (.iload_n 2, 1) := by decide +kernel
theorem dX4_limit_25 : decode cX4_limit 25 = .ok (.ireturn, 1) := by decide +kernel
set_option maxRecDepth 20000 in
theorem ggX4_leads_X4_within : GoodIn wsX4_leads wsX4_within := goodIn_r _ [5] (by decide +kernel) (by decide +kernel)
set_option maxRecDepth 20000 in
theorem gX4_leads_X4_within : GoodIn wsX4_leads (va_wsS RX4 66 yX4_within wsX4_within) := goodIn_app (goodIn_of _ (by decide +kernel)) ggX4_leads_X4_within
theorem dX4_leads_0 : decode cX4_leads 0 = .ok (.iload_n 1, 1) := by decide +kernel
theorem dX4_leads_1 : decode cX4_leads 1 = .ok (.iconst 0, 1) := by decide +kernel
theorem dX4_leads_2 : decode cX4_leads 2 = .ok (.sipush 200, 3) := by decide +kernel
theorem dX4_leads_5 : decode cX4_leads 5 = .ok (.invokestatic 66, 3) := by decide +kernel
theorem dX4_leads_8 : decode cX4_leads 8 = .ok (.ifCond .ne 6, 3) := by decide +kernel
theorem dX4_leads_11 : decode cX4_leads 11 = .ok (.bipush (-2), 2) := by decide +kernel
theorem dX4_leads_13 : decode cX4_leads 13 = .ok (.ireturn, 1) := by decide +kernel
theorem dX4_leads_14 : decode cX4_leads 14 = .ok (.aload_n 0, 1) := by decide +kernel
theorem dX4_leads_15 : decode cX4_leads 15 = .ok (.getfield 96, 3) := by decide +kernel
theorem dX4_leads_18 : decode cX4_leads 18 = .ok (.istore_n 2, 1) := by decide +kernel
theorem dX4_leads_19 : decode cX4_leads 19 = .ok (.aload_n 0, 1) := by decide +kernel
theorem dX4_leads_20 : decode cX4_leads 20 = .ok (.iload_n 1, 1) := by decide +kernel
theorem dX4_leads_21 : decode cX4_leads 21 = .ok (.putfield 96, 3) := by decide +kernel
theorem dX4_leads_24 : decode cX4_leads 24 = .ok (.iload_n 2, 1) := by decide +kernel
theorem dX4_leads_25 : decode cX4_leads 25 = .ok (.ireturn, 1) := by decide +kernel
set_option maxRecDepth 20000 in
theorem ggX4_now_X4_inHand : GoodIn wsX4_now wsX4_inHand := goodIn_r _ [8, 9, 10, 11, 12, 13, 14, 7, 15, 16, 21, 22, 23, 24, 25, 26, 27, 28, 29, 30, 31, 32, 33, 34, 35, 36, 37, 38, 39, 40, 41, 42, 43, 44, 45] (by decide +kernel) (by decide +kernel)
set_option maxRecDepth 20000 in
theorem gX4_now_X4_inHand : GoodIn wsX4_now (wsV RX4 92 RX4 yX4_inHand wsX4_inHand) := goodIn_app (goodIn_of _ (by decide +kernel)) ggX4_now_X4_inHand
set_option maxRecDepth 20000 in
theorem ggX4_now_X4_isFourWires : GoodIn wsX4_now wsX4_isFourWires := goodIn_r _ [20, 12, 13, 14, 7, 15, 16, 21, 22, 23, 24, 25, 26, 27, 28, 29, 30, 31, 32, 33, 34, 35, 36, 37, 38, 39, 40, 41, 42, 43, 44, 45] (by decide +kernel) (by decide +kernel)
set_option maxRecDepth 20000 in
theorem gX4_now_X4_isFourWires : GoodIn wsX4_now (wsV RX4 99 RX4 yX4_isFourWires wsX4_isFourWires) := goodIn_app (goodIn_of _ (by decide +kernel)) ggX4_now_X4_isFourWires
theorem dX4_now_0 : decode cX4_now 0 = .ok (.iload_n 1, 1) := by decide +kernel
theorem dX4_now_1 : decode cX4_now 1 = .ok (.tableswitch 76 0 4 #[35, 40, 53, 66, 71], 35) := by decide +kernel
theorem dX4_now_36 : decode cX4_now 36 = .ok (.aload_n 0, 1) := by decide +kernel
theorem dX4_now_37 : decode cX4_now 37 = .ok (.invokevirtual 92, 3) := by decide +kernel
theorem dX4_now_40 : decode cX4_now 40 = .ok (.ireturn, 1) := by decide +kernel
theorem dX4_now_41 : decode cX4_now 41 = .ok (.aload_n 0, 1) := by decide +kernel
theorem dX4_now_42 : decode cX4_now 42 = .ok (.invokevirtual 99, 3) := by decide +kernel
theorem dX4_now_45 : decode cX4_now 45 = .ok (.ifCond .eq 7, 3) := by decide +kernel
theorem dX4_now_48 : decode cX4_now 48 = .ok (.iconst 4, 1) := by decide +kernel
theorem dX4_now_49 : decode cX4_now 49 = .ok (.goto 4, 3) := by decide +kernel
theorem dX4_now_52 : decode cX4_now 52 = .ok (.iconst 2, 1) := by decide +kernel
theorem dX4_now_53 : decode cX4_now 53 = .ok (.ireturn, 1) := by decide +kernel
theorem dX4_now_54 : decode cX4_now 54 = .ok (.aload_n 0, 1) := by decide +kernel
theorem dX4_now_55 : decode cX4_now 55 = .ok (.getfield 74, 3) := by decide +kernel
theorem dX4_now_58 : decode cX4_now 58 = .ok (.ifCond .eq 7, 3) := by decide +kernel
theorem dX4_now_61 : decode cX4_now 61 = .ok (.iconst 1, 1) := by decide +kernel
theorem dX4_now_62 : decode cX4_now 62 = .ok (.goto 4, 3) := by decide +kernel
theorem dX4_now_65 : decode cX4_now 65 = .ok (.iconst 0, 1) := by decide +kernel
theorem dX4_now_66 : decode cX4_now 66 = .ok (.ireturn, 1) := by decide +kernel
theorem dX4_now_67 : decode cX4_now 67 = .ok (.aload_n 0, 1) := by decide +kernel
theorem dX4_now_68 : decode cX4_now 68 = .ok (.getfield 44, 3) := by decide +kernel
theorem dX4_now_71 : decode cX4_now 71 = .ok (.ireturn, 1) := by decide +kernel
theorem dX4_now_72 : decode cX4_now 72 = .ok (.aload_n 0, 1) := by decide +kernel
theorem dX4_now_73 : decode cX4_now 73 = .ok (.getfield 96, 3) := by decide +kernel
theorem dX4_now_76 : decode cX4_now 76 = .ok (.ireturn, 1) := by decide +kernel
theorem dX4_now_77 : decode cX4_now 77 = .ok (.bipush (-2), 2) := by decide +kernel
theorem dX4_now_79 : decode cX4_now 79 = .ok (.ireturn, 1) := by decide +kernel
set_option maxRecDepth 20000 in
theorem ggX4_cold_X4_number : GoodIn wsX4_cold wsX4_number := goodIn_r _ [7, 8, 12, 13, 14, 15, 16, 17, 18, 19, 20, 21, 22, 23, 24, 25, 26, 27, 28, 29, 30, 31, 32, 33, 34, 35, 36] (by decide +kernel) (by decide +kernel)
set_option maxRecDepth 20000 in
theorem gX4_cold_X4_number : GoodIn wsX4_cold (wsV RX4 81 RX4 yX4_number wsX4_number) := goodIn_app (goodIn_of _ (by decide +kernel)) ggX4_cold_X4_number
set_option maxRecDepth 20000 in
theorem ggX4_cold_X4_cut : GoodIn wsX4_cold wsX4_cut := goodIn_r _ [11] (by decide +kernel) (by decide +kernel)
set_option maxRecDepth 20000 in
theorem gX4_cold_X4_cut : GoodIn wsX4_cold (va_wsS RX4 103 yX4_cut wsX4_cut) := goodIn_app (goodIn_of _ (by decide +kernel)) ggX4_cold_X4_cut
theorem dX4_cold_0 : decode cX4_cold 0 = .ok (.aload_n 0, 1) := by decide +kernel
theorem dX4_cold_1 : decode cX4_cold 1 = .ok (.iload_n 1, 1) := by decide +kernel
theorem dX4_cold_2 : decode cX4_cold 2 = .ok (.iconst 0, 1) := by decide +kernel
theorem dX4_cold_3 : decode cX4_cold 3 = .ok (.invokevirtual 81, 3) := by decide +kernel
theorem dX4_cold_6 : decode cX4_cold 6 = .ok (.istore_n 3, 1) := by decide +kernel
theorem dX4_cold_7 : decode cX4_cold 7 = .ok (.aload_n 0, 1) := by decide +kernel
theorem dX4_cold_8 : decode cX4_cold 8 = .ok (.iload_n 1, 1) := by decide +kernel
theorem dX4_cold_9 : decode cX4_cold 9 = .ok (.iconst 1, 1) := by decide +kernel
theorem dX4_cold_10 : decode cX4_cold 10 = .ok (.invokevirtual 81, 3) := by decide +kernel
theorem dX4_cold_13 : decode cX4_cold 13 = .ok (.istore 4, 2) := by decide +kernel
theorem dX4_cold_15 : decode cX4_cold 15 = .ok (.aload_n 0, 1) := by decide +kernel
theorem dX4_cold_16 : decode cX4_cold 16 = .ok (.iload_n 1, 1) := by decide +kernel
theorem dX4_cold_17 : decode cX4_cold 17 = .ok (.iconst 2, 1) := by decide +kernel
theorem dX4_cold_18 : decode cX4_cold 18 = .ok (.invokevirtual 81, 3) := by decide +kernel
theorem dX4_cold_21 : decode cX4_cold 21 = .ok (.istore 5, 2) := by decide +kernel
theorem dX4_cold_23 : decode cX4_cold 23 = .ok (.aload_n 0, 1) := by decide +kernel
theorem dX4_cold_24 : decode cX4_cold 24 = .ok (.getfield 20, 3) := by decide +kernel
theorem dX4_cold_27 : decode cX4_cold 27 = .ok (.iload_n 1, 1) := by decide +kernel
theorem dX4_cold_28 : decode cX4_cold 28 = .ok (.iaload, 1) := by decide +kernel
theorem dX4_cold_29 : decode cX4_cold 29 = .ok (.iconst 3, 1) := by decide +kernel
theorem dX4_cold_30 : decode cX4_cold 30 = .ok (.if_icmp .ne 27, 3) := by decide +kernel
theorem dX4_cold_33 : decode cX4_cold 33 = .ok (.iload_n 2, 1) := by decide +kernel
theorem dX4_cold_34 : decode cX4_cold 34 = .ok (.aload_n 0, 1) := by decide +kernel
theorem dX4_cold_35 : decode cX4_cold 35 = .ok (.getfield 38, 3) := by decide +kernel
theorem dX4_cold_38 : decode cX4_cold 38 = .ok (.iload_n 1, 1) := by decide +kernel
theorem dX4_cold_39 : decode cX4_cold 39 = .ok (.baload, 1) := by decide +kernel
theorem dX4_cold_40 : decode cX4_cold 40 = .ok (.ifCond .eq 7, 3) := by decide +kernel
theorem dX4_cold_43 : decode cX4_cold 43 = .ok (.iload_n 3, 1) := by decide +kernel
theorem dX4_cold_44 : decode cX4_cold 44 = .ok (.goto 5, 3) := by decide +kernel
theorem dX4_cold_47 : decode cX4_cold 47 = .ok (.iload 5, 2) := by decide +kernel
theorem dX4_cold_49 : decode cX4_cold 49 = .ok (.imul, 1) := by decide +kernel
theorem dX4_cold_50 : decode cX4_cold 50 = .ok (.sipush 1000, 3) := by decide +kernel
theorem dX4_cold_53 : decode cX4_cold 53 = .ok (.invokestatic 103, 3) := by decide +kernel
theorem dX4_cold_56 : decode cX4_cold 56 = .ok (.ireturn, 1) := by decide +kernel
theorem dX4_cold_57 : decode cX4_cold 57 = .ok (.aload_n 0, 1) := by decide +kernel
theorem dX4_cold_58 : decode cX4_cold 58 = .ok (.getfield 20, 3) := by decide +kernel
theorem dX4_cold_61 : decode cX4_cold 61 = .ok (.iload_n 1, 1) := by decide +kernel
theorem dX4_cold_62 : decode cX4_cold 62 = .ok (.iaload, 1) := by decide +kernel
theorem dX4_cold_63 : decode cX4_cold 63 = .ok (.ifCond .ne 13, 3) := by decide +kernel
theorem dX4_cold_66 : decode cX4_cold 66 = .ok (.iload_n 2, 1) := by decide +kernel
theorem dX4_cold_67 : decode cX4_cold 67 = .ok (.iload_n 3, 1) := by decide +kernel
theorem dX4_cold_68 : decode cX4_cold 68 = .ok (.imul, 1) := by decide +kernel
theorem dX4_cold_69 : decode cX4_cold 69 = .ok (.sipush 1000, 3) := by decide +kernel
theorem dX4_cold_72 : decode cX4_cold 72 = .ok (.invokestatic 103, 3) := by decide +kernel
theorem dX4_cold_75 : decode cX4_cold 75 = .ok (.ireturn, 1) := by decide +kernel
theorem dX4_cold_76 : decode cX4_cold 76 = .ok (.iload_n 2, 1) := by decide +kernel
theorem dX4_cold_77 : decode cX4_cold 77 = .ok (.iload 5, 2) := by decide +kernel
theorem dX4_cold_79 : decode cX4_cold 79 = .ok (.imul, 1) := by decide +kernel
theorem dX4_cold_80 : decode cX4_cold 80 = .ok (.sipush 1000, 3) := by decide +kernel
theorem dX4_cold_83 : decode cX4_cold 83 = .ok (.invokestatic 103, 3) := by decide +kernel
theorem dX4_cold_86 : decode cX4_cold 86 = .ok (.istore 6, 2) := by decide +kernel
theorem dX4_cold_88 : decode cX4_cold 88 = .ok (.iload 6, 2) := by decide +kernel
theorem dX4_cold_90 : decode cX4_cold 90 = .ok (.iload_n 2, 1) := by decide +kernel
theorem dX4_cold_91 : decode cX4_cold 91 = .ok (.iload 4, 2) := by decide +kernel
theorem dX4_cold_93 : decode cX4_cold 93 = .ok (.if_icmp .le 18, 3) := by decide +kernel
theorem dX4_cold_96 : decode cX4_cold 96 = .ok (.iload_n 2, 1) := by decide +kernel
theorem dX4_cold_97 : decode cX4_cold 97 = .ok (.iload 4, 2) := by decide +kernel
theorem dX4_cold_99 : decode cX4_cold 99 = .ok (.isub, 1) := by decide +kernel
theorem dX4_cold_100 : decode cX4_cold 100 = .ok (.iload_n 3, 1) := by decide +kernel
theorem dX4_cold_101 : decode cX4_cold 101 = .ok (.imul, 1) := by decide +kernel
theorem dX4_cold_102 : decode cX4_cold 102 = .ok (.sipush 1000, 3) := by decide +kernel
theorem dX4_cold_105 : decode cX4_cold 105 = .ok (.invokestatic 103, 3) := by decide +kernel
theorem dX4_cold_108 : decode cX4_cold 108 = .ok (.goto 4, 3) := by decide +kernel
theorem dX4_cold_111 : decode cX4_cold 111 = .ok (.iconst 0, 1) := by decide +kernel
theorem dX4_cold_112 : decode cX4_cold 112 = .ok (.iadd, 1) := by decide +kernel
theorem dX4_cold_113 : decode cX4_cold 113 = .ok (.istore 6, 2) := by decide +kernel
theorem dX4_cold_115 : decode cX4_cold 115 = .ok (.iload 6, 2) := by decide +kernel
theorem dX4_cold_117 : decode cX4_cold 117 = .ok (.aload_n 0, 1) := by decide +kernel
theorem dX4_cold_118 : decode cX4_cold 118 = .ok (.getfield 20, 3) := by decide +kernel
theorem dX4_cold_121 : decode cX4_cold 121 = .ok (.iload_n 1, 1) := by decide +kernel
theorem dX4_cold_122 : decode cX4_cold 122 = .ok (.iaload, 1) := by decide +kernel
theorem dX4_cold_123 : decode cX4_cold 123 = .ok (.iconst 2, 1) := by decide +kernel
theorem dX4_cold_124 : decode cX4_cold 124 = .ok (.if_icmp .ne 25, 3) := by decide +kernel
theorem dX4_cold_127 : decode cX4_cold 127 = .ok (.iload_n 2, 1) := by decide +kernel
theorem dX4_cold_128 : decode cX4_cold 128 = .ok (.iload 4, 2) := by decide +kernel
theorem dX4_cold_130 : decode cX4_cold 130 = .ok (.ineg, 1) := by decide +kernel
theorem dX4_cold_131 : decode cX4_cold 131 = .ok (.if_icmp .ge 18, 3) := by decide +kernel
theorem dX4_cold_134 : decode cX4_cold 134 = .ok (.iload_n 2, 1) := by decide +kernel
theorem dX4_cold_135 : decode cX4_cold 135 = .ok (.iload 4, 2) := by decide +kernel
theorem dX4_cold_137 : decode cX4_cold 137 = .ok (.iadd, 1) := by decide +kernel
theorem dX4_cold_138 : decode cX4_cold 138 = .ok (.iload_n 3, 1) := by decide +kernel
theorem dX4_cold_139 : decode cX4_cold 139 = .ok (.imul, 1) := by decide +kernel
theorem dX4_cold_140 : decode cX4_cold 140 = .ok (.sipush 1000, 3) := by decide +kernel
theorem dX4_cold_143 : decode cX4_cold 143 = .ok (.invokestatic 103, 3) := by decide +kernel
theorem dX4_cold_146 : decode cX4_cold 146 = .ok (.goto 4, 3) := by decide +kernel
theorem dX4_cold_149 : decode cX4_cold 149 = .ok (.iconst 0, 1) := by decide +kernel
theorem dX4_cold_150 : decode cX4_cold 150 = .ok (.iadd, 1) := by decide +kernel
theorem dX4_cold_151 : decode cX4_cold 151 = .ok (.ireturn, 1) := by decide +kernel
set_option maxRecDepth 20000 in
theorem ggX4_ownAmps_X4_cold : GoodIn wsX4_ownAmps wsX4_cold := goodIn_r _ [7, 8, 9, 10, 11, 12, 6, 13, 14, 15, 16, 17, 18, 19, 20, 21, 22, 23, 24, 25, 26, 27, 28, 29, 30, 31, 32, 33, 34, 35, 36, 37, 38, 39, 40, 41, 42] (by decide +kernel) (by decide +kernel)
set_option maxRecDepth 20000 in
theorem gX4_ownAmps_X4_cold : GoodIn wsX4_ownAmps (wsV RX4 106 RX4 yX4_cold wsX4_cold) := goodIn_app (goodIn_of _ (by decide +kernel)) ggX4_ownAmps_X4_cold
set_option maxRecDepth 20000 in
theorem ggX4_ownAmps_X4_number : GoodIn wsX4_ownAmps wsX4_number := goodIn_r _ [13, 14, 18, 19, 20, 21, 22, 23, 24, 25, 26, 27, 28, 29, 30, 31, 32, 33, 34, 35, 36, 37, 38, 39, 40, 41, 42] (by decide +kernel) (by decide +kernel)
set_option maxRecDepth 20000 in
theorem gX4_ownAmps_X4_number : GoodIn wsX4_ownAmps (wsV RX4 81 RX4 yX4_number wsX4_number) := goodIn_app (goodIn_of _ (by decide +kernel)) ggX4_ownAmps_X4_number
set_option maxRecDepth 20000 in
theorem ggX4_ownAmps_X4_cut : GoodIn wsX4_ownAmps wsX4_cut := goodIn_r _ [17] (by decide +kernel) (by decide +kernel)
set_option maxRecDepth 20000 in
theorem gX4_ownAmps_X4_cut : GoodIn wsX4_ownAmps (va_wsS RX4 103 yX4_cut wsX4_cut) := goodIn_app (goodIn_of _ (by decide +kernel)) ggX4_ownAmps_X4_cut
theorem dX4_ownAmps_0 : decode cX4_ownAmps 0 = .ok (.aload_n 0, 1) := by decide +kernel
theorem dX4_ownAmps_1 : decode cX4_ownAmps 1 = .ok (.getfield 35, 3) := by decide +kernel
theorem dX4_ownAmps_4 : decode cX4_ownAmps 4 = .ok (.iload_n 1, 1) := by decide +kernel
theorem dX4_ownAmps_5 : decode cX4_ownAmps 5 = .ok (.baload, 1) := by decide +kernel
theorem dX4_ownAmps_6 : decode cX4_ownAmps 6 = .ok (.ifCond .eq 7, 3) := by decide +kernel
theorem dX4_ownAmps_9 : decode cX4_ownAmps 9 = .ok (.iconst 0, 1) := by decide +kernel
theorem dX4_ownAmps_10 : decode cX4_ownAmps 10 = .ok (.goto 33, 3) := by decide +kernel
theorem dX4_ownAmps_13 : decode cX4_ownAmps 13 = .ok (.sipush 1000, 3) := by decide +kernel
theorem dX4_ownAmps_16 : decode cX4_ownAmps 16 = .ok (.aload_n 0, 1) := by decide +kernel
theorem dX4_ownAmps_17 : decode cX4_ownAmps 17 = .ok (.iload_n 1, 1) := by decide +kernel
theorem dX4_ownAmps_18 : decode cX4_ownAmps 18 = .ok (.iload_n 2, 1) := by decide +kernel
theorem dX4_ownAmps_19 : decode cX4_ownAmps 19 = .ok (.invokevirtual 106, 3) := by decide +kernel
theorem dX4_ownAmps_22 : decode cX4_ownAmps 22 = .ok (.imul, 1) := by decide +kernel
theorem dX4_ownAmps_23 : decode cX4_ownAmps 23 = .ok (.sipush 1000, 3) := by decide +kernel
theorem dX4_ownAmps_26 : decode cX4_ownAmps 26 = .ok (.aload_n 0, 1) := by decide +kernel
theorem dX4_ownAmps_27 : decode cX4_ownAmps 27 = .ok (.iload_n 1, 1) := by decide +kernel
theorem dX4_ownAmps_28 : decode cX4_ownAmps 28 = .ok (.iconst 4, 1) := by decide +kernel
theorem dX4_ownAmps_29 : decode cX4_ownAmps 29 = .ok (.invokevirtual 81, 3) := by decide +kernel
theorem dX4_ownAmps_32 : decode cX4_ownAmps 32 = .ok (.aload_n 0, 1) := by decide +kernel
theorem dX4_ownAmps_33 : decode cX4_ownAmps 33 = .ok (.getfield 32, 3) := by decide +kernel
theorem dX4_ownAmps_36 : decode cX4_ownAmps 36 = .ok (.iload_n 1, 1) := by decide +kernel
theorem dX4_ownAmps_37 : decode cX4_ownAmps 37 = .ok (.iaload, 1) := by decide +kernel
theorem dX4_ownAmps_38 : decode cX4_ownAmps 38 = .ok (.imul, 1) := by decide +kernel
theorem dX4_ownAmps_39 : decode cX4_ownAmps 39 = .ok (.iadd, 1) := by decide +kernel
theorem dX4_ownAmps_40 : decode cX4_ownAmps 40 = .ok (.invokestatic 103, 3) := by decide +kernel
theorem dX4_ownAmps_43 : decode cX4_ownAmps 43 = .ok (.ireturn, 1) := by decide +kernel
set_option maxRecDepth 20000 in
theorem ggX4_amps_X4_isPart : GoodIn wsX4_amps wsX4_isPart := goodIn_r _ [6, 7, 8, 9, 5, 10, 31, 32, 33, 34, 35, 36, 37, 38, 39, 40, 41, 42, 43, 44, 45, 46, 47, 48, 49, 50, 51, 52, 53, 54, 55] (by decide +kernel) (by decide +kernel)
set_option maxRecDepth 20000 in
theorem gX4_amps_X4_isPart : GoodIn wsX4_amps (wsV RX4 78 RX4 yX4_isPart wsX4_isPart) := goodIn_app (goodIn_of _ (by decide +kernel)) ggX4_amps_X4_isPart
set_option maxRecDepth 20000 in
theorem ggX4_amps_X4_within : GoodIn wsX4_amps wsX4_within := goodIn_r _ [10] (by decide +kernel) (by decide +kernel)
set_option maxRecDepth 20000 in
theorem gX4_amps_X4_within : GoodIn wsX4_amps (va_wsS RX4 66 yX4_within wsX4_within) := goodIn_app (goodIn_of _ (by decide +kernel)) ggX4_amps_X4_within
set_option maxRecDepth 20000 in
theorem ggX4_amps_X4_ownAmps : GoodIn wsX4_amps wsX4_ownAmps := goodIn_r _ [14, 15, 16, 17, 18, 19, 5, 20, 21, 22, 23, 24, 25, 26, 27, 28, 29, 30, 31, 32, 33, 34, 35, 36, 37, 38, 39, 40, 41, 42, 43, 44, 45, 46, 47, 48, 49, 50, 51, 52, 53, 54, 55] (by decide +kernel) (by decide +kernel)
set_option maxRecDepth 20000 in
theorem gX4_amps_X4_ownAmps : GoodIn wsX4_amps (wsV RX4 109 RX4 yX4_ownAmps wsX4_ownAmps) := goodIn_app (goodIn_of _ (by decide +kernel)) ggX4_amps_X4_ownAmps
theorem dX4_amps_0 : decode cX4_amps 0 = .ok (.aload_n 0, 1) := by decide +kernel
theorem dX4_amps_1 : decode cX4_amps 1 = .ok (.iload_n 1, 1) := by decide +kernel
theorem dX4_amps_2 : decode cX4_amps 2 = .ok (.invokevirtual 78, 3) := by decide +kernel
theorem dX4_amps_5 : decode cX4_amps 5 = .ok (.ifCond .ne 5, 3) := by decide +kernel
theorem dX4_amps_8 : decode cX4_amps 8 = .ok (.iconst (-1), 1) := by decide +kernel
theorem dX4_amps_9 : decode cX4_amps 9 = .ok (.ireturn, 1) := by decide +kernel
theorem dX4_amps_10 : decode cX4_amps 10 = .ok (.iload_n 2, 1) := by decide +kernel
theorem dX4_amps_11 : decode cX4_amps 11 = .ok (.sipush (-3000), 3) := by decide +kernel
theorem dX4_amps_14 : decode cX4_amps 14 = .ok (.sipush 3000, 3) := by decide +kernel
theorem dX4_amps_17 : decode cX4_amps 17 = .ok (.invokestatic 66, 3) := by decide +kernel
theorem dX4_amps_20 : decode cX4_amps 20 = .ok (.ifCond .eq 15, 3) := by decide +kernel
theorem dX4_amps_23 : decode cX4_amps 23 = .ok (.aload_n 0, 1) := by decide +kernel
theorem dX4_amps_24 : decode cX4_amps 24 = .ok (.iload_n 1, 1) := by decide +kernel
theorem dX4_amps_25 : decode cX4_amps 25 = .ok (.iload_n 2, 1) := by decide +kernel
theorem dX4_amps_26 : decode cX4_amps 26 = .ok (.invokevirtual 109, 3) := by decide +kernel
theorem dX4_amps_29 : decode cX4_amps 29 = .ok (.ldc 112, 2) := by decide +kernel
theorem dX4_amps_31 : decode cX4_amps 31 = .ok (.iadd, 1) := by decide +kernel
theorem dX4_amps_32 : decode cX4_amps 32 = .ok (.goto 5, 3) := by decide +kernel
theorem dX4_amps_35 : decode cX4_amps 35 = .ok (.bipush (-2), 2) := by decide +kernel
theorem dX4_amps_37 : decode cX4_amps 37 = .ok (.ireturn, 1) := by decide +kernel
set_option maxRecDepth 20000 in
theorem ggX4_isForward_X4_pinOf : GoodIn wsX4_isForward wsX4_pinOf := goodIn_r _ [6, 7, 8, 9, 10, 11, 12, 13, 14, 15, 16, 17, 18, 19, 20, 21, 22, 23, 24, 25, 26, 27, 28, 29, 30, 31, 32] (by decide +kernel) (by decide +kernel)
set_option maxRecDepth 20000 in
theorem gX4_isForward_X4_pinOf : GoodIn wsX4_isForward (wsV RX4 88 RX4 yX4_pinOf wsX4_pinOf) := goodIn_app (goodIn_of _ (by decide +kernel)) ggX4_isForward_X4_pinOf
theorem dX4_isForward_0 : decode cX4_isForward 0 = .ok (.aload_n 0, 1) := by decide +kernel
theorem dX4_isForward_1 : decode cX4_isForward 1 = .ok (.getfield 13, 3) := by decide +kernel
theorem dX4_isForward_4 : decode cX4_isForward 4 = .ok (.iload_n 1, 1) := by decide +kernel
theorem dX4_isForward_5 : decode cX4_isForward 5 = .ok (.iaload, 1) := by decide +kernel
theorem dX4_isForward_6 : decode cX4_isForward 6 = .ok (.aload_n 0, 1) := by decide +kernel
theorem dX4_isForward_7 : decode cX4_isForward 7 = .ok (.iconst 0, 1) := by decide +kernel
theorem dX4_isForward_8 : decode cX4_isForward 8 = .ok (.invokevirtual 88, 3) := by decide +kernel
theorem dX4_isForward_11 : decode cX4_isForward 11 = .ok (.if_icmp .ne 7, 3) := by decide +kernel
theorem dX4_isForward_14 : decode cX4_isForward 14 = .ok (.iconst 1, 1) := by decide +kernel
theorem dX4_isForward_15 : decode cX4_isForward 15 = .ok (.goto 4, 3) := by decide +kernel
theorem dX4_isForward_18 : decode cX4_isForward 18 = .ok (.iconst 0, 1) := by decide +kernel
theorem dX4_isForward_19 : decode cX4_isForward 19 = .ok (.ireturn, 1) := by decide +kernel
set_option maxRecDepth 20000 in
theorem ggX4_ampsAt_X4_isForward : GoodIn wsX4_ampsAt wsX4_isForward := goodIn_r _ [5, 6, 7, 8, 9, 4, 10, 11, 32, 33, 34, 35, 36, 37, 38, 39, 40, 41, 42, 43, 44, 45, 46, 47, 48, 49, 50, 51, 52, 53, 54, 55, 56] (by decide +kernel) (by decide +kernel)
set_option maxRecDepth 20000 in
theorem gX4_ampsAt_X4_isForward : GoodIn wsX4_ampsAt (wsV RX4 113 RX4 yX4_isForward wsX4_isForward) := goodIn_app (goodIn_of _ (by decide +kernel)) ggX4_ampsAt_X4_isForward
set_option maxRecDepth 20000 in
theorem ggX4_ampsAt_X4_ownAmps : GoodIn wsX4_ampsAt wsX4_ownAmps := goodIn_r _ [15, 16, 17, 18, 19, 20, 4, 21, 22, 23, 24, 25, 26, 27, 28, 29, 30, 31, 32, 33, 34, 35, 36, 37, 38, 39, 40, 41, 42, 43, 44, 45, 46, 47, 48, 49, 50, 51, 52, 53, 54, 55, 56] (by decide +kernel) (by decide +kernel)
set_option maxRecDepth 20000 in
theorem gX4_ampsAt_X4_ownAmps : GoodIn wsX4_ampsAt (wsV RX4 109 RX4 yX4_ownAmps wsX4_ownAmps) := goodIn_app (goodIn_of _ (by decide +kernel)) ggX4_ampsAt_X4_ownAmps
theorem dX4_ampsAt_0 : decode cX4_ampsAt 0 = .ok (.aload_n 0, 1) := by decide +kernel
theorem dX4_ampsAt_1 : decode cX4_ampsAt 1 = .ok (.iload_n 1, 1) := by decide +kernel
theorem dX4_ampsAt_2 : decode cX4_ampsAt 2 = .ok (.invokevirtual 113, 3) := by decide +kernel
theorem dX4_ampsAt_5 : decode cX4_ampsAt 5 = .ok (.ifCond .eq 12, 3) := by decide +kernel
theorem dX4_ampsAt_8 : decode cX4_ampsAt 8 = .ok (.aload_n 0, 1) := by decide +kernel
theorem dX4_ampsAt_9 : decode cX4_ampsAt 9 = .ok (.iload_n 1, 1) := by decide +kernel
theorem dX4_ampsAt_10 : decode cX4_ampsAt 10 = .ok (.iload_n 2, 1) := by decide +kernel
theorem dX4_ampsAt_11 : decode cX4_ampsAt 11 = .ok (.invokevirtual 109, 3) := by decide +kernel
theorem dX4_ampsAt_14 : decode cX4_ampsAt 14 = .ok (.goto 11, 3) := by decide +kernel
theorem dX4_ampsAt_17 : decode cX4_ampsAt 17 = .ok (.aload_n 0, 1) := by decide +kernel
theorem dX4_ampsAt_18 : decode cX4_ampsAt 18 = .ok (.iload_n 1, 1) := by decide +kernel
theorem dX4_ampsAt_19 : decode cX4_ampsAt 19 = .ok (.iload_n 2, 1) := by decide +kernel
theorem dX4_ampsAt_20 : decode cX4_ampsAt 20 = .ok (.ineg, 1) := by decide +kernel
theorem dX4_ampsAt_21 : decode cX4_ampsAt 21 = .ok (.invokevirtual 109, 3) := by decide +kernel
theorem dX4_ampsAt_24 : decode cX4_ampsAt 24 = .ok (.ineg, 1) := by decide +kernel
theorem dX4_ampsAt_25 : decode cX4_ampsAt 25 = .ok (.ireturn, 1) := by decide +kernel
set_option maxRecDepth 20000 in
theorem ggX4_dropBy_X4_cut : GoodIn wsX4_dropBy wsX4_cut := goodIn_r _ [5] (by decide +kernel) (by decide +kernel)
set_option maxRecDepth 20000 in
theorem gX4_dropBy_X4_cut : GoodIn wsX4_dropBy (va_wsS RX4 103 yX4_cut wsX4_cut) := goodIn_app (goodIn_of _ (by decide +kernel)) ggX4_dropBy_X4_cut
theorem dX4_dropBy_0 : decode cX4_dropBy 0 = .ok (.iload_n 1, 1) := by decide +kernel
theorem dX4_dropBy_1 : decode cX4_dropBy 1 = .ok (.aload_n 0, 1) := by decide +kernel
theorem dX4_dropBy_2 : decode cX4_dropBy 2 = .ok (.getfield 96, 3) := by decide +kernel
theorem dX4_dropBy_5 : decode cX4_dropBy 5 = .ok (.imul, 1) := by decide +kernel
theorem dX4_dropBy_6 : decode cX4_dropBy 6 = .ok (.sipush 1000, 3) := by decide +kernel
theorem dX4_dropBy_9 : decode cX4_dropBy 9 = .ok (.invokestatic 103, 3) := by decide +kernel
theorem dX4_dropBy_12 : decode cX4_dropBy 12 = .ok (.ireturn, 1) := by decide +kernel
set_option maxRecDepth 20000 in
theorem ggX4_against_X4_ampsAt : GoodIn wsX4_against wsX4_ampsAt := goodIn_r _ [6, 7, 8, 9, 5, 10, 11, 12, 13, 14, 15, 16, 17, 18, 19, 20, 21, 22, 23, 24, 25, 26, 27, 28, 29, 30, 31, 32, 33, 34, 35, 36, 49, 50, 51, 52, 53, 54, 55, 56, 57, 58, 59, 60, 61, 62, 63, 64, 65, 66, 67, 68, 69, 70, 71, 72, 73] (by decide +kernel) (by decide +kernel)
set_option maxRecDepth 20000 in
theorem gX4_against_X4_ampsAt : GoodIn wsX4_against (wsV RX4 116 RX4 yX4_ampsAt wsX4_ampsAt) := goodIn_app (goodIn_of _ (by decide +kernel)) ggX4_against_X4_ampsAt
set_option maxRecDepth 20000 in
theorem ggX4_against_X4_size : GoodIn wsX4_against wsX4_size := goodIn_r _ [39] (by decide +kernel) (by decide +kernel)
set_option maxRecDepth 20000 in
theorem gX4_against_X4_size : GoodIn wsX4_against (va_wsS RX4 119 yX4_size wsX4_size) := goodIn_app (goodIn_of _ (by decide +kernel)) ggX4_against_X4_size
set_option maxRecDepth 20000 in
theorem ggX4_against_X4_isFourWires : GoodIn wsX4_against wsX4_isFourWires := goodIn_r _ [43, 12, 13, 14, 5, 15, 16, 49, 50, 51, 52, 53, 54, 55, 56, 57, 58, 59, 60, 61, 62, 63, 64, 65, 66, 67, 68, 69, 70, 71, 72, 73] (by decide +kernel) (by decide +kernel)
set_option maxRecDepth 20000 in
theorem gX4_against_X4_isFourWires : GoodIn wsX4_against (wsV RX4 99 RX4 yX4_isFourWires wsX4_isFourWires) := goodIn_app (goodIn_of _ (by decide +kernel)) ggX4_against_X4_isFourWires
set_option maxRecDepth 20000 in
theorem ggX4_against_X4_dropBy : GoodIn wsX4_against wsX4_dropBy := goodIn_r _ [47, 48, 34, 35, 5, 36, 49, 50, 51, 52, 53, 54, 55, 56, 57, 58, 59, 60, 61, 62, 63, 64, 65, 66, 67, 68, 69, 70, 71, 72, 73] (by decide +kernel) (by decide +kernel)
set_option maxRecDepth 20000 in
theorem gX4_against_X4_dropBy : GoodIn wsX4_against (wsV RX4 122 RX4 yX4_dropBy wsX4_dropBy) := goodIn_app (goodIn_of _ (by decide +kernel)) ggX4_against_X4_dropBy
theorem dX4_against_0 : decode cX4_against 0 = .ok (.aload_n 0, 1) := by decide +kernel
theorem dX4_against_1 : decode cX4_against 1 = .ok (.iload_n 1, 1) := by decide +kernel
theorem dX4_against_2 : decode cX4_against 2 = .ok (.iload_n 2, 1) := by decide +kernel
theorem dX4_against_3 : decode cX4_against 3 = .ok (.invokevirtual 116, 3) := by decide +kernel
theorem dX4_against_6 : decode cX4_against 6 = .ok (.istore 4, 2) := by decide +kernel
theorem dX4_against_8 : decode cX4_against 8 = .ok (.iload 4, 2) := by decide +kernel
theorem dX4_against_10 : decode cX4_against 10 = .ok (.invokestatic 119, 3) := by decide +kernel
theorem dX4_against_13 : decode cX4_against 13 = .ok (.aload_n 0, 1) := by decide +kernel
theorem dX4_against_14 : decode cX4_against 14 = .ok (.getfield 44, 3) := by decide +kernel
theorem dX4_against_17 : decode cX4_against 17 = .ok (.if_icmp .le 5, 3) := by decide +kernel
theorem dX4_against_20 : decode cX4_against 20 = .ok (.iconst 1, 1) := by decide +kernel
theorem dX4_against_21 : decode cX4_against 21 = .ok (.ireturn, 1) := by decide +kernel
theorem dX4_against_22 : decode cX4_against 22 = .ok (.aload_n 0, 1) := by decide +kernel
theorem dX4_against_23 : decode cX4_against 23 = .ok (.invokevirtual 99, 3) := by decide +kernel
theorem dX4_against_26 : decode cX4_against 26 = .ok (.ifCond .ne 25, 3) := by decide +kernel
theorem dX4_against_29 : decode cX4_against 29 = .ok (.iload_n 2, 1) := by decide +kernel
theorem dX4_against_30 : decode cX4_against 30 = .ok (.aload_n 0, 1) := by decide +kernel
theorem dX4_against_31 : decode cX4_against 31 = .ok (.iload 4, 2) := by decide +kernel
theorem dX4_against_33 : decode cX4_against 33 = .ok (.invokevirtual 122, 3) := by decide +kernel
theorem dX4_against_36 : decode cX4_against 36 = .ok (.iadd, 1) := by decide +kernel
theorem dX4_against_37 : decode cX4_against 37 = .ok (.invokestatic 119, 3) := by decide +kernel
theorem dX4_against_40 : decode cX4_against 40 = .ok (.iload_n 3, 1) := by decide +kernel
theorem dX4_against_41 : decode cX4_against 41 = .ok (.invokestatic 119, 3) := by decide +kernel
theorem dX4_against_44 : decode cX4_against 44 = .ok (.if_icmp .le 7, 3) := by decide +kernel
theorem dX4_against_47 : decode cX4_against 47 = .ok (.iconst 2, 1) := by decide +kernel
theorem dX4_against_48 : decode cX4_against 48 = .ok (.goto 4, 3) := by decide +kernel
theorem dX4_against_51 : decode cX4_against 51 = .ok (.iconst 0, 1) := by decide +kernel
theorem dX4_against_52 : decode cX4_against 52 = .ok (.ireturn, 1) := by decide +kernel
set_option maxRecDepth 20000 in
theorem ggX4_finds_X4_against : GoodIn wsX4_finds wsX4_against := goodIn_r _ [7, 8, 9, 10, 11, 6, 12, 13, 14, 15, 16, 17, 18, 19, 20, 21, 22, 23, 24, 25, 26, 27, 28, 29, 30, 31, 32, 33, 34, 35, 36, 37, 38, 39, 40, 41, 42, 43, 44, 45, 46, 47, 48, 49, 50, 51, 52, 53, 54, 55, 56, 57, 58, 59, 60, 61, 62, 63, 64, 65, 66, 67, 68, 69, 70, 71, 72, 73, 74, 75, 76, 77, 78, 79] (by decide +kernel) (by decide +kernel)
set_option maxRecDepth 20000 in
theorem gX4_finds_X4_against : GoodIn wsX4_finds (wsV RX4 131 RX4 yX4_against wsX4_against) := goodIn_app (goodIn_of _ (by decide +kernel)) ggX4_finds_X4_against
theorem dX4_finds_0 : decode cX4_finds 0 = .ok (.iload_n 2, 1) := by decide +kernel
theorem dX4_finds_1 : decode cX4_finds 1 = .ok (.ifCond .ge 7, 3) := by decide +kernel
theorem dX4_finds_4 : decode cX4_finds 4 = .ok (.iconst (-1), 1) := by decide +kernel
theorem dX4_finds_5 : decode cX4_finds 5 = .ok (.goto 4, 3) := by decide +kernel
theorem dX4_finds_8 : decode cX4_finds 8 = .ok (.iconst 1, 1) := by decide +kernel
theorem dX4_finds_9 : decode cX4_finds 9 = .ok (.istore_n 3, 1) := by decide +kernel
theorem dX4_finds_10 : decode cX4_finds 10 = .ok (.aload_n 0, 1) := by decide +kernel
theorem dX4_finds_11 : decode cX4_finds 11 = .ok (.iconst 0, 1) := by decide +kernel
theorem dX4_finds_12 : decode cX4_finds 12 = .ok (.putfield 125, 3) := by decide +kernel
theorem dX4_finds_15 : decode cX4_finds 15 = .ok (.aload_n 0, 1) := by decide +kernel
theorem dX4_finds_16 : decode cX4_finds 16 = .ok (.iconst 0, 1) := by decide +kernel
theorem dX4_finds_17 : decode cX4_finds 17 = .ok (.putfield 128, 3) := by decide +kernel
theorem dX4_finds_20 : decode cX4_finds 20 = .ok (.aload_n 0, 1) := by decide +kernel
theorem dX4_finds_21 : decode cX4_finds 21 = .ok (.getfield 125, 3) := by decide +kernel
theorem dX4_finds_24 : decode cX4_finds 24 = .ok (.iload_n 2, 1) := by decide +kernel
theorem dX4_finds_25 : decode cX4_finds 25 = .ok (.if_icmp .eq 50, 3) := by decide +kernel
theorem dX4_finds_28 : decode cX4_finds 28 = .ok (.aload_n 0, 1) := by decide +kernel
theorem dX4_finds_29 : decode cX4_finds 29 = .ok (.getfield 128, 3) := by decide +kernel
theorem dX4_finds_32 : decode cX4_finds 32 = .ok (.ifCond .ne 43, 3) := by decide +kernel
theorem dX4_finds_35 : decode cX4_finds 35 = .ok (.aload_n 0, 1) := by decide +kernel
theorem dX4_finds_36 : decode cX4_finds 36 = .ok (.aload_n 0, 1) := by decide +kernel
theorem dX4_finds_37 : decode cX4_finds 37 = .ok (.iload_n 1, 1) := by decide +kernel
theorem dX4_finds_38 : decode cX4_finds 38 = .ok (.aload_n 0, 1) := by decide +kernel
theorem dX4_finds_39 : decode cX4_finds 39 = .ok (.getfield 125, 3) := by decide +kernel
theorem dX4_finds_42 : decode cX4_finds 42 = .ok (.iload_n 3, 1) := by decide +kernel
theorem dX4_finds_43 : decode cX4_finds 43 = .ok (.iadd, 1) := by decide +kernel
theorem dX4_finds_44 : decode cX4_finds 44 = .ok (.iload_n 2, 1) := by decide +kernel
theorem dX4_finds_45 : decode cX4_finds 45 = .ok (.invokevirtual 131, 3) := by decide +kernel
theorem dX4_finds_48 : decode cX4_finds 48 = .ok (.putfield 128, 3) := by decide +kernel
theorem dX4_finds_51 : decode cX4_finds 51 = .ok (.aload_n 0, 1) := by decide +kernel
theorem dX4_finds_52 : decode cX4_finds 52 = .ok (.dup, 1) := by decide +kernel
theorem dX4_finds_53 : decode cX4_finds 53 = .ok (.getfield 125, 3) := by decide +kernel
theorem dX4_finds_56 : decode cX4_finds 56 = .ok (.aload_n 0, 1) := by decide +kernel
theorem dX4_finds_57 : decode cX4_finds 57 = .ok (.getfield 128, 3) := by decide +kernel
theorem dX4_finds_60 : decode cX4_finds 60 = .ok (.ifCond .ne 7, 3) := by decide +kernel
theorem dX4_finds_63 : decode cX4_finds 63 = .ok (.iload_n 3, 1) := by decide +kernel
theorem dX4_finds_64 : decode cX4_finds 64 = .ok (.goto 4, 3) := by decide +kernel
theorem dX4_finds_67 : decode cX4_finds 67 = .ok (.iconst 0, 1) := by decide +kernel
theorem dX4_finds_68 : decode cX4_finds 68 = .ok (.iadd, 1) := by decide +kernel
theorem dX4_finds_69 : decode cX4_finds 69 = .ok (.putfield 125, 3) := by decide +kernel
theorem dX4_finds_72 : decode cX4_finds 72 = .ok (.goto (-52), 3) := by decide +kernel
theorem dX4_finds_75 : decode cX4_finds 75 = .ok (.return_, 1) := by decide +kernel
set_option maxRecDepth 20000 in
theorem ggX4_would_X4_within : GoodIn wsX4_would wsX4_within := goodIn_r _ [7] (by decide +kernel) (by decide +kernel)
set_option maxRecDepth 20000 in
theorem gX4_would_X4_within : GoodIn wsX4_would (va_wsS RX4 66 yX4_within wsX4_within) := goodIn_app (goodIn_of _ (by decide +kernel)) ggX4_would_X4_within
set_option maxRecDepth 20000 in
theorem ggX4_would_X4_inHand : GoodIn wsX4_would wsX4_inHand := goodIn_r _ [11, 12, 13, 14, 15, 16, 17, 6, 18, 19, 69, 70, 71, 72, 73, 74, 75, 76, 77, 78, 79, 80, 81, 82, 83, 84, 85, 86, 87, 88, 89, 90, 91, 92, 93] (by decide +kernel) (by decide +kernel)
set_option maxRecDepth 20000 in
theorem gX4_would_X4_inHand : GoodIn wsX4_would (wsV RX4 92 RX4 yX4_inHand wsX4_inHand) := goodIn_app (goodIn_of _ (by decide +kernel)) ggX4_would_X4_inHand
set_option maxRecDepth 20000 in
theorem ggX4_would_X4_finds : GoodIn wsX4_would wsX4_finds := goodIn_r _ [23, 1, 3, 24, 25, 26, 6, 27, 28, 29, 30, 31, 32, 33, 34, 35, 36, 12, 15, 16, 17, 18, 19, 37, 38, 39, 40, 41, 42, 43, 44, 45, 46, 47, 48, 49, 50, 51, 52, 53, 54, 55, 56, 57, 58, 59, 60, 61, 62, 63, 64, 65, 66, 67, 68, 69, 70, 71, 72, 73, 74, 75, 76, 77, 78, 79, 80, 81, 82, 83, 84, 85, 86, 87, 88, 89, 90, 91, 92, 93] (by decide +kernel) (by decide +kernel)
set_option maxRecDepth 20000 in
theorem gX4_would_X4_finds : GoodIn wsX4_would (wsV RX4 135 RX4 yX4_finds wsX4_finds) := goodIn_app (goodIn_of _ (by decide +kernel)) ggX4_would_X4_finds
set_option maxRecDepth 20000 in
theorem ggX4_would_X4_ampsAt : GoodIn wsX4_would wsX4_ampsAt := goodIn_r _ [32, 33, 34, 35, 6, 36, 12, 15, 16, 17, 18, 19, 37, 38, 39, 40, 41, 42, 43, 44, 45, 46, 47, 48, 49, 50, 51, 52, 53, 54, 55, 56, 69, 70, 71, 72, 73, 74, 75, 76, 77, 78, 79, 80, 81, 82, 83, 84, 85, 86, 87, 88, 89, 90, 91, 92, 93] (by decide +kernel) (by decide +kernel)
set_option maxRecDepth 20000 in
theorem gX4_would_X4_ampsAt : GoodIn wsX4_would (wsV RX4 116 RX4 yX4_ampsAt wsX4_ampsAt) := goodIn_app (goodIn_of _ (by decide +kernel)) ggX4_would_X4_ampsAt
theorem dX4_would_0 : decode cX4_would 0 = .ok (.iload_n 1, 1) := by decide +kernel
theorem dX4_would_1 : decode cX4_would 1 = .ok (.sipush (-3000), 3) := by decide +kernel
theorem dX4_would_4 : decode cX4_would 4 = .ok (.sipush 3000, 3) := by decide +kernel
theorem dX4_would_7 : decode cX4_would 7 = .ok (.invokestatic 66, 3) := by decide +kernel
theorem dX4_would_10 : decode cX4_would 10 = .ok (.ifCond .eq 12, 3) := by decide +kernel
theorem dX4_would_13 : decode cX4_would 13 = .ok (.iload_n 2, 1) := by decide +kernel
theorem dX4_would_14 : decode cX4_would 14 = .ok (.iconst 0, 1) := by decide +kernel
theorem dX4_would_15 : decode cX4_would 15 = .ok (.iconst 2, 1) := by decide +kernel
theorem dX4_would_16 : decode cX4_would 16 = .ok (.invokestatic 66, 3) := by decide +kernel
theorem dX4_would_19 : decode cX4_would 19 = .ok (.ifCond .ne 6, 3) := by decide +kernel
theorem dX4_would_22 : decode cX4_would 22 = .ok (.bipush (-2), 2) := by decide +kernel
theorem dX4_would_24 : decode cX4_would 24 = .ok (.ireturn, 1) := by decide +kernel
theorem dX4_would_25 : decode cX4_would 25 = .ok (.aload_n 0, 1) := by decide +kernel
theorem dX4_would_26 : decode cX4_would 26 = .ok (.invokevirtual 92, 3) := by decide +kernel
theorem dX4_would_29 : decode cX4_would 29 = .ok (.istore_n 3, 1) := by decide +kernel
theorem dX4_would_30 : decode cX4_would 30 = .ok (.iload_n 3, 1) := by decide +kernel
theorem dX4_would_31 : decode cX4_would 31 = .ok (.bipush (-9), 2) := by decide +kernel
theorem dX4_would_33 : decode cX4_would 33 = .ok (.if_icmp .ne 6, 3) := by decide +kernel
theorem dX4_would_36 : decode cX4_would 36 = .ok (.bipush (-3), 2) := by decide +kernel
theorem dX4_would_38 : decode cX4_would 38 = .ok (.ireturn, 1) := by decide +kernel
theorem dX4_would_39 : decode cX4_would 39 = .ok (.aload_n 0, 1) := by decide +kernel
theorem dX4_would_40 : decode cX4_would 40 = .ok (.iload_n 3, 1) := by decide +kernel
theorem dX4_would_41 : decode cX4_would 41 = .ok (.iload_n 1, 1) := by decide +kernel
theorem dX4_would_42 : decode cX4_would 42 = .ok (.invokevirtual 135, 3) := by decide +kernel
theorem dX4_would_45 : decode cX4_would 45 = .ok (.iload_n 2, 1) := by decide +kernel
theorem dX4_would_46 : decode cX4_would 46 = .ok (.ifCond .ne 14, 3) := by decide +kernel
theorem dX4_would_49 : decode cX4_would 49 = .ok (.aload_n 0, 1) := by decide +kernel
theorem dX4_would_50 : decode cX4_would 50 = .ok (.getfield 125, 3) := by decide +kernel
theorem dX4_would_53 : decode cX4_would 53 = .ok (.sipush 10000, 3) := by decide +kernel
theorem dX4_would_56 : decode cX4_would 56 = .ok (.iadd, 1) := by decide +kernel
theorem dX4_would_57 : decode cX4_would 57 = .ok (.goto 27, 3) := by decide +kernel
theorem dX4_would_60 : decode cX4_would 60 = .ok (.iload_n 2, 1) := by decide +kernel
theorem dX4_would_61 : decode cX4_would 61 = .ok (.iconst 1, 1) := by decide +kernel
theorem dX4_would_62 : decode cX4_would 62 = .ok (.if_icmp .ne 18, 3) := by decide +kernel
theorem dX4_would_65 : decode cX4_would 65 = .ok (.aload_n 0, 1) := by decide +kernel
theorem dX4_would_66 : decode cX4_would 66 = .ok (.iload_n 3, 1) := by decide +kernel
theorem dX4_would_67 : decode cX4_would 67 = .ok (.aload_n 0, 1) := by decide +kernel
theorem dX4_would_68 : decode cX4_would 68 = .ok (.getfield 125, 3) := by decide +kernel
theorem dX4_would_71 : decode cX4_would 71 = .ok (.invokevirtual 116, 3) := by decide +kernel
theorem dX4_would_74 : decode cX4_would 74 = .ok (.ldc 112, 2) := by decide +kernel
theorem dX4_would_76 : decode cX4_would 76 = .ok (.iadd, 1) := by decide +kernel
theorem dX4_would_77 : decode cX4_would 77 = .ok (.goto 7, 3) := by decide +kernel
theorem dX4_would_80 : decode cX4_would 80 = .ok (.aload_n 0, 1) := by decide +kernel
theorem dX4_would_81 : decode cX4_would 81 = .ok (.getfield 128, 3) := by decide +kernel
theorem dX4_would_84 : decode cX4_would 84 = .ok (.ireturn, 1) := by decide +kernel
theorem dX4_cause_0 : decode cX4_cause 0 = .ok (.aload_n 0, 1) := by decide +kernel
theorem dX4_cause_1 : decode cX4_cause 1 = .ok (.getfield 60, 3) := by decide +kernel
theorem dX4_cause_4 : decode cX4_cause 4 = .ok (.aload_n 0, 1) := by decide +kernel
theorem dX4_cause_5 : decode cX4_cause 5 = .ok (.getfield 139, 3) := by decide +kernel
theorem dX4_cause_8 : decode cX4_cause 8 = .ok (.iload_n 1, 1) := by decide +kernel
theorem dX4_cause_9 : decode cX4_cause 9 = .ok (.iastore, 1) := by decide +kernel
theorem dX4_cause_10 : decode cX4_cause 10 = .ok (.aload_n 0, 1) := by decide +kernel
theorem dX4_cause_11 : decode cX4_cause 11 = .ok (.getfield 63, 3) := by decide +kernel
theorem dX4_cause_14 : decode cX4_cause 14 = .ok (.aload_n 0, 1) := by decide +kernel
theorem dX4_cause_15 : decode cX4_cause 15 = .ok (.getfield 139, 3) := by decide +kernel
theorem dX4_cause_18 : decode cX4_cause 18 = .ok (.iload_n 2, 1) := by decide +kernel
theorem dX4_cause_19 : decode cX4_cause 19 = .ok (.iastore, 1) := by decide +kernel
theorem dX4_cause_20 : decode cX4_cause 20 = .ok (.aload_n 0, 1) := by decide +kernel
theorem dX4_cause_21 : decode cX4_cause 21 = .ok (.dup, 1) := by decide +kernel
theorem dX4_cause_22 : decode cX4_cause 22 = .ok (.getfield 139, 3) := by decide +kernel
theorem dX4_cause_25 : decode cX4_cause 25 = .ok (.iconst 1, 1) := by decide +kernel
theorem dX4_cause_26 : decode cX4_cause 26 = .ok (.iadd, 1) := by decide +kernel
theorem dX4_cause_27 : decode cX4_cause 27 = .ok (.putfield 139, 3) := by decide +kernel
theorem dX4_cause_30 : decode cX4_cause 30 = .ok (.return_, 1) := by decide +kernel
set_option maxRecDepth 20000 in
theorem ggX4_pulses_X4_inHand : GoodIn wsX4_pulses wsX4_inHand := goodIn_r _ [15, 16, 17, 18, 19, 20, 21, 14, 22, 23, 76, 77, 78, 79, 80, 81, 82, 83, 84, 85, 86, 87, 88, 89, 90, 91, 92, 93, 94, 95, 96, 97, 98, 99, 100] (by decide +kernel) (by decide +kernel)
set_option maxRecDepth 20000 in
theorem gX4_pulses_X4_inHand : GoodIn wsX4_pulses (wsV RX4 92 RX4 yX4_inHand wsX4_inHand) := goodIn_app (goodIn_of _ (by decide +kernel)) ggX4_pulses_X4_inHand
set_option maxRecDepth 20000 in
theorem ggX4_pulses_X4_finds : GoodIn wsX4_pulses wsX4_finds := goodIn_r _ [27, 1, 10, 28, 29, 30, 14, 31, 32, 33, 34, 35, 36, 37, 38, 39, 40, 16, 19, 20, 21, 22, 23, 41, 42, 43, 44, 4, 45, 46, 47, 48, 49, 2, 3, 50, 51, 52, 53, 54, 55, 56, 57, 58, 59, 60, 61, 62, 63, 64, 65, 66, 67, 68, 69, 76, 77, 78, 79, 80, 81, 82, 83, 84, 85, 86, 87, 88, 89, 90, 91, 92, 93, 94, 95, 96, 97, 98, 99, 100] (by decide +kernel) (by decide +kernel)
set_option maxRecDepth 20000 in
theorem gX4_pulses_X4_finds : GoodIn wsX4_pulses (wsV RX4 135 RX4 yX4_finds wsX4_finds) := goodIn_app (goodIn_of _ (by decide +kernel)) ggX4_pulses_X4_finds
set_option maxRecDepth 20000 in
theorem ggX4_pulses_X4_isForward : GoodIn wsX4_pulses wsX4_isForward := goodIn_r _ [40, 16, 19, 20, 21, 14, 22, 23, 76, 77, 78, 79, 80, 81, 82, 83, 84, 85, 86, 87, 88, 89, 90, 91, 92, 93, 94, 95, 96, 97, 98, 99, 100] (by decide +kernel) (by decide +kernel)
set_option maxRecDepth 20000 in
theorem gX4_pulses_X4_isForward : GoodIn wsX4_pulses (wsV RX4 113 RX4 yX4_isForward wsX4_isForward) := goodIn_app (goodIn_of _ (by decide +kernel)) ggX4_pulses_X4_isForward
set_option maxRecDepth 20000 in
theorem ggX4_pulses_X4_number : GoodIn wsX4_pulses wsX4_number := goodIn_r _ [53, 54, 76, 77, 78, 79, 80, 81, 82, 83, 84, 85, 86, 87, 88, 89, 90, 91, 92, 93, 94, 95, 96, 97, 98, 99, 100] (by decide +kernel) (by decide +kernel)
set_option maxRecDepth 20000 in
theorem gX4_pulses_X4_number : GoodIn wsX4_pulses (wsV RX4 81 RX4 yX4_number wsX4_number) := goodIn_app (goodIn_of _ (by decide +kernel)) ggX4_pulses_X4_number
set_option maxRecDepth 20000 in
theorem ggX4_pulses_X4_ampsAt : GoodIn wsX4_pulses wsX4_ampsAt := goodIn_r _ [36, 37, 38, 39, 14, 40, 16, 19, 20, 21, 22, 23, 41, 42, 43, 44, 4, 45, 46, 47, 48, 49, 2, 3, 50, 51, 52, 53, 54, 55, 56, 57, 76, 77, 78, 79, 80, 81, 82, 83, 84, 85, 86, 87, 88, 89, 90, 91, 92, 93, 94, 95, 96, 97, 98, 99, 100] (by decide +kernel) (by decide +kernel)
set_option maxRecDepth 20000 in
theorem gX4_pulses_X4_ampsAt : GoodIn wsX4_pulses (wsV RX4 116 RX4 yX4_ampsAt wsX4_ampsAt) := goodIn_app (goodIn_of _ (by decide +kernel)) ggX4_pulses_X4_ampsAt
set_option maxRecDepth 20000 in
theorem ggX4_pulses_X4_isFourWires : GoodIn wsX4_pulses wsX4_isFourWires := goodIn_r _ [64, 19, 20, 21, 14, 22, 23, 76, 77, 78, 79, 80, 81, 82, 83, 84, 85, 86, 87, 88, 89, 90, 91, 92, 93, 94, 95, 96, 97, 98, 99, 100] (by decide +kernel) (by decide +kernel)
set_option maxRecDepth 20000 in
theorem gX4_pulses_X4_isFourWires : GoodIn wsX4_pulses (wsV RX4 99 RX4 yX4_isFourWires wsX4_isFourWires) := goodIn_app (goodIn_of _ (by decide +kernel)) ggX4_pulses_X4_isFourWires
set_option maxRecDepth 20000 in
theorem ggX4_pulses_X4_dropBy : GoodIn wsX4_pulses wsX4_dropBy := goodIn_r _ [68, 69, 55, 56, 14, 57, 76, 77, 78, 79, 80, 81, 82, 83, 84, 85, 86, 87, 88, 89, 90, 91, 92, 93, 94, 95, 96, 97, 98, 99, 100] (by decide +kernel) (by decide +kernel)
set_option maxRecDepth 20000 in
theorem gX4_pulses_X4_dropBy : GoodIn wsX4_pulses (wsV RX4 122 RX4 yX4_dropBy wsX4_dropBy) := goodIn_app (goodIn_of _ (by decide +kernel)) ggX4_pulses_X4_dropBy
set_option maxRecDepth 20000 in
theorem ggX4_pulses_X4_heats : GoodIn wsX4_pulses wsX4_heats := goodIn_r _ [73, 1, 74, 45, 4, 75, 58, 59, 14, 60, 76, 77, 78, 79, 80, 81, 82, 83, 84, 85, 86, 87, 88, 89, 90, 91, 92, 93, 94, 95, 96, 97, 98, 99, 100] (by decide +kernel) (by decide +kernel)
set_option maxRecDepth 20000 in
theorem gX4_pulses_X4_heats : GoodIn wsX4_pulses (wsV RX4 145 RX4 yX4_heats wsX4_heats) := goodIn_app (goodIn_of _ (by decide +kernel)) ggX4_pulses_X4_heats
theorem dX4_pulses_0 : decode cX4_pulses 0 = .ok (.aload_n 0, 1) := by decide +kernel
theorem dX4_pulses_1 : decode cX4_pulses 1 = .ok (.invokevirtual 92, 3) := by decide +kernel
theorem dX4_pulses_4 : decode cX4_pulses 4 = .ok (.istore_n 3, 1) := by decide +kernel
theorem dX4_pulses_5 : decode cX4_pulses 5 = .ok (.aload_n 0, 1) := by decide +kernel
theorem dX4_pulses_6 : decode cX4_pulses 6 = .ok (.iload_n 3, 1) := by decide +kernel
theorem dX4_pulses_7 : decode cX4_pulses 7 = .ok (.iload_n 1, 1) := by decide +kernel
theorem dX4_pulses_8 : decode cX4_pulses 8 = .ok (.invokevirtual 135, 3) := by decide +kernel
theorem dX4_pulses_11 : decode cX4_pulses 11 = .ok (.aload_n 0, 1) := by decide +kernel
theorem dX4_pulses_12 : decode cX4_pulses 12 = .ok (.iload_n 3, 1) := by decide +kernel
theorem dX4_pulses_13 : decode cX4_pulses 13 = .ok (.invokevirtual 113, 3) := by decide +kernel
theorem dX4_pulses_16 : decode cX4_pulses 16 = .ok (.ifCond .eq 10, 3) := by decide +kernel
theorem dX4_pulses_19 : decode cX4_pulses 19 = .ok (.aload_n 0, 1) := by decide +kernel
theorem dX4_pulses_20 : decode cX4_pulses 20 = .ok (.getfield 125, 3) := by decide +kernel
theorem dX4_pulses_23 : decode cX4_pulses 23 = .ok (.goto 8, 3) := by decide +kernel
theorem dX4_pulses_26 : decode cX4_pulses 26 = .ok (.aload_n 0, 1) := by decide +kernel
theorem dX4_pulses_27 : decode cX4_pulses 27 = .ok (.getfield 125, 3) := by decide +kernel
theorem dX4_pulses_30 : decode cX4_pulses 30 = .ok (.ineg, 1) := by decide +kernel
theorem dX4_pulses_31 : decode cX4_pulses 31 = .ok (.istore 4, 2) := by decide +kernel
theorem dX4_pulses_33 : decode cX4_pulses 33 = .ok (.aload_n 0, 1) := by decide +kernel
theorem dX4_pulses_34 : decode cX4_pulses 34 = .ok (.getfield 20, 3) := by decide +kernel
theorem dX4_pulses_37 : decode cX4_pulses 37 = .ok (.iload_n 3, 1) := by decide +kernel
theorem dX4_pulses_38 : decode cX4_pulses 38 = .ok (.iaload, 1) := by decide +kernel
theorem dX4_pulses_39 : decode cX4_pulses 39 = .ok (.iconst 3, 1) := by decide +kernel
theorem dX4_pulses_40 : decode cX4_pulses 40 = .ok (.if_icmp .ne 45, 3) := by decide +kernel
theorem dX4_pulses_43 : decode cX4_pulses 43 = .ok (.aload_n 0, 1) := by decide +kernel
theorem dX4_pulses_44 : decode cX4_pulses 44 = .ok (.getfield 38, 3) := by decide +kernel
theorem dX4_pulses_47 : decode cX4_pulses 47 = .ok (.iload_n 3, 1) := by decide +kernel
theorem dX4_pulses_48 : decode cX4_pulses 48 = .ok (.baload, 1) := by decide +kernel
theorem dX4_pulses_49 : decode cX4_pulses 49 = .ok (.ifCond .ne 36, 3) := by decide +kernel
theorem dX4_pulses_52 : decode cX4_pulses 52 = .ok (.aload_n 0, 1) := by decide +kernel
theorem dX4_pulses_53 : decode cX4_pulses 53 = .ok (.getfield 35, 3) := by decide +kernel
theorem dX4_pulses_56 : decode cX4_pulses 56 = .ok (.iload_n 3, 1) := by decide +kernel
theorem dX4_pulses_57 : decode cX4_pulses 57 = .ok (.baload, 1) := by decide +kernel
theorem dX4_pulses_58 : decode cX4_pulses 58 = .ok (.ifCond .ne 27, 3) := by decide +kernel
theorem dX4_pulses_61 : decode cX4_pulses 61 = .ok (.iload 4, 2) := by decide +kernel
theorem dX4_pulses_63 : decode cX4_pulses 63 = .ok (.aload_n 0, 1) := by decide +kernel
theorem dX4_pulses_64 : decode cX4_pulses 64 = .ok (.iload_n 3, 1) := by decide +kernel
theorem dX4_pulses_65 : decode cX4_pulses 65 = .ok (.iconst 1, 1) := by decide +kernel
theorem dX4_pulses_66 : decode cX4_pulses 66 = .ok (.invokevirtual 81, 3) := by decide +kernel
theorem dX4_pulses_69 : decode cX4_pulses 69 = .ok (.if_icmp .lt 16, 3) := by decide +kernel
theorem dX4_pulses_72 : decode cX4_pulses 72 = .ok (.aload_n 0, 1) := by decide +kernel
theorem dX4_pulses_73 : decode cX4_pulses 73 = .ok (.getfield 38, 3) := by decide +kernel
theorem dX4_pulses_76 : decode cX4_pulses 76 = .ok (.iload_n 3, 1) := by decide +kernel
theorem dX4_pulses_77 : decode cX4_pulses 77 = .ok (.iconst 1, 1) := by decide +kernel
theorem dX4_pulses_78 : decode cX4_pulses 78 = .ok (.bastore, 1) := by decide +kernel
theorem dX4_pulses_79 : decode cX4_pulses 79 = .ok (.aload_n 0, 1) := by decide +kernel
theorem dX4_pulses_80 : decode cX4_pulses 80 = .ok (.iload_n 3, 1) := by decide +kernel
theorem dX4_pulses_81 : decode cX4_pulses 81 = .ok (.iload_n 1, 1) := by decide +kernel
theorem dX4_pulses_82 : decode cX4_pulses 82 = .ok (.invokevirtual 135, 3) := by decide +kernel
theorem dX4_pulses_85 : decode cX4_pulses 85 = .ok (.aload_n 0, 1) := by decide +kernel
theorem dX4_pulses_86 : decode cX4_pulses 86 = .ok (.iload_n 3, 1) := by decide +kernel
theorem dX4_pulses_87 : decode cX4_pulses 87 = .ok (.aload_n 0, 1) := by decide +kernel
theorem dX4_pulses_88 : decode cX4_pulses 88 = .ok (.getfield 125, 3) := by decide +kernel
theorem dX4_pulses_91 : decode cX4_pulses 91 = .ok (.invokevirtual 116, 3) := by decide +kernel
theorem dX4_pulses_94 : decode cX4_pulses 94 = .ok (.istore 5, 2) := by decide +kernel
theorem dX4_pulses_96 : decode cX4_pulses 96 = .ok (.aload_n 0, 1) := by decide +kernel
theorem dX4_pulses_97 : decode cX4_pulses 97 = .ok (.getfield 48, 3) := by decide +kernel
theorem dX4_pulses_100 : decode cX4_pulses 100 = .ok (.aload_n 0, 1) := by decide +kernel
theorem dX4_pulses_101 : decode cX4_pulses 101 = .ok (.getfield 142, 3) := by decide +kernel
theorem dX4_pulses_104 : decode cX4_pulses 104 = .ok (.iload_n 1, 1) := by decide +kernel
theorem dX4_pulses_105 : decode cX4_pulses 105 = .ok (.iastore, 1) := by decide +kernel
theorem dX4_pulses_106 : decode cX4_pulses 106 = .ok (.aload_n 0, 1) := by decide +kernel
theorem dX4_pulses_107 : decode cX4_pulses 107 = .ok (.getfield 51, 3) := by decide +kernel
theorem dX4_pulses_110 : decode cX4_pulses 110 = .ok (.aload_n 0, 1) := by decide +kernel
theorem dX4_pulses_111 : decode cX4_pulses 111 = .ok (.getfield 142, 3) := by decide +kernel
theorem dX4_pulses_114 : decode cX4_pulses 114 = .ok (.aload_n 0, 1) := by decide +kernel
theorem dX4_pulses_115 : decode cX4_pulses 115 = .ok (.invokevirtual 99, 3) := by decide +kernel
theorem dX4_pulses_118 : decode cX4_pulses 118 = .ok (.ifCond .eq 10, 3) := by decide +kernel
theorem dX4_pulses_121 : decode cX4_pulses 121 = .ok (.aload_n 0, 1) := by decide +kernel
theorem dX4_pulses_122 : decode cX4_pulses 122 = .ok (.getfield 125, 3) := by decide +kernel
theorem dX4_pulses_125 : decode cX4_pulses 125 = .ok (.goto 14, 3) := by decide +kernel
theorem dX4_pulses_128 : decode cX4_pulses 128 = .ok (.aload_n 0, 1) := by decide +kernel
theorem dX4_pulses_129 : decode cX4_pulses 129 = .ok (.getfield 125, 3) := by decide +kernel
theorem dX4_pulses_132 : decode cX4_pulses 132 = .ok (.aload_n 0, 1) := by decide +kernel
theorem dX4_pulses_133 : decode cX4_pulses 133 = .ok (.iload 5, 2) := by decide +kernel
theorem dX4_pulses_135 : decode cX4_pulses 135 = .ok (.invokevirtual 122, 3) := by decide +kernel
theorem dX4_pulses_138 : decode cX4_pulses 138 = .ok (.iadd, 1) := by decide +kernel
theorem dX4_pulses_139 : decode cX4_pulses 139 = .ok (.iastore, 1) := by decide +kernel
theorem dX4_pulses_140 : decode cX4_pulses 140 = .ok (.aload_n 0, 1) := by decide +kernel
theorem dX4_pulses_141 : decode cX4_pulses 141 = .ok (.getfield 54, 3) := by decide +kernel
theorem dX4_pulses_144 : decode cX4_pulses 144 = .ok (.aload_n 0, 1) := by decide +kernel
theorem dX4_pulses_145 : decode cX4_pulses 145 = .ok (.getfield 142, 3) := by decide +kernel
theorem dX4_pulses_148 : decode cX4_pulses 148 = .ok (.iload 5, 2) := by decide +kernel
theorem dX4_pulses_150 : decode cX4_pulses 150 = .ok (.iastore, 1) := by decide +kernel
theorem dX4_pulses_151 : decode cX4_pulses 151 = .ok (.aload_n 0, 1) := by decide +kernel
theorem dX4_pulses_152 : decode cX4_pulses 152 = .ok (.getfield 57, 3) := by decide +kernel
theorem dX4_pulses_155 : decode cX4_pulses 155 = .ok (.aload_n 0, 1) := by decide +kernel
theorem dX4_pulses_156 : decode cX4_pulses 156 = .ok (.getfield 142, 3) := by decide +kernel
theorem dX4_pulses_159 : decode cX4_pulses 159 = .ok (.aload_n 0, 1) := by decide +kernel
theorem dX4_pulses_160 : decode cX4_pulses 160 = .ok (.getfield 128, 3) := by decide +kernel
theorem dX4_pulses_163 : decode cX4_pulses 163 = .ok (.iastore, 1) := by decide +kernel
theorem dX4_pulses_164 : decode cX4_pulses 164 = .ok (.aload_n 0, 1) := by decide +kernel
theorem dX4_pulses_165 : decode cX4_pulses 165 = .ok (.dup, 1) := by decide +kernel
theorem dX4_pulses_166 : decode cX4_pulses 166 = .ok (.getfield 142, 3) := by decide +kernel
theorem dX4_pulses_169 : decode cX4_pulses 169 = .ok (.iconst 1, 1) := by decide +kernel
theorem dX4_pulses_170 : decode cX4_pulses 170 = .ok (.iadd, 1) := by decide +kernel
theorem dX4_pulses_171 : decode cX4_pulses 171 = .ok (.putfield 142, 3) := by decide +kernel
theorem dX4_pulses_174 : decode cX4_pulses 174 = .ok (.aload_n 0, 1) := by decide +kernel
theorem dX4_pulses_175 : decode cX4_pulses 175 = .ok (.iload_n 3, 1) := by decide +kernel
theorem dX4_pulses_176 : decode cX4_pulses 176 = .ok (.iload 5, 2) := by decide +kernel
theorem dX4_pulses_178 : decode cX4_pulses 178 = .ok (.iload_n 2, 1) := by decide +kernel
theorem dX4_pulses_179 : decode cX4_pulses 179 = .ok (.invokevirtual 145, 3) := by decide +kernel
theorem dX4_pulses_182 : decode cX4_pulses 182 = .ok (.aload_n 0, 1) := by decide +kernel
theorem dX4_pulses_183 : decode cX4_pulses 183 = .ok (.iload_n 3, 1) := by decide +kernel
theorem dX4_pulses_184 : decode cX4_pulses 184 = .ok (.invokevirtual 113, 3) := by decide +kernel
theorem dX4_pulses_187 : decode cX4_pulses 187 = .ok (.ifCond .eq 8, 3) := by decide +kernel
theorem dX4_pulses_190 : decode cX4_pulses 190 = .ok (.iload 5, 2) := by decide +kernel
theorem dX4_pulses_192 : decode cX4_pulses 192 = .ok (.goto 6, 3) := by decide +kernel
theorem dX4_pulses_195 : decode cX4_pulses 195 = .ok (.iload 5, 2) := by decide +kernel
theorem dX4_pulses_197 : decode cX4_pulses 197 = .ok (.ineg, 1) := by decide +kernel
theorem dX4_pulses_198 : decode cX4_pulses 198 = .ok (.istore 6, 2) := by decide +kernel
theorem dX4_pulses_200 : decode cX4_pulses 200 = .ok (.aload_n 0, 1) := by decide +kernel
theorem dX4_pulses_201 : decode cX4_pulses 201 = .ok (.getfield 20, 3) := by decide +kernel
theorem dX4_pulses_204 : decode cX4_pulses 204 = .ok (.iload_n 3, 1) := by decide +kernel
theorem dX4_pulses_205 : decode cX4_pulses 205 = .ok (.iaload, 1) := by decide +kernel
theorem dX4_pulses_206 : decode cX4_pulses 206 = .ok (.iconst 3, 1) := by decide +kernel
theorem dX4_pulses_207 : decode cX4_pulses 207 = .ok (.if_icmp .ne 30, 3) := by decide +kernel
theorem dX4_pulses_210 : decode cX4_pulses 210 = .ok (.aload_n 0, 1) := by decide +kernel
theorem dX4_pulses_211 : decode cX4_pulses 211 = .ok (.getfield 38, 3) := by decide +kernel
theorem dX4_pulses_214 : decode cX4_pulses 214 = .ok (.iload_n 3, 1) := by decide +kernel
theorem dX4_pulses_215 : decode cX4_pulses 215 = .ok (.baload, 1) := by decide +kernel
theorem dX4_pulses_216 : decode cX4_pulses 216 = .ok (.ifCond .eq 21, 3) := by decide +kernel
theorem dX4_pulses_219 : decode cX4_pulses 219 = .ok (.iload 6, 2) := by decide +kernel
theorem dX4_pulses_221 : decode cX4_pulses 221 = .ok (.aload_n 0, 1) := by decide +kernel
theorem dX4_pulses_222 : decode cX4_pulses 222 = .ok (.iload_n 3, 1) := by decide +kernel
theorem dX4_pulses_223 : decode cX4_pulses 223 = .ok (.iconst 3, 1) := by decide +kernel
theorem dX4_pulses_224 : decode cX4_pulses 224 = .ok (.invokevirtual 81, 3) := by decide +kernel
theorem dX4_pulses_227 : decode cX4_pulses 227 = .ok (.if_icmp .ge 10, 3) := by decide +kernel
theorem dX4_pulses_230 : decode cX4_pulses 230 = .ok (.aload_n 0, 1) := by decide +kernel
theorem dX4_pulses_231 : decode cX4_pulses 231 = .ok (.getfield 38, 3) := by decide +kernel
theorem dX4_pulses_234 : decode cX4_pulses 234 = .ok (.iload_n 3, 1) := by decide +kernel
theorem dX4_pulses_235 : decode cX4_pulses 235 = .ok (.iconst 0, 1) := by decide +kernel
theorem dX4_pulses_236 : decode cX4_pulses 236 = .ok (.bastore, 1) := by decide +kernel
theorem dX4_pulses_237 : decode cX4_pulses 237 = .ok (.return_, 1) := by decide +kernel
set_option maxRecDepth 20000 in
theorem ggX4_heats_X4_size : GoodIn wsX4_heats wsX4_size := goodIn_r _ [9] (by decide +kernel) (by decide +kernel)
set_option maxRecDepth 20000 in
theorem gX4_heats_X4_size : GoodIn wsX4_heats (va_wsS RX4 119 yX4_size wsX4_size) := goodIn_app (goodIn_of _ (by decide +kernel)) ggX4_heats_X4_size
theorem dX4_heats_0 : decode cX4_heats 0 = .ok (.aload_n 0, 1) := by decide +kernel
theorem dX4_heats_1 : decode cX4_heats 1 = .ok (.getfield 125, 3) := by decide +kernel
theorem dX4_heats_4 : decode cX4_heats 4 = .ok (.invokestatic 119, 3) := by decide +kernel
theorem dX4_heats_7 : decode cX4_heats 7 = .ok (.i2l, 1) := by decide +kernel
theorem dX4_heats_8 : decode cX4_heats 8 = .ok (.iload_n 2, 1) := by decide +kernel
theorem dX4_heats_9 : decode cX4_heats 9 = .ok (.invokestatic 119, 3) := by decide +kernel
theorem dX4_heats_12 : decode cX4_heats 12 = .ok (.i2l, 1) := by decide +kernel
theorem dX4_heats_13 : decode cX4_heats 13 = .ok (.lmul, 1) := by decide +kernel
theorem dX4_heats_14 : decode cX4_heats 14 = .ok (.iload_n 3, 1) := by decide +kernel
theorem dX4_heats_15 : decode cX4_heats 15 = .ok (.i2l, 1) := by decide +kernel
theorem dX4_heats_16 : decode cX4_heats 16 = .ok (.lmul, 1) := by decide +kernel
theorem dX4_heats_17 : decode cX4_heats 17 = .ok (.ldc2_w 149, 3) := by decide +kernel
theorem dX4_heats_20 : decode cX4_heats 20 = .ok (.ldiv, 1) := by decide +kernel
theorem dX4_heats_21 : decode cX4_heats 21 = .ok (.lstore 4, 2) := by decide +kernel
theorem dX4_heats_23 : decode cX4_heats 23 = .ok (.aload_n 0, 1) := by decide +kernel
theorem dX4_heats_24 : decode cX4_heats 24 = .ok (.getfield 32, 3) := by decide +kernel
theorem dX4_heats_27 : decode cX4_heats 27 = .ok (.iload_n 1, 1) := by decide +kernel
theorem dX4_heats_28 : decode cX4_heats 28 = .ok (.iaload, 1) := by decide +kernel
theorem dX4_heats_29 : decode cX4_heats 29 = .ok (.lload 4, 2) := by decide +kernel
theorem dX4_heats_31 : decode cX4_heats 31 = .ok (.l2i, 1) := by decide +kernel
theorem dX4_heats_32 : decode cX4_heats 32 = .ok (.iadd, 1) := by decide +kernel
theorem dX4_heats_33 : decode cX4_heats 33 = .ok (.istore 6, 2) := by decide +kernel
theorem dX4_heats_35 : decode cX4_heats 35 = .ok (.aload_n 0, 1) := by decide +kernel
theorem dX4_heats_36 : decode cX4_heats 36 = .ok (.iload 6, 2) := by decide +kernel
theorem dX4_heats_38 : decode cX4_heats 38 = .ok (.sipush 1000, 3) := by decide +kernel
theorem dX4_heats_41 : decode cX4_heats 41 = .ok (.if_icmp .lt 21, 3) := by decide +kernel
theorem dX4_heats_44 : decode cX4_heats 44 = .ok (.aload_n 0, 1) := by decide +kernel
theorem dX4_heats_45 : decode cX4_heats 45 = .ok (.getfield 35, 3) := by decide +kernel
theorem dX4_heats_48 : decode cX4_heats 48 = .ok (.iload_n 1, 1) := by decide +kernel
theorem dX4_heats_49 : decode cX4_heats 49 = .ok (.baload, 1) := by decide +kernel
theorem dX4_heats_50 : decode cX4_heats 50 = .ok (.ifCond .ne 12, 3) := by decide +kernel
theorem dX4_heats_53 : decode cX4_heats 53 = .ok (.iload 6, 2) := by decide +kernel
theorem dX4_heats_55 : decode cX4_heats 55 = .ok (.sipush 999, 3) := by decide +kernel
theorem dX4_heats_58 : decode cX4_heats 58 = .ok (.isub, 1) := by decide +kernel
theorem dX4_heats_59 : decode cX4_heats 59 = .ok (.goto 5, 3) := by decide +kernel
theorem dX4_heats_62 : decode cX4_heats 62 = .ok (.bipush (-9), 2) := by decide +kernel
theorem dX4_heats_64 : decode cX4_heats 64 = .ok (.putfield 151, 3) := by decide +kernel
theorem dX4_heats_67 : decode cX4_heats 67 = .ok (.aload_n 0, 1) := by decide +kernel
theorem dX4_heats_68 : decode cX4_heats 68 = .ok (.getfield 35, 3) := by decide +kernel
theorem dX4_heats_71 : decode cX4_heats 71 = .ok (.iload_n 1, 1) := by decide +kernel
theorem dX4_heats_72 : decode cX4_heats 72 = .ok (.aload_n 0, 1) := by decide +kernel
theorem dX4_heats_73 : decode cX4_heats 73 = .ok (.getfield 35, 3) := by decide +kernel
theorem dX4_heats_76 : decode cX4_heats 76 = .ok (.iload_n 1, 1) := by decide +kernel
theorem dX4_heats_77 : decode cX4_heats 77 = .ok (.baload, 1) := by decide +kernel
theorem dX4_heats_78 : decode cX4_heats 78 = .ok (.ifCond .ne 11, 3) := by decide +kernel
theorem dX4_heats_81 : decode cX4_heats 81 = .ok (.iload 6, 2) := by decide +kernel
theorem dX4_heats_83 : decode cX4_heats 83 = .ok (.sipush 1000, 3) := by decide +kernel
theorem dX4_heats_86 : decode cX4_heats 86 = .ok (.if_icmp .lt 7, 3) := by decide +kernel
theorem dX4_heats_89 : decode cX4_heats 89 = .ok (.iconst 1, 1) := by decide +kernel
theorem dX4_heats_90 : decode cX4_heats 90 = .ok (.goto 4, 3) := by decide +kernel
theorem dX4_heats_93 : decode cX4_heats 93 = .ok (.iconst 0, 1) := by decide +kernel
theorem dX4_heats_94 : decode cX4_heats 94 = .ok (.bastore, 1) := by decide +kernel
theorem dX4_heats_95 : decode cX4_heats 95 = .ok (.aload_n 0, 1) := by decide +kernel
theorem dX4_heats_96 : decode cX4_heats 96 = .ok (.getfield 32, 3) := by decide +kernel
theorem dX4_heats_99 : decode cX4_heats 99 = .ok (.iload_n 1, 1) := by decide +kernel
theorem dX4_heats_100 : decode cX4_heats 100 = .ok (.iload 6, 2) := by decide +kernel
theorem dX4_heats_102 : decode cX4_heats 102 = .ok (.sipush 1000, 3) := by decide +kernel
theorem dX4_heats_105 : decode cX4_heats 105 = .ok (.if_icmp .lt 9, 3) := by decide +kernel
theorem dX4_heats_108 : decode cX4_heats 108 = .ok (.sipush 1000, 3) := by decide +kernel
theorem dX4_heats_111 : decode cX4_heats 111 = .ok (.goto 5, 3) := by decide +kernel
theorem dX4_heats_114 : decode cX4_heats 114 = .ok (.iload 6, 2) := by decide +kernel
theorem dX4_heats_116 : decode cX4_heats 116 = .ok (.iastore, 1) := by decide +kernel
theorem dX4_heats_117 : decode cX4_heats 117 = .ok (.return_, 1) := by decide +kernel
set_option maxRecDepth 20000 in
theorem ggX4_pulse_X4_within : GoodIn wsX4_pulse wsX4_within := goodIn_r _ [8] (by decide +kernel) (by decide +kernel)
set_option maxRecDepth 20000 in
theorem gX4_pulse_X4_within : GoodIn wsX4_pulse (va_wsS RX4 66 yX4_within wsX4_within) := goodIn_app (goodIn_of _ (by decide +kernel)) ggX4_pulse_X4_within
set_option maxRecDepth 20000 in
theorem ggX4_pulse_X4_pulses : GoodIn wsX4_pulse wsX4_pulses := goodIn_r _ [12, 13, 14, 15, 16, 17, 2, 18, 19, 20, 21, 22, 23, 24, 7, 25, 26, 27, 28, 29, 30, 31, 32, 33, 34, 35, 36, 37, 38, 39, 40, 41, 42, 43, 44, 45, 46, 47, 48, 49, 50, 51, 52, 53, 54, 55, 56, 57, 58, 59, 60, 61, 62, 63, 64, 65, 66, 67, 68, 69, 70, 71, 72, 73, 74, 75, 76, 77, 78, 79, 80, 81, 82, 83, 84, 4, 91, 92, 93, 94, 95, 96, 97, 98, 99, 100, 101, 102, 103, 104, 105, 106, 107, 108, 109, 110, 111, 112, 113, 114, 115] (by decide +kernel) (by decide +kernel)
set_option maxRecDepth 20000 in
theorem gX4_pulse_X4_pulses : GoodIn wsX4_pulse (wsV RX4 154 RX4 yX4_pulses wsX4_pulses) := goodIn_app (goodIn_of _ (by decide +kernel)) ggX4_pulse_X4_pulses
set_option maxRecDepth 20000 in
theorem ggX4_pulse_X4_inHand : GoodIn wsX4_pulse wsX4_inHand := goodIn_r _ [25, 26, 27, 28, 29, 30, 31, 7, 32, 33, 91, 92, 93, 94, 95, 96, 97, 98, 99, 100, 101, 102, 103, 104, 105, 106, 107, 108, 109, 110, 111, 112, 113, 114, 115] (by decide +kernel) (by decide +kernel)
set_option maxRecDepth 20000 in
theorem gX4_pulse_X4_inHand : GoodIn wsX4_pulse (wsV RX4 92 RX4 yX4_inHand wsX4_inHand) := goodIn_app (goodIn_of _ (by decide +kernel)) ggX4_pulse_X4_inHand
set_option maxRecDepth 20000 in
theorem ggX4_pulse_X4_cause : GoodIn wsX4_pulse wsX4_cause := goodIn_r _ [88, 89, 3, 90, 91, 92, 93, 94, 95, 96, 97, 98, 99, 100, 101, 102, 103, 104, 105, 106, 107, 108, 109, 110, 111, 112, 113, 114, 115] (by decide +kernel) (by decide +kernel)
set_option maxRecDepth 20000 in
theorem gX4_pulse_X4_cause : GoodIn wsX4_pulse (wsV RX4 157 RX4 yX4_cause wsX4_cause) := goodIn_app (goodIn_of _ (by decide +kernel)) ggX4_pulse_X4_cause
theorem dX4_pulse_0 : decode cX4_pulse 0 = .ok (.iload_n 1, 1) := by decide +kernel
theorem dX4_pulse_1 : decode cX4_pulse 1 = .ok (.sipush (-3000), 3) := by decide +kernel
theorem dX4_pulse_4 : decode cX4_pulse 4 = .ok (.sipush 3000, 3) := by decide +kernel
theorem dX4_pulse_7 : decode cX4_pulse 7 = .ok (.invokestatic 66, 3) := by decide +kernel
theorem dX4_pulse_10 : decode cX4_pulse 10 = .ok (.ifCond .eq 13, 3) := by decide +kernel
theorem dX4_pulse_13 : decode cX4_pulse 13 = .ok (.iload_n 2, 1) := by decide +kernel
theorem dX4_pulse_14 : decode cX4_pulse 14 = .ok (.iconst 1, 1) := by decide +kernel
theorem dX4_pulse_15 : decode cX4_pulse 15 = .ok (.bipush 50, 2) := by decide +kernel
theorem dX4_pulse_17 : decode cX4_pulse 17 = .ok (.invokestatic 66, 3) := by decide +kernel
theorem dX4_pulse_20 : decode cX4_pulse 20 = .ok (.ifCond .ne 6, 3) := by decide +kernel
theorem dX4_pulse_23 : decode cX4_pulse 23 = .ok (.bipush (-2), 2) := by decide +kernel
theorem dX4_pulse_25 : decode cX4_pulse 25 = .ok (.ireturn, 1) := by decide +kernel
theorem dX4_pulse_26 : decode cX4_pulse 26 = .ok (.aload_n 0, 1) := by decide +kernel
theorem dX4_pulse_27 : decode cX4_pulse 27 = .ok (.getfield 74, 3) := by decide +kernel
theorem dX4_pulse_30 : decode cX4_pulse 30 = .ok (.ifCond .ne 6, 3) := by decide +kernel
theorem dX4_pulse_33 : decode cX4_pulse 33 = .ok (.bipush (-3), 2) := by decide +kernel
theorem dX4_pulse_35 : decode cX4_pulse 35 = .ok (.ireturn, 1) := by decide +kernel
theorem dX4_pulse_36 : decode cX4_pulse 36 = .ok (.aload_n 0, 1) := by decide +kernel
theorem dX4_pulse_37 : decode cX4_pulse 37 = .ok (.getfield 142, 3) := by decide +kernel
theorem dX4_pulse_40 : decode cX4_pulse 40 = .ok (.bipush 60, 2) := by decide +kernel
theorem dX4_pulse_42 : decode cX4_pulse 42 = .ok (.if_icmp .ne 6, 3) := by decide +kernel
theorem dX4_pulse_45 : decode cX4_pulse 45 = .ok (.bipush (-4), 2) := by decide +kernel
theorem dX4_pulse_47 : decode cX4_pulse 47 = .ok (.ireturn, 1) := by decide +kernel
theorem dX4_pulse_48 : decode cX4_pulse 48 = .ok (.aload_n 0, 1) := by decide +kernel
theorem dX4_pulse_49 : decode cX4_pulse 49 = .ok (.iconst 0, 1) := by decide +kernel
theorem dX4_pulse_50 : decode cX4_pulse 50 = .ok (.putfield 139, 3) := by decide +kernel
theorem dX4_pulse_53 : decode cX4_pulse 53 = .ok (.aload_n 0, 1) := by decide +kernel
theorem dX4_pulse_54 : decode cX4_pulse 54 = .ok (.iload_n 1, 1) := by decide +kernel
theorem dX4_pulse_55 : decode cX4_pulse 55 = .ok (.iload_n 2, 1) := by decide +kernel
theorem dX4_pulse_56 : decode cX4_pulse 56 = .ok (.invokevirtual 154, 3) := by decide +kernel
theorem dX4_pulse_59 : decode cX4_pulse 59 = .ok (.aload_n 0, 1) := by decide +kernel
theorem dX4_pulse_60 : decode cX4_pulse 60 = .ok (.getfield 151, 3) := by decide +kernel
theorem dX4_pulse_63 : decode cX4_pulse 63 = .ok (.bipush (-9), 2) := by decide +kernel
theorem dX4_pulse_65 : decode cX4_pulse 65 = .ok (.if_icmp .eq 21, 3) := by decide +kernel
theorem dX4_pulse_68 : decode cX4_pulse 68 = .ok (.aload_n 0, 1) := by decide +kernel
theorem dX4_pulse_69 : decode cX4_pulse 69 = .ok (.iconst 2, 1) := by decide +kernel
theorem dX4_pulse_70 : decode cX4_pulse 70 = .ok (.aload_n 0, 1) := by decide +kernel
theorem dX4_pulse_71 : decode cX4_pulse 71 = .ok (.invokevirtual 92, 3) := by decide +kernel
theorem dX4_pulse_74 : decode cX4_pulse 74 = .ok (.invokevirtual 157, 3) := by decide +kernel
theorem dX4_pulse_77 : decode cX4_pulse 77 = .ok (.aload_n 0, 1) := by decide +kernel
theorem dX4_pulse_78 : decode cX4_pulse 78 = .ok (.iconst 3, 1) := by decide +kernel
theorem dX4_pulse_79 : decode cX4_pulse 79 = .ok (.aload_n 0, 1) := by decide +kernel
theorem dX4_pulse_80 : decode cX4_pulse 80 = .ok (.getfield 151, 3) := by decide +kernel
theorem dX4_pulse_83 : decode cX4_pulse 83 = .ok (.invokevirtual 157, 3) := by decide +kernel
theorem dX4_pulse_86 : decode cX4_pulse 86 = .ok (.aload_n 0, 1) := by decide +kernel
theorem dX4_pulse_87 : decode cX4_pulse 87 = .ok (.getfield 142, 3) := by decide +kernel
theorem dX4_pulse_90 : decode cX4_pulse 90 = .ok (.ireturn, 1) := by decide +kernel
theorem dX4_rests_0 : decode cX4_rests 0 = .ok (.iconst 0, 1) := by decide +kernel
theorem dX4_rests_1 : decode cX4_rests 1 = .ok (.istore_n 2, 1) := by decide +kernel
theorem dX4_rests_2 : decode cX4_rests 2 = .ok (.iload_n 2, 1) := by decide +kernel
theorem dX4_rests_3 : decode cX4_rests 3 = .ok (.iload_n 1, 1) := by decide +kernel
theorem dX4_rests_4 : decode cX4_rests 4 = .ok (.if_icmp .ge 43, 3) := by decide +kernel
theorem dX4_rests_7 : decode cX4_rests 7 = .ok (.iconst 0, 1) := by decide +kernel
theorem dX4_rests_8 : decode cX4_rests 8 = .ok (.istore_n 3, 1) := by decide +kernel
theorem dX4_rests_9 : decode cX4_rests 9 = .ok (.iload_n 3, 1) := by decide +kernel
theorem dX4_rests_10 : decode cX4_rests 10 = .ok (.iconst 4, 1) := by decide +kernel
theorem dX4_rests_11 : decode cX4_rests 11 = .ok (.if_icmp .ge 30, 3) := by decide +kernel
theorem dX4_rests_14 : decode cX4_rests 14 = .ok (.aload_n 0, 1) := by decide +kernel
theorem dX4_rests_15 : decode cX4_rests 15 = .ok (.getfield 32, 3) := by decide +kernel
theorem dX4_rests_18 : decode cX4_rests 18 = .ok (.iload_n 3, 1) := by decide +kernel
theorem dX4_rests_19 : decode cX4_rests 19 = .ok (.dup2, 1) := by decide +kernel
theorem dX4_rests_20 : decode cX4_rests 20 = .ok (.iaload, 1) := by decide +kernel
theorem dX4_rests_21 : decode cX4_rests 21 = .ok (.aload_n 0, 1) := by decide +kernel
theorem dX4_rests_22 : decode cX4_rests 22 = .ok (.getfield 32, 3) := by decide +kernel
theorem dX4_rests_25 : decode cX4_rests 25 = .ok (.iload_n 3, 1) := by decide +kernel
theorem dX4_rests_26 : decode cX4_rests 26 = .ok (.iaload, 1) := by decide +kernel
theorem dX4_rests_27 : decode cX4_rests 27 = .ok (.bipush 15, 2) := by decide +kernel
theorem dX4_rests_29 : decode cX4_rests 29 = .ok (.iadd, 1) := by decide +kernel
theorem dX4_rests_30 : decode cX4_rests 30 = .ok (.bipush 16, 2) := by decide +kernel
theorem dX4_rests_32 : decode cX4_rests 32 = .ok (.idiv, 1) := by decide +kernel
theorem dX4_rests_33 : decode cX4_rests 33 = .ok (.isub, 1) := by decide +kernel
theorem dX4_rests_34 : decode cX4_rests 34 = .ok (.iastore, 1) := by decide +kernel
theorem dX4_rests_35 : decode cX4_rests 35 = .ok (.iinc 3 1, 3) := by decide +kernel
theorem dX4_rests_38 : decode cX4_rests 38 = .ok (.goto (-29), 3) := by decide +kernel
theorem dX4_rests_41 : decode cX4_rests 41 = .ok (.iinc 2 1, 3) := by decide +kernel
theorem dX4_rests_44 : decode cX4_rests 44 = .ok (.goto (-42), 3) := by decide +kernel
theorem dX4_rests_47 : decode cX4_rests 47 = .ok (.return_, 1) := by decide +kernel
set_option maxRecDepth 20000 in
theorem ggX4_rest_X4_within : GoodIn wsX4_rest wsX4_within := goodIn_r _ [6] (by decide +kernel) (by decide +kernel)
set_option maxRecDepth 20000 in
theorem gX4_rest_X4_within : GoodIn wsX4_rest (va_wsS RX4 66 yX4_within wsX4_within) := goodIn_app (goodIn_of _ (by decide +kernel)) ggX4_rest_X4_within
set_option maxRecDepth 20000 in
theorem ggX4_rest_X4_rests : GoodIn wsX4_rest wsX4_rests := goodIn_r _ [10, 2, 11, 12, 13, 14, 15, 16, 17, 18, 19, 20, 21, 22, 23, 24, 25, 26, 27, 28, 29, 30, 31, 32, 33, 34, 35] (by decide +kernel) (by decide +kernel)
set_option maxRecDepth 20000 in
theorem gX4_rest_X4_rests : GoodIn wsX4_rest (wsV RX4 160 RX4 yX4_rests wsX4_rests) := goodIn_app (goodIn_of _ (by decide +kernel)) ggX4_rest_X4_rests
theorem dX4_rest_0 : decode cX4_rest 0 = .ok (.iload_n 1, 1) := by decide +kernel
theorem dX4_rest_1 : decode cX4_rest 1 = .ok (.iconst 0, 1) := by decide +kernel
theorem dX4_rest_2 : decode cX4_rest 2 = .ok (.bipush 100, 2) := by decide +kernel
theorem dX4_rest_4 : decode cX4_rest 4 = .ok (.invokestatic 66, 3) := by decide +kernel
theorem dX4_rest_7 : decode cX4_rest 7 = .ok (.ifCond .ne 6, 3) := by decide +kernel
theorem dX4_rest_10 : decode cX4_rest 10 = .ok (.bipush (-2), 2) := by decide +kernel
theorem dX4_rest_12 : decode cX4_rest 12 = .ok (.ireturn, 1) := by decide +kernel
theorem dX4_rest_13 : decode cX4_rest 13 = .ok (.aload_n 0, 1) := by decide +kernel
theorem dX4_rest_14 : decode cX4_rest 14 = .ok (.iload_n 1, 1) := by decide +kernel
theorem dX4_rest_15 : decode cX4_rest 15 = .ok (.invokevirtual 160, 3) := by decide +kernel
theorem dX4_rest_18 : decode cX4_rest 18 = .ok (.iconst 0, 1) := by decide +kernel
theorem dX4_rest_19 : decode cX4_rest 19 = .ok (.istore_n 2, 1) := by decide +kernel
theorem dX4_rest_20 : decode cX4_rest 20 = .ok (.iconst 0, 1) := by decide +kernel
theorem dX4_rest_21 : decode cX4_rest 21 = .ok (.istore_n 3, 1) := by decide +kernel
theorem dX4_rest_22 : decode cX4_rest 22 = .ok (.iload_n 3, 1) := by decide +kernel
theorem dX4_rest_23 : decode cX4_rest 23 = .ok (.iconst 4, 1) := by decide +kernel
theorem dX4_rest_24 : decode cX4_rest 24 = .ok (.if_icmp .ge 39, 3) := by decide +kernel
theorem dX4_rest_27 : decode cX4_rest 27 = .ok (.aload_n 0, 1) := by decide +kernel
theorem dX4_rest_28 : decode cX4_rest 28 = .ok (.getfield 7, 3) := by decide +kernel
theorem dX4_rest_31 : decode cX4_rest 31 = .ok (.iload_n 3, 1) := by decide +kernel
theorem dX4_rest_32 : decode cX4_rest 32 = .ok (.baload, 1) := by decide +kernel
theorem dX4_rest_33 : decode cX4_rest 33 = .ok (.ifCond .eq 22, 3) := by decide +kernel
theorem dX4_rest_36 : decode cX4_rest 36 = .ok (.aload_n 0, 1) := by decide +kernel
theorem dX4_rest_37 : decode cX4_rest 37 = .ok (.getfield 32, 3) := by decide +kernel
theorem dX4_rest_40 : decode cX4_rest 40 = .ok (.iload_n 3, 1) := by decide +kernel
theorem dX4_rest_41 : decode cX4_rest 41 = .ok (.iaload, 1) := by decide +kernel
theorem dX4_rest_42 : decode cX4_rest 42 = .ok (.iload_n 2, 1) := by decide +kernel
theorem dX4_rest_43 : decode cX4_rest 43 = .ok (.if_icmp .le 12, 3) := by decide +kernel
theorem dX4_rest_46 : decode cX4_rest 46 = .ok (.aload_n 0, 1) := by decide +kernel
theorem dX4_rest_47 : decode cX4_rest 47 = .ok (.getfield 32, 3) := by decide +kernel
theorem dX4_rest_50 : decode cX4_rest 50 = .ok (.iload_n 3, 1) := by decide +kernel
theorem dX4_rest_51 : decode cX4_rest 51 = .ok (.iaload, 1) := by decide +kernel
theorem dX4_rest_52 : decode cX4_rest 52 = .ok (.goto 4, 3) := by decide +kernel
theorem dX4_rest_55 : decode cX4_rest 55 = .ok (.iload_n 2, 1) := by decide +kernel
theorem dX4_rest_56 : decode cX4_rest 56 = .ok (.istore_n 2, 1) := by decide +kernel
theorem dX4_rest_57 : decode cX4_rest 57 = .ok (.iinc 3 1, 3) := by decide +kernel
theorem dX4_rest_60 : decode cX4_rest 60 = .ok (.goto (-38), 3) := by decide +kernel
theorem dX4_rest_63 : decode cX4_rest 63 = .ok (.iload_n 2, 1) := by decide +kernel
theorem dX4_rest_64 : decode cX4_rest 64 = .ok (.ireturn, 1) := by decide +kernel
set_option maxRecDepth 20000 in
theorem ggX4_isSweep_X4_within : GoodIn wsX4_isSweep wsX4_within := goodIn_r _ [4] (by decide +kernel) (by decide +kernel)
set_option maxRecDepth 20000 in
theorem gX4_isSweep_X4_within : GoodIn wsX4_isSweep (va_wsS RX4 66 yX4_within wsX4_within) := goodIn_app (goodIn_of _ (by decide +kernel)) ggX4_isSweep_X4_within
theorem dX4_isSweep_0 : decode cX4_isSweep 0 = .ok (.iload_n 0, 1) := by decide +kernel
theorem dX4_isSweep_1 : decode cX4_isSweep 1 = .ok (.sipush (-3000), 3) := by decide +kernel
theorem dX4_isSweep_4 : decode cX4_isSweep 4 = .ok (.sipush 3000, 3) := by decide +kernel
theorem dX4_isSweep_7 : decode cX4_isSweep 7 = .ok (.invokestatic 66, 3) := by decide +kernel
theorem dX4_isSweep_10 : decode cX4_isSweep 10 = .ok (.ifCond .eq 31, 3) := by decide +kernel
theorem dX4_isSweep_13 : decode cX4_isSweep 13 = .ok (.iload_n 1, 1) := by decide +kernel
theorem dX4_isSweep_14 : decode cX4_isSweep 14 = .ok (.sipush (-3000), 3) := by decide +kernel
theorem dX4_isSweep_17 : decode cX4_isSweep 17 = .ok (.sipush 3000, 3) := by decide +kernel
theorem dX4_isSweep_20 : decode cX4_isSweep 20 = .ok (.invokestatic 66, 3) := by decide +kernel
theorem dX4_isSweep_23 : decode cX4_isSweep 23 = .ok (.ifCond .eq 18, 3) := by decide +kernel
theorem dX4_isSweep_26 : decode cX4_isSweep 26 = .ok (.iload_n 2, 1) := by decide +kernel
theorem dX4_isSweep_27 : decode cX4_isSweep 27 = .ok (.iconst 1, 1) := by decide +kernel
theorem dX4_isSweep_28 : decode cX4_isSweep 28 = .ok (.sipush 1000, 3) := by decide +kernel
theorem dX4_isSweep_31 : decode cX4_isSweep 31 = .ok (.invokestatic 66, 3) := by decide +kernel
theorem dX4_isSweep_34 : decode cX4_isSweep 34 = .ok (.ifCond .eq 7, 3) := by decide +kernel
theorem dX4_isSweep_37 : decode cX4_isSweep 37 = .ok (.iconst 1, 1) := by decide +kernel
theorem dX4_isSweep_38 : decode cX4_isSweep 38 = .ok (.goto 4, 3) := by decide +kernel
theorem dX4_isSweep_41 : decode cX4_isSweep 41 = .ok (.iconst 0, 1) := by decide +kernel
theorem dX4_isSweep_42 : decode cX4_isSweep 42 = .ok (.istore 6, 2) := by decide +kernel
theorem dX4_isSweep_44 : decode cX4_isSweep 44 = .ok (.iload 6, 2) := by decide +kernel
theorem dX4_isSweep_46 : decode cX4_isSweep 46 = .ok (.ifCond .eq 38, 3) := by decide +kernel
theorem dX4_isSweep_49 : decode cX4_isSweep 49 = .ok (.iload_n 3, 1) := by decide +kernel
theorem dX4_isSweep_50 : decode cX4_isSweep 50 = .ok (.iconst 1, 1) := by decide +kernel
theorem dX4_isSweep_51 : decode cX4_isSweep 51 = .ok (.bipush 50, 2) := by decide +kernel
theorem dX4_isSweep_53 : decode cX4_isSweep 53 = .ok (.invokestatic 66, 3) := by decide +kernel
theorem dX4_isSweep_56 : decode cX4_isSweep 56 = .ok (.ifCond .eq 28, 3) := by decide +kernel
theorem dX4_isSweep_59 : decode cX4_isSweep 59 = .ok (.iload 4, 2) := by decide +kernel
theorem dX4_isSweep_61 : decode cX4_isSweep 61 = .ok (.iconst 0, 1) := by decide +kernel
theorem dX4_isSweep_62 : decode cX4_isSweep 62 = .ok (.bipush 100, 2) := by decide +kernel
theorem dX4_isSweep_64 : decode cX4_isSweep 64 = .ok (.invokestatic 66, 3) := by decide +kernel
theorem dX4_isSweep_67 : decode cX4_isSweep 67 = .ok (.ifCond .eq 17, 3) := by decide +kernel
theorem dX4_isSweep_70 : decode cX4_isSweep 70 = .ok (.iload 5, 2) := by decide +kernel
theorem dX4_isSweep_72 : decode cX4_isSweep 72 = .ok (.iconst 0, 1) := by decide +kernel
theorem dX4_isSweep_73 : decode cX4_isSweep 73 = .ok (.iconst 1, 1) := by decide +kernel
theorem dX4_isSweep_74 : decode cX4_isSweep 74 = .ok (.invokestatic 66, 3) := by decide +kernel
theorem dX4_isSweep_77 : decode cX4_isSweep 77 = .ok (.ifCond .eq 7, 3) := by decide +kernel
theorem dX4_isSweep_80 : decode cX4_isSweep 80 = .ok (.iconst 1, 1) := by decide +kernel
theorem dX4_isSweep_81 : decode cX4_isSweep 81 = .ok (.goto 4, 3) := by decide +kernel
theorem dX4_isSweep_84 : decode cX4_isSweep 84 = .ok (.iconst 0, 1) := by decide +kernel
theorem dX4_isSweep_85 : decode cX4_isSweep 85 = .ok (.ireturn, 1) := by decide +kernel
set_option maxRecDepth 20000 in
theorem ggX4_sweep_X4_isSweep : GoodIn wsX4_sweep wsX4_isSweep := goodIn_r _ [8, 9, 10, 7, 11] (by decide +kernel) (by decide +kernel)
set_option maxRecDepth 20000 in
theorem gX4_sweep_X4_isSweep : GoodIn wsX4_sweep (va_wsS RX4 164 yX4_isSweep wsX4_isSweep) := goodIn_app (goodIn_of _ (by decide +kernel)) ggX4_sweep_X4_isSweep
set_option maxRecDepth 20000 in
theorem ggX4_sweep_X4_size : GoodIn wsX4_sweep wsX4_size := goodIn_r _ [14] (by decide +kernel) (by decide +kernel)
set_option maxRecDepth 20000 in
theorem gX4_sweep_X4_size : GoodIn wsX4_sweep (va_wsS RX4 119 yX4_size wsX4_size) := goodIn_app (goodIn_of _ (by decide +kernel)) ggX4_sweep_X4_size
set_option maxRecDepth 20000 in
theorem ggX4_sweep_X4_pulses : GoodIn wsX4_sweep wsX4_pulses := goodIn_r _ [18, 19, 20, 21, 22, 23, 2, 24, 25, 26, 27, 28, 29, 30, 7, 31, 32, 33, 34, 35, 36, 37, 38, 39, 40, 41, 42, 43, 44, 45, 46, 47, 48, 49, 50, 51, 52, 53, 54, 55, 56, 57, 58, 59, 60, 61, 62, 63, 64, 65, 66, 67, 68, 69, 70, 71, 72, 73, 12, 13, 14, 74, 75, 76, 77, 78, 79, 80, 81, 82, 83, 84, 85, 86, 87, 4, 98, 99, 100, 101, 102, 103, 104, 105, 106, 107, 108, 109, 110, 111, 112, 113, 114, 115, 116, 117, 118, 119, 120, 121, 122] (by decide +kernel) (by decide +kernel)
set_option maxRecDepth 20000 in
theorem gX4_sweep_X4_pulses : GoodIn wsX4_sweep (wsV RX4 154 RX4 yX4_pulses wsX4_pulses) := goodIn_app (goodIn_of _ (by decide +kernel)) ggX4_sweep_X4_pulses
set_option maxRecDepth 20000 in
theorem ggX4_sweep_X4_cause : GoodIn wsX4_sweep wsX4_cause := goodIn_r _ [91, 92, 3, 93, 98, 99, 100, 101, 102, 103, 104, 105, 106, 107, 108, 109, 110, 111, 112, 113, 114, 115, 116, 117, 118, 119, 120, 121, 122] (by decide +kernel) (by decide +kernel)
set_option maxRecDepth 20000 in
theorem gX4_sweep_X4_cause : GoodIn wsX4_sweep (wsV RX4 157 RX4 yX4_cause wsX4_cause) := goodIn_app (goodIn_of _ (by decide +kernel)) ggX4_sweep_X4_cause
set_option maxRecDepth 20000 in
theorem ggX4_sweep_X4_inHand : GoodIn wsX4_sweep wsX4_inHand := goodIn_r _ [31, 32, 33, 34, 35, 36, 37, 7, 38, 39, 98, 99, 100, 101, 102, 103, 104, 105, 106, 107, 108, 109, 110, 111, 112, 113, 114, 115, 116, 117, 118, 119, 120, 121, 122] (by decide +kernel) (by decide +kernel)
set_option maxRecDepth 20000 in
theorem gX4_sweep_X4_inHand : GoodIn wsX4_sweep (wsV RX4 92 RX4 yX4_inHand wsX4_inHand) := goodIn_app (goodIn_of _ (by decide +kernel)) ggX4_sweep_X4_inHand
set_option maxRecDepth 20000 in
theorem ggX4_sweep_X4_rests : GoodIn wsX4_sweep wsX4_rests := goodIn_r _ [97, 61, 98, 99, 100, 101, 102, 103, 104, 105, 106, 107, 108, 109, 110, 111, 112, 113, 114, 115, 116, 117, 118, 119, 120, 121, 122] (by decide +kernel) (by decide +kernel)
set_option maxRecDepth 20000 in
theorem gX4_sweep_X4_rests : GoodIn wsX4_sweep (wsV RX4 160 RX4 yX4_rests wsX4_rests) := goodIn_app (goodIn_of _ (by decide +kernel)) ggX4_sweep_X4_rests
theorem dX4_sweep_0 : decode cX4_sweep 0 = .ok (.iload_n 1, 1) := by decide +kernel
theorem dX4_sweep_1 : decode cX4_sweep 1 = .ok (.iload_n 2, 1) := by decide +kernel
theorem dX4_sweep_2 : decode cX4_sweep 2 = .ok (.iload_n 3, 1) := by decide +kernel
theorem dX4_sweep_3 : decode cX4_sweep 3 = .ok (.iload 4, 2) := by decide +kernel
theorem dX4_sweep_5 : decode cX4_sweep 5 = .ok (.iload 5, 2) := by decide +kernel
theorem dX4_sweep_7 : decode cX4_sweep 7 = .ok (.iload 6, 2) := by decide +kernel
theorem dX4_sweep_9 : decode cX4_sweep 9 = .ok (.invokestatic 164, 3) := by decide +kernel
theorem dX4_sweep_12 : decode cX4_sweep 12 = .ok (.ifCond .ne 6, 3) := by decide +kernel
theorem dX4_sweep_15 : decode cX4_sweep 15 = .ok (.bipush (-2), 2) := by decide +kernel
theorem dX4_sweep_17 : decode cX4_sweep 17 = .ok (.ireturn, 1) := by decide +kernel
theorem dX4_sweep_18 : decode cX4_sweep 18 = .ok (.aload_n 0, 1) := by decide +kernel
theorem dX4_sweep_19 : decode cX4_sweep 19 = .ok (.getfield 74, 3) := by decide +kernel
theorem dX4_sweep_22 : decode cX4_sweep 22 = .ok (.ifCond .ne 6, 3) := by decide +kernel
theorem dX4_sweep_25 : decode cX4_sweep 25 = .ok (.bipush (-3), 2) := by decide +kernel
theorem dX4_sweep_27 : decode cX4_sweep 27 = .ok (.ireturn, 1) := by decide +kernel
theorem dX4_sweep_28 : decode cX4_sweep 28 = .ok (.iload_n 2, 1) := by decide +kernel
theorem dX4_sweep_29 : decode cX4_sweep 29 = .ok (.iload_n 1, 1) := by decide +kernel
theorem dX4_sweep_30 : decode cX4_sweep 30 = .ok (.isub, 1) := by decide +kernel
theorem dX4_sweep_31 : decode cX4_sweep 31 = .ok (.invokestatic 119, 3) := by decide +kernel
theorem dX4_sweep_34 : decode cX4_sweep 34 = .ok (.iload_n 3, 1) := by decide +kernel
theorem dX4_sweep_35 : decode cX4_sweep 35 = .ok (.idiv, 1) := by decide +kernel
theorem dX4_sweep_36 : decode cX4_sweep 36 = .ok (.iconst 1, 1) := by decide +kernel
theorem dX4_sweep_37 : decode cX4_sweep 37 = .ok (.iadd, 1) := by decide +kernel
theorem dX4_sweep_38 : decode cX4_sweep 38 = .ok (.istore 7, 2) := by decide +kernel
theorem dX4_sweep_40 : decode cX4_sweep 40 = .ok (.iload 6, 2) := by decide +kernel
theorem dX4_sweep_42 : decode cX4_sweep 42 = .ok (.iconst 1, 1) := by decide +kernel
theorem dX4_sweep_43 : decode cX4_sweep 43 = .ok (.if_icmp .ne 12, 3) := by decide +kernel
theorem dX4_sweep_46 : decode cX4_sweep 46 = .ok (.iconst 2, 1) := by decide +kernel
theorem dX4_sweep_47 : decode cX4_sweep 47 = .ok (.iload 7, 2) := by decide +kernel
theorem dX4_sweep_49 : decode cX4_sweep 49 = .ok (.imul, 1) := by decide +kernel
theorem dX4_sweep_50 : decode cX4_sweep 50 = .ok (.iconst 1, 1) := by decide +kernel
theorem dX4_sweep_51 : decode cX4_sweep 51 = .ok (.isub, 1) := by decide +kernel
theorem dX4_sweep_52 : decode cX4_sweep 52 = .ok (.goto 5, 3) := by decide +kernel
theorem dX4_sweep_55 : decode cX4_sweep 55 = .ok (.iload 7, 2) := by decide +kernel
theorem dX4_sweep_57 : decode cX4_sweep 57 = .ok (.istore 8, 2) := by decide +kernel
theorem dX4_sweep_59 : decode cX4_sweep 59 = .ok (.aload_n 0, 1) := by decide +kernel
theorem dX4_sweep_60 : decode cX4_sweep 60 = .ok (.getfield 142, 3) := by decide +kernel
theorem dX4_sweep_63 : decode cX4_sweep 63 = .ok (.iload 8, 2) := by decide +kernel
theorem dX4_sweep_65 : decode cX4_sweep 65 = .ok (.iadd, 1) := by decide +kernel
theorem dX4_sweep_66 : decode cX4_sweep 66 = .ok (.bipush 60, 2) := by decide +kernel
theorem dX4_sweep_68 : decode cX4_sweep 68 = .ok (.if_icmp .le 6, 3) := by decide +kernel
theorem dX4_sweep_71 : decode cX4_sweep 71 = .ok (.bipush (-4), 2) := by decide +kernel
theorem dX4_sweep_73 : decode cX4_sweep 73 = .ok (.ireturn, 1) := by decide +kernel
theorem dX4_sweep_74 : decode cX4_sweep 74 = .ok (.aload_n 0, 1) := by decide +kernel
theorem dX4_sweep_75 : decode cX4_sweep 75 = .ok (.iconst 0, 1) := by decide +kernel
theorem dX4_sweep_76 : decode cX4_sweep 76 = .ok (.putfield 139, 3) := by decide +kernel
theorem dX4_sweep_79 : decode cX4_sweep 79 = .ok (.iconst 0, 1) := by decide +kernel
theorem dX4_sweep_80 : decode cX4_sweep 80 = .ok (.istore 9, 2) := by decide +kernel
theorem dX4_sweep_82 : decode cX4_sweep 82 = .ok (.iload 9, 2) := by decide +kernel
theorem dX4_sweep_84 : decode cX4_sweep 84 = .ok (.iload 8, 2) := by decide +kernel
theorem dX4_sweep_86 : decode cX4_sweep 86 = .ok (.if_icmp .ge 104, 3) := by decide +kernel
theorem dX4_sweep_89 : decode cX4_sweep 89 = .ok (.iload 9, 2) := by decide +kernel
theorem dX4_sweep_91 : decode cX4_sweep 91 = .ok (.iload 7, 2) := by decide +kernel
theorem dX4_sweep_93 : decode cX4_sweep 93 = .ok (.if_icmp .ge 8, 3) := by decide +kernel
theorem dX4_sweep_96 : decode cX4_sweep 96 = .ok (.iload 9, 2) := by decide +kernel
theorem dX4_sweep_98 : decode cX4_sweep 98 = .ok (.goto 10, 3) := by decide +kernel
theorem dX4_sweep_101 : decode cX4_sweep 101 = .ok (.iload 8, 2) := by decide +kernel
theorem dX4_sweep_103 : decode cX4_sweep 103 = .ok (.iconst 1, 1) := by decide +kernel
theorem dX4_sweep_104 : decode cX4_sweep 104 = .ok (.isub, 1) := by decide +kernel
theorem dX4_sweep_105 : decode cX4_sweep 105 = .ok (.iload 9, 2) := by decide +kernel
theorem dX4_sweep_107 : decode cX4_sweep 107 = .ok (.isub, 1) := by decide +kernel
theorem dX4_sweep_108 : decode cX4_sweep 108 = .ok (.istore 10, 2) := by decide +kernel
theorem dX4_sweep_110 : decode cX4_sweep 110 = .ok (.aload_n 0, 1) := by decide +kernel
theorem dX4_sweep_111 : decode cX4_sweep 111 = .ok (.iload_n 2, 1) := by decide +kernel
theorem dX4_sweep_112 : decode cX4_sweep 112 = .ok (.iload_n 1, 1) := by decide +kernel
theorem dX4_sweep_113 : decode cX4_sweep 113 = .ok (.if_icmp .ge 12, 3) := by decide +kernel
theorem dX4_sweep_116 : decode cX4_sweep 116 = .ok (.iload_n 1, 1) := by decide +kernel
theorem dX4_sweep_117 : decode cX4_sweep 117 = .ok (.iload_n 3, 1) := by decide +kernel
theorem dX4_sweep_118 : decode cX4_sweep 118 = .ok (.iload 10, 2) := by decide +kernel
theorem dX4_sweep_120 : decode cX4_sweep 120 = .ok (.imul, 1) := by decide +kernel
theorem dX4_sweep_121 : decode cX4_sweep 121 = .ok (.isub, 1) := by decide +kernel
theorem dX4_sweep_122 : decode cX4_sweep 122 = .ok (.goto 9, 3) := by decide +kernel
theorem dX4_sweep_125 : decode cX4_sweep 125 = .ok (.iload_n 1, 1) := by decide +kernel
theorem dX4_sweep_126 : decode cX4_sweep 126 = .ok (.iload_n 3, 1) := by decide +kernel
theorem dX4_sweep_127 : decode cX4_sweep 127 = .ok (.iload 10, 2) := by decide +kernel
theorem dX4_sweep_129 : decode cX4_sweep 129 = .ok (.imul, 1) := by decide +kernel
theorem dX4_sweep_130 : decode cX4_sweep 130 = .ok (.iadd, 1) := by decide +kernel
theorem dX4_sweep_131 : decode cX4_sweep 131 = .ok (.iload 4, 2) := by decide +kernel
theorem dX4_sweep_133 : decode cX4_sweep 133 = .ok (.invokevirtual 154, 3) := by decide +kernel
theorem dX4_sweep_136 : decode cX4_sweep 136 = .ok (.aload_n 0, 1) := by decide +kernel
theorem dX4_sweep_137 : decode cX4_sweep 137 = .ok (.getfield 151, 3) := by decide +kernel
theorem dX4_sweep_140 : decode cX4_sweep 140 = .ok (.bipush (-9), 2) := by decide +kernel
theorem dX4_sweep_142 : decode cX4_sweep 142 = .ok (.if_icmp .eq 36, 3) := by decide +kernel
theorem dX4_sweep_145 : decode cX4_sweep 145 = .ok (.aload_n 0, 1) := by decide +kernel
theorem dX4_sweep_146 : decode cX4_sweep 146 = .ok (.iconst 1, 1) := by decide +kernel
theorem dX4_sweep_147 : decode cX4_sweep 147 = .ok (.iload 9, 2) := by decide +kernel
theorem dX4_sweep_149 : decode cX4_sweep 149 = .ok (.invokevirtual 157, 3) := by decide +kernel
theorem dX4_sweep_152 : decode cX4_sweep 152 = .ok (.aload_n 0, 1) := by decide +kernel
theorem dX4_sweep_153 : decode cX4_sweep 153 = .ok (.iconst 2, 1) := by decide +kernel
theorem dX4_sweep_154 : decode cX4_sweep 154 = .ok (.aload_n 0, 1) := by decide +kernel
theorem dX4_sweep_155 : decode cX4_sweep 155 = .ok (.invokevirtual 92, 3) := by decide +kernel
theorem dX4_sweep_158 : decode cX4_sweep 158 = .ok (.invokevirtual 157, 3) := by decide +kernel
theorem dX4_sweep_161 : decode cX4_sweep 161 = .ok (.aload_n 0, 1) := by decide +kernel
theorem dX4_sweep_162 : decode cX4_sweep 162 = .ok (.iconst 3, 1) := by decide +kernel
theorem dX4_sweep_163 : decode cX4_sweep 163 = .ok (.aload_n 0, 1) := by decide +kernel
theorem dX4_sweep_164 : decode cX4_sweep 164 = .ok (.getfield 151, 3) := by decide +kernel
theorem dX4_sweep_167 : decode cX4_sweep 167 = .ok (.invokevirtual 157, 3) := by decide +kernel
theorem dX4_sweep_170 : decode cX4_sweep 170 = .ok (.bipush (-100), 2) := by decide +kernel
theorem dX4_sweep_172 : decode cX4_sweep 172 = .ok (.iload 9, 2) := by decide +kernel
theorem dX4_sweep_174 : decode cX4_sweep 174 = .ok (.iconst 1, 1) := by decide +kernel
theorem dX4_sweep_175 : decode cX4_sweep 175 = .ok (.iadd, 1) := by decide +kernel
theorem dX4_sweep_176 : decode cX4_sweep 176 = .ok (.isub, 1) := by decide +kernel
theorem dX4_sweep_177 : decode cX4_sweep 177 = .ok (.ireturn, 1) := by decide +kernel
theorem dX4_sweep_178 : decode cX4_sweep 178 = .ok (.aload_n 0, 1) := by decide +kernel
theorem dX4_sweep_179 : decode cX4_sweep 179 = .ok (.iload 5, 2) := by decide +kernel
theorem dX4_sweep_181 : decode cX4_sweep 181 = .ok (.invokevirtual 160, 3) := by decide +kernel
theorem dX4_sweep_184 : decode cX4_sweep 184 = .ok (.iinc 9 1, 3) := by decide +kernel
theorem dX4_sweep_187 : decode cX4_sweep 187 = .ok (.goto (-105), 3) := by decide +kernel
theorem dX4_sweep_190 : decode cX4_sweep 190 = .ok (.iload 8, 2) := by decide +kernel
theorem dX4_sweep_192 : decode cX4_sweep 192 = .ok (.ireturn, 1) := by decide +kernel
set_option maxRecDepth 20000 in
theorem ggX4_why_X4_within : GoodIn wsX4_why wsX4_within := goodIn_r _ [7] (by decide +kernel) (by decide +kernel)
set_option maxRecDepth 20000 in
theorem gX4_why_X4_within : GoodIn wsX4_why (va_wsS RX4 66 yX4_within wsX4_within) := goodIn_app (goodIn_of _ (by decide +kernel)) ggX4_why_X4_within
theorem dX4_why_0 : decode cX4_why 0 = .ok (.iload_n 1, 1) := by decide +kernel
theorem dX4_why_1 : decode cX4_why 1 = .ok (.iconst 0, 1) := by decide +kernel
theorem dX4_why_2 : decode cX4_why 2 = .ok (.iconst 2, 1) := by decide +kernel
theorem dX4_why_3 : decode cX4_why 3 = .ok (.invokestatic 66, 3) := by decide +kernel
theorem dX4_why_6 : decode cX4_why 6 = .ok (.ifCond .eq 12, 3) := by decide +kernel
theorem dX4_why_9 : decode cX4_why 9 = .ok (.iload_n 2, 1) := by decide +kernel
theorem dX4_why_10 : decode cX4_why 10 = .ok (.iconst 0, 1) := by decide +kernel
theorem dX4_why_11 : decode cX4_why 11 = .ok (.iconst 1, 1) := by decide +kernel
theorem dX4_why_12 : decode cX4_why 12 = .ok (.invokestatic 66, 3) := by decide +kernel
theorem dX4_why_15 : decode cX4_why 15 = .ok (.ifCond .ne 6, 3) := by decide +kernel
theorem dX4_why_18 : decode cX4_why 18 = .ok (.bipush (-2), 2) := by decide +kernel
theorem dX4_why_20 : decode cX4_why 20 = .ok (.ireturn, 1) := by decide +kernel
theorem dX4_why_21 : decode cX4_why 21 = .ok (.iload_n 1, 1) := by decide +kernel
theorem dX4_why_22 : decode cX4_why 22 = .ok (.aload_n 0, 1) := by decide +kernel
theorem dX4_why_23 : decode cX4_why 23 = .ok (.getfield 139, 3) := by decide +kernel
theorem dX4_why_26 : decode cX4_why 26 = .ok (.if_icmp .lt 8, 3) := by decide +kernel
theorem dX4_why_29 : decode cX4_why 29 = .ok (.bipush (-9), 2) := by decide +kernel
theorem dX4_why_31 : decode cX4_why 31 = .ok (.goto 22, 3) := by decide +kernel
theorem dX4_why_34 : decode cX4_why 34 = .ok (.iload_n 2, 1) := by decide +kernel
theorem dX4_why_35 : decode cX4_why 35 = .ok (.ifCond .ne 12, 3) := by decide +kernel
theorem dX4_why_38 : decode cX4_why 38 = .ok (.aload_n 0, 1) := by decide +kernel
theorem dX4_why_39 : decode cX4_why 39 = .ok (.getfield 60, 3) := by decide +kernel
theorem dX4_why_42 : decode cX4_why 42 = .ok (.iload_n 1, 1) := by decide +kernel
theorem dX4_why_43 : decode cX4_why 43 = .ok (.iaload, 1) := by decide +kernel
theorem dX4_why_44 : decode cX4_why 44 = .ok (.goto 9, 3) := by decide +kernel
theorem dX4_why_47 : decode cX4_why 47 = .ok (.aload_n 0, 1) := by decide +kernel
theorem dX4_why_48 : decode cX4_why 48 = .ok (.getfield 63, 3) := by decide +kernel
theorem dX4_why_51 : decode cX4_why 51 = .ok (.iload_n 1, 1) := by decide +kernel
theorem dX4_why_52 : decode cX4_why 52 = .ok (.iaload, 1) := by decide +kernel
theorem dX4_why_53 : decode cX4_why 53 = .ok (.ireturn, 1) := by decide +kernel
set_option maxRecDepth 20000 in
theorem ggX4_isReading_X4_within : GoodIn wsX4_isReading wsX4_within := goodIn_r _ [5] (by decide +kernel) (by decide +kernel)
set_option maxRecDepth 20000 in
theorem gX4_isReading_X4_within : GoodIn wsX4_isReading (va_wsS RX4 66 yX4_within wsX4_within) := goodIn_app (goodIn_of _ (by decide +kernel)) ggX4_isReading_X4_within
theorem dX4_isReading_0 : decode cX4_isReading 0 = .ok (.iload_n 1, 1) := by decide +kernel
theorem dX4_isReading_1 : decode cX4_isReading 1 = .ok (.iconst 0, 1) := by decide +kernel
theorem dX4_isReading_2 : decode cX4_isReading 2 = .ok (.aload_n 0, 1) := by decide +kernel
theorem dX4_isReading_3 : decode cX4_isReading 3 = .ok (.getfield 142, 3) := by decide +kernel
theorem dX4_isReading_6 : decode cX4_isReading 6 = .ok (.iconst 1, 1) := by decide +kernel
theorem dX4_isReading_7 : decode cX4_isReading 7 = .ok (.isub, 1) := by decide +kernel
theorem dX4_isReading_8 : decode cX4_isReading 8 = .ok (.invokestatic 66, 3) := by decide +kernel
theorem dX4_isReading_11 : decode cX4_isReading 11 = .ok (.ireturn, 1) := by decide +kernel
set_option maxRecDepth 20000 in
theorem ggX4_reading_X4_isReading : GoodIn wsX4_reading wsX4_isReading := goodIn_r _ [10, 11, 12, 13, 9, 14, 15, 16, 17, 18, 19, 20, 21, 22, 23, 24, 25, 26, 27, 28, 29, 30, 31, 32, 33, 34, 35, 36, 37, 38, 39] (by decide +kernel) (by decide +kernel)
set_option maxRecDepth 20000 in
theorem gX4_reading_X4_isReading : GoodIn wsX4_reading (wsV RX4 168 RX4 yX4_isReading wsX4_isReading) := goodIn_app (goodIn_of _ (by decide +kernel)) ggX4_reading_X4_isReading
theorem dX4_reading_0 : decode cX4_reading 0 = .ok (.aload_n 0, 1) := by decide +kernel
theorem dX4_reading_1 : decode cX4_reading 1 = .ok (.iload_n 1, 1) := by decide +kernel
theorem dX4_reading_2 : decode cX4_reading 2 = .ok (.invokevirtual 168, 3) := by decide +kernel
theorem dX4_reading_5 : decode cX4_reading 5 = .ok (.ifCond .ne 5, 3) := by decide +kernel
theorem dX4_reading_8 : decode cX4_reading 8 = .ok (.iconst (-1), 1) := by decide +kernel
theorem dX4_reading_9 : decode cX4_reading 9 = .ok (.ireturn, 1) := by decide +kernel
theorem dX4_reading_10 : decode cX4_reading 10 = .ok (.iload_n 2, 1) := by decide +kernel
theorem dX4_reading_11 : decode cX4_reading 11 = .ok (.tableswitch 68 0 3 #[29, 40, 51, 61], 29) := by decide +kernel
theorem dX4_reading_40 : decode cX4_reading 40 = .ok (.aload_n 0, 1) := by decide +kernel
theorem dX4_reading_41 : decode cX4_reading 41 = .ok (.getfield 48, 3) := by decide +kernel
theorem dX4_reading_44 : decode cX4_reading 44 = .ok (.iload_n 1, 1) := by decide +kernel
theorem dX4_reading_45 : decode cX4_reading 45 = .ok (.iaload, 1) := by decide +kernel
theorem dX4_reading_46 : decode cX4_reading 46 = .ok (.sipush 10000, 3) := by decide +kernel
theorem dX4_reading_49 : decode cX4_reading 49 = .ok (.iadd, 1) := by decide +kernel
theorem dX4_reading_50 : decode cX4_reading 50 = .ok (.ireturn, 1) := by decide +kernel
theorem dX4_reading_51 : decode cX4_reading 51 = .ok (.aload_n 0, 1) := by decide +kernel
theorem dX4_reading_52 : decode cX4_reading 52 = .ok (.getfield 51, 3) := by decide +kernel
theorem dX4_reading_55 : decode cX4_reading 55 = .ok (.iload_n 1, 1) := by decide +kernel
theorem dX4_reading_56 : decode cX4_reading 56 = .ok (.iaload, 1) := by decide +kernel
theorem dX4_reading_57 : decode cX4_reading 57 = .ok (.sipush 10000, 3) := by decide +kernel
theorem dX4_reading_60 : decode cX4_reading 60 = .ok (.iadd, 1) := by decide +kernel
theorem dX4_reading_61 : decode cX4_reading 61 = .ok (.ireturn, 1) := by decide +kernel
theorem dX4_reading_62 : decode cX4_reading 62 = .ok (.aload_n 0, 1) := by decide +kernel
theorem dX4_reading_63 : decode cX4_reading 63 = .ok (.getfield 54, 3) := by decide +kernel
theorem dX4_reading_66 : decode cX4_reading 66 = .ok (.iload_n 1, 1) := by decide +kernel
theorem dX4_reading_67 : decode cX4_reading 67 = .ok (.iaload, 1) := by decide +kernel
theorem dX4_reading_68 : decode cX4_reading 68 = .ok (.ldc 112, 2) := by decide +kernel
theorem dX4_reading_70 : decode cX4_reading 70 = .ok (.iadd, 1) := by decide +kernel
theorem dX4_reading_71 : decode cX4_reading 71 = .ok (.ireturn, 1) := by decide +kernel
theorem dX4_reading_72 : decode cX4_reading 72 = .ok (.aload_n 0, 1) := by decide +kernel
theorem dX4_reading_73 : decode cX4_reading 73 = .ok (.getfield 57, 3) := by decide +kernel
theorem dX4_reading_76 : decode cX4_reading 76 = .ok (.iload_n 1, 1) := by decide +kernel
theorem dX4_reading_77 : decode cX4_reading 77 = .ok (.iaload, 1) := by decide +kernel
theorem dX4_reading_78 : decode cX4_reading 78 = .ok (.ireturn, 1) := by decide +kernel
theorem dX4_reading_79 : decode cX4_reading 79 = .ok (.bipush (-2), 2) := by decide +kernel
theorem dX4_reading_81 : decode cX4_reading 81 = .ok (.ireturn, 1) := by decide +kernel
theorem dX4_clear_0 : decode cX4_clear 0 = .ok (.aload_n 0, 1) := by decide +kernel
theorem dX4_clear_1 : decode cX4_clear 1 = .ok (.getfield 142, 3) := by decide +kernel
theorem dX4_clear_4 : decode cX4_clear 4 = .ok (.istore_n 1, 1) := by decide +kernel
theorem dX4_clear_5 : decode cX4_clear 5 = .ok (.aload_n 0, 1) := by decide +kernel
theorem dX4_clear_6 : decode cX4_clear 6 = .ok (.iconst 0, 1) := by decide +kernel
theorem dX4_clear_7 : decode cX4_clear 7 = .ok (.putfield 142, 3) := by decide +kernel
theorem dX4_clear_10 : decode cX4_clear 10 = .ok (.iload_n 1, 1) := by decide +kernel
theorem dX4_clear_11 : decode cX4_clear 11 = .ok (.ireturn, 1) := by decide +kernel
theorem dX4_off_0 : decode cX4_off 0 = .ok (.aload_n 0, 1) := by decide +kernel
theorem dX4_off_1 : decode cX4_off 1 = .ok (.getfield 51, 3) := by decide +kernel
theorem dX4_off_4 : decode cX4_off 4 = .ok (.iload_n 1, 1) := by decide +kernel
theorem dX4_off_5 : decode cX4_off 5 = .ok (.iaload, 1) := by decide +kernel
theorem dX4_off_6 : decode cX4_off 6 = .ok (.aload_n 0, 1) := by decide +kernel
theorem dX4_off_7 : decode cX4_off 7 = .ok (.getfield 51, 3) := by decide +kernel
theorem dX4_off_10 : decode cX4_off 10 = .ok (.iload_n 2, 1) := by decide +kernel
theorem dX4_off_11 : decode cX4_off 11 = .ok (.iaload, 1) := by decide +kernel
theorem dX4_off_12 : decode cX4_off 12 = .ok (.isub, 1) := by decide +kernel
theorem dX4_off_13 : decode cX4_off 13 = .ok (.i2l, 1) := by decide +kernel
theorem dX4_off_14 : decode cX4_off 14 = .ok (.aload_n 0, 1) := by decide +kernel
theorem dX4_off_15 : decode cX4_off 15 = .ok (.getfield 54, 3) := by decide +kernel
theorem dX4_off_18 : decode cX4_off 18 = .ok (.iload_n 3, 1) := by decide +kernel
theorem dX4_off_19 : decode cX4_off 19 = .ok (.iaload, 1) := by decide +kernel
theorem dX4_off_20 : decode cX4_off 20 = .ok (.aload_n 0, 1) := by decide +kernel
theorem dX4_off_21 : decode cX4_off 21 = .ok (.getfield 54, 3) := by decide +kernel
theorem dX4_off_24 : decode cX4_off 24 = .ok (.iload_n 2, 1) := by decide +kernel
theorem dX4_off_25 : decode cX4_off 25 = .ok (.iaload, 1) := by decide +kernel
theorem dX4_off_26 : decode cX4_off 26 = .ok (.isub, 1) := by decide +kernel
theorem dX4_off_27 : decode cX4_off 27 = .ok (.i2l, 1) := by decide +kernel
theorem dX4_off_28 : decode cX4_off 28 = .ok (.lmul, 1) := by decide +kernel
theorem dX4_off_29 : decode cX4_off 29 = .ok (.aload_n 0, 1) := by decide +kernel
theorem dX4_off_30 : decode cX4_off 30 = .ok (.getfield 54, 3) := by decide +kernel
theorem dX4_off_33 : decode cX4_off 33 = .ok (.iload_n 1, 1) := by decide +kernel
theorem dX4_off_34 : decode cX4_off 34 = .ok (.iaload, 1) := by decide +kernel
theorem dX4_off_35 : decode cX4_off 35 = .ok (.aload_n 0, 1) := by decide +kernel
theorem dX4_off_36 : decode cX4_off 36 = .ok (.getfield 54, 3) := by decide +kernel
theorem dX4_off_39 : decode cX4_off 39 = .ok (.iload_n 2, 1) := by decide +kernel
theorem dX4_off_40 : decode cX4_off 40 = .ok (.iaload, 1) := by decide +kernel
theorem dX4_off_41 : decode cX4_off 41 = .ok (.isub, 1) := by decide +kernel
theorem dX4_off_42 : decode cX4_off 42 = .ok (.i2l, 1) := by decide +kernel
theorem dX4_off_43 : decode cX4_off 43 = .ok (.aload_n 0, 1) := by decide +kernel
theorem dX4_off_44 : decode cX4_off 44 = .ok (.getfield 51, 3) := by decide +kernel
theorem dX4_off_47 : decode cX4_off 47 = .ok (.iload_n 3, 1) := by decide +kernel
theorem dX4_off_48 : decode cX4_off 48 = .ok (.iaload, 1) := by decide +kernel
theorem dX4_off_49 : decode cX4_off 49 = .ok (.aload_n 0, 1) := by decide +kernel
theorem dX4_off_50 : decode cX4_off 50 = .ok (.getfield 51, 3) := by decide +kernel
theorem dX4_off_53 : decode cX4_off 53 = .ok (.iload_n 2, 1) := by decide +kernel
theorem dX4_off_54 : decode cX4_off 54 = .ok (.iaload, 1) := by decide +kernel
theorem dX4_off_55 : decode cX4_off 55 = .ok (.isub, 1) := by decide +kernel
theorem dX4_off_56 : decode cX4_off 56 = .ok (.i2l, 1) := by decide +kernel
theorem dX4_off_57 : decode cX4_off 57 = .ok (.lmul, 1) := by decide +kernel
theorem dX4_off_58 : decode cX4_off 58 = .ok (.lsub, 1) := by decide +kernel
theorem dX4_off_59 : decode cX4_off 59 = .ok (.lstore 4, 2) := by decide +kernel
theorem dX4_off_61 : decode cX4_off 61 = .ok (.lload 4, 2) := by decide +kernel
theorem dX4_off_63 : decode cX4_off 63 = .ok (.lconst 0, 1) := by decide +kernel
theorem dX4_off_64 : decode cX4_off 64 = .ok (.lcmp, 1) := by decide +kernel
theorem dX4_off_65 : decode cX4_off 65 = .ok (.ifCond .ge 9, 3) := by decide +kernel
theorem dX4_off_68 : decode cX4_off 68 = .ok (.lload 4, 2) := by decide +kernel
theorem dX4_off_70 : decode cX4_off 70 = .ok (.lneg, 1) := by decide +kernel
theorem dX4_off_71 : decode cX4_off 71 = .ok (.goto 5, 3) := by decide +kernel
theorem dX4_off_74 : decode cX4_off 74 = .ok (.lload 4, 2) := by decide +kernel
theorem dX4_off_76 : decode cX4_off 76 = .ok (.lreturn, 1) := by decide +kernel
set_option maxRecDepth 20000 in
theorem ggX4_knee_X4_isReading : GoodIn wsX4_knee wsX4_isReading := goodIn_r _ [5, 6, 7, 8, 4, 9, 16, 17, 18, 19, 20, 21, 22, 23, 24, 25, 26, 27, 28, 29, 30, 31, 32, 33, 34, 35, 36, 37, 38, 39, 40] (by decide +kernel) (by decide +kernel)
set_option maxRecDepth 20000 in
theorem gX4_knee_X4_isReading : GoodIn wsX4_knee (wsV RX4 168 RX4 yX4_isReading wsX4_isReading) := goodIn_app (goodIn_of _ (by decide +kernel)) ggX4_knee_X4_isReading
set_option maxRecDepth 20000 in
theorem ggX4_knee_X4_off : GoodIn wsX4_knee wsX4_off := goodIn_r _ [13, 14, 15, 16, 17, 18, 19, 20, 21, 22, 23, 24, 25, 26, 27, 28, 29, 30, 31, 32, 33, 34, 35, 36, 37, 38, 39, 40] (by decide +kernel) (by decide +kernel)
set_option maxRecDepth 20000 in
theorem gX4_knee_X4_off : GoodIn wsX4_knee (wsV RX4 171 RX4 yX4_off wsX4_off) := goodIn_app (goodIn_of _ (by decide +kernel)) ggX4_knee_X4_off
theorem dX4_knee_0 : decode cX4_knee 0 = .ok (.aload_n 0, 1) := by decide +kernel
theorem dX4_knee_1 : decode cX4_knee 1 = .ok (.iload_n 1, 1) := by decide +kernel
theorem dX4_knee_2 : decode cX4_knee 2 = .ok (.invokevirtual 168, 3) := by decide +kernel
theorem dX4_knee_5 : decode cX4_knee 5 = .ok (.ifCond .eq 11, 3) := by decide +kernel
theorem dX4_knee_8 : decode cX4_knee 8 = .ok (.aload_n 0, 1) := by decide +kernel
theorem dX4_knee_9 : decode cX4_knee 9 = .ok (.iload_n 2, 1) := by decide +kernel
theorem dX4_knee_10 : decode cX4_knee 10 = .ok (.invokevirtual 168, 3) := by decide +kernel
theorem dX4_knee_13 : decode cX4_knee 13 = .ok (.ifCond .ne 5, 3) := by decide +kernel
theorem dX4_knee_16 : decode cX4_knee 16 = .ok (.iconst (-1), 1) := by decide +kernel
theorem dX4_knee_17 : decode cX4_knee 17 = .ok (.ireturn, 1) := by decide +kernel
theorem dX4_knee_18 : decode cX4_knee 18 = .ok (.iload_n 1, 1) := by decide +kernel
theorem dX4_knee_19 : decode cX4_knee 19 = .ok (.iload_n 2, 1) := by decide +kernel
theorem dX4_knee_20 : decode cX4_knee 20 = .ok (.if_icmp .le 6, 3) := by decide +kernel
theorem dX4_knee_23 : decode cX4_knee 23 = .ok (.bipush (-2), 2) := by decide +kernel
theorem dX4_knee_25 : decode cX4_knee 25 = .ok (.ireturn, 1) := by decide +kernel
theorem dX4_knee_26 : decode cX4_knee 26 = .ok (.bipush (-9), 2) := by decide +kernel
theorem dX4_knee_28 : decode cX4_knee 28 = .ok (.istore_n 3, 1) := by decide +kernel
theorem dX4_knee_29 : decode cX4_knee 29 = .ok (.lconst 0, 1) := by decide +kernel
theorem dX4_knee_30 : decode cX4_knee 30 = .ok (.lstore 4, 2) := by decide +kernel
theorem dX4_knee_32 : decode cX4_knee 32 = .ok (.iload_n 1, 1) := by decide +kernel
theorem dX4_knee_33 : decode cX4_knee 33 = .ok (.istore 6, 2) := by decide +kernel
theorem dX4_knee_35 : decode cX4_knee 35 = .ok (.iload 6, 2) := by decide +kernel
theorem dX4_knee_37 : decode cX4_knee 37 = .ok (.iload_n 2, 1) := by decide +kernel
theorem dX4_knee_38 : decode cX4_knee 38 = .ok (.if_icmp .gt 62, 3) := by decide +kernel
theorem dX4_knee_41 : decode cX4_knee 41 = .ok (.aload_n 0, 1) := by decide +kernel
theorem dX4_knee_42 : decode cX4_knee 42 = .ok (.iload 6, 2) := by decide +kernel
theorem dX4_knee_44 : decode cX4_knee 44 = .ok (.iload_n 1, 1) := by decide +kernel
theorem dX4_knee_45 : decode cX4_knee 45 = .ok (.iload_n 2, 1) := by decide +kernel
theorem dX4_knee_46 : decode cX4_knee 46 = .ok (.invokevirtual 171, 3) := by decide +kernel
theorem dX4_knee_49 : decode cX4_knee 49 = .ok (.lload 4, 2) := by decide +kernel
theorem dX4_knee_51 : decode cX4_knee 51 = .ok (.lcmp, 1) := by decide +kernel
theorem dX4_knee_52 : decode cX4_knee 52 = .ok (.ifCond .le 7, 3) := by decide +kernel
theorem dX4_knee_55 : decode cX4_knee 55 = .ok (.iconst 1, 1) := by decide +kernel
theorem dX4_knee_56 : decode cX4_knee 56 = .ok (.goto 4, 3) := by decide +kernel
theorem dX4_knee_59 : decode cX4_knee 59 = .ok (.iconst 0, 1) := by decide +kernel
theorem dX4_knee_60 : decode cX4_knee 60 = .ok (.istore 7, 2) := by decide +kernel
theorem dX4_knee_62 : decode cX4_knee 62 = .ok (.iload 7, 2) := by decide +kernel
theorem dX4_knee_64 : decode cX4_knee 64 = .ok (.ifCond .eq 8, 3) := by decide +kernel
theorem dX4_knee_67 : decode cX4_knee 67 = .ok (.iload 6, 2) := by decide +kernel
theorem dX4_knee_69 : decode cX4_knee 69 = .ok (.goto 4, 3) := by decide +kernel
theorem dX4_knee_72 : decode cX4_knee 72 = .ok (.iload_n 3, 1) := by decide +kernel
theorem dX4_knee_73 : decode cX4_knee 73 = .ok (.istore_n 3, 1) := by decide +kernel
theorem dX4_knee_74 : decode cX4_knee 74 = .ok (.iload 7, 2) := by decide +kernel
theorem dX4_knee_76 : decode cX4_knee 76 = .ok (.ifCond .eq 14, 3) := by decide +kernel
theorem dX4_knee_79 : decode cX4_knee 79 = .ok (.aload_n 0, 1) := by decide +kernel
theorem dX4_knee_80 : decode cX4_knee 80 = .ok (.iload 6, 2) := by decide +kernel
theorem dX4_knee_82 : decode cX4_knee 82 = .ok (.iload_n 1, 1) := by decide +kernel
theorem dX4_knee_83 : decode cX4_knee 83 = .ok (.iload_n 2, 1) := by decide +kernel
theorem dX4_knee_84 : decode cX4_knee 84 = .ok (.invokevirtual 171, 3) := by decide +kernel
theorem dX4_knee_87 : decode cX4_knee 87 = .ok (.goto 5, 3) := by decide +kernel
theorem dX4_knee_90 : decode cX4_knee 90 = .ok (.lload 4, 2) := by decide +kernel
theorem dX4_knee_92 : decode cX4_knee 92 = .ok (.lstore 4, 2) := by decide +kernel
theorem dX4_knee_94 : decode cX4_knee 94 = .ok (.iinc 6 1, 3) := by decide +kernel
theorem dX4_knee_97 : decode cX4_knee 97 = .ok (.goto (-62), 3) := by decide +kernel
theorem dX4_knee_100 : decode cX4_knee 100 = .ok (.iload_n 3, 1) := by decide +kernel
theorem dX4_knee_101 : decode cX4_knee 101 = .ok (.ireturn, 1) := by decide +kernel
theorem dX4_fraction_0 : decode cX4_fraction 0 = .ok (.lload_n 0, 1) := by decide +kernel
theorem dX4_fraction_1 : decode cX4_fraction 1 = .ok (.lconst 0, 1) := by decide +kernel
theorem dX4_fraction_2 : decode cX4_fraction 2 = .ok (.lcmp, 1) := by decide +kernel
theorem dX4_fraction_3 : decode cX4_fraction 3 = .ok (.ifCond .ge 8, 3) := by decide +kernel
theorem dX4_fraction_6 : decode cX4_fraction 6 = .ok (.lload_n 0, 1) := by decide +kernel
theorem dX4_fraction_7 : decode cX4_fraction 7 = .ok (.lneg, 1) := by decide +kernel
theorem dX4_fraction_8 : decode cX4_fraction 8 = .ok (.goto 4, 3) := by decide +kernel
theorem dX4_fraction_11 : decode cX4_fraction 11 = .ok (.lload_n 0, 1) := by decide +kernel
theorem dX4_fraction_12 : decode cX4_fraction 12 = .ok (.lstore 5, 2) := by decide +kernel
theorem dX4_fraction_14 : decode cX4_fraction 14 = .ok (.lload_n 2, 1) := by decide +kernel
theorem dX4_fraction_15 : decode cX4_fraction 15 = .ok (.lconst 0, 1) := by decide +kernel
theorem dX4_fraction_16 : decode cX4_fraction 16 = .ok (.lcmp, 1) := by decide +kernel
theorem dX4_fraction_17 : decode cX4_fraction 17 = .ok (.ifCond .ge 8, 3) := by decide +kernel
theorem dX4_fraction_20 : decode cX4_fraction 20 = .ok (.lload_n 2, 1) := by decide +kernel
theorem dX4_fraction_21 : decode cX4_fraction 21 = .ok (.lneg, 1) := by decide +kernel
theorem dX4_fraction_22 : decode cX4_fraction 22 = .ok (.goto 4, 3) := by decide +kernel
theorem dX4_fraction_25 : decode cX4_fraction 25 = .ok (.lload_n 2, 1) := by decide +kernel
theorem dX4_fraction_26 : decode cX4_fraction 26 = .ok (.lstore 7, 2) := by decide +kernel
theorem dX4_fraction_28 : decode cX4_fraction 28 = .ok (.lload 7, 2) := by decide +kernel
theorem dX4_fraction_30 : decode cX4_fraction 30 = .ok (.lconst 0, 1) := by decide +kernel
theorem dX4_fraction_31 : decode cX4_fraction 31 = .ok (.lcmp, 1) := by decide +kernel
theorem dX4_fraction_32 : decode cX4_fraction 32 = .ok (.ifCond .eq 21, 3) := by decide +kernel
theorem dX4_fraction_35 : decode cX4_fraction 35 = .ok (.lload 5, 2) := by decide +kernel
theorem dX4_fraction_37 : decode cX4_fraction 37 = .ok (.lload 7, 2) := by decide +kernel
theorem dX4_fraction_39 : decode cX4_fraction 39 = .ok (.lrem, 1) := by decide +kernel
theorem dX4_fraction_40 : decode cX4_fraction 40 = .ok (.lstore 9, 2) := by decide +kernel
theorem dX4_fraction_42 : decode cX4_fraction 42 = .ok (.lload 7, 2) := by decide +kernel
theorem dX4_fraction_44 : decode cX4_fraction 44 = .ok (.lstore 5, 2) := by decide +kernel
theorem dX4_fraction_46 : decode cX4_fraction 46 = .ok (.lload 9, 2) := by decide +kernel
theorem dX4_fraction_48 : decode cX4_fraction 48 = .ok (.lstore 7, 2) := by decide +kernel
theorem dX4_fraction_50 : decode cX4_fraction 50 = .ok (.goto (-22), 3) := by decide +kernel
theorem dX4_fraction_53 : decode cX4_fraction 53 = .ok (.lload_n 2, 1) := by decide +kernel
theorem dX4_fraction_54 : decode cX4_fraction 54 = .ok (.lconst 0, 1) := by decide +kernel
theorem dX4_fraction_55 : decode cX4_fraction 55 = .ok (.lcmp, 1) := by decide +kernel
theorem dX4_fraction_56 : decode cX4_fraction 56 = .ok (.ifCond .ge 9, 3) := by decide +kernel
theorem dX4_fraction_59 : decode cX4_fraction 59 = .ok (.lload 5, 2) := by decide +kernel
theorem dX4_fraction_61 : decode cX4_fraction 61 = .ok (.lneg, 1) := by decide +kernel
theorem dX4_fraction_62 : decode cX4_fraction 62 = .ok (.goto 5, 3) := by decide +kernel
theorem dX4_fraction_65 : decode cX4_fraction 65 = .ok (.lload 5, 2) := by decide +kernel
theorem dX4_fraction_67 : decode cX4_fraction 67 = .ok (.lstore 9, 2) := by decide +kernel
theorem dX4_fraction_69 : decode cX4_fraction 69 = .ok (.iload 4, 2) := by decide +kernel
theorem dX4_fraction_71 : decode cX4_fraction 71 = .ok (.ifCond .ne 10, 3) := by decide +kernel
theorem dX4_fraction_74 : decode cX4_fraction 74 = .ok (.lload_n 0, 1) := by decide +kernel
theorem dX4_fraction_75 : decode cX4_fraction 75 = .ok (.lload 9, 2) := by decide +kernel
theorem dX4_fraction_77 : decode cX4_fraction 77 = .ok (.ldiv, 1) := by decide +kernel
theorem dX4_fraction_78 : decode cX4_fraction 78 = .ok (.goto 7, 3) := by decide +kernel
theorem dX4_fraction_81 : decode cX4_fraction 81 = .ok (.lload_n 2, 1) := by decide +kernel
theorem dX4_fraction_82 : decode cX4_fraction 82 = .ok (.lload 9, 2) := by decide +kernel
theorem dX4_fraction_84 : decode cX4_fraction 84 = .ok (.ldiv, 1) := by decide +kernel
theorem dX4_fraction_85 : decode cX4_fraction 85 = .ok (.lreturn, 1) := by decide +kernel
set_option maxRecDepth 20000 in
theorem ggX4_fit_X4_isReading : GoodIn wsX4_fit wsX4_isReading := goodIn_r _ [8, 9, 10, 11, 7, 12, 16, 17, 18, 19, 20, 21, 22, 23, 24, 25, 26, 27, 28, 29, 30, 31, 32, 33, 34, 35, 36, 37, 38, 39, 40] (by decide +kernel) (by decide +kernel)
set_option maxRecDepth 20000 in
theorem gX4_fit_X4_isReading : GoodIn wsX4_fit (wsV RX4 168 RX4 yX4_isReading wsX4_isReading) := goodIn_app (goodIn_of _ (by decide +kernel)) ggX4_fit_X4_isReading
set_option maxRecDepth 20000 in
theorem ggX4_fit_X4_within : GoodIn wsX4_fit wsX4_within := goodIn_r _ [12] (by decide +kernel) (by decide +kernel)
set_option maxRecDepth 20000 in
theorem gX4_fit_X4_within : GoodIn wsX4_fit (va_wsS RX4 66 yX4_within wsX4_within) := goodIn_app (goodIn_of _ (by decide +kernel)) ggX4_fit_X4_within
set_option maxRecDepth 20000 in
theorem ggX4_fit_X4_fraction : GoodIn wsX4_fit wsX4_fraction := goodIn_r _ [15] (by decide +kernel) (by decide +kernel)
set_option maxRecDepth 20000 in
theorem gX4_fit_X4_fraction : GoodIn wsX4_fit (va_wsS RX4 177 yX4_fraction wsX4_fraction) := goodIn_app (goodIn_of _ (by decide +kernel)) ggX4_fit_X4_fraction
theorem dX4_fit_0 : decode cX4_fit 0 = .ok (.aload_n 0, 1) := by decide +kernel
theorem dX4_fit_1 : decode cX4_fit 1 = .ok (.iload_n 1, 1) := by decide +kernel
theorem dX4_fit_2 : decode cX4_fit 2 = .ok (.invokevirtual 168, 3) := by decide +kernel
theorem dX4_fit_5 : decode cX4_fit 5 = .ok (.ifCond .eq 25, 3) := by decide +kernel
theorem dX4_fit_8 : decode cX4_fit 8 = .ok (.aload_n 0, 1) := by decide +kernel
theorem dX4_fit_9 : decode cX4_fit 9 = .ok (.iload_n 2, 1) := by decide +kernel
theorem dX4_fit_10 : decode cX4_fit 10 = .ok (.invokevirtual 168, 3) := by decide +kernel
theorem dX4_fit_13 : decode cX4_fit 13 = .ok (.ifCond .eq 17, 3) := by decide +kernel
theorem dX4_fit_16 : decode cX4_fit 16 = .ok (.iload_n 1, 1) := by decide +kernel
theorem dX4_fit_17 : decode cX4_fit 17 = .ok (.iload_n 2, 1) := by decide +kernel
theorem dX4_fit_18 : decode cX4_fit 18 = .ok (.if_icmp .gt 12, 3) := by decide +kernel
theorem dX4_fit_21 : decode cX4_fit 21 = .ok (.iload_n 3, 1) := by decide +kernel
theorem dX4_fit_22 : decode cX4_fit 22 = .ok (.iconst 0, 1) := by decide +kernel
theorem dX4_fit_23 : decode cX4_fit 23 = .ok (.iconst 5, 1) := by decide +kernel
theorem dX4_fit_24 : decode cX4_fit 24 = .ok (.invokestatic 66, 3) := by decide +kernel
theorem dX4_fit_27 : decode cX4_fit 27 = .ok (.ifCond .ne 7, 3) := by decide +kernel
theorem dX4_fit_30 : decode cX4_fit 30 = .ok (.ldc2_w 175, 3) := by decide +kernel
theorem dX4_fit_33 : decode cX4_fit 33 = .ok (.lreturn, 1) := by decide +kernel
theorem dX4_fit_34 : decode cX4_fit 34 = .ok (.iload_n 2, 1) := by decide +kernel
theorem dX4_fit_35 : decode cX4_fit 35 = .ok (.iload_n 1, 1) := by decide +kernel
theorem dX4_fit_36 : decode cX4_fit 36 = .ok (.isub, 1) := by decide +kernel
theorem dX4_fit_37 : decode cX4_fit 37 = .ok (.iconst 1, 1) := by decide +kernel
theorem dX4_fit_38 : decode cX4_fit 38 = .ok (.iadd, 1) := by decide +kernel
theorem dX4_fit_39 : decode cX4_fit 39 = .ok (.i2l, 1) := by decide +kernel
theorem dX4_fit_40 : decode cX4_fit 40 = .ok (.lstore 4, 2) := by decide +kernel
theorem dX4_fit_42 : decode cX4_fit 42 = .ok (.lconst 0, 1) := by decide +kernel
theorem dX4_fit_43 : decode cX4_fit 43 = .ok (.lstore 6, 2) := by decide +kernel
theorem dX4_fit_45 : decode cX4_fit 45 = .ok (.lconst 0, 1) := by decide +kernel
theorem dX4_fit_46 : decode cX4_fit 46 = .ok (.lstore 8, 2) := by decide +kernel
theorem dX4_fit_48 : decode cX4_fit 48 = .ok (.lconst 0, 1) := by decide +kernel
theorem dX4_fit_49 : decode cX4_fit 49 = .ok (.lstore 10, 2) := by decide +kernel
theorem dX4_fit_51 : decode cX4_fit 51 = .ok (.lconst 0, 1) := by decide +kernel
theorem dX4_fit_52 : decode cX4_fit 52 = .ok (.lstore 12, 2) := by decide +kernel
theorem dX4_fit_54 : decode cX4_fit 54 = .ok (.iload_n 1, 1) := by decide +kernel
theorem dX4_fit_55 : decode cX4_fit 55 = .ok (.istore 14, 2) := by decide +kernel
theorem dX4_fit_57 : decode cX4_fit 57 = .ok (.iload 14, 2) := by decide +kernel
theorem dX4_fit_59 : decode cX4_fit 59 = .ok (.iload_n 2, 1) := by decide +kernel
theorem dX4_fit_60 : decode cX4_fit 60 = .ok (.if_icmp .gt 63, 3) := by decide +kernel
theorem dX4_fit_63 : decode cX4_fit 63 = .ok (.aload_n 0, 1) := by decide +kernel
theorem dX4_fit_64 : decode cX4_fit 64 = .ok (.getfield 51, 3) := by decide +kernel
theorem dX4_fit_67 : decode cX4_fit 67 = .ok (.iload 14, 2) := by decide +kernel
theorem dX4_fit_69 : decode cX4_fit 69 = .ok (.iaload, 1) := by decide +kernel
theorem dX4_fit_70 : decode cX4_fit 70 = .ok (.i2l, 1) := by decide +kernel
theorem dX4_fit_71 : decode cX4_fit 71 = .ok (.lstore 15, 2) := by decide +kernel
theorem dX4_fit_73 : decode cX4_fit 73 = .ok (.aload_n 0, 1) := by decide +kernel
theorem dX4_fit_74 : decode cX4_fit 74 = .ok (.getfield 54, 3) := by decide +kernel
theorem dX4_fit_77 : decode cX4_fit 77 = .ok (.iload 14, 2) := by decide +kernel
theorem dX4_fit_79 : decode cX4_fit 79 = .ok (.iaload, 1) := by decide +kernel
theorem dX4_fit_80 : decode cX4_fit 80 = .ok (.i2l, 1) := by decide +kernel
theorem dX4_fit_81 : decode cX4_fit 81 = .ok (.lstore 17, 2) := by decide +kernel
theorem dX4_fit_83 : decode cX4_fit 83 = .ok (.lload 6, 2) := by decide +kernel
theorem dX4_fit_85 : decode cX4_fit 85 = .ok (.lload 15, 2) := by decide +kernel
theorem dX4_fit_87 : decode cX4_fit 87 = .ok (.ladd, 1) := by decide +kernel
theorem dX4_fit_88 : decode cX4_fit 88 = .ok (.lstore 6, 2) := by decide +kernel
theorem dX4_fit_90 : decode cX4_fit 90 = .ok (.lload 8, 2) := by decide +kernel
theorem dX4_fit_92 : decode cX4_fit 92 = .ok (.lload 17, 2) := by decide +kernel
theorem dX4_fit_94 : decode cX4_fit 94 = .ok (.ladd, 1) := by decide +kernel
theorem dX4_fit_95 : decode cX4_fit 95 = .ok (.lstore 8, 2) := by decide +kernel
theorem dX4_fit_97 : decode cX4_fit 97 = .ok (.lload 10, 2) := by decide +kernel
theorem dX4_fit_99 : decode cX4_fit 99 = .ok (.lload 15, 2) := by decide +kernel
theorem dX4_fit_101 : decode cX4_fit 101 = .ok (.lload 17, 2) := by decide +kernel
theorem dX4_fit_103 : decode cX4_fit 103 = .ok (.lmul, 1) := by decide +kernel
theorem dX4_fit_104 : decode cX4_fit 104 = .ok (.ladd, 1) := by decide +kernel
theorem dX4_fit_105 : decode cX4_fit 105 = .ok (.lstore 10, 2) := by decide +kernel
theorem dX4_fit_107 : decode cX4_fit 107 = .ok (.lload 12, 2) := by decide +kernel
theorem dX4_fit_109 : decode cX4_fit 109 = .ok (.lload 15, 2) := by decide +kernel
theorem dX4_fit_111 : decode cX4_fit 111 = .ok (.lload 15, 2) := by decide +kernel
theorem dX4_fit_113 : decode cX4_fit 113 = .ok (.lmul, 1) := by decide +kernel
theorem dX4_fit_114 : decode cX4_fit 114 = .ok (.ladd, 1) := by decide +kernel
theorem dX4_fit_115 : decode cX4_fit 115 = .ok (.lstore 12, 2) := by decide +kernel
theorem dX4_fit_117 : decode cX4_fit 117 = .ok (.iinc 14 1, 3) := by decide +kernel
theorem dX4_fit_120 : decode cX4_fit 120 = .ok (.goto (-63), 3) := by decide +kernel
theorem dX4_fit_123 : decode cX4_fit 123 = .ok (.lload 4, 2) := by decide +kernel
theorem dX4_fit_125 : decode cX4_fit 125 = .ok (.lload 12, 2) := by decide +kernel
theorem dX4_fit_127 : decode cX4_fit 127 = .ok (.lmul, 1) := by decide +kernel
theorem dX4_fit_128 : decode cX4_fit 128 = .ok (.lload 6, 2) := by decide +kernel
theorem dX4_fit_130 : decode cX4_fit 130 = .ok (.lload 6, 2) := by decide +kernel
theorem dX4_fit_132 : decode cX4_fit 132 = .ok (.lmul, 1) := by decide +kernel
theorem dX4_fit_133 : decode cX4_fit 133 = .ok (.lsub, 1) := by decide +kernel
theorem dX4_fit_134 : decode cX4_fit 134 = .ok (.lstore 14, 2) := by decide +kernel
theorem dX4_fit_136 : decode cX4_fit 136 = .ok (.lload 4, 2) := by decide +kernel
theorem dX4_fit_138 : decode cX4_fit 138 = .ok (.lload 10, 2) := by decide +kernel
theorem dX4_fit_140 : decode cX4_fit 140 = .ok (.lmul, 1) := by decide +kernel
theorem dX4_fit_141 : decode cX4_fit 141 = .ok (.lload 6, 2) := by decide +kernel
theorem dX4_fit_143 : decode cX4_fit 143 = .ok (.lload 8, 2) := by decide +kernel
theorem dX4_fit_145 : decode cX4_fit 145 = .ok (.lmul, 1) := by decide +kernel
theorem dX4_fit_146 : decode cX4_fit 146 = .ok (.lsub, 1) := by decide +kernel
theorem dX4_fit_147 : decode cX4_fit 147 = .ok (.lstore 16, 2) := by decide +kernel
theorem dX4_fit_149 : decode cX4_fit 149 = .ok (.lload 8, 2) := by decide +kernel
theorem dX4_fit_151 : decode cX4_fit 151 = .ok (.lload 12, 2) := by decide +kernel
theorem dX4_fit_153 : decode cX4_fit 153 = .ok (.lmul, 1) := by decide +kernel
theorem dX4_fit_154 : decode cX4_fit 154 = .ok (.lload 6, 2) := by decide +kernel
theorem dX4_fit_156 : decode cX4_fit 156 = .ok (.lload 10, 2) := by decide +kernel
theorem dX4_fit_158 : decode cX4_fit 158 = .ok (.lmul, 1) := by decide +kernel
theorem dX4_fit_159 : decode cX4_fit 159 = .ok (.lsub, 1) := by decide +kernel
theorem dX4_fit_160 : decode cX4_fit 160 = .ok (.lstore 18, 2) := by decide +kernel
theorem dX4_fit_162 : decode cX4_fit 162 = .ok (.lload 14, 2) := by decide +kernel
theorem dX4_fit_164 : decode cX4_fit 164 = .ok (.lconst 0, 1) := by decide +kernel
theorem dX4_fit_165 : decode cX4_fit 165 = .ok (.lcmp, 1) := by decide +kernel
theorem dX4_fit_166 : decode cX4_fit 166 = .ok (.ifCond .eq 15, 3) := by decide +kernel
theorem dX4_fit_169 : decode cX4_fit 169 = .ok (.iload_n 3, 1) := by decide +kernel
theorem dX4_fit_170 : decode cX4_fit 170 = .ok (.iconst 3, 1) := by decide +kernel
theorem dX4_fit_171 : decode cX4_fit 171 = .ok (.if_icmp .le 14, 3) := by decide +kernel
theorem dX4_fit_174 : decode cX4_fit 174 = .ok (.lload 16, 2) := by decide +kernel
theorem dX4_fit_176 : decode cX4_fit 176 = .ok (.lconst 0, 1) := by decide +kernel
theorem dX4_fit_177 : decode cX4_fit 177 = .ok (.lcmp, 1) := by decide +kernel
theorem dX4_fit_178 : decode cX4_fit 178 = .ok (.ifCond .ne 7, 3) := by decide +kernel
theorem dX4_fit_181 : decode cX4_fit 181 = .ok (.ldc2_w 175, 3) := by decide +kernel
theorem dX4_fit_184 : decode cX4_fit 184 = .ok (.lreturn, 1) := by decide +kernel
theorem dX4_fit_185 : decode cX4_fit 185 = .ok (.iload_n 3, 1) := by decide +kernel
theorem dX4_fit_186 : decode cX4_fit 186 = .ok (.iconst 2, 1) := by decide +kernel
theorem dX4_fit_187 : decode cX4_fit 187 = .ok (.if_icmp .ge 14, 3) := by decide +kernel
theorem dX4_fit_190 : decode cX4_fit 190 = .ok (.lload 16, 2) := by decide +kernel
theorem dX4_fit_192 : decode cX4_fit 192 = .ok (.lload 14, 2) := by decide +kernel
theorem dX4_fit_194 : decode cX4_fit 194 = .ok (.iload_n 3, 1) := by decide +kernel
theorem dX4_fit_195 : decode cX4_fit 195 = .ok (.invokestatic 177, 3) := by decide +kernel
theorem dX4_fit_198 : decode cX4_fit 198 = .ok (.goto 32, 3) := by decide +kernel
theorem dX4_fit_201 : decode cX4_fit 201 = .ok (.iload_n 3, 1) := by decide +kernel
theorem dX4_fit_202 : decode cX4_fit 202 = .ok (.iconst 4, 1) := by decide +kernel
theorem dX4_fit_203 : decode cX4_fit 203 = .ok (.if_icmp .ge 16, 3) := by decide +kernel
theorem dX4_fit_206 : decode cX4_fit 206 = .ok (.lload 18, 2) := by decide +kernel
theorem dX4_fit_208 : decode cX4_fit 208 = .ok (.lload 14, 2) := by decide +kernel
theorem dX4_fit_210 : decode cX4_fit 210 = .ok (.iload_n 3, 1) := by decide +kernel
theorem dX4_fit_211 : decode cX4_fit 211 = .ok (.iconst 2, 1) := by decide +kernel
theorem dX4_fit_212 : decode cX4_fit 212 = .ok (.isub, 1) := by decide +kernel
theorem dX4_fit_213 : decode cX4_fit 213 = .ok (.invokestatic 177, 3) := by decide +kernel
theorem dX4_fit_216 : decode cX4_fit 216 = .ok (.goto 14, 3) := by decide +kernel
theorem dX4_fit_219 : decode cX4_fit 219 = .ok (.lload 18, 2) := by decide +kernel
theorem dX4_fit_221 : decode cX4_fit 221 = .ok (.lneg, 1) := by decide +kernel
theorem dX4_fit_222 : decode cX4_fit 222 = .ok (.lload 16, 2) := by decide +kernel
theorem dX4_fit_224 : decode cX4_fit 224 = .ok (.iload_n 3, 1) := by decide +kernel
theorem dX4_fit_225 : decode cX4_fit 225 = .ok (.iconst 4, 1) := by decide +kernel
theorem dX4_fit_226 : decode cX4_fit 226 = .ok (.isub, 1) := by decide +kernel
theorem dX4_fit_227 : decode cX4_fit 227 = .ok (.invokestatic 177, 3) := by decide +kernel
theorem dX4_fit_230 : decode cX4_fit 230 = .ok (.lreturn, 1) := by decide +kernel
set_option maxRecDepth 20000 in
theorem ggX4_gap_X4_isReading : GoodIn wsX4_gap wsX4_isReading := goodIn_r _ [7, 8, 9, 10, 6, 11, 15, 16, 17, 18, 19, 20, 21, 22, 23, 24, 25, 26, 27, 28, 29, 30, 31, 32, 33, 34, 35, 36, 37, 38, 39] (by decide +kernel) (by decide +kernel)
set_option maxRecDepth 20000 in
theorem gX4_gap_X4_isReading : GoodIn wsX4_gap (wsV RX4 168 RX4 yX4_isReading wsX4_isReading) := goodIn_app (goodIn_of _ (by decide +kernel)) ggX4_gap_X4_isReading
set_option maxRecDepth 20000 in
theorem ggX4_gap_X4_size : GoodIn wsX4_gap wsX4_size := goodIn_r _ [14] (by decide +kernel) (by decide +kernel)
set_option maxRecDepth 20000 in
theorem gX4_gap_X4_size : GoodIn wsX4_gap (va_wsS RX4 119 yX4_size wsX4_size) := goodIn_app (goodIn_of _ (by decide +kernel)) ggX4_gap_X4_size
theorem dX4_gap_0 : decode cX4_gap 0 = .ok (.aload_n 0, 1) := by decide +kernel
theorem dX4_gap_1 : decode cX4_gap 1 = .ok (.iload_n 1, 1) := by decide +kernel
theorem dX4_gap_2 : decode cX4_gap 2 = .ok (.invokevirtual 168, 3) := by decide +kernel
theorem dX4_gap_5 : decode cX4_gap 5 = .ok (.ifCond .eq 11, 3) := by decide +kernel
theorem dX4_gap_8 : decode cX4_gap 8 = .ok (.aload_n 0, 1) := by decide +kernel
theorem dX4_gap_9 : decode cX4_gap 9 = .ok (.iload_n 2, 1) := by decide +kernel
theorem dX4_gap_10 : decode cX4_gap 10 = .ok (.invokevirtual 168, 3) := by decide +kernel
theorem dX4_gap_13 : decode cX4_gap 13 = .ok (.ifCond .ne 5, 3) := by decide +kernel
theorem dX4_gap_16 : decode cX4_gap 16 = .ok (.iconst (-1), 1) := by decide +kernel
theorem dX4_gap_17 : decode cX4_gap 17 = .ok (.ireturn, 1) := by decide +kernel
theorem dX4_gap_18 : decode cX4_gap 18 = .ok (.iload_n 1, 1) := by decide +kernel
theorem dX4_gap_19 : decode cX4_gap 19 = .ok (.iload_n 2, 1) := by decide +kernel
theorem dX4_gap_20 : decode cX4_gap 20 = .ok (.if_icmp .le 6, 3) := by decide +kernel
theorem dX4_gap_23 : decode cX4_gap 23 = .ok (.bipush (-2), 2) := by decide +kernel
theorem dX4_gap_25 : decode cX4_gap 25 = .ok (.ireturn, 1) := by decide +kernel
theorem dX4_gap_26 : decode cX4_gap 26 = .ok (.iconst 0, 1) := by decide +kernel
theorem dX4_gap_27 : decode cX4_gap 27 = .ok (.istore_n 3, 1) := by decide +kernel
theorem dX4_gap_28 : decode cX4_gap 28 = .ok (.iload_n 1, 1) := by decide +kernel
theorem dX4_gap_29 : decode cX4_gap 29 = .ok (.istore 4, 2) := by decide +kernel
theorem dX4_gap_31 : decode cX4_gap 31 = .ok (.iload 4, 2) := by decide +kernel
theorem dX4_gap_33 : decode cX4_gap 33 = .ok (.iload_n 2, 1) := by decide +kernel
theorem dX4_gap_34 : decode cX4_gap 34 = .ok (.if_icmp .gt 79, 3) := by decide +kernel
theorem dX4_gap_37 : decode cX4_gap 37 = .ok (.iload_n 1, 1) := by decide +kernel
theorem dX4_gap_38 : decode cX4_gap 38 = .ok (.istore 5, 2) := by decide +kernel
theorem dX4_gap_40 : decode cX4_gap 40 = .ok (.iload 5, 2) := by decide +kernel
theorem dX4_gap_42 : decode cX4_gap 42 = .ok (.iload 4, 2) := by decide +kernel
theorem dX4_gap_44 : decode cX4_gap 44 = .ok (.if_icmp .ge 63, 3) := by decide +kernel
theorem dX4_gap_47 : decode cX4_gap 47 = .ok (.aload_n 0, 1) := by decide +kernel
theorem dX4_gap_48 : decode cX4_gap 48 = .ok (.getfield 48, 3) := by decide +kernel
theorem dX4_gap_51 : decode cX4_gap 51 = .ok (.iload 4, 2) := by decide +kernel
theorem dX4_gap_53 : decode cX4_gap 53 = .ok (.iaload, 1) := by decide +kernel
theorem dX4_gap_54 : decode cX4_gap 54 = .ok (.aload_n 0, 1) := by decide +kernel
theorem dX4_gap_55 : decode cX4_gap 55 = .ok (.getfield 48, 3) := by decide +kernel
theorem dX4_gap_58 : decode cX4_gap 58 = .ok (.iload 5, 2) := by decide +kernel
theorem dX4_gap_60 : decode cX4_gap 60 = .ok (.iaload, 1) := by decide +kernel
theorem dX4_gap_61 : decode cX4_gap 61 = .ok (.if_icmp .ne 24, 3) := by decide +kernel
theorem dX4_gap_64 : decode cX4_gap 64 = .ok (.aload_n 0, 1) := by decide +kernel
theorem dX4_gap_65 : decode cX4_gap 65 = .ok (.getfield 54, 3) := by decide +kernel
theorem dX4_gap_68 : decode cX4_gap 68 = .ok (.iload 4, 2) := by decide +kernel
theorem dX4_gap_70 : decode cX4_gap 70 = .ok (.iaload, 1) := by decide +kernel
theorem dX4_gap_71 : decode cX4_gap 71 = .ok (.aload_n 0, 1) := by decide +kernel
theorem dX4_gap_72 : decode cX4_gap 72 = .ok (.getfield 54, 3) := by decide +kernel
theorem dX4_gap_75 : decode cX4_gap 75 = .ok (.iload 5, 2) := by decide +kernel
theorem dX4_gap_77 : decode cX4_gap 77 = .ok (.iaload, 1) := by decide +kernel
theorem dX4_gap_78 : decode cX4_gap 78 = .ok (.isub, 1) := by decide +kernel
theorem dX4_gap_79 : decode cX4_gap 79 = .ok (.invokestatic 119, 3) := by decide +kernel
theorem dX4_gap_82 : decode cX4_gap 82 = .ok (.goto 4, 3) := by decide +kernel
theorem dX4_gap_85 : decode cX4_gap 85 = .ok (.iconst 0, 1) := by decide +kernel
theorem dX4_gap_86 : decode cX4_gap 86 = .ok (.istore 6, 2) := by decide +kernel
theorem dX4_gap_88 : decode cX4_gap 88 = .ok (.iload 6, 2) := by decide +kernel
theorem dX4_gap_90 : decode cX4_gap 90 = .ok (.iload_n 3, 1) := by decide +kernel
theorem dX4_gap_91 : decode cX4_gap 91 = .ok (.if_icmp .le 8, 3) := by decide +kernel
theorem dX4_gap_94 : decode cX4_gap 94 = .ok (.iload 6, 2) := by decide +kernel
theorem dX4_gap_96 : decode cX4_gap 96 = .ok (.goto 4, 3) := by decide +kernel
theorem dX4_gap_99 : decode cX4_gap 99 = .ok (.iload_n 3, 1) := by decide +kernel
theorem dX4_gap_100 : decode cX4_gap 100 = .ok (.istore_n 3, 1) := by decide +kernel
theorem dX4_gap_101 : decode cX4_gap 101 = .ok (.iinc 5 1, 3) := by decide +kernel
theorem dX4_gap_104 : decode cX4_gap 104 = .ok (.goto (-64), 3) := by decide +kernel
theorem dX4_gap_107 : decode cX4_gap 107 = .ok (.iinc 4 1, 3) := by decide +kernel
theorem dX4_gap_110 : decode cX4_gap 110 = .ok (.goto (-79), 3) := by decide +kernel
theorem dX4_gap_113 : decode cX4_gap 113 = .ok (.iload_n 3, 1) := by decide +kernel
theorem dX4_gap_114 : decode cX4_gap 114 = .ok (.ireturn, 1) := by decide +kernel
theorem dX4_manyRule_0 : decode cX4_manyRule 0 = .ok (.iconst 0, 1) := by decide +kernel
theorem dX4_manyRule_1 : decode cX4_manyRule 1 = .ok (.istore_n 2, 1) := by decide +kernel
theorem dX4_manyRule_2 : decode cX4_manyRule 2 = .ok (.iconst 0, 1) := by decide +kernel
theorem dX4_manyRule_3 : decode cX4_manyRule 3 = .ok (.istore_n 3, 1) := by decide +kernel
theorem dX4_manyRule_4 : decode cX4_manyRule 4 = .ok (.iload_n 3, 1) := by decide +kernel
theorem dX4_manyRule_5 : decode cX4_manyRule 5 = .ok (.aload_n 0, 1) := by decide +kernel
theorem dX4_manyRule_6 : decode cX4_manyRule 6 = .ok (.getfield 142, 3) := by decide +kernel
theorem dX4_manyRule_9 : decode cX4_manyRule 9 = .ok (.if_icmp .ge 27, 3) := by decide +kernel
theorem dX4_manyRule_12 : decode cX4_manyRule 12 = .ok (.iload_n 2, 1) := by decide +kernel
theorem dX4_manyRule_13 : decode cX4_manyRule 13 = .ok (.aload_n 0, 1) := by decide +kernel
theorem dX4_manyRule_14 : decode cX4_manyRule 14 = .ok (.getfield 57, 3) := by decide +kernel
theorem dX4_manyRule_17 : decode cX4_manyRule 17 = .ok (.iload_n 3, 1) := by decide +kernel
theorem dX4_manyRule_18 : decode cX4_manyRule 18 = .ok (.iaload, 1) := by decide +kernel
theorem dX4_manyRule_19 : decode cX4_manyRule 19 = .ok (.iload_n 1, 1) := by decide +kernel
theorem dX4_manyRule_20 : decode cX4_manyRule 20 = .ok (.if_icmp .ne 7, 3) := by decide +kernel
theorem dX4_manyRule_23 : decode cX4_manyRule 23 = .ok (.iconst 1, 1) := by decide +kernel
theorem dX4_manyRule_24 : decode cX4_manyRule 24 = .ok (.goto 4, 3) := by decide +kernel
theorem dX4_manyRule_27 : decode cX4_manyRule 27 = .ok (.iconst 0, 1) := by decide +kernel
theorem dX4_manyRule_28 : decode cX4_manyRule 28 = .ok (.iadd, 1) := by decide +kernel
theorem dX4_manyRule_29 : decode cX4_manyRule 29 = .ok (.istore_n 2, 1) := by decide +kernel
theorem dX4_manyRule_30 : decode cX4_manyRule 30 = .ok (.iinc 3 1, 3) := by decide +kernel
theorem dX4_manyRule_33 : decode cX4_manyRule 33 = .ok (.goto (-29), 3) := by decide +kernel
theorem dX4_manyRule_36 : decode cX4_manyRule 36 = .ok (.iload_n 2, 1) := by decide +kernel
theorem dX4_manyRule_37 : decode cX4_manyRule 37 = .ok (.ireturn, 1) := by decide +kernel
set_option maxRecDepth 20000 in
theorem ggX4_many_X4_manyRule : GoodIn wsX4_many wsX4_manyRule := goodIn_r _ [9, 4, 10, 11, 12, 13, 14, 15, 16, 17, 18, 19, 20, 21, 22, 23, 24, 25, 26, 27, 28, 29, 30, 31, 32, 33, 34, 35] (by decide +kernel) (by decide +kernel)
set_option maxRecDepth 20000 in
theorem gX4_many_X4_manyRule : GoodIn wsX4_many (wsV RX4 181 RX4 yX4_manyRule wsX4_manyRule) := goodIn_app (goodIn_of _ (by decide +kernel)) ggX4_many_X4_manyRule
theorem dX4_many_0 : decode cX4_many 0 = .ok (.iconst 0, 1) := by decide +kernel
theorem dX4_many_1 : decode cX4_many 1 = .ok (.istore_n 2, 1) := by decide +kernel
theorem dX4_many_2 : decode cX4_many 2 = .ok (.iconst 0, 1) := by decide +kernel
theorem dX4_many_3 : decode cX4_many 3 = .ok (.istore_n 3, 1) := by decide +kernel
theorem dX4_many_4 : decode cX4_many 4 = .ok (.iconst 0, 1) := by decide +kernel
theorem dX4_many_5 : decode cX4_many 5 = .ok (.istore 4, 2) := by decide +kernel
theorem dX4_many_7 : decode cX4_many 7 = .ok (.iconst 0, 1) := by decide +kernel
theorem dX4_many_8 : decode cX4_many 8 = .ok (.istore 5, 2) := by decide +kernel
theorem dX4_many_10 : decode cX4_many 10 = .ok (.iload 5, 2) := by decide +kernel
theorem dX4_many_12 : decode cX4_many 12 = .ok (.iconst 4, 1) := by decide +kernel
theorem dX4_many_13 : decode cX4_many 13 = .ok (.if_icmp .ge 88, 3) := by decide +kernel
theorem dX4_many_16 : decode cX4_many 16 = .ok (.iload_n 2, 1) := by decide +kernel
theorem dX4_many_17 : decode cX4_many 17 = .ok (.aload_n 0, 1) := by decide +kernel
theorem dX4_many_18 : decode cX4_many 18 = .ok (.getfield 7, 3) := by decide +kernel
theorem dX4_many_21 : decode cX4_many 21 = .ok (.iload 5, 2) := by decide +kernel
theorem dX4_many_23 : decode cX4_many 23 = .ok (.baload, 1) := by decide +kernel
theorem dX4_many_24 : decode cX4_many 24 = .ok (.ifCond .eq 7, 3) := by decide +kernel
theorem dX4_many_27 : decode cX4_many 27 = .ok (.iconst 1, 1) := by decide +kernel
theorem dX4_many_28 : decode cX4_many 28 = .ok (.goto 4, 3) := by decide +kernel
theorem dX4_many_31 : decode cX4_many 31 = .ok (.iconst 0, 1) := by decide +kernel
theorem dX4_many_32 : decode cX4_many 32 = .ok (.iadd, 1) := by decide +kernel
theorem dX4_many_33 : decode cX4_many 33 = .ok (.istore_n 2, 1) := by decide +kernel
theorem dX4_many_34 : decode cX4_many 34 = .ok (.iload_n 3, 1) := by decide +kernel
theorem dX4_many_35 : decode cX4_many 35 = .ok (.aload_n 0, 1) := by decide +kernel
theorem dX4_many_36 : decode cX4_many 36 = .ok (.getfield 7, 3) := by decide +kernel
theorem dX4_many_39 : decode cX4_many 39 = .ok (.iload 5, 2) := by decide +kernel
theorem dX4_many_41 : decode cX4_many 41 = .ok (.baload, 1) := by decide +kernel
theorem dX4_many_42 : decode cX4_many 42 = .ok (.ifCond .eq 17, 3) := by decide +kernel
theorem dX4_many_45 : decode cX4_many 45 = .ok (.aload_n 0, 1) := by decide +kernel
theorem dX4_many_46 : decode cX4_many 46 = .ok (.getfield 35, 3) := by decide +kernel
theorem dX4_many_49 : decode cX4_many 49 = .ok (.iload 5, 2) := by decide +kernel
theorem dX4_many_51 : decode cX4_many 51 = .ok (.baload, 1) := by decide +kernel
theorem dX4_many_52 : decode cX4_many 52 = .ok (.ifCond .eq 7, 3) := by decide +kernel
theorem dX4_many_55 : decode cX4_many 55 = .ok (.iconst 1, 1) := by decide +kernel
theorem dX4_many_56 : decode cX4_many 56 = .ok (.goto 4, 3) := by decide +kernel
theorem dX4_many_59 : decode cX4_many 59 = .ok (.iconst 0, 1) := by decide +kernel
theorem dX4_many_60 : decode cX4_many 60 = .ok (.iadd, 1) := by decide +kernel
theorem dX4_many_61 : decode cX4_many 61 = .ok (.istore_n 3, 1) := by decide +kernel
theorem dX4_many_62 : decode cX4_many 62 = .ok (.iconst 0, 1) := by decide +kernel
theorem dX4_many_63 : decode cX4_many 63 = .ok (.istore 6, 2) := by decide +kernel
theorem dX4_many_65 : decode cX4_many 65 = .ok (.iload 6, 2) := by decide +kernel
theorem dX4_many_67 : decode cX4_many 67 = .ok (.bipush 8, 2) := by decide +kernel
theorem dX4_many_69 : decode cX4_many 69 = .ok (.if_icmp .ge 26, 3) := by decide +kernel
theorem dX4_many_72 : decode cX4_many 72 = .ok (.iload 4, 2) := by decide +kernel
theorem dX4_many_74 : decode cX4_many 74 = .ok (.aload_n 0, 1) := by decide +kernel
theorem dX4_many_75 : decode cX4_many 75 = .ok (.getfield 41, 3) := by decide +kernel
theorem dX4_many_78 : decode cX4_many 78 = .ok (.iload 5, 2) := by decide +kernel
theorem dX4_many_80 : decode cX4_many 80 = .ok (.iaload, 1) := by decide +kernel
theorem dX4_many_81 : decode cX4_many 81 = .ok (.iload 6, 2) := by decide +kernel
theorem dX4_many_83 : decode cX4_many 83 = .ok (.ishr, 1) := by decide +kernel
theorem dX4_many_84 : decode cX4_many 84 = .ok (.iconst 1, 1) := by decide +kernel
theorem dX4_many_85 : decode cX4_many 85 = .ok (.iand, 1) := by decide +kernel
theorem dX4_many_86 : decode cX4_many 86 = .ok (.iadd, 1) := by decide +kernel
theorem dX4_many_87 : decode cX4_many 87 = .ok (.istore 4, 2) := by decide +kernel
theorem dX4_many_89 : decode cX4_many 89 = .ok (.iinc 6 1, 3) := by decide +kernel
theorem dX4_many_92 : decode cX4_many 92 = .ok (.goto (-27), 3) := by decide +kernel
theorem dX4_many_95 : decode cX4_many 95 = .ok (.iinc 5 1, 3) := by decide +kernel
theorem dX4_many_98 : decode cX4_many 98 = .ok (.goto (-88), 3) := by decide +kernel
theorem dX4_many_101 : decode cX4_many 101 = .ok (.iload_n 1, 1) := by decide +kernel
theorem dX4_many_102 : decode cX4_many 102 = .ok (.tableswitch 58 0 5 #[38, 40, 45, 48, 50, 50], 38) := by decide +kernel
theorem dX4_many_140 : decode cX4_many 140 = .ok (.iload_n 2, 1) := by decide +kernel
theorem dX4_many_141 : decode cX4_many 141 = .ok (.ireturn, 1) := by decide +kernel
theorem dX4_many_142 : decode cX4_many 142 = .ok (.aload_n 0, 1) := by decide +kernel
theorem dX4_many_143 : decode cX4_many 143 = .ok (.getfield 142, 3) := by decide +kernel
theorem dX4_many_146 : decode cX4_many 146 = .ok (.ireturn, 1) := by decide +kernel
theorem dX4_many_147 : decode cX4_many 147 = .ok (.iload 4, 2) := by decide +kernel
theorem dX4_many_149 : decode cX4_many 149 = .ok (.ireturn, 1) := by decide +kernel
theorem dX4_many_150 : decode cX4_many 150 = .ok (.iload_n 3, 1) := by decide +kernel
theorem dX4_many_151 : decode cX4_many 151 = .ok (.ireturn, 1) := by decide +kernel
theorem dX4_many_152 : decode cX4_many 152 = .ok (.aload_n 0, 1) := by decide +kernel
theorem dX4_many_153 : decode cX4_many 153 = .ok (.iload_n 1, 1) := by decide +kernel
theorem dX4_many_154 : decode cX4_many 154 = .ok (.iconst 3, 1) := by decide +kernel
theorem dX4_many_155 : decode cX4_many 155 = .ok (.isub, 1) := by decide +kernel
theorem dX4_many_156 : decode cX4_many 156 = .ok (.invokevirtual 181, 3) := by decide +kernel
theorem dX4_many_159 : decode cX4_many 159 = .ok (.ireturn, 1) := by decide +kernel
theorem dX4_many_160 : decode cX4_many 160 = .ok (.bipush (-2), 2) := by decide +kernel
theorem dX4_many_162 : decode cX4_many 162 = .ok (.ireturn, 1) := by decide +kernel
theorem dJ6_bitCount_0f7a4_0 : decode cJ6_bitCount_0f7a4 0 = .ok (.iload_n 0, 1) := by decide +kernel
theorem dJ6_bitCount_0f7a4_1 : decode cJ6_bitCount_0f7a4 1 = .ok (.iload_n 0, 1) := by decide +kernel
theorem dJ6_bitCount_0f7a4_2 : decode cJ6_bitCount_0f7a4 2 = .ok (.iconst 1, 1) := by decide +kernel
theorem dJ6_bitCount_0f7a4_3 : decode cJ6_bitCount_0f7a4 3 = .ok (.iushr, 1) := by decide +kernel
theorem dJ6_bitCount_0f7a4_4 : decode cJ6_bitCount_0f7a4 4 = .ok (.ldc_w 265, 3) := by decide +kernel
theorem dJ6_bitCount_0f7a4_7 : decode cJ6_bitCount_0f7a4 7 = .ok (.iand, 1) := by decide +kernel
theorem dJ6_bitCount_0f7a4_8 : decode cJ6_bitCount_0f7a4 8 = .ok (.isub, 1) := by decide +kernel
theorem dJ6_bitCount_0f7a4_9 : decode cJ6_bitCount_0f7a4 9 = .ok (.istore_n 0, 1) := by decide +kernel
theorem dJ6_bitCount_0f7a4_10 : decode cJ6_bitCount_0f7a4 10 = .ok (.iload_n 0, 1) := by decide +kernel
theorem dJ6_bitCount_0f7a4_11 : decode cJ6_bitCount_0f7a4 11 = .ok (.ldc_w 266, 3) := by decide +kernel
theorem dJ6_bitCount_0f7a4_14 : decode cJ6_bitCount_0f7a4 14 = .ok (.iand, 1) := by decide +kernel
theorem dJ6_bitCount_0f7a4_15 : decode cJ6_bitCount_0f7a4 15 = .ok (.iload_n 0, 1) := by decide +kernel
theorem dJ6_bitCount_0f7a4_16 : decode cJ6_bitCount_0f7a4 16 = .ok (.iconst 2, 1) := by decide +kernel
theorem dJ6_bitCount_0f7a4_17 : decode cJ6_bitCount_0f7a4 17 = .ok (.iushr, 1) := by decide +kernel
theorem dJ6_bitCount_0f7a4_18 : decode cJ6_bitCount_0f7a4 18 = .ok (.ldc_w 266, 3) := by decide +kernel
theorem dJ6_bitCount_0f7a4_21 : decode cJ6_bitCount_0f7a4 21 = .ok (.iand, 1) := by decide +kernel
theorem dJ6_bitCount_0f7a4_22 : decode cJ6_bitCount_0f7a4 22 = .ok (.iadd, 1) := by decide +kernel
theorem dJ6_bitCount_0f7a4_23 : decode cJ6_bitCount_0f7a4 23 = .ok (.istore_n 0, 1) := by decide +kernel
theorem dJ6_bitCount_0f7a4_24 : decode cJ6_bitCount_0f7a4 24 = .ok (.iload_n 0, 1) := by decide +kernel
theorem dJ6_bitCount_0f7a4_25 : decode cJ6_bitCount_0f7a4 25 = .ok (.iload_n 0, 1) := by decide +kernel
theorem dJ6_bitCount_0f7a4_26 : decode cJ6_bitCount_0f7a4 26 = .ok (.iconst 4, 1) := by decide +kernel
theorem dJ6_bitCount_0f7a4_27 : decode cJ6_bitCount_0f7a4 27 = .ok (.iushr, 1) := by decide +kernel
theorem dJ6_bitCount_0f7a4_28 : decode cJ6_bitCount_0f7a4 28 = .ok (.iadd, 1) := by decide +kernel
theorem dJ6_bitCount_0f7a4_29 : decode cJ6_bitCount_0f7a4 29 = .ok (.ldc_w 267, 3) := by decide +kernel
theorem dJ6_bitCount_0f7a4_32 : decode cJ6_bitCount_0f7a4 32 = .ok (.iand, 1) := by decide +kernel
theorem dJ6_bitCount_0f7a4_33 : decode cJ6_bitCount_0f7a4 33 = .ok (.istore_n 0, 1) := by decide +kernel
theorem dJ6_bitCount_0f7a4_34 : decode cJ6_bitCount_0f7a4 34 = .ok (.iload_n 0, 1) := by decide +kernel
theorem dJ6_bitCount_0f7a4_35 : decode cJ6_bitCount_0f7a4 35 = .ok (.iload_n 0, 1) := by decide +kernel
theorem dJ6_bitCount_0f7a4_36 : decode cJ6_bitCount_0f7a4 36 = .ok (.bipush 8, 2) := by decide +kernel
theorem dJ6_bitCount_0f7a4_38 : decode cJ6_bitCount_0f7a4 38 = .ok (.iushr, 1) := by decide +kernel
theorem dJ6_bitCount_0f7a4_39 : decode cJ6_bitCount_0f7a4 39 = .ok (.iadd, 1) := by decide +kernel
theorem dJ6_bitCount_0f7a4_40 : decode cJ6_bitCount_0f7a4 40 = .ok (.istore_n 0, 1) := by decide +kernel
theorem dJ6_bitCount_0f7a4_41 : decode cJ6_bitCount_0f7a4 41 = .ok (.iload_n 0, 1) := by decide +kernel
theorem dJ6_bitCount_0f7a4_42 : decode cJ6_bitCount_0f7a4 42 = .ok (.iload_n 0, 1) := by decide +kernel
theorem dJ6_bitCount_0f7a4_43 : decode cJ6_bitCount_0f7a4 43 = .ok (.bipush 16, 2) := by decide +kernel
theorem dJ6_bitCount_0f7a4_45 : decode cJ6_bitCount_0f7a4 45 = .ok (.iushr, 1) := by decide +kernel
theorem dJ6_bitCount_0f7a4_46 : decode cJ6_bitCount_0f7a4 46 = .ok (.iadd, 1) := by decide +kernel
theorem dJ6_bitCount_0f7a4_47 : decode cJ6_bitCount_0f7a4 47 = .ok (.istore_n 0, 1) := by decide +kernel
theorem dJ6_bitCount_0f7a4_48 : decode cJ6_bitCount_0f7a4 48 = .ok (.iload_n 0, 1) := by decide +kernel
theorem dJ6_bitCount_0f7a4_49 : decode cJ6_bitCount_0f7a4 49 = .ok (.bipush 63, 2) := by decide +kernel
theorem dJ6_bitCount_0f7a4_51 : decode cJ6_bitCount_0f7a4 51 = .ok (.iand, 1) := by decide +kernel
theorem dJ6_bitCount_0f7a4_52 : decode cJ6_bitCount_0f7a4 52 = .ok (.ireturn, 1) := by decide +kernel
theorem dJ9_floorDiv_7cf53_0 : decode cJ9_floorDiv_7cf53 0 = .ok (.iload_n 0, 1) := by decide +kernel
theorem dJ9_floorDiv_7cf53_1 : decode cJ9_floorDiv_7cf53 1 = .ok (.iload_n 1, 1) := by decide +kernel
theorem dJ9_floorDiv_7cf53_2 : decode cJ9_floorDiv_7cf53 2 = .ok (.idiv, 1) := by decide +kernel
theorem dJ9_floorDiv_7cf53_3 : decode cJ9_floorDiv_7cf53 3 = .ok (.istore_n 2, 1) := by decide +kernel
theorem dJ9_floorDiv_7cf53_4 : decode cJ9_floorDiv_7cf53 4 = .ok (.iload_n 0, 1) := by decide +kernel
theorem dJ9_floorDiv_7cf53_5 : decode cJ9_floorDiv_7cf53 5 = .ok (.iload_n 1, 1) := by decide +kernel
theorem dJ9_floorDiv_7cf53_6 : decode cJ9_floorDiv_7cf53 6 = .ok (.ixor, 1) := by decide +kernel
theorem dJ9_floorDiv_7cf53_7 : decode cJ9_floorDiv_7cf53 7 = .ok (.ifCond .ge 14, 3) := by decide +kernel
theorem dJ9_floorDiv_7cf53_10 : decode cJ9_floorDiv_7cf53 10 = .ok (.iload_n 2, 1) := by decide +kernel
theorem dJ9_floorDiv_7cf53_11 : decode cJ9_floorDiv_7cf53 11 = .ok (.iload_n 1, 1) := by decide +kernel
theorem dJ9_floorDiv_7cf53_12 : decode cJ9_floorDiv_7cf53 12 = .ok (.imul, 1) := by decide +kernel
theorem dJ9_floorDiv_7cf53_13 : decode cJ9_floorDiv_7cf53 13 = .ok (.iload_n 0, 1) := by decide +kernel
theorem dJ9_floorDiv_7cf53_14 : decode cJ9_floorDiv_7cf53 14 = .ok (.if_icmp .eq 7, 3) := by decide +kernel
theorem dJ9_floorDiv_7cf53_17 : decode cJ9_floorDiv_7cf53 17 = .ok (.iload_n 2, 1) := by decide +kernel
theorem dJ9_floorDiv_7cf53_18 : decode cJ9_floorDiv_7cf53 18 = .ok (.iconst 1, 1) := by decide +kernel
theorem dJ9_floorDiv_7cf53_19 : decode cJ9_floorDiv_7cf53 19 = .ok (.isub, 1) := by decide +kernel
theorem dJ9_floorDiv_7cf53_20 : decode cJ9_floorDiv_7cf53 20 = .ok (.ireturn, 1) := by decide +kernel
theorem dJ9_floorDiv_7cf53_21 : decode cJ9_floorDiv_7cf53 21 = .ok (.iload_n 2, 1) := by decide +kernel
theorem dJ9_floorDiv_7cf53_22 : decode cJ9_floorDiv_7cf53 22 = .ok (.ireturn, 1) := by decide +kernel
theorem dJ9_abs_0f7a4_0 : decode cJ9_abs_0f7a4 0 = .ok (.iload_n 0, 1) := by decide +kernel
theorem dJ9_abs_0f7a4_1 : decode cJ9_abs_0f7a4 1 = .ok (.ifCond .ge 8, 3) := by decide +kernel
theorem dJ9_abs_0f7a4_4 : decode cJ9_abs_0f7a4 4 = .ok (.iload_n 0, 1) := by decide +kernel
theorem dJ9_abs_0f7a4_5 : decode cJ9_abs_0f7a4 5 = .ok (.ineg, 1) := by decide +kernel
theorem dJ9_abs_0f7a4_6 : decode cJ9_abs_0f7a4 6 = .ok (.goto 4, 3) := by decide +kernel
theorem dJ9_abs_0f7a4_9 : decode cJ9_abs_0f7a4 9 = .ok (.iload_n 0, 1) := by decide +kernel
theorem dJ9_abs_0f7a4_10 : decode cJ9_abs_0f7a4 10 = .ok (.ireturn, 1) := by decide +kernel
theorem dJ9_abs_067f4_0 : decode cJ9_abs_067f4 0 = .ok (.lload_n 0, 1) := by decide +kernel
theorem dJ9_abs_067f4_1 : decode cJ9_abs_067f4 1 = .ok (.lconst 0, 1) := by decide +kernel
theorem dJ9_abs_067f4_2 : decode cJ9_abs_067f4 2 = .ok (.lcmp, 1) := by decide +kernel
theorem dJ9_abs_067f4_3 : decode cJ9_abs_067f4 3 = .ok (.ifCond .ge 8, 3) := by decide +kernel
theorem dJ9_abs_067f4_6 : decode cJ9_abs_067f4 6 = .ok (.lload_n 0, 1) := by decide +kernel
theorem dJ9_abs_067f4_7 : decode cJ9_abs_067f4 7 = .ok (.lneg, 1) := by decide +kernel
theorem dJ9_abs_067f4_8 : decode cJ9_abs_067f4 8 = .ok (.goto 4, 3) := by decide +kernel
theorem dJ9_abs_067f4_11 : decode cJ9_abs_067f4 11 = .ok (.lload_n 0, 1) := by decide +kernel
theorem dJ9_abs_067f4_12 : decode cJ9_abs_067f4 12 = .ok (.lreturn, 1) := by decide +kernel
theorem dJ9_max_7cf53_0 : decode cJ9_max_7cf53 0 = .ok (.iload_n 0, 1) := by decide +kernel
theorem dJ9_max_7cf53_1 : decode cJ9_max_7cf53 1 = .ok (.iload_n 1, 1) := by decide +kernel
theorem dJ9_max_7cf53_2 : decode cJ9_max_7cf53 2 = .ok (.if_icmp .lt 7, 3) := by decide +kernel
theorem dJ9_max_7cf53_5 : decode cJ9_max_7cf53 5 = .ok (.iload_n 0, 1) := by decide +kernel
theorem dJ9_max_7cf53_6 : decode cJ9_max_7cf53 6 = .ok (.goto 4, 3) := by decide +kernel
theorem dJ9_max_7cf53_9 : decode cJ9_max_7cf53 9 = .ok (.iload_n 1, 1) := by decide +kernel
theorem dJ9_max_7cf53_10 : decode cJ9_max_7cf53 10 = .ok (.ireturn, 1) := by decide +kernel
theorem dJ9_min_7cf53_0 : decode cJ9_min_7cf53 0 = .ok (.iload_n 0, 1) := by decide +kernel
theorem dJ9_min_7cf53_1 : decode cJ9_min_7cf53 1 = .ok (.iload_n 1, 1) := by decide +kernel
theorem dJ9_min_7cf53_2 : decode cJ9_min_7cf53 2 = .ok (.if_icmp .gt 7, 3) := by decide +kernel
theorem dJ9_min_7cf53_5 : decode cJ9_min_7cf53 5 = .ok (.iload_n 0, 1) := by decide +kernel
theorem dJ9_min_7cf53_6 : decode cJ9_min_7cf53 6 = .ok (.goto 4, 3) := by decide +kernel
theorem dJ9_min_7cf53_9 : decode cJ9_min_7cf53 9 = .ok (.iload_n 1, 1) := by decide +kernel
theorem dJ9_min_7cf53_10 : decode cJ9_min_7cf53 10 = .ok (.ireturn, 1) := by decide +kernel
