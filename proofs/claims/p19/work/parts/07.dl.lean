theorem dL_cell_0 : decode cL_cell 0 = .ok (.iload_n 1, 1) := by decide +kernel
theorem dL_cell_1 : decode cL_cell 1 = .ok (.aload_n 0, 1) := by decide +kernel
theorem dL_cell_2 : decode cL_cell 2 = .ok (.arraylength, 1) := by decide +kernel
theorem dL_cell_3 : decode cL_cell 3 = .ok (.if_icmp .ge 9, 3) := by decide +kernel
theorem dL_cell_6 : decode cL_cell 6 = .ok (.aload_n 0, 1) := by decide +kernel
theorem dL_cell_7 : decode cL_cell 7 = .ok (.iload_n 1, 1) := by decide +kernel
theorem dL_cell_8 : decode cL_cell 8 = .ok (.iaload, 1) := by decide +kernel
theorem dL_cell_9 : decode cL_cell 9 = .ok (.goto 9, 3) := by decide +kernel
theorem dL_cell_12 : decode cL_cell 12 = .ok (.ldc 7, 2) := by decide +kernel
theorem dL_cell_14 : decode cL_cell 14 = .ok (.iload_n 1, 1) := by decide +kernel
theorem dL_cell_15 : decode cL_cell 15 = .ok (.iconst 1, 1) := by decide +kernel
theorem dL_cell_16 : decode cL_cell 16 = .ok (.iadd, 1) := by decide +kernel
theorem dL_cell_17 : decode cL_cell 17 = .ok (.imul, 1) := by decide +kernel
theorem dL_cell_18 : decode cL_cell 18 = .ok (.ireturn, 1) := by decide +kernel
theorem dL_at_0 : decode cL_at 0 = .ok (.iload_n 0, 1) := by decide +kernel
theorem dL_at_1 : decode cL_at 1 = .ok (.iconst 1, 1) := by decide +kernel
theorem dL_at_2 : decode cL_at 2 = .ok (.iushr, 1) := by decide +kernel
theorem dL_at_3 : decode cL_at 3 = .ok (.iload_n 1, 1) := by decide +kernel
theorem dL_at_4 : decode cL_at 4 = .ok (.irem, 1) := by decide +kernel
theorem dL_at_5 : decode cL_at 5 = .ok (.ireturn, 1) := by decide +kernel
set_option maxRecDepth 20000 in
theorem ggL_lay_L_cell : GoodIn wsL_lay wsL_cell := goodIn_r _ [5, 6] (by decide +kernel) (by decide +kernel)
set_option maxRecDepth 20000 in
theorem gL_lay_L_cell : GoodIn wsL_lay (va_wsS RL 8 yL_cell wsL_cell) := goodIn_app (goodIn_of _ (by decide +kernel)) ggL_lay_L_cell
set_option maxRecDepth 20000 in
theorem ggL_lay_L_at : GoodIn wsL_lay wsL_at := goodIn_r _ [9] (by decide +kernel) (by decide +kernel)
set_option maxRecDepth 20000 in
theorem gL_lay_L_at : GoodIn wsL_lay (va_wsS RL 15 yL_at wsL_at) := goodIn_app (goodIn_of _ (by decide +kernel)) ggL_lay_L_at
set_option maxRecDepth 20000 in
theorem ggL_lay_X3_addRoad : GoodIn wsL_lay wsX3_addRoad := goodIn_ca (goodIn_ca (goodIn_r _ [14, 15, 16, 17, 18, 19, 20, 21, 22, 13, 23, 24, 25, 26, 27, 28, 29, 30, 31, 32, 33, 34, 35, 36, 37, 38, 39, 40, 41, 42, 43, 44, 45, 46, 47, 48, 97, 98, 99, 100, 101, 102, 103, 104, 105, 106] (by decide +kernel) (by decide +kernel)) (goodIn_sub (fun _ h => List.mem_cons_of_mem _ (List.mem_append_left _ (List.mem_append_right _ h))) (by decide +kernel))) (goodIn_sub (fun _ h => List.mem_cons_of_mem _ (List.mem_append_right _ h)) (by decide +kernel))
set_option maxRecDepth 20000 in
theorem gL_lay_X3_addRoad : GoodIn wsL_lay (wsV RL 19 RX3 yX3_addRoad wsX3_addRoad) := goodIn_app (goodIn_of _ (by decide +kernel)) ggL_lay_X3_addRoad
set_option maxRecDepth 20000 in
theorem ggL_lay_X3_addUnit : GoodIn wsL_lay wsX3_addUnit := goodIn_ca (goodIn_ca (goodIn_r _ [52, 15, 16, 17, 18, 19, 53, 21, 22, 13, 23, 54, 55, 56, 57, 58, 59, 60, 61, 62, 63, 64, 65, 66, 67, 68, 69, 70, 71, 72, 73, 74, 75, 76, 77, 78, 38, 39, 79, 35, 36, 37, 80, 81, 82, 83, 84, 85, 86, 87, 88, 89, 90, 91, 92, 93, 94, 95, 96, 97, 98, 99, 100, 101, 102, 103, 107, 108, 109, 110, 111] (by decide +kernel) (by decide +kernel)) (goodIn_sub (fun _ h => List.mem_cons_of_mem _ (List.mem_append_left _ (List.mem_append_right _ h))) (by decide +kernel))) (goodIn_sub (fun _ h => List.mem_cons_of_mem _ (List.mem_append_right _ h)) (by decide +kernel))
set_option maxRecDepth 20000 in
theorem gL_lay_X3_addUnit : GoodIn wsL_lay (wsV RL 25 RX3 yX3_addUnit wsX3_addUnit) := goodIn_app (goodIn_of _ (by decide +kernel)) ggL_lay_X3_addUnit
theorem dL_lay_0 : decode cL_lay 0 = .ok (.iconst 0, 1) := by decide +kernel
theorem dL_lay_1 : decode cL_lay 1 = .ok (.istore 4, 2) := by decide +kernel
theorem dL_lay_3 : decode cL_lay 3 = .ok (.iconst 0, 1) := by decide +kernel
theorem dL_lay_4 : decode cL_lay 4 = .ok (.istore 5, 2) := by decide +kernel
theorem dL_lay_6 : decode cL_lay 6 = .ok (.iload 5, 2) := by decide +kernel
theorem dL_lay_8 : decode cL_lay 8 = .ok (.bipush 14, 2) := by decide +kernel
theorem dL_lay_10 : decode cL_lay 10 = .ok (.if_icmp .ge 142, 3) := by decide +kernel
theorem dL_lay_13 : decode cL_lay 13 = .ok (.aload_n 1, 1) := by decide +kernel
theorem dL_lay_14 : decode cL_lay 14 = .ok (.iload 5, 2) := by decide +kernel
theorem dL_lay_16 : decode cL_lay 16 = .ok (.invokestatic 8, 3) := by decide +kernel
theorem dL_lay_19 : decode cL_lay 19 = .ok (.ldc 14, 2) := by decide +kernel
theorem dL_lay_21 : decode cL_lay 21 = .ok (.iand, 1) := by decide +kernel
theorem dL_lay_22 : decode cL_lay 22 = .ok (.istore 6, 2) := by decide +kernel
theorem dL_lay_24 : decode cL_lay 24 = .ok (.iload 5, 2) := by decide +kernel
theorem dL_lay_26 : decode cL_lay 26 = .ok (.bipush 9, 2) := by decide +kernel
theorem dL_lay_28 : decode cL_lay 28 = .ok (.if_icmp .ge 8, 3) := by decide +kernel
theorem dL_lay_31 : decode cL_lay 31 = .ok (.iload 5, 2) := by decide +kernel
theorem dL_lay_33 : decode cL_lay 33 = .ok (.goto 10, 3) := by decide +kernel
theorem dL_lay_36 : decode cL_lay 36 = .ok (.iload 6, 2) := by decide +kernel
theorem dL_lay_38 : decode cL_lay 38 = .ok (.bipush 10, 2) := by decide +kernel
theorem dL_lay_40 : decode cL_lay 40 = .ok (.invokestatic 15, 3) := by decide +kernel
theorem dL_lay_43 : decode cL_lay 43 = .ok (.istore 7, 2) := by decide +kernel
theorem dL_lay_45 : decode cL_lay 45 = .ok (.iload 5, 2) := by decide +kernel
theorem dL_lay_47 : decode cL_lay 47 = .ok (.bipush 9, 2) := by decide +kernel
theorem dL_lay_49 : decode cL_lay 49 = .ok (.if_icmp .ge 10, 3) := by decide +kernel
theorem dL_lay_52 : decode cL_lay 52 = .ok (.iload 5, 2) := by decide +kernel
theorem dL_lay_54 : decode cL_lay 54 = .ok (.iconst 1, 1) := by decide +kernel
theorem dL_lay_55 : decode cL_lay 55 = .ok (.iadd, 1) := by decide +kernel
theorem dL_lay_56 : decode cL_lay 56 = .ok (.goto 12, 3) := by decide +kernel
theorem dL_lay_59 : decode cL_lay 59 = .ok (.iload 6, 2) := by decide +kernel
theorem dL_lay_61 : decode cL_lay 61 = .ok (.iconst 4, 1) := by decide +kernel
theorem dL_lay_62 : decode cL_lay 62 = .ok (.ishr, 1) := by decide +kernel
theorem dL_lay_63 : decode cL_lay 63 = .ok (.bipush 10, 2) := by decide +kernel
theorem dL_lay_65 : decode cL_lay 65 = .ok (.invokestatic 15, 3) := by decide +kernel
theorem dL_lay_68 : decode cL_lay 68 = .ok (.istore 8, 2) := by decide +kernel
theorem dL_lay_70 : decode cL_lay 70 = .ok (.iload 7, 2) := by decide +kernel
theorem dL_lay_72 : decode cL_lay 72 = .ok (.iload 8, 2) := by decide +kernel
theorem dL_lay_74 : decode cL_lay 74 = .ok (.if_icmp .eq 72, 3) := by decide +kernel
theorem dL_lay_77 : decode cL_lay 77 = .ok (.aload_n 3, 1) := by decide +kernel
theorem dL_lay_78 : decode cL_lay 78 = .ok (.iload 7, 2) := by decide +kernel
theorem dL_lay_80 : decode cL_lay 80 = .ok (.iaload, 1) := by decide +kernel
theorem dL_lay_81 : decode cL_lay 81 = .ok (.iload 8, 2) := by decide +kernel
theorem dL_lay_83 : decode cL_lay 83 = .ok (.ishr, 1) := by decide +kernel
theorem dL_lay_84 : decode cL_lay 84 = .ok (.iconst 1, 1) := by decide +kernel
theorem dL_lay_85 : decode cL_lay 85 = .ok (.iand, 1) := by decide +kernel
theorem dL_lay_86 : decode cL_lay 86 = .ok (.iconst 1, 1) := by decide +kernel
theorem dL_lay_87 : decode cL_lay 87 = .ok (.if_icmp .ne 6, 3) := by decide +kernel
theorem dL_lay_90 : decode cL_lay 90 = .ok (.goto 56, 3) := by decide +kernel
theorem dL_lay_93 : decode cL_lay 93 = .ok (.aload_n 3, 1) := by decide +kernel
theorem dL_lay_94 : decode cL_lay 94 = .ok (.iload 7, 2) := by decide +kernel
theorem dL_lay_96 : decode cL_lay 96 = .ok (.dup2, 1) := by decide +kernel
theorem dL_lay_97 : decode cL_lay 97 = .ok (.iaload, 1) := by decide +kernel
theorem dL_lay_98 : decode cL_lay 98 = .ok (.iconst 1, 1) := by decide +kernel
theorem dL_lay_99 : decode cL_lay 99 = .ok (.iload 8, 2) := by decide +kernel
theorem dL_lay_101 : decode cL_lay 101 = .ok (.ishl, 1) := by decide +kernel
theorem dL_lay_102 : decode cL_lay 102 = .ok (.ior, 1) := by decide +kernel
theorem dL_lay_103 : decode cL_lay 103 = .ok (.iastore, 1) := by decide +kernel
theorem dL_lay_104 : decode cL_lay 104 = .ok (.aload_n 3, 1) := by decide +kernel
theorem dL_lay_105 : decode cL_lay 105 = .ok (.iload 8, 2) := by decide +kernel
theorem dL_lay_107 : decode cL_lay 107 = .ok (.dup2, 1) := by decide +kernel
theorem dL_lay_108 : decode cL_lay 108 = .ok (.iaload, 1) := by decide +kernel
theorem dL_lay_109 : decode cL_lay 109 = .ok (.iconst 1, 1) := by decide +kernel
theorem dL_lay_110 : decode cL_lay 110 = .ok (.iload 7, 2) := by decide +kernel
theorem dL_lay_112 : decode cL_lay 112 = .ok (.ishl, 1) := by decide +kernel
theorem dL_lay_113 : decode cL_lay 113 = .ok (.ior, 1) := by decide +kernel
theorem dL_lay_114 : decode cL_lay 114 = .ok (.iastore, 1) := by decide +kernel
theorem dL_lay_115 : decode cL_lay 115 = .ok (.aload_n 0, 1) := by decide +kernel
theorem dL_lay_116 : decode cL_lay 116 = .ok (.iload 7, 2) := by decide +kernel
theorem dL_lay_118 : decode cL_lay 118 = .ok (.iload 8, 2) := by decide +kernel
theorem dL_lay_120 : decode cL_lay 120 = .ok (.iload 6, 2) := by decide +kernel
theorem dL_lay_122 : decode cL_lay 122 = .ok (.bipush 8, 2) := by decide +kernel
theorem dL_lay_124 : decode cL_lay 124 = .ok (.ishr, 1) := by decide +kernel
theorem dL_lay_125 : decode cL_lay 125 = .ok (.iconst 3, 1) := by decide +kernel
theorem dL_lay_126 : decode cL_lay 126 = .ok (.invokestatic 15, 3) := by decide +kernel
theorem dL_lay_129 : decode cL_lay 129 = .ok (.ifCond .le 7, 3) := by decide +kernel
theorem dL_lay_132 : decode cL_lay 132 = .ok (.iconst 1, 1) := by decide +kernel
theorem dL_lay_133 : decode cL_lay 133 = .ok (.goto 4, 3) := by decide +kernel
theorem dL_lay_136 : decode cL_lay 136 = .ok (.iconst 0, 1) := by decide +kernel
theorem dL_lay_137 : decode cL_lay 137 = .ok (.invokevirtual 19, 3) := by decide +kernel
theorem dL_lay_140 : decode cL_lay 140 = .ok (.iconst 1, 1) := by decide +kernel
theorem dL_lay_141 : decode cL_lay 141 = .ok (.if_icmp .ge 5, 3) := by decide +kernel
theorem dL_lay_144 : decode cL_lay 144 = .ok (.iconst (-1), 1) := by decide +kernel
theorem dL_lay_145 : decode cL_lay 145 = .ok (.ireturn, 1) := by decide +kernel
theorem dL_lay_146 : decode cL_lay 146 = .ok (.iinc 5 1, 3) := by decide +kernel
theorem dL_lay_149 : decode cL_lay 149 = .ok (.goto (-143), 3) := by decide +kernel
theorem dL_lay_152 : decode cL_lay 152 = .ok (.iconst 0, 1) := by decide +kernel
theorem dL_lay_153 : decode cL_lay 153 = .ok (.istore 5, 2) := by decide +kernel
theorem dL_lay_155 : decode cL_lay 155 = .ok (.iload 5, 2) := by decide +kernel
theorem dL_lay_157 : decode cL_lay 157 = .ok (.bipush 10, 2) := by decide +kernel
theorem dL_lay_159 : decode cL_lay 159 = .ok (.if_icmp .ge 91, 3) := by decide +kernel
theorem dL_lay_162 : decode cL_lay 162 = .ok (.aload_n 1, 1) := by decide +kernel
theorem dL_lay_163 : decode cL_lay 163 = .ok (.bipush 20, 2) := by decide +kernel
theorem dL_lay_165 : decode cL_lay 165 = .ok (.iload 5, 2) := by decide +kernel
theorem dL_lay_167 : decode cL_lay 167 = .ok (.iadd, 1) := by decide +kernel
theorem dL_lay_168 : decode cL_lay 168 = .ok (.invokestatic 8, 3) := by decide +kernel
theorem dL_lay_171 : decode cL_lay 171 = .ok (.ldc 14, 2) := by decide +kernel
theorem dL_lay_173 : decode cL_lay 173 = .ok (.iand, 1) := by decide +kernel
theorem dL_lay_174 : decode cL_lay 174 = .ok (.istore 6, 2) := by decide +kernel
theorem dL_lay_176 : decode cL_lay 176 = .ok (.aload_n 2, 1) := by decide +kernel
theorem dL_lay_177 : decode cL_lay 177 = .ok (.iload 5, 2) := by decide +kernel
theorem dL_lay_179 : decode cL_lay 179 = .ok (.iload 6, 2) := by decide +kernel
theorem dL_lay_181 : decode cL_lay 181 = .ok (.iconst 2, 1) := by decide +kernel
theorem dL_lay_182 : decode cL_lay 182 = .ok (.invokestatic 15, 3) := by decide +kernel
theorem dL_lay_185 : decode cL_lay 185 = .ok (.iastore, 1) := by decide +kernel
theorem dL_lay_186 : decode cL_lay 186 = .ok (.aload_n 0, 1) := by decide +kernel
theorem dL_lay_187 : decode cL_lay 187 = .ok (.aload_n 2, 1) := by decide +kernel
theorem dL_lay_188 : decode cL_lay 188 = .ok (.iload 5, 2) := by decide +kernel
theorem dL_lay_190 : decode cL_lay 190 = .ok (.iaload, 1) := by decide +kernel
theorem dL_lay_191 : decode cL_lay 191 = .ok (.aload_n 2, 1) := by decide +kernel
theorem dL_lay_192 : decode cL_lay 192 = .ok (.iload 5, 2) := by decide +kernel
theorem dL_lay_194 : decode cL_lay 194 = .ok (.iaload, 1) := by decide +kernel
theorem dL_lay_195 : decode cL_lay 195 = .ok (.ifCond .ne 14, 3) := by decide +kernel
theorem dL_lay_198 : decode cL_lay 198 = .ok (.iload 6, 2) := by decide +kernel
theorem dL_lay_200 : decode cL_lay 200 = .ok (.iconst 2, 1) := by decide +kernel
theorem dL_lay_201 : decode cL_lay 201 = .ok (.ishr, 1) := by decide +kernel
theorem dL_lay_202 : decode cL_lay 202 = .ok (.iconst 4, 1) := by decide +kernel
theorem dL_lay_203 : decode cL_lay 203 = .ok (.invokestatic 15, 3) := by decide +kernel
theorem dL_lay_206 : decode cL_lay 206 = .ok (.goto 14, 3) := by decide +kernel
theorem dL_lay_209 : decode cL_lay 209 = .ok (.bipush 9, 2) := by decide +kernel
theorem dL_lay_211 : decode cL_lay 211 = .ok (.iload 6, 2) := by decide +kernel
theorem dL_lay_213 : decode cL_lay 213 = .ok (.iconst 2, 1) := by decide +kernel
theorem dL_lay_214 : decode cL_lay 214 = .ok (.ishr, 1) := by decide +kernel
theorem dL_lay_215 : decode cL_lay 215 = .ok (.iconst 4, 1) := by decide +kernel
theorem dL_lay_216 : decode cL_lay 216 = .ok (.invokestatic 15, 3) := by decide +kernel
theorem dL_lay_219 : decode cL_lay 219 = .ok (.isub, 1) := by decide +kernel
theorem dL_lay_220 : decode cL_lay 220 = .ok (.iconst 1, 1) := by decide +kernel
theorem dL_lay_221 : decode cL_lay 221 = .ok (.iload 6, 2) := by decide +kernel
theorem dL_lay_223 : decode cL_lay 223 = .ok (.iconst 5, 1) := by decide +kernel
theorem dL_lay_224 : decode cL_lay 224 = .ok (.ishr, 1) := by decide +kernel
theorem dL_lay_225 : decode cL_lay 225 = .ok (.bipush 9, 2) := by decide +kernel
theorem dL_lay_227 : decode cL_lay 227 = .ok (.invokestatic 15, 3) := by decide +kernel
theorem dL_lay_230 : decode cL_lay 230 = .ok (.iadd, 1) := by decide +kernel
theorem dL_lay_231 : decode cL_lay 231 = .ok (.invokevirtual 25, 3) := by decide +kernel
theorem dL_lay_234 : decode cL_lay 234 = .ok (.iload 4, 2) := by decide +kernel
theorem dL_lay_236 : decode cL_lay 236 = .ok (.if_icmp .eq 5, 3) := by decide +kernel
theorem dL_lay_239 : decode cL_lay 239 = .ok (.iconst (-1), 1) := by decide +kernel
theorem dL_lay_240 : decode cL_lay 240 = .ok (.ireturn, 1) := by decide +kernel
theorem dL_lay_241 : decode cL_lay 241 = .ok (.iinc 4 1, 3) := by decide +kernel
theorem dL_lay_244 : decode cL_lay 244 = .ok (.iinc 5 1, 3) := by decide +kernel
theorem dL_lay_247 : decode cL_lay 247 = .ok (.goto (-92), 3) := by decide +kernel
theorem dL_lay_250 : decode cL_lay 250 = .ok (.iload 4, 2) := by decide +kernel
theorem dL_lay_252 : decode cL_lay 252 = .ok (.ireturn, 1) := by decide +kernel
set_option maxRecDepth 20000 in
theorem ggL_sum_X3_strength : GoodIn wsL_sum wsX3_strength := goodIn_ca (goodIn_r _ [5, 6, 7, 8, 9, 10, 4, 11, 12, 13, 14, 15, 16, 17, 18, 19, 20, 21, 22, 23, 24, 25, 26, 27, 28, 29, 30, 31, 32, 33, 34, 35, 36, 37, 38, 39, 40, 41, 42, 43, 44, 45] (by decide +kernel) (by decide +kernel)) (goodIn_sub (fun _ h => List.mem_cons_of_mem _ (List.mem_append_right _ h)) (by decide +kernel))
set_option maxRecDepth 20000 in
theorem gL_sum_X3_strength : GoodIn wsL_sum (wsV RL 29 RX3 yX3_strength wsX3_strength) := goodIn_app (goodIn_of _ (by decide +kernel)) ggL_sum_X3_strength
theorem dL_sum_0 : decode cL_sum 0 = .ok (.iconst 0, 1) := by decide +kernel
theorem dL_sum_1 : decode cL_sum 1 = .ok (.istore 4, 2) := by decide +kernel
theorem dL_sum_3 : decode cL_sum 3 = .ok (.iconst 0, 1) := by decide +kernel
theorem dL_sum_4 : decode cL_sum 4 = .ok (.istore 5, 2) := by decide +kernel
theorem dL_sum_6 : decode cL_sum 6 = .ok (.iload 5, 2) := by decide +kernel
theorem dL_sum_8 : decode cL_sum 8 = .ok (.iload_n 2, 1) := by decide +kernel
theorem dL_sum_9 : decode cL_sum 9 = .ok (.if_icmp .ge 32, 3) := by decide +kernel
theorem dL_sum_12 : decode cL_sum 12 = .ok (.iload 4, 2) := by decide +kernel
theorem dL_sum_14 : decode cL_sum 14 = .ok (.aload_n 3, 1) := by decide +kernel
theorem dL_sum_15 : decode cL_sum 15 = .ok (.iload 5, 2) := by decide +kernel
theorem dL_sum_17 : decode cL_sum 17 = .ok (.iaload, 1) := by decide +kernel
theorem dL_sum_18 : decode cL_sum 18 = .ok (.iload_n 1, 1) := by decide +kernel
theorem dL_sum_19 : decode cL_sum 19 = .ok (.if_icmp .ne 12, 3) := by decide +kernel
theorem dL_sum_22 : decode cL_sum 22 = .ok (.aload_n 0, 1) := by decide +kernel
theorem dL_sum_23 : decode cL_sum 23 = .ok (.iload 5, 2) := by decide +kernel
theorem dL_sum_25 : decode cL_sum 25 = .ok (.invokevirtual 29, 3) := by decide +kernel
theorem dL_sum_28 : decode cL_sum 28 = .ok (.goto 4, 3) := by decide +kernel
theorem dL_sum_31 : decode cL_sum 31 = .ok (.iconst 0, 1) := by decide +kernel
theorem dL_sum_32 : decode cL_sum 32 = .ok (.iadd, 1) := by decide +kernel
theorem dL_sum_33 : decode cL_sum 33 = .ok (.istore 4, 2) := by decide +kernel
theorem dL_sum_35 : decode cL_sum 35 = .ok (.iinc 5 1, 3) := by decide +kernel
theorem dL_sum_38 : decode cL_sum 38 = .ok (.goto (-32), 3) := by decide +kernel
theorem dL_sum_41 : decode cL_sum 41 = .ok (.iload 4, 2) := by decide +kernel
theorem dL_sum_43 : decode cL_sum 43 = .ok (.ireturn, 1) := by decide +kernel
set_option maxRecDepth 20000 in
theorem ggL_moved_X3_townOf : GoodIn wsL_moved wsX3_townOf := goodIn_ca (goodIn_r _ [5, 6, 7, 8, 9, 10, 4, 11, 12, 13, 14, 15, 16, 17, 18, 19, 20, 21, 22, 23, 24, 25, 26, 27, 28, 29, 30, 31, 32, 33, 80, 81, 82, 83, 84, 85, 86, 87, 88, 89, 90, 91] (by decide +kernel) (by decide +kernel)) (goodIn_sub (fun _ h => List.mem_cons_of_mem _ (List.mem_append_left _ (List.mem_append_right _ h))) (by decide +kernel))
set_option maxRecDepth 20000 in
theorem gL_moved_X3_townOf : GoodIn wsL_moved (wsV RL 33 RX3 yX3_townOf wsX3_townOf) := goodIn_app (goodIn_of _ (by decide +kernel)) ggL_moved_X3_townOf
set_option maxRecDepth 20000 in
theorem ggL_moved_X3_strength : GoodIn wsL_moved wsX3_strength := goodIn_ca (goodIn_r _ [37, 6, 7, 8, 9, 10, 4, 11, 12, 13, 14, 15, 16, 17, 18, 19, 20, 21, 22, 38, 39, 40, 41, 42, 28, 29, 30, 31, 32, 33, 80, 81, 82, 83, 84, 85, 86, 87, 88, 89, 90, 91] (by decide +kernel) (by decide +kernel)) (goodIn_sub (fun _ h => List.mem_cons_of_mem _ (List.mem_append_left _ (List.mem_append_right _ h))) (by decide +kernel))
set_option maxRecDepth 20000 in
theorem gL_moved_X3_strength : GoodIn wsL_moved (wsV RL 29 RX3 yX3_strength wsX3_strength) := goodIn_app (goodIn_of _ (by decide +kernel)) ggL_moved_X3_strength
set_option maxRecDepth 20000 in
theorem ggL_moved_X3_played : GoodIn wsL_moved wsX3_played := goodIn_r _ [46, 7, 80, 81, 82, 83, 84, 85, 86] (by decide +kernel) (by decide +kernel)
set_option maxRecDepth 20000 in
theorem gL_moved_X3_played : GoodIn wsL_moved (wsV RL 36 RX3 yX3_played wsX3_played) := goodIn_app (goodIn_of _ (by decide +kernel)) ggL_moved_X3_played
set_option maxRecDepth 20000 in
theorem ggL_moved_X3_townAfter : GoodIn wsL_moved wsX3_townAfter := goodIn_ca (goodIn_r _ [50, 6, 8, 9, 10, 4, 11, 12, 13, 14, 15, 16, 17, 18, 19, 20, 21, 22, 51, 52, 53, 54, 7, 55, 56, 57, 58, 23, 24, 25, 26, 27, 28, 29, 30, 31, 32, 33, 80, 81, 82, 83, 84, 85, 86, 87, 88, 89, 90, 91] (by decide +kernel) (by decide +kernel)) (goodIn_sub (fun _ h => List.mem_cons_of_mem _ (List.mem_append_left _ (List.mem_append_right _ h))) (by decide +kernel))
set_option maxRecDepth 20000 in
theorem gL_moved_X3_townAfter : GoodIn wsL_moved (wsV RL 40 RX3 yX3_townAfter wsX3_townAfter) := goodIn_app (goodIn_of _ (by decide +kernel)) ggL_moved_X3_townAfter
set_option maxRecDepth 20000 in
theorem ggL_moved_X3_reported : GoodIn wsL_moved wsX3_reported := goodIn_ca (goodIn_ca (goodIn_r _ [62, 12, 13, 6, 7, 55, 56, 57, 58, 63, 64, 65, 4, 66, 67, 68, 20, 21, 22, 8, 9, 10, 11, 14, 15, 16, 17, 18, 19, 69, 70, 71, 72, 73, 74, 75, 76, 77, 78, 79, 23, 24, 25, 26, 27, 28, 29, 30, 31, 32, 33, 80, 81, 82, 83, 84, 85, 86, 87, 88, 89, 90, 91] (by decide +kernel) (by decide +kernel)) (goodIn_sub (fun _ h => List.mem_cons_of_mem _ (List.mem_append_left _ (List.mem_append_right _ h))) (by decide +kernel))) (goodIn_sub (fun _ h => List.mem_cons_of_mem _ (List.mem_append_right _ h)) (by decide +kernel))
set_option maxRecDepth 20000 in
theorem gL_moved_X3_reported : GoodIn wsL_moved (wsV RL 43 RX3 yX3_reported wsX3_reported) := goodIn_app (goodIn_of _ (by decide +kernel)) ggL_moved_X3_reported
theorem dL_moved_0 : decode cL_moved 0 = .ok (.iconst 0, 1) := by decide +kernel
theorem dL_moved_1 : decode cL_moved 1 = .ok (.istore 8, 2) := by decide +kernel
theorem dL_moved_3 : decode cL_moved 3 = .ok (.iload 8, 2) := by decide +kernel
theorem dL_moved_5 : decode cL_moved 5 = .ok (.iload_n 2, 1) := by decide +kernel
theorem dL_moved_6 : decode cL_moved 6 = .ok (.if_icmp .ge 203, 3) := by decide +kernel
theorem dL_moved_9 : decode cL_moved 9 = .ok (.aload 4, 2) := by decide +kernel
theorem dL_moved_11 : decode cL_moved 11 = .ok (.iload 8, 2) := by decide +kernel
theorem dL_moved_13 : decode cL_moved 13 = .ok (.iaload, 1) := by decide +kernel
theorem dL_moved_14 : decode cL_moved 14 = .ok (.istore 9, 2) := by decide +kernel
theorem dL_moved_16 : decode cL_moved 16 = .ok (.aload_n 0, 1) := by decide +kernel
theorem dL_moved_17 : decode cL_moved 17 = .ok (.iload 8, 2) := by decide +kernel
theorem dL_moved_19 : decode cL_moved 19 = .ok (.invokevirtual 33, 3) := by decide +kernel
theorem dL_moved_22 : decode cL_moved 22 = .ok (.istore 10, 2) := by decide +kernel
theorem dL_moved_24 : decode cL_moved 24 = .ok (.aload 4, 2) := by decide +kernel
theorem dL_moved_26 : decode cL_moved 26 = .ok (.bipush 12, 2) := by decide +kernel
theorem dL_moved_28 : decode cL_moved 28 = .ok (.iload 8, 2) := by decide +kernel
theorem dL_moved_30 : decode cL_moved 30 = .ok (.iadd, 1) := by decide +kernel
theorem dL_moved_31 : decode cL_moved 31 = .ok (.iaload, 1) := by decide +kernel
theorem dL_moved_32 : decode cL_moved 32 = .ok (.aload_n 0, 1) := by decide +kernel
theorem dL_moved_33 : decode cL_moved 33 = .ok (.iload 8, 2) := by decide +kernel
theorem dL_moved_35 : decode cL_moved 35 = .ok (.invokevirtual 29, 3) := by decide +kernel
theorem dL_moved_38 : decode cL_moved 38 = .ok (.isub, 1) := by decide +kernel
theorem dL_moved_39 : decode cL_moved 39 = .ok (.istore 11, 2) := by decide +kernel
theorem dL_moved_41 : decode cL_moved 41 = .ok (.iload 11, 2) := by decide +kernel
theorem dL_moved_43 : decode cL_moved 43 = .ok (.ifCond .lt 46, 3) := by decide +kernel
theorem dL_moved_46 : decode cL_moved 46 = .ok (.iload 11, 2) := by decide +kernel
theorem dL_moved_48 : decode cL_moved 48 = .ok (.iconst 2, 1) := by decide +kernel
theorem dL_moved_49 : decode cL_moved 49 = .ok (.if_icmp .gt 40, 3) := by decide +kernel
theorem dL_moved_52 : decode cL_moved 52 = .ok (.iload 10, 2) := by decide +kernel
theorem dL_moved_54 : decode cL_moved 54 = .ok (.ifCond .ge 7, 3) := by decide +kernel
theorem dL_moved_57 : decode cL_moved 57 = .ok (.iconst 1, 1) := by decide +kernel
theorem dL_moved_58 : decode cL_moved 58 = .ok (.goto 4, 3) := by decide +kernel
theorem dL_moved_61 : decode cL_moved 61 = .ok (.iconst 0, 1) := by decide +kernel
theorem dL_moved_62 : decode cL_moved 62 = .ok (.aload_n 0, 1) := by decide +kernel
theorem dL_moved_63 : decode cL_moved 63 = .ok (.iload 8, 2) := by decide +kernel
theorem dL_moved_65 : decode cL_moved 65 = .ok (.invokevirtual 29, 3) := by decide +kernel
theorem dL_moved_68 : decode cL_moved 68 = .ok (.ifCond .ne 7, 3) := by decide +kernel
theorem dL_moved_71 : decode cL_moved 71 = .ok (.iconst 1, 1) := by decide +kernel
theorem dL_moved_72 : decode cL_moved 72 = .ok (.goto 4, 3) := by decide +kernel
theorem dL_moved_75 : decode cL_moved 75 = .ok (.iconst 0, 1) := by decide +kernel
theorem dL_moved_76 : decode cL_moved 76 = .ok (.if_icmp .ne 13, 3) := by decide +kernel
theorem dL_moved_79 : decode cL_moved 79 = .ok (.iload 9, 2) := by decide +kernel
theorem dL_moved_81 : decode cL_moved 81 = .ok (.ifCond .ge 10, 3) := by decide +kernel
theorem dL_moved_84 : decode cL_moved 84 = .ok (.iload 10, 2) := by decide +kernel
theorem dL_moved_86 : decode cL_moved 86 = .ok (.ifCond .lt 5, 3) := by decide +kernel
theorem dL_moved_89 : decode cL_moved 89 = .ok (.iconst 0, 1) := by decide +kernel
theorem dL_moved_90 : decode cL_moved 90 = .ok (.ireturn, 1) := by decide +kernel
theorem dL_moved_91 : decode cL_moved 91 = .ok (.iload 10, 2) := by decide +kernel
theorem dL_moved_93 : decode cL_moved 93 = .ok (.ifCond .lt 48, 3) := by decide +kernel
theorem dL_moved_96 : decode cL_moved 96 = .ok (.iload 10, 2) := by decide +kernel
theorem dL_moved_98 : decode cL_moved 98 = .ok (.iload 9, 2) := by decide +kernel
theorem dL_moved_100 : decode cL_moved 100 = .ok (.if_icmp .eq 41, 3) := by decide +kernel
theorem dL_moved_103 : decode cL_moved 103 = .ok (.iload 10, 2) := by decide +kernel
theorem dL_moved_105 : decode cL_moved 105 = .ok (.aload 5, 2) := by decide +kernel
theorem dL_moved_107 : decode cL_moved 107 = .ok (.iload 8, 2) := by decide +kernel
theorem dL_moved_109 : decode cL_moved 109 = .ok (.iaload, 1) := by decide +kernel
theorem dL_moved_110 : decode cL_moved 110 = .ok (.if_icmp .ne 29, 3) := by decide +kernel
theorem dL_moved_113 : decode cL_moved 113 = .ok (.aload 7, 2) := by decide +kernel
theorem dL_moved_115 : decode cL_moved 115 = .ok (.iload 8, 2) := by decide +kernel
theorem dL_moved_117 : decode cL_moved 117 = .ok (.iaload, 1) := by decide +kernel
theorem dL_moved_118 : decode cL_moved 118 = .ok (.ifCond .lt 21, 3) := by decide +kernel
theorem dL_moved_121 : decode cL_moved 121 = .ok (.iload_n 1, 1) := by decide +kernel
theorem dL_moved_122 : decode cL_moved 122 = .ok (.iconst 2, 1) := by decide +kernel
theorem dL_moved_123 : decode cL_moved 123 = .ok (.if_icmp .eq 16, 3) := by decide +kernel
theorem dL_moved_126 : decode cL_moved 126 = .ok (.aload 6, 2) := by decide +kernel
theorem dL_moved_128 : decode cL_moved 128 = .ok (.iload 9, 2) := by decide +kernel
theorem dL_moved_130 : decode cL_moved 130 = .ok (.iaload, 1) := by decide +kernel
theorem dL_moved_131 : decode cL_moved 131 = .ok (.iload 10, 2) := by decide +kernel
theorem dL_moved_133 : decode cL_moved 133 = .ok (.ishr, 1) := by decide +kernel
theorem dL_moved_134 : decode cL_moved 134 = .ok (.iconst 1, 1) := by decide +kernel
theorem dL_moved_135 : decode cL_moved 135 = .ok (.iand, 1) := by decide +kernel
theorem dL_moved_136 : decode cL_moved 136 = .ok (.ifCond .ne 5, 3) := by decide +kernel
theorem dL_moved_139 : decode cL_moved 139 = .ok (.iconst 0, 1) := by decide +kernel
theorem dL_moved_140 : decode cL_moved 140 = .ok (.ireturn, 1) := by decide +kernel
theorem dL_moved_141 : decode cL_moved 141 = .ok (.aload_n 0, 1) := by decide +kernel
theorem dL_moved_142 : decode cL_moved 142 = .ok (.iload 8, 2) := by decide +kernel
theorem dL_moved_144 : decode cL_moved 144 = .ok (.aload_n 0, 1) := by decide +kernel
theorem dL_moved_145 : decode cL_moved 145 = .ok (.invokevirtual 36, 3) := by decide +kernel
theorem dL_moved_148 : decode cL_moved 148 = .ok (.iconst 1, 1) := by decide +kernel
theorem dL_moved_149 : decode cL_moved 149 = .ok (.isub, 1) := by decide +kernel
theorem dL_moved_150 : decode cL_moved 150 = .ok (.invokevirtual 40, 3) := by decide +kernel
theorem dL_moved_153 : decode cL_moved 153 = .ok (.iload 10, 2) := by decide +kernel
theorem dL_moved_155 : decode cL_moved 155 = .ok (.if_icmp .eq 5, 3) := by decide +kernel
theorem dL_moved_158 : decode cL_moved 158 = .ok (.iconst 0, 1) := by decide +kernel
theorem dL_moved_159 : decode cL_moved 159 = .ok (.ireturn, 1) := by decide +kernel
theorem dL_moved_160 : decode cL_moved 160 = .ok (.aload_n 0, 1) := by decide +kernel
theorem dL_moved_161 : decode cL_moved 161 = .ok (.iconst 1, 1) := by decide +kernel
theorem dL_moved_162 : decode cL_moved 162 = .ok (.aload_n 3, 1) := by decide +kernel
theorem dL_moved_163 : decode cL_moved 163 = .ok (.iload 8, 2) := by decide +kernel
theorem dL_moved_165 : decode cL_moved 165 = .ok (.iaload, 1) := by decide +kernel
theorem dL_moved_166 : decode cL_moved 166 = .ok (.isub, 1) := by decide +kernel
theorem dL_moved_167 : decode cL_moved 167 = .ok (.iload 8, 2) := by decide +kernel
theorem dL_moved_169 : decode cL_moved 169 = .ok (.invokevirtual 43, 3) := by decide +kernel
theorem dL_moved_172 : decode cL_moved 172 = .ok (.istore 12, 2) := by decide +kernel
theorem dL_moved_174 : decode cL_moved 174 = .ok (.aload_n 0, 1) := by decide +kernel
theorem dL_moved_175 : decode cL_moved 175 = .ok (.invokevirtual 36, 3) := by decide +kernel
theorem dL_moved_178 : decode cL_moved 178 = .ok (.iconst 3, 1) := by decide +kernel
theorem dL_moved_179 : decode cL_moved 179 = .ok (.if_icmp .ge 9, 3) := by decide +kernel
theorem dL_moved_182 : decode cL_moved 182 = .ok (.iload 12, 2) := by decide +kernel
theorem dL_moved_184 : decode cL_moved 184 = .ok (.iconst (-1), 1) := by decide +kernel
theorem dL_moved_185 : decode cL_moved 185 = .ok (.if_icmp .ne 16, 3) := by decide +kernel
theorem dL_moved_188 : decode cL_moved 188 = .ok (.iload 12, 2) := by decide +kernel
theorem dL_moved_190 : decode cL_moved 190 = .ok (.iconst (-1), 1) := by decide +kernel
theorem dL_moved_191 : decode cL_moved 191 = .ok (.if_icmp .lt 10, 3) := by decide +kernel
theorem dL_moved_194 : decode cL_moved 194 = .ok (.iload 12, 2) := by decide +kernel
theorem dL_moved_196 : decode cL_moved 196 = .ok (.bipush 9, 2) := by decide +kernel
theorem dL_moved_198 : decode cL_moved 198 = .ok (.if_icmp .le 5, 3) := by decide +kernel
theorem dL_moved_201 : decode cL_moved 201 = .ok (.iconst 0, 1) := by decide +kernel
theorem dL_moved_202 : decode cL_moved 202 = .ok (.ireturn, 1) := by decide +kernel
theorem dL_moved_203 : decode cL_moved 203 = .ok (.iinc 8 1, 3) := by decide +kernel
theorem dL_moved_206 : decode cL_moved 206 = .ok (.goto (-203), 3) := by decide +kernel
theorem dL_moved_209 : decode cL_moved 209 = .ok (.iconst 1, 1) := by decide +kernel
theorem dL_moved_210 : decode cL_moved 210 = .ok (.ireturn, 1) := by decide +kernel
set_option maxRecDepth 20000 in
theorem ggL_supplied_X3_supply : GoodIn wsL_supplied wsX3_supply := goodIn_ca (goodIn_ca (goodIn_r _ [5, 6, 7, 8, 9, 10, 4, 11, 12, 13, 14, 15, 16, 17, 18, 19, 20, 21, 22, 23, 24, 25, 26, 27, 28, 29, 30, 31, 32, 33, 34, 35, 36, 37, 38, 39, 40, 41, 42, 43, 44, 45, 46, 47, 48, 49, 50, 51, 52, 53, 54, 55, 56, 57, 58, 59, 60, 61, 62, 63, 64, 65, 66, 67, 68, 69, 70, 71, 72, 73, 74, 75, 80, 81, 82, 83, 84, 85, 86, 87, 88, 89, 90, 91, 92, 93, 94] (by decide +kernel) (by decide +kernel)) (goodIn_sub (fun _ h => List.mem_cons_of_mem _ (List.mem_append_left _ (List.mem_append_right _ h))) (by decide +kernel))) (goodIn_sub (fun _ h => List.mem_cons_of_mem _ (List.mem_append_right _ h)) (by decide +kernel))
set_option maxRecDepth 20000 in
theorem gL_supplied_X3_supply : GoodIn wsL_supplied (wsV RL 46 RX3 yX3_supply wsX3_supply) := goodIn_app (goodIn_of _ (by decide +kernel)) ggL_supplied_X3_supply
set_option maxRecDepth 20000 in
theorem ggL_supplied_X3_townOf : GoodIn wsL_supplied wsX3_townOf := goodIn_ca (goodIn_r _ [79, 6, 7, 8, 9, 10, 4, 11, 12, 13, 14, 15, 16, 17, 18, 19, 20, 21, 22, 28, 29, 30, 31, 32, 33, 34, 35, 36, 37, 38, 80, 81, 82, 83, 84, 85, 86, 87, 88, 89, 90, 91] (by decide +kernel) (by decide +kernel)) (goodIn_sub (fun _ h => List.mem_cons_of_mem _ (List.mem_append_left _ (List.mem_append_right _ h))) (by decide +kernel))
set_option maxRecDepth 20000 in
theorem gL_supplied_X3_townOf : GoodIn wsL_supplied (wsV RL 33 RX3 yX3_townOf wsX3_townOf) := goodIn_app (goodIn_of _ (by decide +kernel)) ggL_supplied_X3_townOf
theorem dL_supplied_0 : decode cL_supplied 0 = .ok (.iconst 0, 1) := by decide +kernel
theorem dL_supplied_1 : decode cL_supplied 1 = .ok (.istore 5, 2) := by decide +kernel
theorem dL_supplied_3 : decode cL_supplied 3 = .ok (.iload 5, 2) := by decide +kernel
theorem dL_supplied_5 : decode cL_supplied 5 = .ok (.iload_n 2, 1) := by decide +kernel
theorem dL_supplied_6 : decode cL_supplied 6 = .ok (.if_icmp .ge 199, 3) := by decide +kernel
theorem dL_supplied_9 : decode cL_supplied 9 = .ok (.aload 4, 2) := by decide +kernel
theorem dL_supplied_11 : decode cL_supplied 11 = .ok (.iload 5, 2) := by decide +kernel
theorem dL_supplied_13 : decode cL_supplied 13 = .ok (.aload_n 0, 1) := by decide +kernel
theorem dL_supplied_14 : decode cL_supplied 14 = .ok (.iload 5, 2) := by decide +kernel
theorem dL_supplied_16 : decode cL_supplied 16 = .ok (.iload_n 1, 1) := by decide +kernel
theorem dL_supplied_17 : decode cL_supplied 17 = .ok (.invokevirtual 46, 3) := by decide +kernel
theorem dL_supplied_20 : decode cL_supplied 20 = .ok (.iastore, 1) := by decide +kernel
theorem dL_supplied_21 : decode cL_supplied 21 = .ok (.aload_n 0, 1) := by decide +kernel
theorem dL_supplied_22 : decode cL_supplied 22 = .ok (.iload 5, 2) := by decide +kernel
theorem dL_supplied_24 : decode cL_supplied 24 = .ok (.invokevirtual 33, 3) := by decide +kernel
theorem dL_supplied_27 : decode cL_supplied 27 = .ok (.istore 6, 2) := by decide +kernel
theorem dL_supplied_29 : decode cL_supplied 29 = .ok (.aload 4, 2) := by decide +kernel
theorem dL_supplied_31 : decode cL_supplied 31 = .ok (.iload 5, 2) := by decide +kernel
theorem dL_supplied_33 : decode cL_supplied 33 = .ok (.iaload, 1) := by decide +kernel
theorem dL_supplied_34 : decode cL_supplied 34 = .ok (.iconst (-1), 1) := by decide +kernel
theorem dL_supplied_35 : decode cL_supplied 35 = .ok (.if_icmp .lt 26, 3) := by decide +kernel
theorem dL_supplied_38 : decode cL_supplied 38 = .ok (.aload 4, 2) := by decide +kernel
theorem dL_supplied_40 : decode cL_supplied 40 = .ok (.iload 5, 2) := by decide +kernel
theorem dL_supplied_42 : decode cL_supplied 42 = .ok (.iaload, 1) := by decide +kernel
theorem dL_supplied_43 : decode cL_supplied 43 = .ok (.iconst 4, 1) := by decide +kernel
theorem dL_supplied_44 : decode cL_supplied 44 = .ok (.if_icmp .gt 17, 3) := by decide +kernel
theorem dL_supplied_47 : decode cL_supplied 47 = .ok (.iload 6, 2) := by decide +kernel
theorem dL_supplied_49 : decode cL_supplied 49 = .ok (.ifCond .ge 14, 3) := by decide +kernel
theorem dL_supplied_52 : decode cL_supplied 52 = .ok (.aload 4, 2) := by decide +kernel
theorem dL_supplied_54 : decode cL_supplied 54 = .ok (.iload 5, 2) := by decide +kernel
theorem dL_supplied_56 : decode cL_supplied 56 = .ok (.iaload, 1) := by decide +kernel
theorem dL_supplied_57 : decode cL_supplied 57 = .ok (.iconst (-1), 1) := by decide +kernel
theorem dL_supplied_58 : decode cL_supplied 58 = .ok (.if_icmp .eq 5, 3) := by decide +kernel
theorem dL_supplied_61 : decode cL_supplied 61 = .ok (.iconst 0, 1) := by decide +kernel
theorem dL_supplied_62 : decode cL_supplied 62 = .ok (.ireturn, 1) := by decide +kernel
theorem dL_supplied_63 : decode cL_supplied 63 = .ok (.iconst 0, 1) := by decide +kernel
theorem dL_supplied_64 : decode cL_supplied 64 = .ok (.istore 7, 2) := by decide +kernel
theorem dL_supplied_66 : decode cL_supplied 66 = .ok (.iconst 0, 1) := by decide +kernel
theorem dL_supplied_67 : decode cL_supplied 67 = .ok (.istore 8, 2) := by decide +kernel
theorem dL_supplied_69 : decode cL_supplied 69 = .ok (.iload 8, 2) := by decide +kernel
theorem dL_supplied_71 : decode cL_supplied 71 = .ok (.iload_n 2, 1) := by decide +kernel
theorem dL_supplied_72 : decode cL_supplied 72 = .ok (.if_icmp .ge 46, 3) := by decide +kernel
theorem dL_supplied_75 : decode cL_supplied 75 = .ok (.iload 7, 2) := by decide +kernel
theorem dL_supplied_77 : decode cL_supplied 77 = .ok (.aload_n 3, 1) := by decide +kernel
theorem dL_supplied_78 : decode cL_supplied 78 = .ok (.iload 8, 2) := by decide +kernel
theorem dL_supplied_80 : decode cL_supplied 80 = .ok (.iaload, 1) := by decide +kernel
theorem dL_supplied_81 : decode cL_supplied 81 = .ok (.aload_n 3, 1) := by decide +kernel
theorem dL_supplied_82 : decode cL_supplied 82 = .ok (.iload 5, 2) := by decide +kernel
theorem dL_supplied_84 : decode cL_supplied 84 = .ok (.iaload, 1) := by decide +kernel
theorem dL_supplied_85 : decode cL_supplied 85 = .ok (.if_icmp .eq 23, 3) := by decide +kernel
theorem dL_supplied_88 : decode cL_supplied 88 = .ok (.iload 6, 2) := by decide +kernel
theorem dL_supplied_90 : decode cL_supplied 90 = .ok (.ifCond .lt 18, 3) := by decide +kernel
theorem dL_supplied_93 : decode cL_supplied 93 = .ok (.aload_n 0, 1) := by decide +kernel
theorem dL_supplied_94 : decode cL_supplied 94 = .ok (.iload 8, 2) := by decide +kernel
theorem dL_supplied_96 : decode cL_supplied 96 = .ok (.invokevirtual 33, 3) := by decide +kernel
theorem dL_supplied_99 : decode cL_supplied 99 = .ok (.iload 6, 2) := by decide +kernel
theorem dL_supplied_101 : decode cL_supplied 101 = .ok (.if_icmp .ne 7, 3) := by decide +kernel
theorem dL_supplied_104 : decode cL_supplied 104 = .ok (.iconst 1, 1) := by decide +kernel
theorem dL_supplied_105 : decode cL_supplied 105 = .ok (.goto 4, 3) := by decide +kernel
theorem dL_supplied_108 : decode cL_supplied 108 = .ok (.iconst 0, 1) := by decide +kernel
theorem dL_supplied_109 : decode cL_supplied 109 = .ok (.ior, 1) := by decide +kernel
theorem dL_supplied_110 : decode cL_supplied 110 = .ok (.istore 7, 2) := by decide +kernel
theorem dL_supplied_112 : decode cL_supplied 112 = .ok (.iinc 8 1, 3) := by decide +kernel
theorem dL_supplied_115 : decode cL_supplied 115 = .ok (.goto (-46), 3) := by decide +kernel
theorem dL_supplied_118 : decode cL_supplied 118 = .ok (.aload_n 3, 1) := by decide +kernel
theorem dL_supplied_119 : decode cL_supplied 119 = .ok (.iload 5, 2) := by decide +kernel
theorem dL_supplied_121 : decode cL_supplied 121 = .ok (.iaload, 1) := by decide +kernel
theorem dL_supplied_122 : decode cL_supplied 122 = .ok (.ifCond .ne 7, 3) := by decide +kernel
theorem dL_supplied_125 : decode cL_supplied 125 = .ok (.iconst 0, 1) := by decide +kernel
theorem dL_supplied_126 : decode cL_supplied 126 = .ok (.goto 5, 3) := by decide +kernel
theorem dL_supplied_129 : decode cL_supplied 129 = .ok (.bipush 9, 2) := by decide +kernel
theorem dL_supplied_131 : decode cL_supplied 131 = .ok (.istore 8, 2) := by decide +kernel
theorem dL_supplied_133 : decode cL_supplied 133 = .ok (.iload 7, 2) := by decide +kernel
theorem dL_supplied_135 : decode cL_supplied 135 = .ok (.ifCond .eq 12, 3) := by decide +kernel
theorem dL_supplied_138 : decode cL_supplied 138 = .ok (.aload 4, 2) := by decide +kernel
theorem dL_supplied_140 : decode cL_supplied 140 = .ok (.iload 5, 2) := by decide +kernel
theorem dL_supplied_142 : decode cL_supplied 142 = .ok (.iaload, 1) := by decide +kernel
theorem dL_supplied_143 : decode cL_supplied 143 = .ok (.iconst (-1), 1) := by decide +kernel
theorem dL_supplied_144 : decode cL_supplied 144 = .ok (.if_icmp .ne 38, 3) := by decide +kernel
theorem dL_supplied_147 : decode cL_supplied 147 = .ok (.aload 4, 2) := by decide +kernel
theorem dL_supplied_149 : decode cL_supplied 149 = .ok (.iload 5, 2) := by decide +kernel
theorem dL_supplied_151 : decode cL_supplied 151 = .ok (.iaload, 1) := by decide +kernel
theorem dL_supplied_152 : decode cL_supplied 152 = .ok (.ifCond .ne 10, 3) := by decide +kernel
theorem dL_supplied_155 : decode cL_supplied 155 = .ok (.iload 6, 2) := by decide +kernel
theorem dL_supplied_157 : decode cL_supplied 157 = .ok (.iload 8, 2) := by decide +kernel
theorem dL_supplied_159 : decode cL_supplied 159 = .ok (.if_icmp .ne 23, 3) := by decide +kernel
theorem dL_supplied_162 : decode cL_supplied 162 = .ok (.iload 6, 2) := by decide +kernel
theorem dL_supplied_164 : decode cL_supplied 164 = .ok (.iload 8, 2) := by decide +kernel
theorem dL_supplied_166 : decode cL_supplied 166 = .ok (.if_icmp .ne 18, 3) := by decide +kernel
theorem dL_supplied_169 : decode cL_supplied 169 = .ok (.iload 7, 2) := by decide +kernel
theorem dL_supplied_171 : decode cL_supplied 171 = .ok (.ifCond .ne 13, 3) := by decide +kernel
theorem dL_supplied_174 : decode cL_supplied 174 = .ok (.aload 4, 2) := by decide +kernel
theorem dL_supplied_176 : decode cL_supplied 176 = .ok (.iload 5, 2) := by decide +kernel
theorem dL_supplied_178 : decode cL_supplied 178 = .ok (.iaload, 1) := by decide +kernel
theorem dL_supplied_179 : decode cL_supplied 179 = .ok (.ifCond .eq 5, 3) := by decide +kernel
theorem dL_supplied_182 : decode cL_supplied 182 = .ok (.iconst 0, 1) := by decide +kernel
theorem dL_supplied_183 : decode cL_supplied 183 = .ok (.ireturn, 1) := by decide +kernel
theorem dL_supplied_184 : decode cL_supplied 184 = .ok (.iload_n 1, 1) := by decide +kernel
theorem dL_supplied_185 : decode cL_supplied 185 = .ok (.iconst 2, 1) := by decide +kernel
theorem dL_supplied_186 : decode cL_supplied 186 = .ok (.if_icmp .ne 13, 3) := by decide +kernel
theorem dL_supplied_189 : decode cL_supplied 189 = .ok (.aload 4, 2) := by decide +kernel
theorem dL_supplied_191 : decode cL_supplied 191 = .ok (.iload 5, 2) := by decide +kernel
theorem dL_supplied_193 : decode cL_supplied 193 = .ok (.iaload, 1) := by decide +kernel
theorem dL_supplied_194 : decode cL_supplied 194 = .ok (.ifCond .le 5, 3) := by decide +kernel
theorem dL_supplied_197 : decode cL_supplied 197 = .ok (.iconst 0, 1) := by decide +kernel
theorem dL_supplied_198 : decode cL_supplied 198 = .ok (.ireturn, 1) := by decide +kernel
theorem dL_supplied_199 : decode cL_supplied 199 = .ok (.iinc 5 1, 3) := by decide +kernel
theorem dL_supplied_202 : decode cL_supplied 202 = .ok (.goto (-199), 3) := by decide +kernel
theorem dL_supplied_205 : decode cL_supplied 205 = .ok (.iconst 1, 1) := by decide +kernel
theorem dL_supplied_206 : decode cL_supplied 206 = .ok (.ireturn, 1) := by decide +kernel
