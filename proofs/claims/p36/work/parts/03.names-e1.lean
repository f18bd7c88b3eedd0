theorem dL_below_0 : decode cL_below 0 = .ok (.iload_n 0, 1) := by decide +kernel
theorem dL_below_1 : decode cL_below 1 = .ok (.ldc 7, 2) := by decide +kernel
theorem dL_below_3 : decode cL_below 3 = .ok (.iand, 1) := by decide +kernel
theorem dL_below_4 : decode cL_below 4 = .ok (.iload_n 1, 1) := by decide +kernel
theorem dL_below_5 : decode cL_below 5 = .ok (.irem, 1) := by decide +kernel
theorem dL_below_6 : decode cL_below 6 = .ok (.ireturn, 1) := by decide +kernel
theorem dL_cell_0 : decode cL_cell 0 = .ok (.iload_n 1, 1) := by decide +kernel
theorem dL_cell_1 : decode cL_cell 1 = .ok (.aload_n 0, 1) := by decide +kernel
theorem dL_cell_2 : decode cL_cell 2 = .ok (.arraylength, 1) := by decide +kernel
theorem dL_cell_3 : decode cL_cell 3 = .ok (.if_icmp .ge 9, 3) := by decide +kernel
theorem dL_cell_6 : decode cL_cell 6 = .ok (.aload_n 0, 1) := by decide +kernel
theorem dL_cell_7 : decode cL_cell 7 = .ok (.iload_n 1, 1) := by decide +kernel
theorem dL_cell_8 : decode cL_cell 8 = .ok (.iaload, 1) := by decide +kernel
theorem dL_cell_9 : decode cL_cell 9 = .ok (.goto 9, 3) := by decide +kernel
theorem dL_cell_12 : decode cL_cell 12 = .ok (.ldc 8, 2) := by decide +kernel
theorem dL_cell_14 : decode cL_cell 14 = .ok (.iload_n 1, 1) := by decide +kernel
theorem dL_cell_15 : decode cL_cell 15 = .ok (.iconst 3, 1) := by decide +kernel
theorem dL_cell_16 : decode cL_cell 16 = .ok (.iadd, 1) := by decide +kernel
theorem dL_cell_17 : decode cL_cell 17 = .ok (.imul, 1) := by decide +kernel
theorem dL_cell_18 : decode cL_cell 18 = .ok (.ireturn, 1) := by decide +kernel
set_option maxRecDepth 20000 in
theorem ggL_act_L_below : GoodIn wsL_act wsL_below := goodIn_r _ [7, 8] (by decide +kernel) (by decide +kernel)
set_option maxRecDepth 20000 in
theorem gL_act_L_below : GoodIn wsL_act (va_wsS RL 15 yL_below wsL_below) := goodIn_app (goodIn_of _ (by decide +kernel)) ggL_act_L_below
set_option maxRecDepth 20000 in
theorem ggL_act_X1_with : GoodIn wsL_act wsX1_with := goodIn_r _ [12, 13] (by decide +kernel) (by decide +kernel)
set_option maxRecDepth 20000 in
theorem gL_act_X1_with : GoodIn wsL_act (va_wsS RL 21 yX1_with wsX1_with) := goodIn_app (goodIn_of _ (by decide +kernel)) ggL_act_X1_with
set_option maxRecDepth 20000 in
theorem ggL_act_X0_addStranger : GoodIn wsL_act wsX0_addStranger := goodIn_ca (goodIn_ca (goodIn_r _ [18, 19, 20, 21, 22, 23, 24, 25, 26, 27, 28, 29, 17, 30, 31, 32, 33, 34, 35, 36, 37, 38, 39, 190, 191, 192, 193, 194, 195, 196, 197, 198] (by decide +kernel) (by decide +kernel)) (goodIn_sub (fun _ h => List.mem_cons_of_mem _ (List.mem_append_left _ (List.mem_append_left _ (List.mem_append_right _ h)))) (by decide +kernel))) (goodIn_sub (fun _ h => List.mem_cons_of_mem _ (List.mem_append_left _ (List.mem_append_right _ h))) (by decide +kernel))
set_option maxRecDepth 20000 in
theorem gL_act_X0_addStranger : GoodIn wsL_act (wsV RL 25 RX0 yX0_addStranger wsX0_addStranger) := goodIn_app (goodIn_of _ (by decide +kernel)) ggL_act_X0_addStranger
set_option maxRecDepth 20000 in
theorem ggL_act_X0_setWalk : GoodIn wsL_act wsX0_setWalk := goodIn_ca (goodIn_ca (goodIn_r _ [43, 19, 20, 27, 44, 45, 46, 17, 47, 48, 49, 23, 37, 38, 39, 190, 191, 192, 193, 194, 195, 196, 197, 198] (by decide +kernel) (by decide +kernel)) (goodIn_sub (fun _ h => List.mem_cons_of_mem _ (List.mem_append_left _ (List.mem_append_left _ (List.mem_append_right _ h)))) (by decide +kernel))) (goodIn_sub (fun _ h => List.mem_cons_of_mem _ (List.mem_append_right _ h)) (by decide +kernel))
set_option maxRecDepth 20000 in
theorem gL_act_X0_setWalk : GoodIn wsL_act (wsV RL 33 RX0 yX0_setWalk wsX0_setWalk) := goodIn_app (goodIn_of _ (by decide +kernel)) ggL_act_X0_setWalk
set_option maxRecDepth 20000 in
theorem ggL_act_X0_pass : GoodIn wsL_act wsX0_pass := goodIn_ca (goodIn_r _ [53, 19, 20, 54, 55, 56, 57, 17, 58, 23, 26, 59, 60, 61, 62, 63, 64, 65, 66, 67, 68, 27, 69, 70, 71, 72, 73, 74, 75, 76, 24, 25, 77, 78, 79, 80, 81, 82, 83, 84, 85, 86, 87, 88, 89, 90, 91, 92, 93, 94, 95, 96, 97, 98, 99, 190, 191, 192, 193, 194, 195, 196, 197, 198] (by decide +kernel) (by decide +kernel)) (goodIn_sub (fun _ h => List.mem_cons_of_mem _ (List.mem_append_left _ (List.mem_append_left _ (List.mem_append_right _ h)))) (by decide +kernel))
set_option maxRecDepth 20000 in
theorem gL_act_X0_pass : GoodIn wsL_act (wsV RL 36 RX0 yX0_pass wsX0_pass) := goodIn_app (goodIn_of _ (by decide +kernel)) ggL_act_X0_pass
set_option maxRecDepth 20000 in
theorem ggL_act_X1_pass : GoodIn wsL_act wsX1_pass := goodIn_r _ [103, 104, 105, 106, 107, 61, 62, 63, 108, 109, 110, 111, 11, 112, 113, 114, 115, 116, 117, 118, 119, 120, 121, 122, 123, 124, 125, 81, 82, 126, 127, 128, 129, 130, 131, 132, 185, 186, 187, 188, 189] (by decide +kernel) (by decide +kernel)
set_option maxRecDepth 20000 in
theorem gL_act_X1_pass : GoodIn wsL_act (wsV RL 40 RX1 yX1_pass wsX1_pass) := goodIn_app (goodIn_of _ (by decide +kernel)) ggL_act_X1_pass
set_option maxRecDepth 20000 in
theorem ggL_act_L_works : GoodIn wsL_act wsL_works := goodIn_ca (goodIn_ca (goodIn_ca (goodIn_r _ [135, 1, 2, 136, 137, 110, 111, 11, 112, 113, 114, 115, 116, 105, 117, 118, 119, 120, 121, 122, 123, 124, 125, 81, 62, 82, 126, 127, 128, 4, 5, 6, 7, 8, 138, 139, 140, 141, 142, 143, 144, 106, 145, 146, 147, 148, 149, 150, 151, 152, 153, 154, 155, 156, 17, 157, 21, 22, 26, 25, 158, 159, 160, 161, 19, 20, 44, 45, 46, 47, 48, 49, 23, 162, 163, 164, 165, 59, 166, 69, 70, 71, 72, 65, 66, 67, 68, 27, 73, 74, 75, 76, 24, 77, 78, 79, 80, 83, 84, 85, 86, 87, 88, 89, 90, 91, 167, 168, 169, 170, 171, 172, 173, 174, 175, 176, 177, 34, 35, 36, 178, 179, 180, 60, 61, 63, 181, 182, 183, 184, 28, 29, 30, 185, 186, 187, 188, 189, 190, 191, 192, 193, 194, 195, 196, 197, 198] (by decide +kernel) (by decide +kernel)) (goodIn_sub (fun _ h => List.mem_cons_of_mem _ (List.mem_append_left _ (List.mem_append_right _ h))) (by decide +kernel))) (goodIn_sub (fun _ h => List.mem_cons_of_mem _ (List.mem_append_left _ (List.mem_append_left _ (List.mem_append_right _ h)))) (by decide +kernel))) (goodIn_sub (fun _ h => List.mem_cons_of_mem _ (List.mem_append_right _ h)) (by decide +kernel))
set_option maxRecDepth 20000 in
theorem gL_act_L_works : GoodIn wsL_act (va_wsS RL 41 yL_works wsL_works) := goodIn_app (goodIn_of _ (by decide +kernel)) ggL_act_L_works
theorem dL_act_0 : decode cL_act 0 = .ok (.aload_n 1, 1) := by decide +kernel
theorem dL_act_1 : decode cL_act 1 = .ok (.getfield 9, 3) := by decide +kernel
theorem dL_act_4 : decode cL_act 4 = .ok (.arraylength, 1) := by decide +kernel
theorem dL_act_5 : decode cL_act 5 = .ok (.istore_n 3, 1) := by decide +kernel
theorem dL_act_6 : decode cL_act 6 = .ok (.iload_n 3, 1) := by decide +kernel
theorem dL_act_7 : decode cL_act 7 = .ok (.ifCond .ne 7, 3) := by decide +kernel
theorem dL_act_10 : decode cL_act 10 = .ok (.iconst 0, 1) := by decide +kernel
theorem dL_act_11 : decode cL_act 11 = .ok (.goto 9, 3) := by decide +kernel
theorem dL_act_14 : decode cL_act 14 = .ok (.iload_n 2, 1) := by decide +kernel
theorem dL_act_15 : decode cL_act 15 = .ok (.bipush 20, 2) := by decide +kernel
theorem dL_act_17 : decode cL_act 17 = .ok (.invokestatic 15, 3) := by decide +kernel
theorem dL_act_20 : decode cL_act 20 = .ok (.istore 4, 2) := by decide +kernel
theorem dL_act_22 : decode cL_act 22 = .ok (.iload 4, 2) := by decide +kernel
theorem dL_act_24 : decode cL_act 24 = .ok (.ifCond .ne 171, 3) := by decide +kernel
theorem dL_act_27 : decode cL_act 27 = .ok (.iconst 5, 1) := by decide +kernel
theorem dL_act_28 : decode cL_act 28 = .ok (.newarray .int, 2) := by decide +kernel
theorem dL_act_30 : decode cL_act 30 = .ok (.dup, 1) := by decide +kernel
theorem dL_act_31 : decode cL_act 31 = .ok (.iconst 0, 1) := by decide +kernel
theorem dL_act_32 : decode cL_act 32 = .ok (.iload_n 2, 1) := by decide +kernel
theorem dL_act_33 : decode cL_act 33 = .ok (.iconst 3, 1) := by decide +kernel
theorem dL_act_34 : decode cL_act 34 = .ok (.ishr, 1) := by decide +kernel
theorem dL_act_35 : decode cL_act 35 = .ok (.iload_n 2, 1) := by decide +kernel
theorem dL_act_36 : decode cL_act 36 = .ok (.bipush 9, 2) := by decide +kernel
theorem dL_act_38 : decode cL_act 38 = .ok (.ishr, 1) := by decide +kernel
theorem dL_act_39 : decode cL_act 39 = .ok (.iconst 2, 1) := by decide +kernel
theorem dL_act_40 : decode cL_act 40 = .ok (.invokestatic 15, 3) := by decide +kernel
theorem dL_act_43 : decode cL_act 43 = .ok (.ifCond .ne 8, 3) := by decide +kernel
theorem dL_act_46 : decode cL_act 46 = .ok (.bipush 10, 2) := by decide +kernel
theorem dL_act_48 : decode cL_act 48 = .ok (.goto 4, 3) := by decide +kernel
theorem dL_act_51 : decode cL_act 51 = .ok (.iconst 3, 1) := by decide +kernel
theorem dL_act_52 : decode cL_act 52 = .ok (.invokestatic 15, 3) := by decide +kernel
theorem dL_act_55 : decode cL_act 55 = .ok (.iastore, 1) := by decide +kernel
theorem dL_act_56 : decode cL_act 56 = .ok (.dup, 1) := by decide +kernel
theorem dL_act_57 : decode cL_act 57 = .ok (.iconst 1, 1) := by decide +kernel
theorem dL_act_58 : decode cL_act 58 = .ok (.iload_n 2, 1) := by decide +kernel
theorem dL_act_59 : decode cL_act 59 = .ok (.iconst 5, 1) := by decide +kernel
theorem dL_act_60 : decode cL_act 60 = .ok (.ishr, 1) := by decide +kernel
theorem dL_act_61 : decode cL_act 61 = .ok (.iload_n 2, 1) := by decide +kernel
theorem dL_act_62 : decode cL_act 62 = .ok (.bipush 8, 2) := by decide +kernel
theorem dL_act_64 : decode cL_act 64 = .ok (.ishr, 1) := by decide +kernel
theorem dL_act_65 : decode cL_act 65 = .ok (.iconst 2, 1) := by decide +kernel
theorem dL_act_66 : decode cL_act 66 = .ok (.invokestatic 15, 3) := by decide +kernel
theorem dL_act_69 : decode cL_act 69 = .ok (.ifCond .ne 8, 3) := by decide +kernel
theorem dL_act_72 : decode cL_act 72 = .ok (.bipush 10, 2) := by decide +kernel
theorem dL_act_74 : decode cL_act 74 = .ok (.goto 4, 3) := by decide +kernel
theorem dL_act_77 : decode cL_act 77 = .ok (.iconst 3, 1) := by decide +kernel
theorem dL_act_78 : decode cL_act 78 = .ok (.invokestatic 15, 3) := by decide +kernel
theorem dL_act_81 : decode cL_act 81 = .ok (.iastore, 1) := by decide +kernel
theorem dL_act_82 : decode cL_act 82 = .ok (.dup, 1) := by decide +kernel
theorem dL_act_83 : decode cL_act 83 = .ok (.iconst 2, 1) := by decide +kernel
theorem dL_act_84 : decode cL_act 84 = .ok (.iload_n 2, 1) := by decide +kernel
theorem dL_act_85 : decode cL_act 85 = .ok (.iconst 4, 1) := by decide +kernel
theorem dL_act_86 : decode cL_act 86 = .ok (.ishr, 1) := by decide +kernel
theorem dL_act_87 : decode cL_act 87 = .ok (.iconst 5, 1) := by decide +kernel
theorem dL_act_88 : decode cL_act 88 = .ok (.invokestatic 15, 3) := by decide +kernel
theorem dL_act_91 : decode cL_act 91 = .ok (.iastore, 1) := by decide +kernel
theorem dL_act_92 : decode cL_act 92 = .ok (.dup, 1) := by decide +kernel
theorem dL_act_93 : decode cL_act 93 = .ok (.iconst 3, 1) := by decide +kernel
theorem dL_act_94 : decode cL_act 94 = .ok (.iload_n 2, 1) := by decide +kernel
theorem dL_act_95 : decode cL_act 95 = .ok (.bipush 6, 2) := by decide +kernel
theorem dL_act_97 : decode cL_act 97 = .ok (.ishr, 1) := by decide +kernel
theorem dL_act_98 : decode cL_act 98 = .ok (.bipush 6, 2) := by decide +kernel
theorem dL_act_100 : decode cL_act 100 = .ok (.invokestatic 15, 3) := by decide +kernel
theorem dL_act_103 : decode cL_act 103 = .ok (.iastore, 1) := by decide +kernel
theorem dL_act_104 : decode cL_act 104 = .ok (.dup, 1) := by decide +kernel
theorem dL_act_105 : decode cL_act 105 = .ok (.iconst 4, 1) := by decide +kernel
theorem dL_act_106 : decode cL_act 106 = .ok (.iload_n 2, 1) := by decide +kernel
theorem dL_act_107 : decode cL_act 107 = .ok (.bipush 7, 2) := by decide +kernel
theorem dL_act_109 : decode cL_act 109 = .ok (.ishr, 1) := by decide +kernel
theorem dL_act_110 : decode cL_act 110 = .ok (.bipush 6, 2) := by decide +kernel
theorem dL_act_112 : decode cL_act 112 = .ok (.invokestatic 15, 3) := by decide +kernel
theorem dL_act_115 : decode cL_act 115 = .ok (.iastore, 1) := by decide +kernel
theorem dL_act_116 : decode cL_act 116 = .ok (.astore 5, 2) := by decide +kernel
theorem dL_act_118 : decode cL_act 118 = .ok (.iload_n 3, 1) := by decide +kernel
theorem dL_act_119 : decode cL_act 119 = .ok (.bipush 12, 2) := by decide +kernel
theorem dL_act_121 : decode cL_act 121 = .ok (.if_icmp .ge 16, 3) := by decide +kernel
theorem dL_act_124 : decode cL_act 124 = .ok (.aload_n 1, 1) := by decide +kernel
theorem dL_act_125 : decode cL_act 125 = .ok (.aload_n 1, 1) := by decide +kernel
theorem dL_act_126 : decode cL_act 126 = .ok (.getfield 9, 3) := by decide +kernel
theorem dL_act_129 : decode cL_act 129 = .ok (.aload 5, 2) := by decide +kernel
theorem dL_act_131 : decode cL_act 131 = .ok (.invokestatic 21, 3) := by decide +kernel
theorem dL_act_134 : decode cL_act 134 = .ok (.putfield 9, 3) := by decide +kernel
theorem dL_act_137 : decode cL_act 137 = .ok (.aload_n 0, 1) := by decide +kernel
theorem dL_act_138 : decode cL_act 138 = .ok (.bipush 10, 2) := by decide +kernel
theorem dL_act_140 : decode cL_act 140 = .ok (.aload 5, 2) := by decide +kernel
theorem dL_act_142 : decode cL_act 142 = .ok (.iconst 0, 1) := by decide +kernel
theorem dL_act_143 : decode cL_act 143 = .ok (.iaload, 1) := by decide +kernel
theorem dL_act_144 : decode cL_act 144 = .ok (.imul, 1) := by decide +kernel
theorem dL_act_145 : decode cL_act 145 = .ok (.aload 5, 2) := by decide +kernel
theorem dL_act_147 : decode cL_act 147 = .ok (.iconst 1, 1) := by decide +kernel
theorem dL_act_148 : decode cL_act 148 = .ok (.iaload, 1) := by decide +kernel
theorem dL_act_149 : decode cL_act 149 = .ok (.iadd, 1) := by decide +kernel
theorem dL_act_150 : decode cL_act 150 = .ok (.aload 5, 2) := by decide +kernel
theorem dL_act_152 : decode cL_act 152 = .ok (.iconst 2, 1) := by decide +kernel
theorem dL_act_153 : decode cL_act 153 = .ok (.iaload, 1) := by decide +kernel
theorem dL_act_154 : decode cL_act 154 = .ok (.aload 5, 2) := by decide +kernel
theorem dL_act_156 : decode cL_act 156 = .ok (.iconst 3, 1) := by decide +kernel
theorem dL_act_157 : decode cL_act 157 = .ok (.iaload, 1) := by decide +kernel
theorem dL_act_158 : decode cL_act 158 = .ok (.aload 5, 2) := by decide +kernel
theorem dL_act_160 : decode cL_act 160 = .ok (.iconst 4, 1) := by decide +kernel
theorem dL_act_161 : decode cL_act 161 = .ok (.iaload, 1) := by decide +kernel
theorem dL_act_162 : decode cL_act 162 = .ok (.invokevirtual 25, 3) := by decide +kernel
theorem dL_act_165 : decode cL_act 165 = .ok (.iload_n 3, 1) := by decide +kernel
theorem dL_act_166 : decode cL_act 166 = .ok (.if_icmp .ne 13, 3) := by decide +kernel
theorem dL_act_169 : decode cL_act 169 = .ok (.iload_n 3, 1) := by decide +kernel
theorem dL_act_170 : decode cL_act 170 = .ok (.bipush 12, 2) := by decide +kernel
theorem dL_act_172 : decode cL_act 172 = .ok (.if_icmp .ge 7, 3) := by decide +kernel
theorem dL_act_175 : decode cL_act 175 = .ok (.iconst 1, 1) := by decide +kernel
theorem dL_act_176 : decode cL_act 176 = .ok (.goto 4, 3) := by decide +kernel
theorem dL_act_179 : decode cL_act 179 = .ok (.iconst 0, 1) := by decide +kernel
theorem dL_act_180 : decode cL_act 180 = .ok (.ireturn, 1) := by decide +kernel
theorem dL_act_181 : decode cL_act 181 = .ok (.astore 6, 2) := by decide +kernel
theorem dL_act_183 : decode cL_act 183 = .ok (.iload_n 3, 1) := by decide +kernel
theorem dL_act_184 : decode cL_act 184 = .ok (.bipush 12, 2) := by decide +kernel
theorem dL_act_186 : decode cL_act 186 = .ok (.if_icmp .ne 7, 3) := by decide +kernel
theorem dL_act_189 : decode cL_act 189 = .ok (.iconst 1, 1) := by decide +kernel
theorem dL_act_190 : decode cL_act 190 = .ok (.goto 4, 3) := by decide +kernel
theorem dL_act_193 : decode cL_act 193 = .ok (.iconst 0, 1) := by decide +kernel
theorem dL_act_194 : decode cL_act 194 = .ok (.ireturn, 1) := by decide +kernel
theorem dL_act_195 : decode cL_act 195 = .ok (.iload_n 2, 1) := by decide +kernel
theorem dL_act_196 : decode cL_act 196 = .ok (.iconst 4, 1) := by decide +kernel
theorem dL_act_197 : decode cL_act 197 = .ok (.ishr, 1) := by decide +kernel
theorem dL_act_198 : decode cL_act 198 = .ok (.iload_n 3, 1) := by decide +kernel
theorem dL_act_199 : decode cL_act 199 = .ok (.invokestatic 15, 3) := by decide +kernel
theorem dL_act_202 : decode cL_act 202 = .ok (.istore 5, 2) := by decide +kernel
theorem dL_act_204 : decode cL_act 204 = .ok (.iload_n 3, 1) := by decide +kernel
theorem dL_act_205 : decode cL_act 205 = .ok (.iconst 1, 1) := by decide +kernel
theorem dL_act_206 : decode cL_act 206 = .ok (.if_icmp .ne 7, 3) := by decide +kernel
theorem dL_act_209 : decode cL_act 209 = .ok (.iconst 0, 1) := by decide +kernel
theorem dL_act_210 : decode cL_act 210 = .ok (.goto 20, 3) := by decide +kernel
theorem dL_act_213 : decode cL_act 213 = .ok (.iload 5, 2) := by decide +kernel
theorem dL_act_215 : decode cL_act 215 = .ok (.iconst 1, 1) := by decide +kernel
theorem dL_act_216 : decode cL_act 216 = .ok (.iadd, 1) := by decide +kernel
theorem dL_act_217 : decode cL_act 217 = .ok (.iload_n 2, 1) := by decide +kernel
theorem dL_act_218 : decode cL_act 218 = .ok (.bipush 6, 2) := by decide +kernel
theorem dL_act_220 : decode cL_act 220 = .ok (.ishr, 1) := by decide +kernel
theorem dL_act_221 : decode cL_act 221 = .ok (.iload_n 3, 1) := by decide +kernel
theorem dL_act_222 : decode cL_act 222 = .ok (.iconst 1, 1) := by decide +kernel
theorem dL_act_223 : decode cL_act 223 = .ok (.isub, 1) := by decide +kernel
theorem dL_act_224 : decode cL_act 224 = .ok (.invokestatic 15, 3) := by decide +kernel
theorem dL_act_227 : decode cL_act 227 = .ok (.iadd, 1) := by decide +kernel
theorem dL_act_228 : decode cL_act 228 = .ok (.iload_n 3, 1) := by decide +kernel
theorem dL_act_229 : decode cL_act 229 = .ok (.irem, 1) := by decide +kernel
theorem dL_act_230 : decode cL_act 230 = .ok (.istore 6, 2) := by decide +kernel
theorem dL_act_232 : decode cL_act 232 = .ok (.iload 4, 2) := by decide +kernel
theorem dL_act_234 : decode cL_act 234 = .ok (.iconst 3, 1) := by decide +kernel
theorem dL_act_235 : decode cL_act 235 = .ok (.if_icmp .ge 58, 3) := by decide +kernel
theorem dL_act_238 : decode cL_act 238 = .ok (.aload_n 1, 1) := by decide +kernel
theorem dL_act_239 : decode cL_act 239 = .ok (.getfield 9, 3) := by decide +kernel
theorem dL_act_242 : decode cL_act 242 = .ok (.iload 5, 2) := by decide +kernel
theorem dL_act_244 : decode cL_act 244 = .ok (.aaload, 1) := by decide +kernel
theorem dL_act_245 : decode cL_act 245 = .ok (.iconst 4, 1) := by decide +kernel
theorem dL_act_246 : decode cL_act 246 = .ok (.iaload, 1) := by decide +kernel
theorem dL_act_247 : decode cL_act 247 = .ok (.istore 7, 2) := by decide +kernel
theorem dL_act_249 : decode cL_act 249 = .ok (.aload_n 1, 1) := by decide +kernel
theorem dL_act_250 : decode cL_act 250 = .ok (.getfield 9, 3) := by decide +kernel
theorem dL_act_253 : decode cL_act 253 = .ok (.iload 5, 2) := by decide +kernel
theorem dL_act_255 : decode cL_act 255 = .ok (.aaload, 1) := by decide +kernel
theorem dL_act_256 : decode cL_act 256 = .ok (.iconst 4, 1) := by decide +kernel
theorem dL_act_257 : decode cL_act 257 = .ok (.iload_n 2, 1) := by decide +kernel
theorem dL_act_258 : decode cL_act 258 = .ok (.bipush 7, 2) := by decide +kernel
theorem dL_act_260 : decode cL_act 260 = .ok (.ishr, 1) := by decide +kernel
theorem dL_act_261 : decode cL_act 261 = .ok (.bipush 6, 2) := by decide +kernel
theorem dL_act_263 : decode cL_act 263 = .ok (.invokestatic 15, 3) := by decide +kernel
theorem dL_act_266 : decode cL_act 266 = .ok (.iastore, 1) := by decide +kernel
theorem dL_act_267 : decode cL_act 267 = .ok (.aload_n 0, 1) := by decide +kernel
theorem dL_act_268 : decode cL_act 268 = .ok (.iload 5, 2) := by decide +kernel
theorem dL_act_270 : decode cL_act 270 = .ok (.aload_n 1, 1) := by decide +kernel
theorem dL_act_271 : decode cL_act 271 = .ok (.getfield 9, 3) := by decide +kernel
theorem dL_act_274 : decode cL_act 274 = .ok (.iload 5, 2) := by decide +kernel
theorem dL_act_276 : decode cL_act 276 = .ok (.aaload, 1) := by decide +kernel
theorem dL_act_277 : decode cL_act 277 = .ok (.iconst 4, 1) := by decide +kernel
theorem dL_act_278 : decode cL_act 278 = .ok (.iaload, 1) := by decide +kernel
theorem dL_act_279 : decode cL_act 279 = .ok (.invokevirtual 33, 3) := by decide +kernel
theorem dL_act_282 : decode cL_act 282 = .ok (.iload 7, 2) := by decide +kernel
theorem dL_act_284 : decode cL_act 284 = .ok (.if_icmp .ne 7, 3) := by decide +kernel
theorem dL_act_287 : decode cL_act 287 = .ok (.iconst 1, 1) := by decide +kernel
theorem dL_act_288 : decode cL_act 288 = .ok (.goto 4, 3) := by decide +kernel
theorem dL_act_291 : decode cL_act 291 = .ok (.iconst 0, 1) := by decide +kernel
theorem dL_act_292 : decode cL_act 292 = .ok (.ireturn, 1) := by decide +kernel
theorem dL_act_293 : decode cL_act 293 = .ok (.iload 4, 2) := by decide +kernel
theorem dL_act_295 : decode cL_act 295 = .ok (.bipush 13, 2) := by decide +kernel
theorem dL_act_297 : decode cL_act 297 = .ok (.if_icmp .le 52, 3) := by decide +kernel
theorem dL_act_300 : decode cL_act 300 = .ok (.iconst 1, 1) := by decide +kernel
theorem dL_act_301 : decode cL_act 301 = .ok (.iload_n 2, 1) := by decide +kernel
theorem dL_act_302 : decode cL_act 302 = .ok (.iconst 5, 1) := by decide +kernel
theorem dL_act_303 : decode cL_act 303 = .ok (.ishr, 1) := by decide +kernel
theorem dL_act_304 : decode cL_act 304 = .ok (.iload_n 2, 1) := by decide +kernel
theorem dL_act_305 : decode cL_act 305 = .ok (.bipush 8, 2) := by decide +kernel
theorem dL_act_307 : decode cL_act 307 = .ok (.ishr, 1) := by decide +kernel
theorem dL_act_308 : decode cL_act 308 = .ok (.iconst 4, 1) := by decide +kernel
theorem dL_act_309 : decode cL_act 309 = .ok (.invokestatic 15, 3) := by decide +kernel
theorem dL_act_312 : decode cL_act 312 = .ok (.ifCond .ne 8, 3) := by decide +kernel
theorem dL_act_315 : decode cL_act 315 = .ok (.bipush 60, 2) := by decide +kernel
theorem dL_act_317 : decode cL_act 317 = .ok (.goto 5, 3) := by decide +kernel
theorem dL_act_320 : decode cL_act 320 = .ok (.bipush 6, 2) := by decide +kernel
theorem dL_act_322 : decode cL_act 322 = .ok (.invokestatic 15, 3) := by decide +kernel
theorem dL_act_325 : decode cL_act 325 = .ok (.iadd, 1) := by decide +kernel
theorem dL_act_326 : decode cL_act 326 = .ok (.istore 7, 2) := by decide +kernel
theorem dL_act_328 : decode cL_act 328 = .ok (.aload_n 0, 1) := by decide +kernel
theorem dL_act_329 : decode cL_act 329 = .ok (.iload 7, 2) := by decide +kernel
theorem dL_act_331 : decode cL_act 331 = .ok (.invokevirtual 36, 3) := by decide +kernel
theorem dL_act_334 : decode cL_act 334 = .ok (.aload_n 1, 1) := by decide +kernel
theorem dL_act_335 : decode cL_act 335 = .ok (.iload 7, 2) := by decide +kernel
theorem dL_act_337 : decode cL_act 337 = .ok (.invokevirtual 40, 3) := by decide +kernel
theorem dL_act_340 : decode cL_act 340 = .ok (.if_icmp .ne 7, 3) := by decide +kernel
theorem dL_act_343 : decode cL_act 343 = .ok (.iconst 1, 1) := by decide +kernel
theorem dL_act_344 : decode cL_act 344 = .ok (.goto 4, 3) := by decide +kernel
theorem dL_act_347 : decode cL_act 347 = .ok (.iconst 0, 1) := by decide +kernel
theorem dL_act_348 : decode cL_act 348 = .ok (.ireturn, 1) := by decide +kernel
theorem dL_act_349 : decode cL_act 349 = .ok (.iload_n 3, 1) := by decide +kernel
theorem dL_act_350 : decode cL_act 350 = .ok (.iconst 1, 1) := by decide +kernel
theorem dL_act_351 : decode cL_act 351 = .ok (.if_icmp .ne 10, 3) := by decide +kernel
theorem dL_act_354 : decode cL_act 354 = .ok (.iload 4, 2) := by decide +kernel
theorem dL_act_356 : decode cL_act 356 = .ok (.bipush 11, 2) := by decide +kernel
theorem dL_act_358 : decode cL_act 358 = .ok (.if_icmp .lt 18, 3) := by decide +kernel
theorem dL_act_361 : decode cL_act 361 = .ok (.aload_n 0, 1) := by decide +kernel
theorem dL_act_362 : decode cL_act 362 = .ok (.aload_n 1, 1) := by decide +kernel
theorem dL_act_363 : decode cL_act 363 = .ok (.iload_n 2, 1) := by decide +kernel
theorem dL_act_364 : decode cL_act 364 = .ok (.iload 4, 2) := by decide +kernel
theorem dL_act_366 : decode cL_act 366 = .ok (.iload 5, 2) := by decide +kernel
theorem dL_act_368 : decode cL_act 368 = .ok (.iload 6, 2) := by decide +kernel
theorem dL_act_370 : decode cL_act 370 = .ok (.invokestatic 41, 3) := by decide +kernel
theorem dL_act_373 : decode cL_act 373 = .ok (.ifCond .eq 7, 3) := by decide +kernel
theorem dL_act_376 : decode cL_act 376 = .ok (.iconst 1, 1) := by decide +kernel
theorem dL_act_377 : decode cL_act 377 = .ok (.goto 4, 3) := by decide +kernel
theorem dL_act_380 : decode cL_act 380 = .ok (.iconst 0, 1) := by decide +kernel
theorem dL_act_381 : decode cL_act 381 = .ok (.ireturn, 1) := by decide +kernel
set_option maxRecDepth 20000 in
theorem ggL_works_X1_town : GoodIn wsL_works wsX1_town := goodIn_r _ [8, 9, 10, 11, 7, 12, 13, 14, 15, 16, 17, 18, 19, 20, 21, 22, 23, 24, 25, 26, 27, 28, 133, 134, 135, 136, 137] (by decide +kernel) (by decide +kernel)
set_option maxRecDepth 20000 in
theorem gL_works_X1_town : GoodIn wsL_works (wsV RL 45 RX1 yX1_town wsX1_town) := goodIn_app (goodIn_of _ (by decide +kernel)) ggL_works_X1_town
set_option maxRecDepth 20000 in
theorem ggL_works_L_below : GoodIn wsL_works wsL_below := goodIn_r _ [32, 33] (by decide +kernel) (by decide +kernel)
set_option maxRecDepth 20000 in
theorem gL_works_L_below : GoodIn wsL_works (va_wsS RL 15 yL_below wsL_below) := goodIn_app (goodIn_of _ (by decide +kernel)) ggL_works_L_below
set_option maxRecDepth 20000 in
theorem ggL_works_X1_cost : GoodIn wsL_works wsX1_cost := goodIn_r _ [36] (by decide +kernel) (by decide +kernel)
set_option maxRecDepth 20000 in
theorem gL_works_X1_cost : GoodIn wsL_works (va_wsS RL 49 yX1_cost wsX1_cost) := goodIn_app (goodIn_of _ (by decide +kernel)) ggL_works_X1_cost
set_option maxRecDepth 20000 in
theorem ggL_works_X1_pay : GoodIn wsL_works wsX1_pay := goodIn_r _ [40, 41, 42, 133, 134, 135, 136, 137] (by decide +kernel) (by decide +kernel)
set_option maxRecDepth 20000 in
theorem gL_works_X1_pay : GoodIn wsL_works (wsV RL 56 RX1 yX1_pay wsX1_pay) := goodIn_app (goodIn_of _ (by decide +kernel)) ggL_works_X1_pay
set_option maxRecDepth 20000 in
theorem ggL_works_X1_ticket : GoodIn wsL_works wsX1_ticket := goodIn_r _ [46, 13, 133, 134, 135, 136, 137] (by decide +kernel) (by decide +kernel)
set_option maxRecDepth 20000 in
theorem gL_works_X1_ticket : GoodIn wsL_works (wsV RL 60 RX1 yX1_ticket wsX1_ticket) := goodIn_app (goodIn_of _ (by decide +kernel)) ggL_works_X1_ticket
set_option maxRecDepth 20000 in
theorem ggL_works_X1_set : GoodIn wsL_works wsX1_set := goodIn_r _ [50, 13, 133, 134, 135, 136, 137] (by decide +kernel) (by decide +kernel)
set_option maxRecDepth 20000 in
theorem gL_works_X1_set : GoodIn wsL_works (wsV RL 63 RX1 yX1_set wsX1_set) := goodIn_app (goodIn_of _ (by decide +kernel)) ggL_works_X1_set
set_option maxRecDepth 20000 in
theorem ggL_works_X0_swapUmbrellas : GoodIn wsL_works wsX0_swapUmbrellas := goodIn_ca (goodIn_ca (goodIn_ca (goodIn_r _ [55, 56, 57, 58, 59, 60, 61, 62, 54, 63, 64, 65, 66, 67, 68, 69, 70, 71, 72, 73, 74, 75, 76, 77, 78, 79, 80, 81, 82, 83, 84, 85, 86, 87, 88, 89, 90, 91, 92, 93, 94, 95, 96, 23, 24, 25, 97, 98, 99, 100, 101, 102, 103, 104, 105, 106, 107, 108, 138, 139, 140, 141, 142, 143, 144, 145, 146] (by decide +kernel) (by decide +kernel)) (goodIn_sub (fun _ h => List.mem_cons_of_mem _ (List.mem_append_left _ (List.mem_append_left _ (List.mem_append_right _ h)))) (by decide +kernel))) (goodIn_sub (fun _ h => List.mem_cons_of_mem _ (List.mem_append_left _ (List.mem_append_right _ h))) (by decide +kernel))) (goodIn_sub (fun _ h => List.mem_cons_of_mem _ (List.mem_append_right _ h)) (by decide +kernel))
set_option maxRecDepth 20000 in
theorem gL_works_X0_swapUmbrellas : GoodIn wsL_works (wsV RL 67 RX0 yX0_swapUmbrellas wsX0_swapUmbrellas) := goodIn_app (goodIn_of _ (by decide +kernel)) ggL_works_X0_swapUmbrellas
set_option maxRecDepth 20000 in
theorem ggL_works_X0_swapTickets : GoodIn wsL_works wsX0_swapTickets := goodIn_ca (goodIn_ca (goodIn_ca (goodIn_r _ [112, 92, 60, 61, 62, 54, 63, 64, 65, 66, 67, 68, 69, 70, 71, 72, 73, 74, 75, 76, 56, 57, 77, 78, 79, 80, 81, 82, 83, 84, 85, 86, 58, 87, 88, 89, 90, 91, 59, 93, 94, 95, 96, 23, 24, 25, 97, 98, 99, 100, 101, 102, 103, 104, 105, 106, 107, 108, 138, 139, 140, 141, 142, 143, 144, 145, 146] (by decide +kernel) (by decide +kernel)) (goodIn_sub (fun _ h => List.mem_cons_of_mem _ (List.mem_append_left _ (List.mem_append_right _ h))) (by decide +kernel))) (goodIn_sub (fun _ h => List.mem_cons_of_mem _ (List.mem_append_right _ h)) (by decide +kernel))) (goodIn_sub (fun _ h => List.mem_cons_of_mem _ (List.mem_append_left _ (List.mem_append_left _ (List.mem_append_right _ h)))) (by decide +kernel))
set_option maxRecDepth 20000 in
theorem gL_works_X0_swapTickets : GoodIn wsL_works (wsV RL 70 RX0 yX0_swapTickets wsX0_swapTickets) := goodIn_app (goodIn_of _ (by decide +kernel)) ggL_works_X0_swapTickets
set_option maxRecDepth 20000 in
theorem ggL_works_X0_move : GoodIn wsL_works wsX0_move := goodIn_ca (goodIn_ca (goodIn_ca (goodIn_r _ [116, 64, 65, 56, 57, 58, 66, 67, 68, 54, 69, 70, 71, 72, 117, 118, 119, 120, 121, 122, 96, 23, 24, 25, 123, 124, 125, 73, 74, 75, 76, 77, 78, 138, 139, 140, 141, 142, 143, 144, 145, 146] (by decide +kernel) (by decide +kernel)) (goodIn_sub (fun _ h => List.mem_cons_of_mem _ (List.mem_append_left _ (List.mem_append_right _ h))) (by decide +kernel))) (goodIn_sub (fun _ h => List.mem_cons_of_mem _ (List.mem_append_left _ (List.mem_append_left _ (List.mem_append_right _ h)))) (by decide +kernel))) (goodIn_sub (fun _ h => List.mem_cons_of_mem _ (List.mem_append_right _ h)) (by decide +kernel))
set_option maxRecDepth 20000 in
theorem gL_works_X0_move : GoodIn wsL_works (wsV RL 73 RX0 yX0_move wsX0_move) := goodIn_app (goodIn_of _ (by decide +kernel)) ggL_works_X0_move
set_option maxRecDepth 20000 in
theorem ggL_works_X0_draw : GoodIn wsL_works wsX0_draw := goodIn_ca (goodIn_ca (goodIn_ca (goodIn_r _ [129, 64, 65, 92, 66, 67, 68, 54, 69, 70, 71, 72, 130, 131, 132, 73, 74, 75, 76, 56, 57, 77, 78, 138, 139, 140, 141, 142, 143, 144, 145, 146] (by decide +kernel) (by decide +kernel)) (goodIn_sub (fun _ h => List.mem_cons_of_mem _ (List.mem_append_left _ (List.mem_append_right _ h))) (by decide +kernel))) (goodIn_sub (fun _ h => List.mem_cons_of_mem _ (List.mem_append_right _ h)) (by decide +kernel))) (goodIn_sub (fun _ h => List.mem_cons_of_mem _ (List.mem_append_left _ (List.mem_append_left _ (List.mem_append_right _ h)))) (by decide +kernel))
set_option maxRecDepth 20000 in
theorem gL_works_X0_draw : GoodIn wsL_works (wsV RL 76 RX0 yX0_draw wsX0_draw) := goodIn_app (goodIn_of _ (by decide +kernel)) ggL_works_X0_draw
theorem dL_works_0 : decode cL_works 0 = .ok (.aload_n 1, 1) := by decide +kernel
theorem dL_works_1 : decode cL_works 1 = .ok (.invokevirtual 45, 3) := by decide +kernel
theorem dL_works_4 : decode cL_works 4 = .ok (.istore 6, 2) := by decide +kernel
theorem dL_works_6 : decode cL_works 6 = .ok (.iload_n 2, 1) := by decide +kernel
theorem dL_works_7 : decode cL_works 7 = .ok (.bipush 8, 2) := by decide +kernel
theorem dL_works_9 : decode cL_works 9 = .ok (.ishr, 1) := by decide +kernel
theorem dL_works_10 : decode cL_works 10 = .ok (.bipush 6, 2) := by decide +kernel
theorem dL_works_12 : decode cL_works 12 = .ok (.invokestatic 15, 3) := by decide +kernel
theorem dL_works_15 : decode cL_works 15 = .ok (.istore 7, 2) := by decide +kernel
theorem dL_works_17 : decode cL_works 17 = .ok (.iload_n 2, 1) := by decide +kernel
theorem dL_works_18 : decode cL_works 18 = .ok (.iconst 3, 1) := by decide +kernel
theorem dL_works_19 : decode cL_works 19 = .ok (.ishr, 1) := by decide +kernel
theorem dL_works_20 : decode cL_works 20 = .ok (.bipush 100, 2) := by decide +kernel
theorem dL_works_22 : decode cL_works 22 = .ok (.invokestatic 15, 3) := by decide +kernel
theorem dL_works_25 : decode cL_works 25 = .ok (.istore 8, 2) := by decide +kernel
theorem dL_works_27 : decode cL_works 27 = .ok (.iload_n 3, 1) := by decide +kernel
theorem dL_works_28 : decode cL_works 28 = .ok (.bipush 7, 2) := by decide +kernel
theorem dL_works_30 : decode cL_works 30 = .ok (.if_icmp .ge 7, 3) := by decide +kernel
theorem dL_works_33 : decode cL_works 33 = .ok (.iconst 3, 1) := by decide +kernel
theorem dL_works_34 : decode cL_works 34 = .ok (.goto 50, 3) := by decide +kernel
theorem dL_works_37 : decode cL_works 37 = .ok (.iload_n 3, 1) := by decide +kernel
theorem dL_works_38 : decode cL_works 38 = .ok (.bipush 9, 2) := by decide +kernel
theorem dL_works_40 : decode cL_works 40 = .ok (.if_icmp .ge 8, 3) := by decide +kernel
theorem dL_works_43 : decode cL_works 43 = .ok (.bipush 8, 2) := by decide +kernel
theorem dL_works_45 : decode cL_works 45 = .ok (.goto 39, 3) := by decide +kernel
theorem dL_works_48 : decode cL_works 48 = .ok (.iload_n 3, 1) := by decide +kernel
theorem dL_works_49 : decode cL_works 49 = .ok (.bipush 11, 2) := by decide +kernel
theorem dL_works_51 : decode cL_works 51 = .ok (.if_icmp .ge 8, 3) := by decide +kernel
theorem dL_works_54 : decode cL_works 54 = .ok (.bipush 8, 2) := by decide +kernel
theorem dL_works_56 : decode cL_works 56 = .ok (.goto 28, 3) := by decide +kernel
theorem dL_works_59 : decode cL_works 59 = .ok (.iload_n 3, 1) := by decide +kernel
theorem dL_works_60 : decode cL_works 60 = .ok (.bipush 13, 2) := by decide +kernel
theorem dL_works_62 : decode cL_works 62 = .ok (.if_icmp .ge 20, 3) := by decide +kernel
theorem dL_works_65 : decode cL_works 65 = .ok (.aload_n 1, 1) := by decide +kernel
theorem dL_works_66 : decode cL_works 66 = .ok (.getfield 9, 3) := by decide +kernel
theorem dL_works_69 : decode cL_works 69 = .ok (.iload 4, 2) := by decide +kernel
theorem dL_works_71 : decode cL_works 71 = .ok (.aaload, 1) := by decide +kernel
theorem dL_works_72 : decode cL_works 72 = .ok (.iconst 3, 1) := by decide +kernel
theorem dL_works_73 : decode cL_works 73 = .ok (.iaload, 1) := by decide +kernel
theorem dL_works_74 : decode cL_works 74 = .ok (.iload 7, 2) := by decide +kernel
theorem dL_works_76 : decode cL_works 76 = .ok (.invokestatic 49, 3) := by decide +kernel
theorem dL_works_79 : decode cL_works 79 = .ok (.goto 5, 3) := by decide +kernel
theorem dL_works_82 : decode cL_works 82 = .ok (.bipush 12, 2) := by decide +kernel
theorem dL_works_84 : decode cL_works 84 = .ok (.istore 9, 2) := by decide +kernel
theorem dL_works_86 : decode cL_works 86 = .ok (.iload 9, 2) := by decide +kernel
theorem dL_works_88 : decode cL_works 88 = .ok (.ifCond .le 43, 3) := by decide +kernel
theorem dL_works_91 : decode cL_works 91 = .ok (.iload 9, 2) := by decide +kernel
theorem dL_works_93 : decode cL_works 93 = .ok (.aload_n 1, 1) := by decide +kernel
theorem dL_works_94 : decode cL_works 94 = .ok (.getfield 52, 3) := by decide +kernel
theorem dL_works_97 : decode cL_works 97 = .ok (.if_icmp .gt 34, 3) := by decide +kernel
theorem dL_works_100 : decode cL_works 100 = .ok (.iload_n 3, 1) := by decide +kernel
theorem dL_works_101 : decode cL_works 101 = .ok (.bipush 6, 2) := by decide +kernel
theorem dL_works_103 : decode cL_works 103 = .ok (.if_icmp .gt 24, 3) := by decide +kernel
theorem dL_works_106 : decode cL_works 106 = .ok (.aload_n 1, 1) := by decide +kernel
theorem dL_works_107 : decode cL_works 107 = .ok (.getfield 9, 3) := by decide +kernel
theorem dL_works_110 : decode cL_works 110 = .ok (.iload 4, 2) := by decide +kernel
theorem dL_works_112 : decode cL_works 112 = .ok (.aaload, 1) := by decide +kernel
theorem dL_works_113 : decode cL_works 113 = .ok (.iconst 3, 1) := by decide +kernel
theorem dL_works_114 : decode cL_works 114 = .ok (.iaload, 1) := by decide +kernel
theorem dL_works_115 : decode cL_works 115 = .ok (.aload_n 1, 1) := by decide +kernel
theorem dL_works_116 : decode cL_works 116 = .ok (.getfield 9, 3) := by decide +kernel
theorem dL_works_119 : decode cL_works 119 = .ok (.iload 5, 2) := by decide +kernel
theorem dL_works_121 : decode cL_works 121 = .ok (.aaload, 1) := by decide +kernel
theorem dL_works_122 : decode cL_works 122 = .ok (.iconst 3, 1) := by decide +kernel
theorem dL_works_123 : decode cL_works 123 = .ok (.iaload, 1) := by decide +kernel
theorem dL_works_124 : decode cL_works 124 = .ok (.if_icmp .ne 7, 3) := by decide +kernel
theorem dL_works_127 : decode cL_works 127 = .ok (.iconst 1, 1) := by decide +kernel
theorem dL_works_128 : decode cL_works 128 = .ok (.goto 4, 3) := by decide +kernel
theorem dL_works_131 : decode cL_works 131 = .ok (.iconst 0, 1) := by decide +kernel
theorem dL_works_132 : decode cL_works 132 = .ok (.istore 10, 2) := by decide +kernel
theorem dL_works_134 : decode cL_works 134 = .ok (.iload 9, 2) := by decide +kernel
theorem dL_works_136 : decode cL_works 136 = .ok (.istore 11, 2) := by decide +kernel
theorem dL_works_138 : decode cL_works 138 = .ok (.iload 10, 2) := by decide +kernel
theorem dL_works_140 : decode cL_works 140 = .ok (.ifCond .eq 146, 3) := by decide +kernel
theorem dL_works_143 : decode cL_works 143 = .ok (.aload_n 1, 1) := by decide +kernel
theorem dL_works_144 : decode cL_works 144 = .ok (.iload 9, 2) := by decide +kernel
theorem dL_works_146 : decode cL_works 146 = .ok (.invokevirtual 56, 3) := by decide +kernel
theorem dL_works_149 : decode cL_works 149 = .ok (.iload_n 3, 1) := by decide +kernel
theorem dL_works_150 : decode cL_works 150 = .ok (.bipush 7, 2) := by decide +kernel
theorem dL_works_152 : decode cL_works 152 = .ok (.if_icmp .ge 46, 3) := by decide +kernel
theorem dL_works_155 : decode cL_works 155 = .ok (.aload_n 1, 1) := by decide +kernel
theorem dL_works_156 : decode cL_works 156 = .ok (.getfield 9, 3) := by decide +kernel
theorem dL_works_159 : decode cL_works 159 = .ok (.iload 4, 2) := by decide +kernel
theorem dL_works_161 : decode cL_works 161 = .ok (.aaload, 1) := by decide +kernel
theorem dL_works_162 : decode cL_works 162 = .ok (.iconst 2, 1) := by decide +kernel
theorem dL_works_163 : decode cL_works 163 = .ok (.iaload, 1) := by decide +kernel
theorem dL_works_164 : decode cL_works 164 = .ok (.istore 12, 2) := by decide +kernel
theorem dL_works_166 : decode cL_works 166 = .ok (.aload_n 1, 1) := by decide +kernel
theorem dL_works_167 : decode cL_works 167 = .ok (.getfield 9, 3) := by decide +kernel
theorem dL_works_170 : decode cL_works 170 = .ok (.iload 4, 2) := by decide +kernel
theorem dL_works_172 : decode cL_works 172 = .ok (.aaload, 1) := by decide +kernel
theorem dL_works_173 : decode cL_works 173 = .ok (.iconst 2, 1) := by decide +kernel
theorem dL_works_174 : decode cL_works 174 = .ok (.aload_n 1, 1) := by decide +kernel
theorem dL_works_175 : decode cL_works 175 = .ok (.getfield 9, 3) := by decide +kernel
theorem dL_works_178 : decode cL_works 178 = .ok (.iload 5, 2) := by decide +kernel
theorem dL_works_180 : decode cL_works 180 = .ok (.aaload, 1) := by decide +kernel
theorem dL_works_181 : decode cL_works 181 = .ok (.iconst 2, 1) := by decide +kernel
theorem dL_works_182 : decode cL_works 182 = .ok (.iaload, 1) := by decide +kernel
theorem dL_works_183 : decode cL_works 183 = .ok (.iastore, 1) := by decide +kernel
theorem dL_works_184 : decode cL_works 184 = .ok (.aload_n 1, 1) := by decide +kernel
theorem dL_works_185 : decode cL_works 185 = .ok (.getfield 9, 3) := by decide +kernel
theorem dL_works_188 : decode cL_works 188 = .ok (.iload 5, 2) := by decide +kernel
theorem dL_works_190 : decode cL_works 190 = .ok (.aaload, 1) := by decide +kernel
theorem dL_works_191 : decode cL_works 191 = .ok (.iconst 2, 1) := by decide +kernel
theorem dL_works_192 : decode cL_works 192 = .ok (.iload 12, 2) := by decide +kernel
theorem dL_works_194 : decode cL_works 194 = .ok (.iastore, 1) := by decide +kernel
theorem dL_works_195 : decode cL_works 195 = .ok (.goto 76, 3) := by decide +kernel
theorem dL_works_198 : decode cL_works 198 = .ok (.iload_n 3, 1) := by decide +kernel
theorem dL_works_199 : decode cL_works 199 = .ok (.bipush 11, 2) := by decide +kernel
theorem dL_works_201 : decode cL_works 201 = .ok (.if_icmp .ge 34, 3) := by decide +kernel
theorem dL_works_204 : decode cL_works 204 = .ok (.aload_n 1, 1) := by decide +kernel
theorem dL_works_205 : decode cL_works 205 = .ok (.iload 4, 2) := by decide +kernel
theorem dL_works_207 : decode cL_works 207 = .ok (.invokevirtual 60, 3) := by decide +kernel
theorem dL_works_210 : decode cL_works 210 = .ok (.istore 12, 2) := by decide +kernel
theorem dL_works_212 : decode cL_works 212 = .ok (.aload_n 1, 1) := by decide +kernel
theorem dL_works_213 : decode cL_works 213 = .ok (.iload 4, 2) := by decide +kernel
theorem dL_works_215 : decode cL_works 215 = .ok (.aload_n 1, 1) := by decide +kernel
theorem dL_works_216 : decode cL_works 216 = .ok (.iload 5, 2) := by decide +kernel
theorem dL_works_218 : decode cL_works 218 = .ok (.invokevirtual 60, 3) := by decide +kernel
theorem dL_works_221 : decode cL_works 221 = .ok (.invokevirtual 63, 3) := by decide +kernel
theorem dL_works_224 : decode cL_works 224 = .ok (.aload_n 1, 1) := by decide +kernel
theorem dL_works_225 : decode cL_works 225 = .ok (.iload 5, 2) := by decide +kernel
theorem dL_works_227 : decode cL_works 227 = .ok (.iload 12, 2) := by decide +kernel
theorem dL_works_229 : decode cL_works 229 = .ok (.invokevirtual 63, 3) := by decide +kernel
theorem dL_works_232 : decode cL_works 232 = .ok (.goto 39, 3) := by decide +kernel
theorem dL_works_235 : decode cL_works 235 = .ok (.iload_n 3, 1) := by decide +kernel
theorem dL_works_236 : decode cL_works 236 = .ok (.bipush 13, 2) := by decide +kernel
theorem dL_works_238 : decode cL_works 238 = .ok (.if_icmp .ge 17, 3) := by decide +kernel
theorem dL_works_241 : decode cL_works 241 = .ok (.aload_n 1, 1) := by decide +kernel
theorem dL_works_242 : decode cL_works 242 = .ok (.getfield 9, 3) := by decide +kernel
theorem dL_works_245 : decode cL_works 245 = .ok (.iload 4, 2) := by decide +kernel
theorem dL_works_247 : decode cL_works 247 = .ok (.aaload, 1) := by decide +kernel
theorem dL_works_248 : decode cL_works 248 = .ok (.iconst 3, 1) := by decide +kernel
theorem dL_works_249 : decode cL_works 249 = .ok (.iload 7, 2) := by decide +kernel
theorem dL_works_251 : decode cL_works 251 = .ok (.iastore, 1) := by decide +kernel
theorem dL_works_252 : decode cL_works 252 = .ok (.goto 19, 3) := by decide +kernel
theorem dL_works_255 : decode cL_works 255 = .ok (.aload_n 1, 1) := by decide +kernel
theorem dL_works_256 : decode cL_works 256 = .ok (.iload 4, 2) := by decide +kernel
theorem dL_works_258 : decode cL_works 258 = .ok (.invokevirtual 60, 3) := by decide +kernel
theorem dL_works_261 : decode cL_works 261 = .ok (.istore 11, 2) := by decide +kernel
theorem dL_works_263 : decode cL_works 263 = .ok (.aload_n 1, 1) := by decide +kernel
theorem dL_works_264 : decode cL_works 264 = .ok (.iload 4, 2) := by decide +kernel
theorem dL_works_266 : decode cL_works 266 = .ok (.iload 8, 2) := by decide +kernel
theorem dL_works_268 : decode cL_works 268 = .ok (.invokevirtual 63, 3) := by decide +kernel
theorem dL_works_271 : decode cL_works 271 = .ok (.iload_n 3, 1) := by decide +kernel
theorem dL_works_272 : decode cL_works 272 = .ok (.bipush 11, 2) := by decide +kernel
theorem dL_works_274 : decode cL_works 274 = .ok (.if_icmp .ge 12, 3) := by decide +kernel
theorem dL_works_277 : decode cL_works 277 = .ok (.aload_n 1, 1) := by decide +kernel
theorem dL_works_278 : decode cL_works 278 = .ok (.invokevirtual 45, 3) := by decide +kernel
theorem dL_works_281 : decode cL_works 281 = .ok (.iload 6, 2) := by decide +kernel
theorem dL_works_283 : decode cL_works 283 = .ok (.isub, 1) := by decide +kernel
theorem dL_works_284 : decode cL_works 284 = .ok (.istore 11, 2) := by decide +kernel
theorem dL_works_286 : decode cL_works 286 = .ok (.iload_n 3, 1) := by decide +kernel
theorem dL_works_287 : decode cL_works 287 = .ok (.bipush 7, 2) := by decide +kernel
theorem dL_works_289 : decode cL_works 289 = .ok (.if_icmp .ge 14, 3) := by decide +kernel
theorem dL_works_292 : decode cL_works 292 = .ok (.aload_n 0, 1) := by decide +kernel
theorem dL_works_293 : decode cL_works 293 = .ok (.iload 4, 2) := by decide +kernel
theorem dL_works_295 : decode cL_works 295 = .ok (.iload 5, 2) := by decide +kernel
theorem dL_works_297 : decode cL_works 297 = .ok (.invokevirtual 67, 3) := by decide +kernel
theorem dL_works_300 : decode cL_works 300 = .ok (.goto 45, 3) := by decide +kernel
theorem dL_works_303 : decode cL_works 303 = .ok (.iload_n 3, 1) := by decide +kernel
theorem dL_works_304 : decode cL_works 304 = .ok (.bipush 11, 2) := by decide +kernel
theorem dL_works_306 : decode cL_works 306 = .ok (.if_icmp .ge 14, 3) := by decide +kernel
theorem dL_works_309 : decode cL_works 309 = .ok (.aload_n 0, 1) := by decide +kernel
theorem dL_works_310 : decode cL_works 310 = .ok (.iload 4, 2) := by decide +kernel
theorem dL_works_312 : decode cL_works 312 = .ok (.iload 5, 2) := by decide +kernel
theorem dL_works_314 : decode cL_works 314 = .ok (.invokevirtual 70, 3) := by decide +kernel
theorem dL_works_317 : decode cL_works 317 = .ok (.goto 28, 3) := by decide +kernel
theorem dL_works_320 : decode cL_works 320 = .ok (.iload_n 3, 1) := by decide +kernel
theorem dL_works_321 : decode cL_works 321 = .ok (.bipush 13, 2) := by decide +kernel
theorem dL_works_323 : decode cL_works 323 = .ok (.if_icmp .ge 14, 3) := by decide +kernel
theorem dL_works_326 : decode cL_works 326 = .ok (.aload_n 0, 1) := by decide +kernel
theorem dL_works_327 : decode cL_works 327 = .ok (.iload 4, 2) := by decide +kernel
theorem dL_works_329 : decode cL_works 329 = .ok (.iload 7, 2) := by decide +kernel
theorem dL_works_331 : decode cL_works 331 = .ok (.invokevirtual 73, 3) := by decide +kernel
theorem dL_works_334 : decode cL_works 334 = .ok (.goto 11, 3) := by decide +kernel
theorem dL_works_337 : decode cL_works 337 = .ok (.aload_n 0, 1) := by decide +kernel
theorem dL_works_338 : decode cL_works 338 = .ok (.iload 4, 2) := by decide +kernel
theorem dL_works_340 : decode cL_works 340 = .ok (.iload 8, 2) := by decide +kernel
theorem dL_works_342 : decode cL_works 342 = .ok (.invokevirtual 76, 3) := by decide +kernel
theorem dL_works_345 : decode cL_works 345 = .ok (.iload 11, 2) := by decide +kernel
theorem dL_works_347 : decode cL_works 347 = .ok (.if_icmp .ne 12, 3) := by decide +kernel
theorem dL_works_350 : decode cL_works 350 = .ok (.iload 10, 2) := by decide +kernel
theorem dL_works_352 : decode cL_works 352 = .ok (.ifCond .eq 7, 3) := by decide +kernel
theorem dL_works_355 : decode cL_works 355 = .ok (.iconst 1, 1) := by decide +kernel
theorem dL_works_356 : decode cL_works 356 = .ok (.goto 4, 3) := by decide +kernel
theorem dL_works_359 : decode cL_works 359 = .ok (.iconst 0, 1) := by decide +kernel
theorem dL_works_360 : decode cL_works 360 = .ok (.ireturn, 1) := by decide +kernel
theorem dL_works_361 : decode cL_works 361 = .ok (.astore 12, 2) := by decide +kernel
theorem dL_works_363 : decode cL_works 363 = .ok (.iload 10, 2) := by decide +kernel
theorem dL_works_365 : decode cL_works 365 = .ok (.ifCond .ne 7, 3) := by decide +kernel
theorem dL_works_368 : decode cL_works 368 = .ok (.iconst 1, 1) := by decide +kernel
theorem dL_works_369 : decode cL_works 369 = .ok (.goto 4, 3) := by decide +kernel
theorem dL_works_372 : decode cL_works 372 = .ok (.iconst 0, 1) := by decide +kernel
theorem dL_works_373 : decode cL_works 373 = .ok (.ireturn, 1) := by decide +kernel
set_option maxRecDepth 20000 in
theorem ggL_build_X1_init : GoodIn wsL_build wsX1_init := goodIn_r _ [7, 8, 9, 10, 11, 12, 13, 52, 53, 54, 55, 56] (by decide +kernel) (by decide +kernel)
set_option maxRecDepth 20000 in
theorem gL_build_X1_init_n79 : GoodIn wsL_build (wsX1_init) := ggL_build_X1_init
set_option maxRecDepth 20000 in
theorem ggL_build_L_cell : GoodIn wsL_build wsL_cell := goodIn_r _ [17, 18] (by decide +kernel) (by decide +kernel)
set_option maxRecDepth 20000 in
theorem gL_build_L_cell : GoodIn wsL_build (va_wsS RL 80 yL_cell wsL_cell) := goodIn_app (goodIn_of _ (by decide +kernel)) ggL_build_L_cell
set_option maxRecDepth 20000 in
theorem ggL_build_L_below : GoodIn wsL_build wsL_below := goodIn_r _ [21, 22] (by decide +kernel) (by decide +kernel)
set_option maxRecDepth 20000 in
theorem gL_build_L_below : GoodIn wsL_build (va_wsS RL 15 yL_below wsL_below) := goodIn_app (goodIn_of _ (by decide +kernel)) ggL_build_L_below
set_option maxRecDepth 20000 in
theorem ggL_build_X1_with : GoodIn wsL_build wsX1_with := goodIn_r _ [25, 12] (by decide +kernel) (by decide +kernel)
set_option maxRecDepth 20000 in
theorem gL_build_X1_with : GoodIn wsL_build (va_wsS RL 21 yX1_with wsX1_with) := goodIn_app (goodIn_of _ (by decide +kernel)) ggL_build_X1_with
set_option maxRecDepth 20000 in
theorem ggL_build_X0_addStranger : GoodIn wsL_build wsX0_addStranger := goodIn_ca (goodIn_ca (goodIn_r _ [30, 31, 32, 33, 34, 35, 36, 37, 38, 39, 40, 41, 29, 42, 43, 44, 45, 46, 47, 48, 49, 50, 51, 57, 58, 59, 60, 61, 62, 63, 64, 65] (by decide +kernel) (by decide +kernel)) (goodIn_sub (fun _ h => List.mem_cons_of_mem _ (List.mem_append_left _ (List.mem_append_right _ h))) (by decide +kernel))) (goodIn_sub (fun _ h => List.mem_cons_of_mem _ (List.mem_append_right _ h)) (by decide +kernel))
set_option maxRecDepth 20000 in
theorem gL_build_X0_addStranger : GoodIn wsL_build (wsV RL 25 RX0 yX0_addStranger wsX0_addStranger) := goodIn_app (goodIn_of _ (by decide +kernel)) ggL_build_X0_addStranger
theorem dL_build_0 : decode cL_build 0 = .ok (.new 10, 3) := by decide +kernel
theorem dL_build_3 : decode cL_build 3 = .ok (.dup, 1) := by decide +kernel
theorem dL_build_4 : decode cL_build 4 = .ok (.invokespecial 79, 3) := by decide +kernel
theorem dL_build_7 : decode cL_build 7 = .ok (.astore_n 2, 1) := by decide +kernel
theorem dL_build_8 : decode cL_build 8 = .ok (.iconst 1, 1) := by decide +kernel
theorem dL_build_9 : decode cL_build 9 = .ok (.aload_n 1, 1) := by decide +kernel
theorem dL_build_10 : decode cL_build 10 = .ok (.iconst 0, 1) := by decide +kernel
theorem dL_build_11 : decode cL_build 11 = .ok (.invokestatic 80, 3) := by decide +kernel
theorem dL_build_14 : decode cL_build 14 = .ok (.bipush 12, 2) := by decide +kernel
theorem dL_build_16 : decode cL_build 16 = .ok (.invokestatic 15, 3) := by decide +kernel
theorem dL_build_19 : decode cL_build 19 = .ok (.iadd, 1) := by decide +kernel
theorem dL_build_20 : decode cL_build 20 = .ok (.istore_n 3, 1) := by decide +kernel
theorem dL_build_21 : decode cL_build 21 = .ok (.iconst 0, 1) := by decide +kernel
theorem dL_build_22 : decode cL_build 22 = .ok (.istore 4, 2) := by decide +kernel
theorem dL_build_24 : decode cL_build 24 = .ok (.iload 4, 2) := by decide +kernel
theorem dL_build_26 : decode cL_build 26 = .ok (.iload_n 3, 1) := by decide +kernel
theorem dL_build_27 : decode cL_build 27 = .ok (.if_icmp .ge 162, 3) := by decide +kernel
theorem dL_build_30 : decode cL_build 30 = .ok (.aload_n 1, 1) := by decide +kernel
theorem dL_build_31 : decode cL_build 31 = .ok (.iconst 1, 1) := by decide +kernel
theorem dL_build_32 : decode cL_build 32 = .ok (.iload 4, 2) := by decide +kernel
theorem dL_build_34 : decode cL_build 34 = .ok (.iadd, 1) := by decide +kernel
theorem dL_build_35 : decode cL_build 35 = .ok (.invokestatic 80, 3) := by decide +kernel
theorem dL_build_38 : decode cL_build 38 = .ok (.istore 5, 2) := by decide +kernel
theorem dL_build_40 : decode cL_build 40 = .ok (.iconst 5, 1) := by decide +kernel
theorem dL_build_41 : decode cL_build 41 = .ok (.newarray .int, 2) := by decide +kernel
theorem dL_build_43 : decode cL_build 43 = .ok (.dup, 1) := by decide +kernel
theorem dL_build_44 : decode cL_build 44 = .ok (.iconst 0, 1) := by decide +kernel
theorem dL_build_45 : decode cL_build 45 = .ok (.iload 5, 2) := by decide +kernel
theorem dL_build_47 : decode cL_build 47 = .ok (.iload 5, 2) := by decide +kernel
theorem dL_build_49 : decode cL_build 49 = .ok (.bipush 9, 2) := by decide +kernel
theorem dL_build_51 : decode cL_build 51 = .ok (.ishr, 1) := by decide +kernel
theorem dL_build_52 : decode cL_build 52 = .ok (.iconst 3, 1) := by decide +kernel
theorem dL_build_53 : decode cL_build 53 = .ok (.invokestatic 15, 3) := by decide +kernel
theorem dL_build_56 : decode cL_build 56 = .ok (.ifCond .ne 8, 3) := by decide +kernel
theorem dL_build_59 : decode cL_build 59 = .ok (.bipush 10, 2) := by decide +kernel
theorem dL_build_61 : decode cL_build 61 = .ok (.goto 4, 3) := by decide +kernel
theorem dL_build_64 : decode cL_build 64 = .ok (.iconst 4, 1) := by decide +kernel
theorem dL_build_65 : decode cL_build 65 = .ok (.invokestatic 15, 3) := by decide +kernel
theorem dL_build_68 : decode cL_build 68 = .ok (.iastore, 1) := by decide +kernel
theorem dL_build_69 : decode cL_build 69 = .ok (.dup, 1) := by decide +kernel
theorem dL_build_70 : decode cL_build 70 = .ok (.iconst 1, 1) := by decide +kernel
theorem dL_build_71 : decode cL_build 71 = .ok (.iload 5, 2) := by decide +kernel
theorem dL_build_73 : decode cL_build 73 = .ok (.iconst 3, 1) := by decide +kernel
theorem dL_build_74 : decode cL_build 74 = .ok (.ishr, 1) := by decide +kernel
theorem dL_build_75 : decode cL_build 75 = .ok (.iload 5, 2) := by decide +kernel
theorem dL_build_77 : decode cL_build 77 = .ok (.bipush 8, 2) := by decide +kernel
theorem dL_build_79 : decode cL_build 79 = .ok (.ishr, 1) := by decide +kernel
theorem dL_build_80 : decode cL_build 80 = .ok (.iconst 3, 1) := by decide +kernel
theorem dL_build_81 : decode cL_build 81 = .ok (.invokestatic 15, 3) := by decide +kernel
theorem dL_build_84 : decode cL_build 84 = .ok (.ifCond .ne 8, 3) := by decide +kernel
theorem dL_build_87 : decode cL_build 87 = .ok (.bipush 10, 2) := by decide +kernel
theorem dL_build_89 : decode cL_build 89 = .ok (.goto 4, 3) := by decide +kernel
theorem dL_build_92 : decode cL_build 92 = .ok (.iconst 4, 1) := by decide +kernel
theorem dL_build_93 : decode cL_build 93 = .ok (.invokestatic 15, 3) := by decide +kernel
theorem dL_build_96 : decode cL_build 96 = .ok (.iastore, 1) := by decide +kernel
theorem dL_build_97 : decode cL_build 97 = .ok (.dup, 1) := by decide +kernel
theorem dL_build_98 : decode cL_build 98 = .ok (.iconst 2, 1) := by decide +kernel
theorem dL_build_99 : decode cL_build 99 = .ok (.iload 5, 2) := by decide +kernel
theorem dL_build_101 : decode cL_build 101 = .ok (.iconst 5, 1) := by decide +kernel
theorem dL_build_102 : decode cL_build 102 = .ok (.ishr, 1) := by decide +kernel
theorem dL_build_103 : decode cL_build 103 = .ok (.iconst 5, 1) := by decide +kernel
theorem dL_build_104 : decode cL_build 104 = .ok (.invokestatic 15, 3) := by decide +kernel
theorem dL_build_107 : decode cL_build 107 = .ok (.iastore, 1) := by decide +kernel
theorem dL_build_108 : decode cL_build 108 = .ok (.dup, 1) := by decide +kernel
theorem dL_build_109 : decode cL_build 109 = .ok (.iconst 3, 1) := by decide +kernel
theorem dL_build_110 : decode cL_build 110 = .ok (.iload 5, 2) := by decide +kernel
theorem dL_build_112 : decode cL_build 112 = .ok (.bipush 6, 2) := by decide +kernel
theorem dL_build_114 : decode cL_build 114 = .ok (.ishr, 1) := by decide +kernel
theorem dL_build_115 : decode cL_build 115 = .ok (.bipush 6, 2) := by decide +kernel
theorem dL_build_117 : decode cL_build 117 = .ok (.invokestatic 15, 3) := by decide +kernel
theorem dL_build_120 : decode cL_build 120 = .ok (.iastore, 1) := by decide +kernel
theorem dL_build_121 : decode cL_build 121 = .ok (.dup, 1) := by decide +kernel
theorem dL_build_122 : decode cL_build 122 = .ok (.iconst 4, 1) := by decide +kernel
theorem dL_build_123 : decode cL_build 123 = .ok (.iload 5, 2) := by decide +kernel
theorem dL_build_125 : decode cL_build 125 = .ok (.iconst 2, 1) := by decide +kernel
theorem dL_build_126 : decode cL_build 126 = .ok (.ishr, 1) := by decide +kernel
theorem dL_build_127 : decode cL_build 127 = .ok (.bipush 6, 2) := by decide +kernel
theorem dL_build_129 : decode cL_build 129 = .ok (.invokestatic 15, 3) := by decide +kernel
theorem dL_build_132 : decode cL_build 132 = .ok (.iastore, 1) := by decide +kernel
theorem dL_build_133 : decode cL_build 133 = .ok (.astore 6, 2) := by decide +kernel
theorem dL_build_135 : decode cL_build 135 = .ok (.aload_n 2, 1) := by decide +kernel
theorem dL_build_136 : decode cL_build 136 = .ok (.aload_n 2, 1) := by decide +kernel
theorem dL_build_137 : decode cL_build 137 = .ok (.getfield 9, 3) := by decide +kernel
theorem dL_build_140 : decode cL_build 140 = .ok (.aload 6, 2) := by decide +kernel
theorem dL_build_142 : decode cL_build 142 = .ok (.invokestatic 21, 3) := by decide +kernel
theorem dL_build_145 : decode cL_build 145 = .ok (.putfield 9, 3) := by decide +kernel
theorem dL_build_148 : decode cL_build 148 = .ok (.aload_n 0, 1) := by decide +kernel
theorem dL_build_149 : decode cL_build 149 = .ok (.bipush 10, 2) := by decide +kernel
theorem dL_build_151 : decode cL_build 151 = .ok (.aload 6, 2) := by decide +kernel
theorem dL_build_153 : decode cL_build 153 = .ok (.iconst 0, 1) := by decide +kernel
theorem dL_build_154 : decode cL_build 154 = .ok (.iaload, 1) := by decide +kernel
theorem dL_build_155 : decode cL_build 155 = .ok (.imul, 1) := by decide +kernel
theorem dL_build_156 : decode cL_build 156 = .ok (.aload 6, 2) := by decide +kernel
theorem dL_build_158 : decode cL_build 158 = .ok (.iconst 1, 1) := by decide +kernel
theorem dL_build_159 : decode cL_build 159 = .ok (.iaload, 1) := by decide +kernel
theorem dL_build_160 : decode cL_build 160 = .ok (.iadd, 1) := by decide +kernel
theorem dL_build_161 : decode cL_build 161 = .ok (.aload 6, 2) := by decide +kernel
theorem dL_build_163 : decode cL_build 163 = .ok (.iconst 2, 1) := by decide +kernel
theorem dL_build_164 : decode cL_build 164 = .ok (.iaload, 1) := by decide +kernel
theorem dL_build_165 : decode cL_build 165 = .ok (.aload 6, 2) := by decide +kernel
theorem dL_build_167 : decode cL_build 167 = .ok (.iconst 3, 1) := by decide +kernel
theorem dL_build_168 : decode cL_build 168 = .ok (.iaload, 1) := by decide +kernel
theorem dL_build_169 : decode cL_build 169 = .ok (.aload 6, 2) := by decide +kernel
theorem dL_build_171 : decode cL_build 171 = .ok (.iconst 4, 1) := by decide +kernel
theorem dL_build_172 : decode cL_build 172 = .ok (.iaload, 1) := by decide +kernel
theorem dL_build_173 : decode cL_build 173 = .ok (.invokevirtual 25, 3) := by decide +kernel
theorem dL_build_176 : decode cL_build 176 = .ok (.iload 4, 2) := by decide +kernel
theorem dL_build_178 : decode cL_build 178 = .ok (.if_icmp .eq 5, 3) := by decide +kernel
theorem dL_build_181 : decode cL_build 181 = .ok (.aconst_null, 1) := by decide +kernel
theorem dL_build_182 : decode cL_build 182 = .ok (.areturn, 1) := by decide +kernel
theorem dL_build_183 : decode cL_build 183 = .ok (.iinc 4 1, 3) := by decide +kernel
theorem dL_build_186 : decode cL_build 186 = .ok (.goto (-162), 3) := by decide +kernel
theorem dL_build_189 : decode cL_build 189 = .ok (.aload_n 2, 1) := by decide +kernel
theorem dL_build_190 : decode cL_build 190 = .ok (.areturn, 1) := by decide +kernel
