set_option maxRecDepth 20000 in
theorem ggL_parade_X4_count : GoodIn wsL_parade wsX4_count := goodIn_ca (goodIn_r _ [5, 6, 7, 8, 9, 10, 4, 11, 12, 13, 14, 15, 16, 17, 18, 19, 20, 21, 22, 23, 24, 25, 26, 27, 28, 29, 30, 31, 32, 33, 34, 35, 36, 37, 38, 39, 40, 41, 42, 43, 44, 45, 46, 47, 48, 49, 50, 51, 52, 53, 54, 55, 56, 57, 58, 59, 60, 61, 62, 63, 64, 65, 66, 67, 68, 69, 70, 71, 72, 73, 74, 75, 76, 77, 78, 79, 80, 81, 82, 83, 84, 85, 86, 87, 88, 89, 168, 169, 170, 171, 172, 173, 174, 175, 176, 177, 178, 179, 180, 181, 182, 183, 184, 185, 186, 187] (by decide +kernel) (by decide +kernel)) (goodIn_sub (fun _ h => List.mem_cons_of_mem _ (List.mem_append_left _ (List.mem_append_right _ h))) (by decide +kernel))
set_option maxRecDepth 20000 in
theorem gL_parade_X4_count : GoodIn wsL_parade (wsV RL 25 RX4 yX4_count wsX4_count) := goodIn_app (goodIn_of _ (by decide +kernel)) ggL_parade_X4_count
set_option maxRecDepth 20000 in
theorem ggL_parade_X4_setting : GoodIn wsL_parade wsX4_setting := goodIn_ca (goodIn_r _ [93, 12, 94, 95, 96, 4, 97, 98, 99, 168, 169, 170, 171, 172, 173, 174, 175, 176, 177, 178, 179, 180, 181, 182, 183, 184, 185] (by decide +kernel) (by decide +kernel)) (goodIn_sub (fun _ h => List.mem_cons_of_mem _ (List.mem_append_right _ h)) (by decide +kernel))
set_option maxRecDepth 20000 in
theorem gL_parade_X4_setting : GoodIn wsL_parade (wsV RL 29 RX4 yX4_setting wsX4_setting) := goodIn_app (goodIn_of _ (by decide +kernel)) ggL_parade_X4_setting
set_option maxRecDepth 20000 in
theorem ggL_parade_X4_bestFold : GoodIn wsL_parade wsX4_bestFold := goodIn_r _ [103, 104, 12, 13, 105, 106, 107, 108, 20, 109, 22, 32, 64, 31, 63, 47, 52, 58, 37, 42, 43, 44, 45, 46, 48, 49, 50, 51, 53, 54, 55, 56, 57, 59, 60, 61, 62, 168, 169, 170, 171, 172, 173, 174, 175, 176, 177, 178, 179, 180, 181, 182, 183, 184, 185] (by decide +kernel) (by decide +kernel)
set_option maxRecDepth 20000 in
theorem gL_parade_X4_bestFold : GoodIn wsL_parade (wsV RL 32 RX4 yX4_bestFold wsX4_bestFold) := goodIn_app (goodIn_of _ (by decide +kernel)) ggL_parade_X4_bestFold
set_option maxRecDepth 20000 in
theorem ggL_parade_X4_trouble : GoodIn wsL_parade wsX4_trouble := goodIn_ca (goodIn_ca (goodIn_r _ [113, 6, 7, 12, 114, 115, 116, 4, 117, 98, 99, 13, 118, 119, 120, 20, 121, 27, 28, 29, 30, 31, 32, 33, 34, 35, 36, 37, 38, 39, 40, 41, 168, 169, 170, 171, 172, 173, 174, 175, 176, 177, 178, 179, 180, 181, 182, 183, 184, 185] (by decide +kernel) (by decide +kernel)) (goodIn_sub (fun _ h => List.mem_cons_of_mem _ (List.mem_append_left _ (List.mem_append_right _ h))) (by decide +kernel))) (goodIn_sub (fun _ h => List.mem_cons_of_mem _ (List.mem_append_right _ h)) (by decide +kernel))
set_option maxRecDepth 20000 in
theorem gL_parade_X4_trouble : GoodIn wsL_parade (wsV RL 35 RX4 yX4_trouble wsX4_trouble) := goodIn_app (goodIn_of _ (by decide +kernel)) ggL_parade_X4_trouble
set_option maxRecDepth 20000 in
theorem ggL_parade_X4_floatAt : GoodIn wsL_parade wsX4_floatAt := goodIn_ca (goodIn_ca (goodIn_r _ [125, 6, 7, 12, 114, 115, 116, 4, 117, 98, 99, 13, 126, 127, 128, 20, 129, 32, 64, 31, 63, 59, 60, 61, 62, 69, 70, 71, 72, 47, 73, 74, 75, 76, 58, 23, 24, 25, 26, 27, 28, 29, 30, 33, 34, 35, 36, 37, 38, 39, 40, 41, 168, 169, 170, 171, 172, 173, 174, 175, 176, 177, 178, 179, 180, 181, 182, 183, 184, 185] (by decide +kernel) (by decide +kernel)) (goodIn_sub (fun _ h => List.mem_cons_of_mem _ (List.mem_append_left _ (List.mem_append_right _ h))) (by decide +kernel))) (goodIn_sub (fun _ h => List.mem_cons_of_mem _ (List.mem_append_right _ h)) (by decide +kernel))
set_option maxRecDepth 20000 in
theorem gL_parade_X4_floatAt : GoodIn wsL_parade (wsV RL 38 RX4 yX4_floatAt wsX4_floatAt) := goodIn_app (goodIn_of _ (by decide +kernel)) ggL_parade_X4_floatAt
set_option maxRecDepth 20000 in
theorem ggL_parade_X4_bridgeOf : GoodIn wsL_parade wsX4_bridgeOf := goodIn_ca (goodIn_ca (goodIn_r _ [133, 6, 7, 12, 134, 135, 136, 4, 137, 98, 99, 14, 138, 139, 140, 20, 141, 52, 58, 142, 143, 144, 145, 22, 73, 74, 75, 76, 59, 60, 61, 62, 63, 64, 168, 169, 170, 171, 172, 173, 174, 175, 176, 177, 178, 179, 180, 181, 182, 183, 184, 185] (by decide +kernel) (by decide +kernel)) (goodIn_sub (fun _ h => List.mem_cons_of_mem _ (List.mem_append_left _ (List.mem_append_right _ h))) (by decide +kernel))) (goodIn_sub (fun _ h => List.mem_cons_of_mem _ (List.mem_append_right _ h)) (by decide +kernel))
set_option maxRecDepth 20000 in
theorem gL_parade_X4_bridgeOf : GoodIn wsL_parade (wsV RL 41 RX4 yX4_bridgeOf wsX4_bridgeOf) := goodIn_app (goodIn_of _ (by decide +kernel)) ggL_parade_X4_bridgeOf
set_option maxRecDepth 20000 in
theorem ggL_parade_X4_comes : GoodIn wsL_parade wsX4_comes := goodIn_ca (goodIn_r _ [149, 12, 150, 14, 114, 115, 116, 4, 117, 98, 99, 13, 134, 135, 136, 137, 151, 49, 50, 20, 51, 37, 47, 52, 53, 54, 55, 56, 57, 46, 58, 59, 60, 61, 62, 63, 64, 168, 169, 170, 171, 172, 173, 174, 175, 176, 177, 178, 179, 180, 181, 182, 183, 184, 185] (by decide +kernel) (by decide +kernel)) (goodIn_sub (fun _ h => List.mem_cons_of_mem _ (List.mem_append_right _ h)) (by decide +kernel))
set_option maxRecDepth 20000 in
theorem gL_parade_X4_comes : GoodIn wsL_parade (wsV RL 44 RX4 yX4_comes wsX4_comes) := goodIn_app (goodIn_of _ (by decide +kernel)) ggL_parade_X4_comes
set_option maxRecDepth 20000 in
theorem ggL_parade_X4_smoothness : GoodIn wsL_parade wsX4_smoothness := goodIn_r _ [155, 12, 13, 77, 78, 79, 20, 80, 22, 23, 24, 25, 26, 27, 28, 29, 30, 31, 32, 33, 34, 35, 36, 37, 38, 39, 40, 41, 168, 169, 170, 171, 172, 173, 174, 175, 176, 177, 178, 179, 180, 181, 182, 183, 184, 185] (by decide +kernel) (by decide +kernel)
set_option maxRecDepth 20000 in
theorem gL_parade_X4_smoothness : GoodIn wsL_parade (wsV RL 47 RX4 yX4_smoothness wsX4_smoothness) := goodIn_app (goodIn_of _ (by decide +kernel)) ggL_parade_X4_smoothness
set_option maxRecDepth 20000 in
theorem ggL_parade_X4_leastTrouble : GoodIn wsL_parade wsX4_leastTrouble := goodIn_r _ [159, 12, 13, 104, 106, 107, 108, 20, 109, 22, 32, 64, 31, 63, 47, 52, 58, 37, 17, 18, 19, 21, 23, 24, 25, 26, 27, 28, 29, 30, 33, 34, 35, 36, 38, 39, 40, 41, 160, 161, 4, 162, 163, 164, 165, 166, 167, 168, 169, 170, 171, 172, 173, 174, 175, 176, 177, 178, 179, 180, 181, 182, 183, 184, 185] (by decide +kernel) (by decide +kernel)
set_option maxRecDepth 20000 in
theorem gL_parade_X4_leastTrouble : GoodIn wsL_parade (wsV RL 51 RX4 yX4_leastTrouble wsX4_leastTrouble) := goodIn_app (goodIn_of _ (by decide +kernel)) ggL_parade_X4_leastTrouble
theorem dL_parade_0 : decode cL_parade 0 = .ok (.aload_n 0, 1) := by decide +kernel
theorem dL_parade_1 : decode cL_parade 1 = .ok (.iconst 0, 1) := by decide +kernel
theorem dL_parade_2 : decode cL_parade 2 = .ok (.invokevirtual 25, 3) := by decide +kernel
theorem dL_parade_5 : decode cL_parade 5 = .ok (.istore_n 1, 1) := by decide +kernel
theorem dL_parade_6 : decode cL_parade 6 = .ok (.aload_n 0, 1) := by decide +kernel
theorem dL_parade_7 : decode cL_parade 7 = .ok (.iconst 1, 1) := by decide +kernel
theorem dL_parade_8 : decode cL_parade 8 = .ok (.invokevirtual 25, 3) := by decide +kernel
theorem dL_parade_11 : decode cL_parade 11 = .ok (.istore_n 2, 1) := by decide +kernel
theorem dL_parade_12 : decode cL_parade 12 = .ok (.iconst 0, 1) := by decide +kernel
theorem dL_parade_13 : decode cL_parade 13 = .ok (.istore_n 3, 1) := by decide +kernel
theorem dL_parade_14 : decode cL_parade 14 = .ok (.iload_n 1, 1) := by decide +kernel
theorem dL_parade_15 : decode cL_parade 15 = .ok (.bipush 12, 2) := by decide +kernel
theorem dL_parade_17 : decode cL_parade 17 = .ok (.if_icmp .gt 75, 3) := by decide +kernel
theorem dL_parade_20 : decode cL_parade 20 = .ok (.iload_n 2, 1) := by decide +kernel
theorem dL_parade_21 : decode cL_parade 21 = .ok (.iconst 4, 1) := by decide +kernel
theorem dL_parade_22 : decode cL_parade 22 = .ok (.if_icmp .gt 70, 3) := by decide +kernel
theorem dL_parade_25 : decode cL_parade 25 = .ok (.aload_n 0, 1) := by decide +kernel
theorem dL_parade_26 : decode cL_parade 26 = .ok (.bipush 6, 2) := by decide +kernel
theorem dL_parade_28 : decode cL_parade 28 = .ok (.invokevirtual 25, 3) := by decide +kernel
theorem dL_parade_31 : decode cL_parade 31 = .ok (.ifCond .lt 61, 3) := by decide +kernel
theorem dL_parade_34 : decode cL_parade 34 = .ok (.aload_n 0, 1) := by decide +kernel
theorem dL_parade_35 : decode cL_parade 35 = .ok (.bipush 6, 2) := by decide +kernel
theorem dL_parade_37 : decode cL_parade 37 = .ok (.invokevirtual 25, 3) := by decide +kernel
theorem dL_parade_40 : decode cL_parade 40 = .ok (.ifCond .eq 19, 3) := by decide +kernel
theorem dL_parade_43 : decode cL_parade 43 = .ok (.aload_n 0, 1) := by decide +kernel
theorem dL_parade_44 : decode cL_parade 44 = .ok (.iconst 4, 1) := by decide +kernel
theorem dL_parade_45 : decode cL_parade 45 = .ok (.invokevirtual 25, 3) := by decide +kernel
theorem dL_parade_48 : decode cL_parade 48 = .ok (.ifCond .le 44, 3) := by decide +kernel
theorem dL_parade_51 : decode cL_parade 51 = .ok (.aload_n 0, 1) := by decide +kernel
theorem dL_parade_52 : decode cL_parade 52 = .ok (.iconst 3, 1) := by decide +kernel
theorem dL_parade_53 : decode cL_parade 53 = .ok (.invokevirtual 29, 3) := by decide +kernel
theorem dL_parade_56 : decode cL_parade 56 = .ok (.ifCond .le 36, 3) := by decide +kernel
theorem dL_parade_59 : decode cL_parade 59 = .ok (.iload_n 1, 1) := by decide +kernel
theorem dL_parade_60 : decode cL_parade 60 = .ok (.ifCond .gt 28, 3) := by decide +kernel
theorem dL_parade_63 : decode cL_parade 63 = .ok (.aload_n 0, 1) := by decide +kernel
theorem dL_parade_64 : decode cL_parade 64 = .ok (.iconst 3, 1) := by decide +kernel
theorem dL_parade_65 : decode cL_parade 65 = .ok (.invokevirtual 25, 3) := by decide +kernel
theorem dL_parade_68 : decode cL_parade 68 = .ok (.ifCond .ne 24, 3) := by decide +kernel
theorem dL_parade_71 : decode cL_parade 71 = .ok (.aload_n 0, 1) := by decide +kernel
theorem dL_parade_72 : decode cL_parade 72 = .ok (.bipush 7, 2) := by decide +kernel
theorem dL_parade_74 : decode cL_parade 74 = .ok (.invokevirtual 25, 3) := by decide +kernel
theorem dL_parade_77 : decode cL_parade 77 = .ok (.ifCond .ne 15, 3) := by decide +kernel
theorem dL_parade_80 : decode cL_parade 80 = .ok (.aload_n 0, 1) := by decide +kernel
theorem dL_parade_81 : decode cL_parade 81 = .ok (.invokevirtual 32, 3) := by decide +kernel
theorem dL_parade_84 : decode cL_parade 84 = .ok (.iconst (-1), 1) := by decide +kernel
theorem dL_parade_85 : decode cL_parade 85 = .ok (.if_icmp .ne 7, 3) := by decide +kernel
theorem dL_parade_88 : decode cL_parade 88 = .ok (.iconst 1, 1) := by decide +kernel
theorem dL_parade_89 : decode cL_parade 89 = .ok (.goto 4, 3) := by decide +kernel
theorem dL_parade_92 : decode cL_parade 92 = .ok (.iconst 0, 1) := by decide +kernel
theorem dL_parade_93 : decode cL_parade 93 = .ok (.istore 4, 2) := by decide +kernel
theorem dL_parade_95 : decode cL_parade 95 = .ok (.iconst 0, 1) := by decide +kernel
theorem dL_parade_96 : decode cL_parade 96 = .ok (.istore 5, 2) := by decide +kernel
theorem dL_parade_98 : decode cL_parade 98 = .ok (.iload 5, 2) := by decide +kernel
theorem dL_parade_100 : decode cL_parade 100 = .ok (.iload_n 1, 1) := by decide +kernel
theorem dL_parade_101 : decode cL_parade 101 = .ok (.if_icmp .ge 394, 3) := by decide +kernel
theorem dL_parade_104 : decode cL_parade 104 = .ok (.iload 4, 2) := by decide +kernel
theorem dL_parade_106 : decode cL_parade 106 = .ok (.ifCond .eq 389, 3) := by decide +kernel
theorem dL_parade_109 : decode cL_parade 109 = .ok (.iconst 0, 1) := by decide +kernel
theorem dL_parade_110 : decode cL_parade 110 = .ok (.istore 6, 2) := by decide +kernel
theorem dL_parade_112 : decode cL_parade 112 = .ok (.iconst 0, 1) := by decide +kernel
theorem dL_parade_113 : decode cL_parade 113 = .ok (.istore 7, 2) := by decide +kernel
theorem dL_parade_115 : decode cL_parade 115 = .ok (.iload 7, 2) := by decide +kernel
theorem dL_parade_117 : decode cL_parade 117 = .ok (.iconst 3, 1) := by decide +kernel
theorem dL_parade_118 : decode cL_parade 118 = .ok (.if_icmp .ge 22, 3) := by decide +kernel
theorem dL_parade_121 : decode cL_parade 121 = .ok (.iload 6, 2) := by decide +kernel
theorem dL_parade_123 : decode cL_parade 123 = .ok (.aload_n 0, 1) := by decide +kernel
theorem dL_parade_124 : decode cL_parade 124 = .ok (.iload 5, 2) := by decide +kernel
theorem dL_parade_126 : decode cL_parade 126 = .ok (.iload 7, 2) := by decide +kernel
theorem dL_parade_128 : decode cL_parade 128 = .ok (.invokevirtual 35, 3) := by decide +kernel
theorem dL_parade_131 : decode cL_parade 131 = .ok (.iadd, 1) := by decide +kernel
theorem dL_parade_132 : decode cL_parade 132 = .ok (.istore 6, 2) := by decide +kernel
theorem dL_parade_134 : decode cL_parade 134 = .ok (.iinc 7 1, 3) := by decide +kernel
theorem dL_parade_137 : decode cL_parade 137 = .ok (.goto (-22), 3) := by decide +kernel
theorem dL_parade_140 : decode cL_parade 140 = .ok (.iload_n 3, 1) := by decide +kernel
theorem dL_parade_141 : decode cL_parade 141 = .ok (.iload 6, 2) := by decide +kernel
theorem dL_parade_143 : decode cL_parade 143 = .ok (.iadd, 1) := by decide +kernel
theorem dL_parade_144 : decode cL_parade 144 = .ok (.istore_n 3, 1) := by decide +kernel
theorem dL_parade_145 : decode cL_parade 145 = .ok (.aload_n 0, 1) := by decide +kernel
theorem dL_parade_146 : decode cL_parade 146 = .ok (.iload 5, 2) := by decide +kernel
theorem dL_parade_148 : decode cL_parade 148 = .ok (.bipush 6, 2) := by decide +kernel
theorem dL_parade_150 : decode cL_parade 150 = .ok (.invokevirtual 38, 3) := by decide +kernel
theorem dL_parade_153 : decode cL_parade 153 = .ok (.iload 6, 2) := by decide +kernel
theorem dL_parade_155 : decode cL_parade 155 = .ok (.if_icmp .ne 105, 3) := by decide +kernel
theorem dL_parade_158 : decode cL_parade 158 = .ok (.aload_n 0, 1) := by decide +kernel
theorem dL_parade_159 : decode cL_parade 159 = .ok (.iload 5, 2) := by decide +kernel
theorem dL_parade_161 : decode cL_parade 161 = .ok (.iconst 0, 1) := by decide +kernel
theorem dL_parade_162 : decode cL_parade 162 = .ok (.invokevirtual 35, 3) := by decide +kernel
theorem dL_parade_165 : decode cL_parade 165 = .ok (.iconst 4, 1) := by decide +kernel
theorem dL_parade_166 : decode cL_parade 166 = .ok (.if_icmp .gt 94, 3) := by decide +kernel
theorem dL_parade_169 : decode cL_parade 169 = .ok (.aload_n 0, 1) := by decide +kernel
theorem dL_parade_170 : decode cL_parade 170 = .ok (.iload 5, 2) := by decide +kernel
theorem dL_parade_172 : decode cL_parade 172 = .ok (.iconst 0, 1) := by decide +kernel
theorem dL_parade_173 : decode cL_parade 173 = .ok (.invokevirtual 38, 3) := by decide +kernel
theorem dL_parade_176 : decode cL_parade 176 = .ok (.iconst 1, 1) := by decide +kernel
theorem dL_parade_177 : decode cL_parade 177 = .ok (.if_icmp .eq 23, 3) := by decide +kernel
theorem dL_parade_180 : decode cL_parade 180 = .ok (.aload_n 0, 1) := by decide +kernel
theorem dL_parade_181 : decode cL_parade 181 = .ok (.iload 5, 2) := by decide +kernel
theorem dL_parade_183 : decode cL_parade 183 = .ok (.iconst 0, 1) := by decide +kernel
theorem dL_parade_184 : decode cL_parade 184 = .ok (.invokevirtual 35, 3) := by decide +kernel
theorem dL_parade_187 : decode cL_parade 187 = .ok (.ifCond .ne 73, 3) := by decide +kernel
theorem dL_parade_190 : decode cL_parade 190 = .ok (.aload_n 0, 1) := by decide +kernel
theorem dL_parade_191 : decode cL_parade 191 = .ok (.iload 5, 2) := by decide +kernel
theorem dL_parade_193 : decode cL_parade 193 = .ok (.iconst 2, 1) := by decide +kernel
theorem dL_parade_194 : decode cL_parade 194 = .ok (.invokevirtual 38, 3) := by decide +kernel
theorem dL_parade_197 : decode cL_parade 197 = .ok (.ifCond .ne 63, 3) := by decide +kernel
theorem dL_parade_200 : decode cL_parade 200 = .ok (.aload_n 0, 1) := by decide +kernel
theorem dL_parade_201 : decode cL_parade 201 = .ok (.iload 5, 2) := by decide +kernel
theorem dL_parade_203 : decode cL_parade 203 = .ok (.iconst 4, 1) := by decide +kernel
theorem dL_parade_204 : decode cL_parade 204 = .ok (.invokevirtual 38, 3) := by decide +kernel
theorem dL_parade_207 : decode cL_parade 207 = .ok (.bipush 10, 2) := by decide +kernel
theorem dL_parade_209 : decode cL_parade 209 = .ok (.if_icmp .lt 51, 3) := by decide +kernel
theorem dL_parade_212 : decode cL_parade 212 = .ok (.aload_n 0, 1) := by decide +kernel
theorem dL_parade_213 : decode cL_parade 213 = .ok (.iload 5, 2) := by decide +kernel
theorem dL_parade_215 : decode cL_parade 215 = .ok (.iconst 4, 1) := by decide +kernel
theorem dL_parade_216 : decode cL_parade 216 = .ok (.invokevirtual 38, 3) := by decide +kernel
theorem dL_parade_219 : decode cL_parade 219 = .ok (.aload_n 0, 1) := by decide +kernel
theorem dL_parade_220 : decode cL_parade 220 = .ok (.iload 5, 2) := by decide +kernel
theorem dL_parade_222 : decode cL_parade 222 = .ok (.iconst 1, 1) := by decide +kernel
theorem dL_parade_223 : decode cL_parade 223 = .ok (.invokevirtual 38, 3) := by decide +kernel
theorem dL_parade_226 : decode cL_parade 226 = .ok (.if_icmp .gt 34, 3) := by decide +kernel
theorem dL_parade_229 : decode cL_parade 229 = .ok (.aload_n 0, 1) := by decide +kernel
theorem dL_parade_230 : decode cL_parade 230 = .ok (.iload 5, 2) := by decide +kernel
theorem dL_parade_232 : decode cL_parade 232 = .ok (.iconst 4, 1) := by decide +kernel
theorem dL_parade_233 : decode cL_parade 233 = .ok (.invokevirtual 38, 3) := by decide +kernel
theorem dL_parade_236 : decode cL_parade 236 = .ok (.aload_n 0, 1) := by decide +kernel
theorem dL_parade_237 : decode cL_parade 237 = .ok (.bipush 7, 2) := by decide +kernel
theorem dL_parade_239 : decode cL_parade 239 = .ok (.invokevirtual 25, 3) := by decide +kernel
theorem dL_parade_242 : decode cL_parade 242 = .ok (.if_icmp .gt 18, 3) := by decide +kernel
theorem dL_parade_245 : decode cL_parade 245 = .ok (.aload_n 0, 1) := by decide +kernel
theorem dL_parade_246 : decode cL_parade 246 = .ok (.iload 5, 2) := by decide +kernel
theorem dL_parade_248 : decode cL_parade 248 = .ok (.iconst 5, 1) := by decide +kernel
theorem dL_parade_249 : decode cL_parade 249 = .ok (.invokevirtual 38, 3) := by decide +kernel
theorem dL_parade_252 : decode cL_parade 252 = .ok (.iload_n 2, 1) := by decide +kernel
theorem dL_parade_253 : decode cL_parade 253 = .ok (.if_icmp .gt 7, 3) := by decide +kernel
theorem dL_parade_256 : decode cL_parade 256 = .ok (.iconst 1, 1) := by decide +kernel
theorem dL_parade_257 : decode cL_parade 257 = .ok (.goto 4, 3) := by decide +kernel
theorem dL_parade_260 : decode cL_parade 260 = .ok (.iconst 0, 1) := by decide +kernel
theorem dL_parade_261 : decode cL_parade 261 = .ok (.istore 4, 2) := by decide +kernel
theorem dL_parade_263 : decode cL_parade 263 = .ok (.iload 5, 2) := by decide +kernel
theorem dL_parade_265 : decode cL_parade 265 = .ok (.aload_n 0, 1) := by decide +kernel
theorem dL_parade_266 : decode cL_parade 266 = .ok (.iconst 1, 1) := by decide +kernel
theorem dL_parade_267 : decode cL_parade 267 = .ok (.invokevirtual 29, 3) := by decide +kernel
theorem dL_parade_270 : decode cL_parade 270 = .ok (.imul, 1) := by decide +kernel
theorem dL_parade_271 : decode cL_parade 271 = .ok (.istore 7, 2) := by decide +kernel
theorem dL_parade_273 : decode cL_parade 273 = .ok (.iconst 0, 1) := by decide +kernel
theorem dL_parade_274 : decode cL_parade 274 = .ok (.istore 8, 2) := by decide +kernel
theorem dL_parade_276 : decode cL_parade 276 = .ok (.iconst 0, 1) := by decide +kernel
theorem dL_parade_277 : decode cL_parade 277 = .ok (.istore 9, 2) := by decide +kernel
theorem dL_parade_279 : decode cL_parade 279 = .ok (.iload 9, 2) := by decide +kernel
theorem dL_parade_281 : decode cL_parade 281 = .ok (.iload_n 2, 1) := by decide +kernel
theorem dL_parade_282 : decode cL_parade 282 = .ok (.if_icmp .gt 177, 3) := by decide +kernel
theorem dL_parade_285 : decode cL_parade 285 = .ok (.iload 4, 2) := by decide +kernel
theorem dL_parade_287 : decode cL_parade 287 = .ok (.ifCond .eq 172, 3) := by decide +kernel
theorem dL_parade_290 : decode cL_parade 290 = .ok (.iload 9, 2) := by decide +kernel
theorem dL_parade_292 : decode cL_parade 292 = .ok (.iload_n 2, 1) := by decide +kernel
theorem dL_parade_293 : decode cL_parade 293 = .ok (.if_icmp .ne 8, 3) := by decide +kernel
theorem dL_parade_296 : decode cL_parade 296 = .ok (.bipush 60, 2) := by decide +kernel
theorem dL_parade_298 : decode cL_parade 298 = .ok (.goto 10, 3) := by decide +kernel
theorem dL_parade_301 : decode cL_parade 301 = .ok (.aload_n 0, 1) := by decide +kernel
theorem dL_parade_302 : decode cL_parade 302 = .ok (.iload 9, 2) := by decide +kernel
theorem dL_parade_304 : decode cL_parade 304 = .ok (.iconst 0, 1) := by decide +kernel
theorem dL_parade_305 : decode cL_parade 305 = .ok (.invokevirtual 41, 3) := by decide +kernel
theorem dL_parade_308 : decode cL_parade 308 = .ok (.istore 10, 2) := by decide +kernel
theorem dL_parade_310 : decode cL_parade 310 = .ok (.aload_n 0, 1) := by decide +kernel
theorem dL_parade_311 : decode cL_parade 311 = .ok (.iload 5, 2) := by decide +kernel
theorem dL_parade_313 : decode cL_parade 313 = .ok (.iload 9, 2) := by decide +kernel
theorem dL_parade_315 : decode cL_parade 315 = .ok (.iload_n 2, 1) := by decide +kernel
theorem dL_parade_316 : decode cL_parade 316 = .ok (.if_icmp .ne 7, 3) := by decide +kernel
theorem dL_parade_319 : decode cL_parade 319 = .ok (.iconst (-1), 1) := by decide +kernel
theorem dL_parade_320 : decode cL_parade 320 = .ok (.goto 5, 3) := by decide +kernel
theorem dL_parade_323 : decode cL_parade 323 = .ok (.iload 9, 2) := by decide +kernel
theorem dL_parade_325 : decode cL_parade 325 = .ok (.invokevirtual 44, 3) := by decide +kernel
theorem dL_parade_328 : decode cL_parade 328 = .ok (.istore 11, 2) := by decide +kernel
theorem dL_parade_330 : decode cL_parade 330 = .ok (.iload 11, 2) := by decide +kernel
theorem dL_parade_332 : decode cL_parade 332 = .ok (.iload 7, 2) := by decide +kernel
theorem dL_parade_334 : decode cL_parade 334 = .ok (.iload 10, 2) := by decide +kernel
theorem dL_parade_336 : decode cL_parade 336 = .ok (.iload 8, 2) := by decide +kernel
theorem dL_parade_338 : decode cL_parade 338 = .ok (.isub, 1) := by decide +kernel
theorem dL_parade_339 : decode cL_parade 339 = .ok (.aload_n 0, 1) := by decide +kernel
theorem dL_parade_340 : decode cL_parade 340 = .ok (.iconst 2, 1) := by decide +kernel
theorem dL_parade_341 : decode cL_parade 341 = .ok (.invokevirtual 29, 3) := by decide +kernel
theorem dL_parade_344 : decode cL_parade 344 = .ok (.imul, 1) := by decide +kernel
theorem dL_parade_345 : decode cL_parade 345 = .ok (.iadd, 1) := by decide +kernel
theorem dL_parade_346 : decode cL_parade 346 = .ok (.if_icmp .lt 96, 3) := by decide +kernel
theorem dL_parade_349 : decode cL_parade 349 = .ok (.iload 5, 2) := by decide +kernel
theorem dL_parade_351 : decode cL_parade 351 = .ok (.ifCond .eq 69, 3) := by decide +kernel
theorem dL_parade_354 : decode cL_parade 354 = .ok (.iload 11, 2) := by decide +kernel
theorem dL_parade_356 : decode cL_parade 356 = .ok (.aload_n 0, 1) := by decide +kernel
theorem dL_parade_357 : decode cL_parade 357 = .ok (.iload 5, 2) := by decide +kernel
theorem dL_parade_359 : decode cL_parade 359 = .ok (.iconst 1, 1) := by decide +kernel
theorem dL_parade_360 : decode cL_parade 360 = .ok (.isub, 1) := by decide +kernel
theorem dL_parade_361 : decode cL_parade 361 = .ok (.iload 9, 2) := by decide +kernel
theorem dL_parade_363 : decode cL_parade 363 = .ok (.iload_n 2, 1) := by decide +kernel
theorem dL_parade_364 : decode cL_parade 364 = .ok (.if_icmp .ne 7, 3) := by decide +kernel
theorem dL_parade_367 : decode cL_parade 367 = .ok (.iconst (-1), 1) := by decide +kernel
theorem dL_parade_368 : decode cL_parade 368 = .ok (.goto 5, 3) := by decide +kernel
theorem dL_parade_371 : decode cL_parade 371 = .ok (.iload 9, 2) := by decide +kernel
theorem dL_parade_373 : decode cL_parade 373 = .ok (.invokevirtual 44, 3) := by decide +kernel
theorem dL_parade_376 : decode cL_parade 376 = .ok (.aload_n 0, 1) := by decide +kernel
theorem dL_parade_377 : decode cL_parade 377 = .ok (.iconst 1, 1) := by decide +kernel
theorem dL_parade_378 : decode cL_parade 378 = .ok (.invokevirtual 29, 3) := by decide +kernel
theorem dL_parade_381 : decode cL_parade 381 = .ok (.iadd, 1) := by decide +kernel
theorem dL_parade_382 : decode cL_parade 382 = .ok (.iload 9, 2) := by decide +kernel
theorem dL_parade_384 : decode cL_parade 384 = .ok (.iload_n 2, 1) := by decide +kernel
theorem dL_parade_385 : decode cL_parade 385 = .ok (.if_icmp .ge 30, 3) := by decide +kernel
theorem dL_parade_388 : decode cL_parade 388 = .ok (.aload_n 0, 1) := by decide +kernel
theorem dL_parade_389 : decode cL_parade 389 = .ok (.iload 5, 2) := by decide +kernel
theorem dL_parade_391 : decode cL_parade 391 = .ok (.iconst 1, 1) := by decide +kernel
theorem dL_parade_392 : decode cL_parade 392 = .ok (.isub, 1) := by decide +kernel
theorem dL_parade_393 : decode cL_parade 393 = .ok (.iconst 4, 1) := by decide +kernel
theorem dL_parade_394 : decode cL_parade 394 = .ok (.invokevirtual 38, 3) := by decide +kernel
theorem dL_parade_397 : decode cL_parade 397 = .ok (.aload_n 0, 1) := by decide +kernel
theorem dL_parade_398 : decode cL_parade 398 = .ok (.iload 9, 2) := by decide +kernel
theorem dL_parade_400 : decode cL_parade 400 = .ok (.iconst 1, 1) := by decide +kernel
theorem dL_parade_401 : decode cL_parade 401 = .ok (.invokevirtual 41, 3) := by decide +kernel
theorem dL_parade_404 : decode cL_parade 404 = .ok (.if_icmp .le 11, 3) := by decide +kernel
theorem dL_parade_407 : decode cL_parade 407 = .ok (.aload_n 0, 1) := by decide +kernel
theorem dL_parade_408 : decode cL_parade 408 = .ok (.iconst 3, 1) := by decide +kernel
theorem dL_parade_409 : decode cL_parade 409 = .ok (.invokevirtual 29, 3) := by decide +kernel
theorem dL_parade_412 : decode cL_parade 412 = .ok (.goto 4, 3) := by decide +kernel
theorem dL_parade_415 : decode cL_parade 415 = .ok (.iconst 0, 1) := by decide +kernel
theorem dL_parade_416 : decode cL_parade 416 = .ok (.iadd, 1) := by decide +kernel
theorem dL_parade_417 : decode cL_parade 417 = .ok (.if_icmp .lt 25, 3) := by decide +kernel
theorem dL_parade_420 : decode cL_parade 420 = .ok (.iload 9, 2) := by decide +kernel
theorem dL_parade_422 : decode cL_parade 422 = .ok (.iload_n 2, 1) := by decide +kernel
theorem dL_parade_423 : decode cL_parade 423 = .ok (.if_icmp .eq 15, 3) := by decide +kernel
theorem dL_parade_426 : decode cL_parade 426 = .ok (.iload 9, 2) := by decide +kernel
theorem dL_parade_428 : decode cL_parade 428 = .ok (.ifCond .eq 10, 3) := by decide +kernel
theorem dL_parade_431 : decode cL_parade 431 = .ok (.iload 10, 2) := by decide +kernel
theorem dL_parade_433 : decode cL_parade 433 = .ok (.iload 8, 2) := by decide +kernel
theorem dL_parade_435 : decode cL_parade 435 = .ok (.if_icmp .le 7, 3) := by decide +kernel
theorem dL_parade_438 : decode cL_parade 438 = .ok (.iconst 1, 1) := by decide +kernel
theorem dL_parade_439 : decode cL_parade 439 = .ok (.goto 4, 3) := by decide +kernel
theorem dL_parade_442 : decode cL_parade 442 = .ok (.iconst 0, 1) := by decide +kernel
theorem dL_parade_443 : decode cL_parade 443 = .ok (.istore 4, 2) := by decide +kernel
theorem dL_parade_445 : decode cL_parade 445 = .ok (.iload 11, 2) := by decide +kernel
theorem dL_parade_447 : decode cL_parade 447 = .ok (.istore 7, 2) := by decide +kernel
theorem dL_parade_449 : decode cL_parade 449 = .ok (.iload 10, 2) := by decide +kernel
theorem dL_parade_451 : decode cL_parade 451 = .ok (.istore 8, 2) := by decide +kernel
theorem dL_parade_453 : decode cL_parade 453 = .ok (.iinc 9 1, 3) := by decide +kernel
theorem dL_parade_456 : decode cL_parade 456 = .ok (.goto (-177), 3) := by decide +kernel
theorem dL_parade_459 : decode cL_parade 459 = .ok (.iload 4, 2) := by decide +kernel
theorem dL_parade_461 : decode cL_parade 461 = .ok (.ifCond .eq 25, 3) := by decide +kernel
theorem dL_parade_464 : decode cL_parade 464 = .ok (.iload 5, 2) := by decide +kernel
theorem dL_parade_466 : decode cL_parade 466 = .ok (.iconst 1, 1) := by decide +kernel
theorem dL_parade_467 : decode cL_parade 467 = .ok (.iadd, 1) := by decide +kernel
theorem dL_parade_468 : decode cL_parade 468 = .ok (.iload_n 1, 1) := by decide +kernel
theorem dL_parade_469 : decode cL_parade 469 = .ok (.if_icmp .lt 13, 3) := by decide +kernel
theorem dL_parade_472 : decode cL_parade 472 = .ok (.iload 7, 2) := by decide +kernel
theorem dL_parade_474 : decode cL_parade 474 = .ok (.aload_n 0, 1) := by decide +kernel
theorem dL_parade_475 : decode cL_parade 475 = .ok (.iconst 3, 1) := by decide +kernel
theorem dL_parade_476 : decode cL_parade 476 = .ok (.invokevirtual 25, 3) := by decide +kernel
theorem dL_parade_479 : decode cL_parade 479 = .ok (.if_icmp .ne 7, 3) := by decide +kernel
theorem dL_parade_482 : decode cL_parade 482 = .ok (.iconst 1, 1) := by decide +kernel
theorem dL_parade_483 : decode cL_parade 483 = .ok (.goto 4, 3) := by decide +kernel
theorem dL_parade_486 : decode cL_parade 486 = .ok (.iconst 0, 1) := by decide +kernel
theorem dL_parade_487 : decode cL_parade 487 = .ok (.istore 4, 2) := by decide +kernel
theorem dL_parade_489 : decode cL_parade 489 = .ok (.iinc 5 1, 3) := by decide +kernel
theorem dL_parade_492 : decode cL_parade 492 = .ok (.goto (-394), 3) := by decide +kernel
theorem dL_parade_495 : decode cL_parade 495 = .ok (.iload 4, 2) := by decide +kernel
theorem dL_parade_497 : decode cL_parade 497 = .ok (.ifCond .eq 61, 3) := by decide +kernel
theorem dL_parade_500 : decode cL_parade 500 = .ok (.iload_n 3, 1) := by decide +kernel
theorem dL_parade_501 : decode cL_parade 501 = .ok (.aload_n 0, 1) := by decide +kernel
theorem dL_parade_502 : decode cL_parade 502 = .ok (.iconst 2, 1) := by decide +kernel
theorem dL_parade_503 : decode cL_parade 503 = .ok (.invokevirtual 25, 3) := by decide +kernel
theorem dL_parade_506 : decode cL_parade 506 = .ok (.if_icmp .ne 52, 3) := by decide +kernel
theorem dL_parade_509 : decode cL_parade 509 = .ok (.aload_n 0, 1) := by decide +kernel
theorem dL_parade_510 : decode cL_parade 510 = .ok (.invokevirtual 47, 3) := by decide +kernel
theorem dL_parade_513 : decode cL_parade 513 = .ok (.dconst 0, 1) := by decide +kernel
theorem dL_parade_514 : decode cL_parade 514 = .ok (.dcmp .l, 1) := by decide +kernel
theorem dL_parade_515 : decode cL_parade 515 = .ok (.ifCond .lt 43, 3) := by decide +kernel
theorem dL_parade_518 : decode cL_parade 518 = .ok (.aload_n 0, 1) := by decide +kernel
theorem dL_parade_519 : decode cL_parade 519 = .ok (.invokevirtual 47, 3) := by decide +kernel
theorem dL_parade_522 : decode cL_parade 522 = .ok (.dconst 1, 1) := by decide +kernel
theorem dL_parade_523 : decode cL_parade 523 = .ok (.dcmp .g, 1) := by decide +kernel
theorem dL_parade_524 : decode cL_parade 524 = .ok (.ifCond .gt 34, 3) := by decide +kernel
theorem dL_parade_527 : decode cL_parade 527 = .ok (.iload_n 1, 1) := by decide +kernel
theorem dL_parade_528 : decode cL_parade 528 = .ok (.iconst 5, 1) := by decide +kernel
theorem dL_parade_529 : decode cL_parade 529 = .ok (.if_icmp .gt 11, 3) := by decide +kernel
theorem dL_parade_532 : decode cL_parade 532 = .ok (.aload_n 0, 1) := by decide +kernel
theorem dL_parade_533 : decode cL_parade 533 = .ok (.invokevirtual 51, 3) := by decide +kernel
theorem dL_parade_536 : decode cL_parade 536 = .ok (.iload_n 3, 1) := by decide +kernel
theorem dL_parade_537 : decode cL_parade 537 = .ok (.if_icmp .gt 21, 3) := by decide +kernel
theorem dL_parade_540 : decode cL_parade 540 = .ok (.iload_n 1, 1) := by decide +kernel
theorem dL_parade_541 : decode cL_parade 541 = .ok (.bipush 7, 2) := by decide +kernel
theorem dL_parade_543 : decode cL_parade 543 = .ok (.if_icmp .lt 11, 3) := by decide +kernel
theorem dL_parade_546 : decode cL_parade 546 = .ok (.aload_n 0, 1) := by decide +kernel
theorem dL_parade_547 : decode cL_parade 547 = .ok (.invokevirtual 51, 3) := by decide +kernel
theorem dL_parade_550 : decode cL_parade 550 = .ok (.iconst (-1), 1) := by decide +kernel
theorem dL_parade_551 : decode cL_parade 551 = .ok (.if_icmp .ne 7, 3) := by decide +kernel
theorem dL_parade_554 : decode cL_parade 554 = .ok (.iconst 1, 1) := by decide +kernel
theorem dL_parade_555 : decode cL_parade 555 = .ok (.goto 4, 3) := by decide +kernel
theorem dL_parade_558 : decode cL_parade 558 = .ok (.iconst 0, 1) := by decide +kernel
theorem dL_parade_559 : decode cL_parade 559 = .ok (.ireturn, 1) := by decide +kernel
