set_option maxRecDepth 20000 in
theorem ggL_act_L_cell : GoodIn wsL_act wsL_cell := goodIn_r _ [4, 5] (by decide +kernel) (by decide +kernel)
set_option maxRecDepth 20000 in
theorem gL_act_L_cell : GoodIn wsL_act (va_wsS RL 54 yL_cell wsL_cell) := goodIn_app (goodIn_of _ (by decide +kernel)) ggL_act_L_cell
set_option maxRecDepth 20000 in
theorem ggL_act_X4_count : GoodIn wsL_act wsX4_count := goodIn_ca (goodIn_r _ [10, 11, 12, 13, 14, 15, 9, 16, 17, 18, 19, 20, 21, 22, 23, 24, 25, 26, 27, 28, 29, 30, 31, 32, 33, 34, 35, 36, 37, 38, 39, 40, 41, 42, 43, 44, 45, 46, 47, 48, 49, 50, 51, 52, 53, 54, 55, 56, 57, 58, 59, 60, 61, 62, 63, 64, 65, 66, 67, 68, 69, 70, 71, 72, 73, 74, 75, 76, 77, 78, 79, 80, 81, 82, 83, 84, 85, 86, 87, 88, 89, 90, 91, 92, 93, 94, 244, 245, 246, 247, 248, 249, 250, 251, 252, 253, 254, 255, 256, 257, 258, 259, 260, 261, 262, 263] (by decide +kernel) (by decide +kernel)) (goodIn_sub (fun _ h => List.mem_cons_of_mem _ (List.mem_append_left _ (List.mem_append_left _ (List.mem_append_right _ h)))) (by decide +kernel))
set_option maxRecDepth 20000 in
theorem gL_act_X4_count : GoodIn wsL_act (wsV RL 25 RX4 yX4_count wsX4_count) := goodIn_app (goodIn_of _ (by decide +kernel)) ggL_act_X4_count
set_option maxRecDepth 20000 in
theorem ggL_act_L_low : GoodIn wsL_act wsL_low := goodIn_r _ [97, 98] (by decide +kernel) (by decide +kernel)
set_option maxRecDepth 20000 in
theorem gL_act_L_low : GoodIn wsL_act (va_wsS RL 60 yL_low wsL_low) := goodIn_app (goodIn_of _ (by decide +kernel)) ggL_act_L_low
set_option maxRecDepth 20000 in
theorem ggL_act_L_put : GoodIn wsL_act wsL_put := goodIn_ca (goodIn_ca (goodIn_ca (goodIn_r _ [101, 102, 103, 104, 105, 9, 106, 107, 108, 11, 12, 109, 110, 17, 18, 20, 111, 112, 113, 114, 115, 116, 117, 118, 119, 120, 121, 122, 123, 124, 125, 126, 127, 128, 129, 130, 25, 131, 27, 37, 69, 36, 68, 52, 57, 63, 42, 132, 133, 134, 135, 136, 137, 138, 139, 140, 141, 142, 143, 244, 245, 246, 247, 248, 249, 250, 251, 252, 253, 254, 255, 256, 257, 258, 259, 260, 261, 262, 263] (by decide +kernel) (by decide +kernel)) (goodIn_sub (fun _ h => List.mem_cons_of_mem _ (List.mem_append_left _ (List.mem_append_right _ h))) (by decide +kernel))) (goodIn_sub (fun _ h => List.mem_cons_of_mem _ (List.mem_append_left _ (List.mem_append_left _ (List.mem_append_right _ h)))) (by decide +kernel))) (goodIn_sub (fun _ h => List.mem_cons_of_mem _ (List.mem_append_right _ h)) (by decide +kernel))
set_option maxRecDepth 20000 in
theorem gL_act_L_put : GoodIn wsL_act (va_wsS RL 63 yL_put wsL_put) := goodIn_app (goodIn_of _ (by decide +kernel)) ggL_act_L_put
set_option maxRecDepth 20000 in
theorem ggL_act_X4_remove : GoodIn wsL_act wsX4_remove := goodIn_ca (goodIn_r _ [147, 20, 17, 18, 148, 149, 150, 9, 151, 107, 108, 117, 118, 119, 120, 121, 122, 123, 124, 125, 126, 127, 128, 129, 130, 25, 131, 27, 37, 69, 36, 68, 52, 57, 63, 42, 152, 153, 154, 155, 156, 137, 138, 139, 140, 141, 142, 143, 244, 245, 246, 247, 248, 249, 250, 251, 252, 253, 254, 255, 256, 257, 258, 259, 260, 261, 262, 263] (by decide +kernel) (by decide +kernel)) (goodIn_sub (fun _ h => List.mem_cons_of_mem _ (List.mem_append_left _ (List.mem_append_right _ h))) (by decide +kernel))
set_option maxRecDepth 20000 in
theorem gL_act_X4_remove : GoodIn wsL_act (wsV RL 66 RX4 yX4_remove wsX4_remove) := goodIn_app (goodIn_of _ (by decide +kernel)) ggL_act_X4_remove
set_option maxRecDepth 20000 in
theorem ggL_act_X4_move : GoodIn wsL_act wsX4_move := goodIn_ca (goodIn_r _ [160, 20, 17, 148, 149, 150, 9, 151, 107, 108, 18, 117, 118, 119, 120, 121, 122, 123, 124, 125, 126, 127, 128, 129, 130, 25, 131, 27, 37, 69, 36, 68, 52, 57, 63, 42, 136, 137, 138, 139, 140, 141, 142, 143, 22, 23, 24, 26, 28, 29, 30, 31, 32, 33, 34, 35, 38, 39, 40, 41, 43, 44, 45, 46, 244, 245, 246, 247, 248, 249, 250, 251, 252, 253, 254, 255, 256, 257, 258, 259, 260, 261, 262, 263] (by decide +kernel) (by decide +kernel)) (goodIn_sub (fun _ h => List.mem_cons_of_mem _ (List.mem_append_left _ (List.mem_append_right _ h))) (by decide +kernel))
set_option maxRecDepth 20000 in
theorem gL_act_X4_move : GoodIn wsL_act (wsV RL 69 RX4 yX4_move wsX4_move) := goodIn_app (goodIn_of _ (by decide +kernel)) ggL_act_X4_move
set_option maxRecDepth 20000 in
theorem ggL_act_X4_exchange : GoodIn wsL_act wsX4_exchange := goodIn_ca (goodIn_r _ [164, 20, 17, 148, 149, 150, 9, 151, 107, 108, 18, 117, 118, 119, 120, 121, 122, 123, 124, 125, 126, 127, 128, 129, 130, 25, 131, 27, 37, 69, 36, 68, 52, 57, 63, 42, 165, 141, 142, 143, 22, 23, 24, 26, 28, 29, 30, 31, 32, 33, 34, 35, 38, 39, 40, 41, 43, 44, 45, 46, 244, 245, 246, 247, 248, 249, 250, 251, 252, 253, 254, 255, 256, 257, 258, 259, 260, 261, 262, 263] (by decide +kernel) (by decide +kernel)) (goodIn_sub (fun _ h => List.mem_cons_of_mem _ (List.mem_append_left _ (List.mem_append_right _ h))) (by decide +kernel))
set_option maxRecDepth 20000 in
theorem gL_act_X4_exchange : GoodIn wsL_act (wsV RL 72 RX4 yX4_exchange wsX4_exchange) := goodIn_app (goodIn_of _ (by decide +kernel)) ggL_act_X4_exchange
set_option maxRecDepth 20000 in
theorem ggL_act_X4_fold : GoodIn wsL_act wsX4_fold := goodIn_ca (goodIn_r _ [169, 20, 17, 170, 148, 149, 150, 9, 151, 107, 108, 18, 117, 118, 119, 120, 121, 122, 123, 124, 125, 126, 127, 128, 129, 130, 25, 131, 27, 37, 69, 36, 68, 52, 57, 63, 42, 171, 65, 66, 67, 244, 245, 246, 247, 248, 249, 250, 251, 252, 253, 254, 255, 256, 257, 258, 259, 260, 261, 262, 263] (by decide +kernel) (by decide +kernel)) (goodIn_sub (fun _ h => List.mem_cons_of_mem _ (List.mem_append_left _ (List.mem_append_right _ h))) (by decide +kernel))
set_option maxRecDepth 20000 in
theorem gL_act_X4_fold : GoodIn wsL_act (wsV RL 75 RX4 yX4_fold wsX4_fold) := goodIn_app (goodIn_of _ (by decide +kernel)) ggL_act_X4_fold
set_option maxRecDepth 20000 in
theorem ggL_act_X4_arrange : GoodIn wsL_act wsX4_arrange := goodIn_r _ [175, 20, 17, 176, 117, 118, 119, 120, 121, 122, 123, 124, 125, 126, 127, 128, 129, 130, 25, 131, 27, 37, 69, 36, 68, 52, 57, 63, 42, 177, 178, 179, 9, 180, 181, 18, 182, 183, 184, 185, 186, 187, 188, 189, 23, 24, 26, 28, 29, 30, 31, 32, 33, 34, 35, 38, 39, 40, 41, 43, 44, 45, 46, 190, 48, 49, 50, 51, 53, 54, 55, 56, 58, 59, 60, 61, 62, 64, 65, 66, 67, 165, 141, 142, 143, 191, 192, 193, 194, 244, 245, 246, 247, 248, 249, 250, 262, 263, 251, 252, 253, 254, 255, 256, 257, 258, 259, 260, 261, 264, 265] (by decide +kernel) (by decide +kernel)
set_option maxRecDepth 20000 in
theorem gL_act_X4_arrange : GoodIn wsL_act (wsV RL 79 RX4 yX4_arrange wsX4_arrange) := goodIn_app (goodIn_of _ (by decide +kernel)) ggL_act_X4_arrange
set_option maxRecDepth 20000 in
theorem ggL_act_L_bridge : GoodIn wsL_act wsL_bridge := goodIn_ca (goodIn_ca (goodIn_r _ [197, 102, 198, 199, 200, 9, 201, 11, 12, 109, 110, 17, 19, 20, 114, 115, 116, 202, 203, 204, 25, 205, 52, 57, 117, 118, 119, 120, 121, 122, 123, 124, 125, 126, 127, 128, 129, 130, 131, 27, 37, 69, 36, 68, 63, 42, 206, 207, 208, 209, 244, 245, 246, 247, 248, 249, 250, 251, 252, 253, 254, 255, 256, 257, 258, 259, 260, 261, 262, 263] (by decide +kernel) (by decide +kernel)) (goodIn_sub (fun _ h => List.mem_cons_of_mem _ (List.mem_append_left _ (List.mem_append_left _ (List.mem_append_right _ h)))) (by decide +kernel))) (goodIn_sub (fun _ h => List.mem_cons_of_mem _ (List.mem_append_right _ h)) (by decide +kernel))
set_option maxRecDepth 20000 in
theorem gL_act_L_bridge : GoodIn wsL_act (va_wsS RL 82 yL_bridge wsL_bridge) := goodIn_app (goodIn_of _ (by decide +kernel)) ggL_act_L_bridge
set_option maxRecDepth 20000 in
theorem ggL_act_X4_unbridge : GoodIn wsL_act wsX4_unbridge := goodIn_ca (goodIn_r _ [213, 20, 17, 214, 215, 216, 217, 9, 218, 107, 108, 19, 117, 118, 119, 120, 121, 122, 123, 124, 125, 126, 127, 128, 129, 130, 25, 131, 27, 37, 69, 36, 68, 52, 57, 63, 42, 219, 220, 221, 222, 244, 245, 246, 247, 248, 249, 250, 251, 252, 253, 254, 255, 256, 257, 258, 259, 260, 261, 262, 263] (by decide +kernel) (by decide +kernel)) (goodIn_sub (fun _ h => List.mem_cons_of_mem _ (List.mem_append_left _ (List.mem_append_right _ h))) (by decide +kernel))
set_option maxRecDepth 20000 in
theorem gL_act_X4_unbridge : GoodIn wsL_act (wsV RL 85 RX4 yX4_unbridge wsX4_unbridge) := goodIn_app (goodIn_of _ (by decide +kernel)) ggL_act_X4_unbridge
set_option maxRecDepth 20000 in
theorem ggL_act_X4_set : GoodIn wsL_act wsX4_set := goodIn_ca (goodIn_ca (goodIn_r _ [226, 11, 12, 227, 228, 20, 17, 229, 230, 231, 9, 232, 107, 108, 117, 118, 119, 120, 121, 122, 123, 124, 125, 126, 127, 128, 129, 130, 25, 131, 27, 37, 69, 36, 68, 52, 57, 63, 42, 244, 245, 246, 247, 248, 249, 250, 251, 252, 253, 254, 255, 256, 257, 258, 259, 260, 261, 262, 263] (by decide +kernel) (by decide +kernel)) (goodIn_sub (fun _ h => List.mem_cons_of_mem _ (List.mem_append_left _ (List.mem_append_left _ (List.mem_append_right _ h)))) (by decide +kernel))) (goodIn_sub (fun _ h => List.mem_cons_of_mem _ (List.mem_append_left _ (List.mem_append_right _ h))) (by decide +kernel))
set_option maxRecDepth 20000 in
theorem gL_act_X4_set : GoodIn wsL_act (wsV RL 88 RX4 yX4_set wsX4_set) := goodIn_app (goodIn_of _ (by decide +kernel)) ggL_act_X4_set
set_option maxRecDepth 20000 in
theorem ggL_act_L_undo : GoodIn wsL_act wsL_undo := goodIn_ca (goodIn_r _ [235, 102, 236, 237, 238, 9, 239, 109, 110, 20, 21, 17, 240, 241, 242, 120, 243, 122, 123, 128, 129, 130, 25, 131, 27, 37, 69, 36, 68, 52, 57, 63, 42, 244, 245, 246, 247, 248, 249, 250, 262, 263, 251, 252, 253, 254, 255, 256, 257, 258, 259, 260, 261] (by decide +kernel) (by decide +kernel)) (goodIn_sub (fun _ h => List.mem_cons_of_mem _ (List.mem_append_right _ h)) (by decide +kernel))
set_option maxRecDepth 20000 in
theorem gL_act_L_undo : GoodIn wsL_act (va_wsS RL 91 yL_undo wsL_undo) := goodIn_app (goodIn_of _ (by decide +kernel)) ggL_act_L_undo
theorem dL_act_0 : decode cL_act 0 = .ok (.aload_n 1, 1) := by decide +kernel
theorem dL_act_1 : decode cL_act 1 = .ok (.iload_n 2, 1) := by decide +kernel
theorem dL_act_2 : decode cL_act 2 = .ok (.iconst 1, 1) := by decide +kernel
theorem dL_act_3 : decode cL_act 3 = .ok (.iadd, 1) := by decide +kernel
theorem dL_act_4 : decode cL_act 4 = .ok (.invokestatic 54, 3) := by decide +kernel
theorem dL_act_7 : decode cL_act 7 = .ok (.istore_n 3, 1) := by decide +kernel
theorem dL_act_8 : decode cL_act 8 = .ok (.aload_n 1, 1) := by decide +kernel
theorem dL_act_9 : decode cL_act 9 = .ok (.iload_n 2, 1) := by decide +kernel
theorem dL_act_10 : decode cL_act 10 = .ok (.iconst 2, 1) := by decide +kernel
theorem dL_act_11 : decode cL_act 11 = .ok (.iadd, 1) := by decide +kernel
theorem dL_act_12 : decode cL_act 12 = .ok (.invokestatic 54, 3) := by decide +kernel
theorem dL_act_15 : decode cL_act 15 = .ok (.istore 4, 2) := by decide +kernel
theorem dL_act_17 : decode cL_act 17 = .ok (.aload_n 0, 1) := by decide +kernel
theorem dL_act_18 : decode cL_act 18 = .ok (.iconst 0, 1) := by decide +kernel
theorem dL_act_19 : decode cL_act 19 = .ok (.invokevirtual 25, 3) := by decide +kernel
theorem dL_act_22 : decode cL_act 22 = .ok (.istore 5, 2) := by decide +kernel
theorem dL_act_24 : decode cL_act 24 = .ok (.iload 4, 2) := by decide +kernel
theorem dL_act_26 : decode cL_act 26 = .ok (.iconst 4, 1) := by decide +kernel
theorem dL_act_27 : decode cL_act 27 = .ok (.invokestatic 60, 3) := by decide +kernel
theorem dL_act_30 : decode cL_act 30 = .ok (.istore 6, 2) := by decide +kernel
theorem dL_act_32 : decode cL_act 32 = .ok (.aload_n 1, 1) := by decide +kernel
theorem dL_act_33 : decode cL_act 33 = .ok (.iload_n 2, 1) := by decide +kernel
theorem dL_act_34 : decode cL_act 34 = .ok (.invokestatic 54, 3) := by decide +kernel
theorem dL_act_37 : decode cL_act 37 = .ok (.bipush 18, 2) := by decide +kernel
theorem dL_act_39 : decode cL_act 39 = .ok (.invokestatic 60, 3) := by decide +kernel
theorem dL_act_42 : decode cL_act 42 = .ok (.tableswitch 323 0 16 #[82, 82, 82, 82, 82, 82, 125, 146, 146, 174, 202, 202, 237, 254, 254, 277, 304], 82) := by decide +kernel
theorem dL_act_124 : decode cL_act 124 = .ok (.aload_n 0, 1) := by decide +kernel
theorem dL_act_125 : decode cL_act 125 = .ok (.iload_n 3, 1) := by decide +kernel
theorem dL_act_126 : decode cL_act 126 = .ok (.iload 5, 2) := by decide +kernel
theorem dL_act_128 : decode cL_act 128 = .ok (.iconst 1, 1) := by decide +kernel
theorem dL_act_129 : decode cL_act 129 = .ok (.iadd, 1) := by decide +kernel
theorem dL_act_130 : decode cL_act 130 = .ok (.invokestatic 60, 3) := by decide +kernel
theorem dL_act_133 : decode cL_act 133 = .ok (.iload 6, 2) := by decide +kernel
theorem dL_act_135 : decode cL_act 135 = .ok (.bipush 10, 2) := by decide +kernel
theorem dL_act_137 : decode cL_act 137 = .ok (.iload_n 3, 1) := by decide +kernel
theorem dL_act_138 : decode cL_act 138 = .ok (.iload 4, 2) := by decide +kernel
theorem dL_act_140 : decode cL_act 140 = .ok (.iadd, 1) := by decide +kernel
theorem dL_act_141 : decode cL_act 141 = .ok (.bipush 90, 2) := by decide +kernel
theorem dL_act_143 : decode cL_act 143 = .ok (.invokestatic 60, 3) := by decide +kernel
theorem dL_act_146 : decode cL_act 146 = .ok (.iadd, 1) := by decide +kernel
theorem dL_act_147 : decode cL_act 147 = .ok (.iload 6, 2) := by decide +kernel
theorem dL_act_149 : decode cL_act 149 = .ok (.iconst 1, 1) := by decide +kernel
theorem dL_act_150 : decode cL_act 150 = .ok (.if_icmp .ne 12, 3) := by decide +kernel
theorem dL_act_153 : decode cL_act 153 = .ok (.iload_n 3, 1) := by decide +kernel
theorem dL_act_154 : decode cL_act 154 = .ok (.bipush 16, 2) := by decide +kernel
theorem dL_act_156 : decode cL_act 156 = .ok (.invokestatic 60, 3) := by decide +kernel
theorem dL_act_159 : decode cL_act 159 = .ok (.goto 4, 3) := by decide +kernel
theorem dL_act_162 : decode cL_act 162 = .ok (.iconst 0, 1) := by decide +kernel
theorem dL_act_163 : decode cL_act 163 = .ok (.invokestatic 63, 3) := by decide +kernel
theorem dL_act_166 : decode cL_act 166 = .ok (.ireturn, 1) := by decide +kernel
theorem dL_act_167 : decode cL_act 167 = .ok (.iload 5, 2) := by decide +kernel
theorem dL_act_169 : decode cL_act 169 = .ok (.ifCond .ne 8, 3) := by decide +kernel
theorem dL_act_172 : decode cL_act 172 = .ok (.bipush (-3), 2) := by decide +kernel
theorem dL_act_174 : decode cL_act 174 = .ok (.goto 13, 3) := by decide +kernel
theorem dL_act_177 : decode cL_act 177 = .ok (.aload_n 0, 1) := by decide +kernel
theorem dL_act_178 : decode cL_act 178 = .ok (.iload_n 3, 1) := by decide +kernel
theorem dL_act_179 : decode cL_act 179 = .ok (.iload 5, 2) := by decide +kernel
theorem dL_act_181 : decode cL_act 181 = .ok (.invokestatic 60, 3) := by decide +kernel
theorem dL_act_184 : decode cL_act 184 = .ok (.invokevirtual 66, 3) := by decide +kernel
theorem dL_act_187 : decode cL_act 187 = .ok (.ireturn, 1) := by decide +kernel
theorem dL_act_188 : decode cL_act 188 = .ok (.iload 5, 2) := by decide +kernel
theorem dL_act_190 : decode cL_act 190 = .ok (.ifCond .ne 8, 3) := by decide +kernel
theorem dL_act_193 : decode cL_act 193 = .ok (.bipush (-3), 2) := by decide +kernel
theorem dL_act_195 : decode cL_act 195 = .ok (.goto 20, 3) := by decide +kernel
theorem dL_act_198 : decode cL_act 198 = .ok (.aload_n 0, 1) := by decide +kernel
theorem dL_act_199 : decode cL_act 199 = .ok (.iload_n 3, 1) := by decide +kernel
theorem dL_act_200 : decode cL_act 200 = .ok (.iload 5, 2) := by decide +kernel
theorem dL_act_202 : decode cL_act 202 = .ok (.invokestatic 60, 3) := by decide +kernel
theorem dL_act_205 : decode cL_act 205 = .ok (.iload 4, 2) := by decide +kernel
theorem dL_act_207 : decode cL_act 207 = .ok (.iload 5, 2) := by decide +kernel
theorem dL_act_209 : decode cL_act 209 = .ok (.invokestatic 60, 3) := by decide +kernel
theorem dL_act_212 : decode cL_act 212 = .ok (.invokevirtual 69, 3) := by decide +kernel
theorem dL_act_215 : decode cL_act 215 = .ok (.ireturn, 1) := by decide +kernel
theorem dL_act_216 : decode cL_act 216 = .ok (.iload 5, 2) := by decide +kernel
theorem dL_act_218 : decode cL_act 218 = .ok (.ifCond .ne 8, 3) := by decide +kernel
theorem dL_act_221 : decode cL_act 221 = .ok (.bipush (-3), 2) := by decide +kernel
theorem dL_act_223 : decode cL_act 223 = .ok (.goto 20, 3) := by decide +kernel
theorem dL_act_226 : decode cL_act 226 = .ok (.aload_n 0, 1) := by decide +kernel
theorem dL_act_227 : decode cL_act 227 = .ok (.iload_n 3, 1) := by decide +kernel
theorem dL_act_228 : decode cL_act 228 = .ok (.iload 5, 2) := by decide +kernel
theorem dL_act_230 : decode cL_act 230 = .ok (.invokestatic 60, 3) := by decide +kernel
theorem dL_act_233 : decode cL_act 233 = .ok (.iload 4, 2) := by decide +kernel
theorem dL_act_235 : decode cL_act 235 = .ok (.iload 5, 2) := by decide +kernel
theorem dL_act_237 : decode cL_act 237 = .ok (.invokestatic 60, 3) := by decide +kernel
theorem dL_act_240 : decode cL_act 240 = .ok (.invokevirtual 72, 3) := by decide +kernel
theorem dL_act_243 : decode cL_act 243 = .ok (.ireturn, 1) := by decide +kernel
theorem dL_act_244 : decode cL_act 244 = .ok (.iload 5, 2) := by decide +kernel
theorem dL_act_246 : decode cL_act 246 = .ok (.ifCond .ne 8, 3) := by decide +kernel
theorem dL_act_249 : decode cL_act 249 = .ok (.bipush (-3), 2) := by decide +kernel
theorem dL_act_251 : decode cL_act 251 = .ok (.goto 27, 3) := by decide +kernel
theorem dL_act_254 : decode cL_act 254 = .ok (.aload_n 0, 1) := by decide +kernel
theorem dL_act_255 : decode cL_act 255 = .ok (.iload_n 3, 1) := by decide +kernel
theorem dL_act_256 : decode cL_act 256 = .ok (.iload 5, 2) := by decide +kernel
theorem dL_act_258 : decode cL_act 258 = .ok (.invokestatic 60, 3) := by decide +kernel
theorem dL_act_261 : decode cL_act 261 = .ok (.iload 4, 2) := by decide +kernel
theorem dL_act_263 : decode cL_act 263 = .ok (.iconst 3, 1) := by decide +kernel
theorem dL_act_264 : decode cL_act 264 = .ok (.invokestatic 60, 3) := by decide +kernel
theorem dL_act_267 : decode cL_act 267 = .ok (.ifCond .le 7, 3) := by decide +kernel
theorem dL_act_270 : decode cL_act 270 = .ok (.iconst 1, 1) := by decide +kernel
theorem dL_act_271 : decode cL_act 271 = .ok (.goto 4, 3) := by decide +kernel
theorem dL_act_274 : decode cL_act 274 = .ok (.iconst 0, 1) := by decide +kernel
theorem dL_act_275 : decode cL_act 275 = .ok (.invokevirtual 75, 3) := by decide +kernel
theorem dL_act_278 : decode cL_act 278 = .ok (.ireturn, 1) := by decide +kernel
theorem dL_act_279 : decode cL_act 279 = .ok (.iload_n 3, 1) := by decide +kernel
theorem dL_act_280 : decode cL_act 280 = .ok (.iconst 3, 1) := by decide +kernel
theorem dL_act_281 : decode cL_act 281 = .ok (.invokestatic 60, 3) := by decide +kernel
theorem dL_act_284 : decode cL_act 284 = .ok (.ifCond .ne 10, 3) := by decide +kernel
theorem dL_act_287 : decode cL_act 287 = .ok (.aload_n 0, 1) := by decide +kernel
theorem dL_act_288 : decode cL_act 288 = .ok (.invokevirtual 79, 3) := by decide +kernel
theorem dL_act_291 : decode cL_act 291 = .ok (.goto 4, 3) := by decide +kernel
theorem dL_act_294 : decode cL_act 294 = .ok (.iconst 0, 1) := by decide +kernel
theorem dL_act_295 : decode cL_act 295 = .ok (.ireturn, 1) := by decide +kernel
theorem dL_act_296 : decode cL_act 296 = .ok (.aload_n 0, 1) := by decide +kernel
theorem dL_act_297 : decode cL_act 297 = .ok (.iconst 1, 1) := by decide +kernel
theorem dL_act_298 : decode cL_act 298 = .ok (.iload_n 3, 1) := by decide +kernel
theorem dL_act_299 : decode cL_act 299 = .ok (.bipush 50, 2) := by decide +kernel
theorem dL_act_301 : decode cL_act 301 = .ok (.invokestatic 60, 3) := by decide +kernel
theorem dL_act_304 : decode cL_act 304 = .ok (.iadd, 1) := by decide +kernel
theorem dL_act_305 : decode cL_act 305 = .ok (.bipush 10, 2) := by decide +kernel
theorem dL_act_307 : decode cL_act 307 = .ok (.iload 4, 2) := by decide +kernel
theorem dL_act_309 : decode cL_act 309 = .ok (.bipush 90, 2) := by decide +kernel
theorem dL_act_311 : decode cL_act 311 = .ok (.invokestatic 60, 3) := by decide +kernel
theorem dL_act_314 : decode cL_act 314 = .ok (.iadd, 1) := by decide +kernel
theorem dL_act_315 : decode cL_act 315 = .ok (.invokestatic 82, 3) := by decide +kernel
theorem dL_act_318 : decode cL_act 318 = .ok (.ireturn, 1) := by decide +kernel
theorem dL_act_319 : decode cL_act 319 = .ok (.aload_n 0, 1) := by decide +kernel
theorem dL_act_320 : decode cL_act 320 = .ok (.iconst 1, 1) := by decide +kernel
theorem dL_act_321 : decode cL_act 321 = .ok (.invokevirtual 25, 3) := by decide +kernel
theorem dL_act_324 : decode cL_act 324 = .ok (.ifCond .ne 8, 3) := by decide +kernel
theorem dL_act_327 : decode cL_act 327 = .ok (.bipush (-3), 2) := by decide +kernel
theorem dL_act_329 : decode cL_act 329 = .ok (.goto 16, 3) := by decide +kernel
theorem dL_act_332 : decode cL_act 332 = .ok (.aload_n 0, 1) := by decide +kernel
theorem dL_act_333 : decode cL_act 333 = .ok (.iload_n 3, 1) := by decide +kernel
theorem dL_act_334 : decode cL_act 334 = .ok (.aload_n 0, 1) := by decide +kernel
theorem dL_act_335 : decode cL_act 335 = .ok (.iconst 1, 1) := by decide +kernel
theorem dL_act_336 : decode cL_act 336 = .ok (.invokevirtual 25, 3) := by decide +kernel
theorem dL_act_339 : decode cL_act 339 = .ok (.invokestatic 60, 3) := by decide +kernel
theorem dL_act_342 : decode cL_act 342 = .ok (.invokevirtual 85, 3) := by decide +kernel
theorem dL_act_345 : decode cL_act 345 = .ok (.ireturn, 1) := by decide +kernel
theorem dL_act_346 : decode cL_act 346 = .ok (.aload_n 0, 1) := by decide +kernel
theorem dL_act_347 : decode cL_act 347 = .ok (.iload_n 3, 1) := by decide +kernel
theorem dL_act_348 : decode cL_act 348 = .ok (.iconst 4, 1) := by decide +kernel
theorem dL_act_349 : decode cL_act 349 = .ok (.invokestatic 60, 3) := by decide +kernel
theorem dL_act_352 : decode cL_act 352 = .ok (.iconst 1, 1) := by decide +kernel
theorem dL_act_353 : decode cL_act 353 = .ok (.iload 4, 2) := by decide +kernel
theorem dL_act_355 : decode cL_act 355 = .ok (.bipush 6, 2) := by decide +kernel
theorem dL_act_357 : decode cL_act 357 = .ok (.invokestatic 60, 3) := by decide +kernel
theorem dL_act_360 : decode cL_act 360 = .ok (.iadd, 1) := by decide +kernel
theorem dL_act_361 : decode cL_act 361 = .ok (.invokevirtual 88, 3) := by decide +kernel
theorem dL_act_364 : decode cL_act 364 = .ok (.ireturn, 1) := by decide +kernel
theorem dL_act_365 : decode cL_act 365 = .ok (.aload_n 0, 1) := by decide +kernel
theorem dL_act_366 : decode cL_act 366 = .ok (.invokestatic 91, 3) := by decide +kernel
theorem dL_act_369 : decode cL_act 369 = .ok (.ireturn, 1) := by decide +kernel
