set_option maxRecDepth 20000 in
theorem kwL_1 : GoodIn lw_tbl wsL_law0_r1 := goodIn_p _ [29, 32] (by decide +kernel) (by decide +kernel)
set_option maxRecDepth 20000 in
theorem kwL_2 : GoodIn lw_tbl wsL_law0_r2 := goodIn_p _ [37, 85] (by decide +kernel) (by decide +kernel)
set_option maxRecDepth 20000 in
theorem kwL_3 : GoodIn lw_tbl wsL_law0_r3 := goodIn_p _ [102, 115, 155] (by decide +kernel) (by decide +kernel)
set_option maxRecDepth 20000 in
theorem kwL_4 : GoodIn lw_tbl wsL_law0_r4 := goodIn_p _ [227, 231, 235, 239, 243, 247] (by decide +kernel) (by decide +kernel)
set_option maxRecDepth 20000 in
theorem kwL_5 : GoodIn lw_tbl wsL_law0_r5 := goodIn_p _ [251, 255, 262, 259, 266, 270] (by decide +kernel) (by decide +kernel)
set_option maxRecDepth 20000 in
theorem kwL_6 : GoodIn lw_tbl wsL_law0_r6 := goodIn_p _ [274, 278, 282, 287, 294] (by decide +kernel) (by decide +kernel)
set_option maxRecDepth 20000 in
theorem kwL_7 : GoodIn lw_tbl wsL_law0_r7 := goodIn_p _ [290, 394, 402, 406, 409] (by decide +kernel) (by decide +kernel)
set_option maxRecDepth 20000 in
theorem kwL_8 : GoodIn lw_tbl wsL_law0_r8 := goodIn_p _ [430, 434, 329, 439, 443, 390] (by decide +kernel) (by decide +kernel)
set_option maxRecDepth 20000 in
theorem kwL_9 : GoodIn lw_tbl wsL_law0_r9 := goodIn_p _ [448, 337, 452, 457, 461] (by decide +kernel) (by decide +kernel)
set_option maxRecDepth 20000 in
theorem kwL_10 : GoodIn lw_tbl wsL_law0_r10 := goodIn_p _ [465, 470, 475, 479, 485] (by decide +kernel) (by decide +kernel)
set_option maxRecDepth 20000 in
theorem kwL_11 : GoodIn lw_tbl wsL_law0_r11 := goodIn_p _ [492, 497, 502, 506, 360] (by decide +kernel) (by decide +kernel)
set_option maxRecDepth 20000 in
theorem kwL_12 : GoodIn lw_tbl wsL_law0_r12 := goodIn_p _ [510, 514, 305, 526, 531] (by decide +kernel) (by decide +kernel)
set_option maxRecDepth 20000 in
theorem kwL_13 : GoodIn lw_tbl wsL_law0_r13 := goodIn_p _ [298, 302, 325, 333, 343, 347] (by decide +kernel) (by decide +kernel)
set_option maxRecDepth 20000 in
theorem kwL_14 : GoodIn lw_tbl wsL_law0_r14 := goodIn_p _ [352, 356, 366, 370, 374] (by decide +kernel) (by decide +kernel)
set_option maxRecDepth 20000 in
theorem kwL_15 : GoodIn lw_tbl wsL_law0_r15 := goodIn_p _ [379, 383, 386] (by decide +kernel) (by decide +kernel)
set_option maxRecDepth 20000 in
theorem kwX_4 : GoodIn lw_tbl wsX40 := goodIn_p _ [] (by decide +kernel) (by decide +kernel)
set_option maxRecDepth 20000 in
theorem kwX_2 : GoodIn lw_tbl wsX20 := goodIn_p _ [] (by decide +kernel) (by decide +kernel)
set_option maxRecDepth 20000 in
theorem kwX_1 : GoodIn lw_tbl wsX10 := goodIn_p _ [] (by decide +kernel) (by decide +kernel)
set_option maxRecDepth 20000 in
theorem kwX_0 : GoodIn lw_tbl wsX00 := goodIn_p _ [] (by decide +kernel) (by decide +kernel)
set_option maxRecDepth 20000 in
theorem kwX_3 : GoodIn lw_tbl wsX30 := goodIn_p _ [] (by decide +kernel) (by decide +kernel)
theorem wsL_law_in0 : ∀ w ∈ wsL_law0, w ∈ lw_tbl := fun w h => (show GoodIn lw_tbl wsL_law0 from goodIn_app (goodIn_app (goodIn_app (goodIn_app (goodIn_app (goodIn_app (goodIn_app kwL_1 (goodIn_app kwL_2 (goodIn_app kwL_3 (goodIn_app kwL_4 (goodIn_app kwL_5 (goodIn_app kwL_6 (goodIn_app kwL_7 (goodIn_app kwL_8 (goodIn_app kwL_9 (goodIn_app kwL_10 (goodIn_app kwL_11 (goodIn_app kwL_12 (goodIn_app kwL_13 (goodIn_app kwL_14 (kwL_15))))))))))))))) kwX_4) kwX_2) kwX_1) kwX_0) kwX_3) (fun w h => nomatch h)) w h |>.1
theorem wsL_law_x0 : ∀ w ∈ (vx_atS RX4 66 "java/lang/IllegalArgumentException" ["java/lang/RuntimeException", "java/lang/Exception"]).filter goodWord, w ∈ lw_tbl := by decide +kernel
theorem wsL_law_x1 : ∀ w ∈ (vx_atS RX4 55 "java/lang/IndexOutOfBoundsException" ["java/lang/RuntimeException", "java/lang/Exception"]).filter goodWord, w ∈ lw_tbl := by decide +kernel
theorem wsL_law_x2 : ∀ w ∈ (vx_atS RX4 71 "java/lang/IllegalStateException" ["java/lang/RuntimeException", "java/lang/Exception"]).filter goodWord, w ∈ lw_tbl := by decide +kernel
theorem wsL_law_in : ∀ w ∈ wsL_law, w ∈ lw_tbl := fun w h => (List.mem_append.mp h).elim (fun h => (List.mem_append.mp h).elim (fun h => (List.mem_append.mp h).elim (fun h => wsL_law_in0 w h) (fun h => wsL_law_x0 w h)) (fun h => wsL_law_x1 w h)) (fun h => wsL_law_x2 w h)
theorem inlX0 : ∀ w ∈ wsX00, w ∈ wsL_law := fun _ h => List.mem_append_left _ (List.mem_append_left _ (List.mem_append_left _ (List.mem_append_left _ (List.mem_append_left _ (List.mem_append_right _ h)))))
theorem inX0 : ∀ w ∈ wsX00, w ∈ lw_tbl := fun w h => wsL_law_in w (inlX0 w h)
theorem inlX1 : ∀ w ∈ wsX10, w ∈ wsL_law := fun _ h => List.mem_append_left _ (List.mem_append_left _ (List.mem_append_left _ (List.mem_append_left _ (List.mem_append_left _ (List.mem_append_left _ (List.mem_append_right _ h))))))
theorem inX1 : ∀ w ∈ wsX10, w ∈ lw_tbl := fun w h => wsL_law_in w (inlX1 w h)
theorem inlX2 : ∀ w ∈ wsX20, w ∈ wsL_law := fun _ h => List.mem_append_left _ (List.mem_append_left _ (List.mem_append_left _ (List.mem_append_left _ (List.mem_append_left _ (List.mem_append_left _ (List.mem_append_left _ (List.mem_append_right _ h)))))))
theorem inX2 : ∀ w ∈ wsX20, w ∈ lw_tbl := fun w h => wsL_law_in w (inlX2 w h)
theorem inlX3 : ∀ w ∈ wsX30, w ∈ wsL_law := fun _ h => List.mem_append_left _ (List.mem_append_left _ (List.mem_append_left _ (List.mem_append_left _ (List.mem_append_right _ h))))
theorem inX3 : ∀ w ∈ wsX30, w ∈ lw_tbl := fun w h => wsL_law_in w (inlX3 w h)
theorem inlX4 : ∀ w ∈ wsX40, w ∈ wsL_law := fun _ h => List.mem_append_left _ (List.mem_append_left _ (List.mem_append_left _ (List.mem_append_left _ (List.mem_append_left _ (List.mem_append_left _ (List.mem_append_left _ (List.mem_append_left _ (List.mem_append_right _ h))))))))
theorem inX4 : ∀ w ∈ wsX40, w ∈ lw_tbl := fun w h => wsL_law_in w (inlX4 w h)
theorem inX5 : ∀ w ∈ wsX50, w ∈ lw_tbl := by decide +kernel
theorem inJ9 : ∀ w ∈ wsJ90, w ∈ lw_tbl := by decide +kernel
theorem inJ0 : ∀ w ∈ wsJ00, w ∈ lw_tbl := by decide +kernel
