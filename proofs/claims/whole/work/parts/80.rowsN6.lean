set_option maxRecDepth 20000 in
theorem kwL_21 : GoodIn lw_tbl wsL_law0_r21 := goodIn_p _ [632, 903, 639, 644] (by decide +kernel) (by decide +kernel)
set_option maxRecDepth 20000 in
theorem kwL_22 : GoodIn lw_tbl wsL_law0_r22 := goodIn_p _ [756, 651, 371, 338, 342, 907] (by decide +kernel) (by decide +kernel)
set_option maxRecDepth 20000 in
theorem kwL_23 : GoodIn lw_tbl wsL_law0_r23 := goodIn_p _ [911, 915, 659, 375, 919] (by decide +kernel) (by decide +kernel)
set_option maxRecDepth 20000 in
theorem kwL_24 : GoodIn lw_tbl wsL_law0_r24 := goodIn_p _ [667, 923, 674, 359] (by decide +kernel) (by decide +kernel)
set_option maxRecDepth 20000 in
theorem kwL_25 : GoodIn lw_tbl wsL_law0_r25 := goodIn_p _ [363, 927, 931, 935, 682] (by decide +kernel) (by decide +kernel)
set_option maxRecDepth 20000 in
theorem kwL_26 : GoodIn lw_tbl wsL_law0_r26 := goodIn_p _ [330, 334, 321, 346, 351, 939] (by decide +kernel) (by decide +kernel)
set_option maxRecDepth 20000 in
theorem kwL_27 : GoodIn lw_tbl wsL_law0_r27 := goodIn_p _ [943, 947, 690, 951] (by decide +kernel) (by decide +kernel)
set_option maxRecDepth 20000 in
theorem kwL_28 : GoodIn lw_tbl wsL_law0_r28 := goodIn_p _ [697, 955, 959, 705, 380] (by decide +kernel) (by decide +kernel)
set_option maxRecDepth 20000 in
theorem kwL_29 : GoodIn lw_tbl wsL_law0_r29 := goodIn_p _ [963, 967, 302, 972, 976, 308] (by decide +kernel) (by decide +kernel)
set_option maxRecDepth 20000 in
theorem kwL_30 : GoodIn lw_tbl wsL_law0_r30 := goodIn_p _ [312, 980, 984, 988, 317, 992] (by decide +kernel) (by decide +kernel)
set_option maxRecDepth 20000 in
theorem kwL_31 : GoodIn lw_tbl wsL_law0_r31 := goodIn_p _ [996, 325, 354, 367, 391] (by decide +kernel) (by decide +kernel)
set_option maxRecDepth 20000 in
theorem kwL_32 : GoodIn lw_tbl wsL_law0_r32 := goodIn_p _ [1000, 1005, 1008] (by decide +kernel) (by decide +kernel)
set_option maxRecDepth 20000 in
theorem kwX_4 : GoodIn lw_tbl wsX40 := goodIn_p _ [] (by decide +kernel) (by decide +kernel)
set_option maxRecDepth 20000 in
theorem kwX_5 : GoodIn lw_tbl wsX50 := goodIn_p _ [] (by decide +kernel) (by decide +kernel)
set_option maxRecDepth 20000 in
theorem kwX_2 : GoodIn lw_tbl wsX20 := goodIn_p _ [] (by decide +kernel) (by decide +kernel)
set_option maxRecDepth 20000 in
theorem kwX_1 : GoodIn lw_tbl wsX10 := goodIn_p _ [] (by decide +kernel) (by decide +kernel)
set_option maxRecDepth 20000 in
theorem kwX_0 : GoodIn lw_tbl wsX00 := goodIn_p _ [] (by decide +kernel) (by decide +kernel)
set_option maxRecDepth 20000 in
theorem kwX_3 : GoodIn lw_tbl wsX30 := goodIn_p _ [] (by decide +kernel) (by decide +kernel)
theorem wsL_law_in0 : ∀ w ∈ wsL_law0, w ∈ lw_tbl := fun w h => (show GoodIn lw_tbl wsL_law0 from goodIn_app (goodIn_app (goodIn_app (goodIn_app (goodIn_app (goodIn_app (goodIn_app (goodIn_app kwL_1 (goodIn_app kwL_2 (goodIn_app kwL_3 (goodIn_app kwL_4 (goodIn_app kwL_5 (goodIn_app kwL_6 (goodIn_app kwL_7 (goodIn_app kwL_8 (goodIn_app kwL_9 (goodIn_app kwL_10 (goodIn_app kwL_11 (goodIn_app kwL_12 (goodIn_app kwL_13 (goodIn_app kwL_14 (goodIn_app kwL_15 (goodIn_app kwL_16 (goodIn_app kwL_17 (goodIn_app kwL_18 (goodIn_app kwL_19 (goodIn_app kwL_20 (goodIn_app kwL_21 (goodIn_app kwL_22 (goodIn_app kwL_23 (goodIn_app kwL_24 (goodIn_app kwL_25 (goodIn_app kwL_26 (goodIn_app kwL_27 (goodIn_app kwL_28 (goodIn_app kwL_29 (goodIn_app kwL_30 (goodIn_app kwL_31 (kwL_32)))))))))))))))))))))))))))))))) kwX_4) kwX_5) kwX_2) kwX_1) kwX_0) kwX_3) (fun w h => nomatch h)) w h |>.1
theorem wsL_law_x0 : ∀ w ∈ (vx_atS RX4 55 "java/lang/IndexOutOfBoundsException" ["java/lang/RuntimeException", "java/lang/Exception"]).filter goodWord, w ∈ lw_tbl := by decide +kernel
theorem wsL_law_x1 : ∀ w ∈ (vx_atS RX4 66 "java/lang/IllegalArgumentException" ["java/lang/RuntimeException", "java/lang/Exception"]).filter goodWord, w ∈ lw_tbl := by decide +kernel
theorem wsL_law_x2 : ∀ w ∈ (vx_atS RX4 71 "java/lang/IllegalStateException" ["java/lang/RuntimeException", "java/lang/Exception"]).filter goodWord, w ∈ lw_tbl := by decide +kernel
theorem wsL_law_in : ∀ w ∈ wsL_law, w ∈ lw_tbl := fun w h => (List.mem_append.mp h).elim (fun h => (List.mem_append.mp h).elim (fun h => (List.mem_append.mp h).elim (fun h => wsL_law_in0 w h) (fun h => wsL_law_x0 w h)) (fun h => wsL_law_x1 w h)) (fun h => wsL_law_x2 w h)
theorem inX0 : ∀ w ∈ wsX00, w ∈ lw_tbl := fun w h => wsL_law_in w (inlX0 w h)
theorem inX1 : ∀ w ∈ wsX10, w ∈ lw_tbl := fun w h => wsL_law_in w (inlX1 w h)
theorem inX2 : ∀ w ∈ wsX20, w ∈ lw_tbl := fun w h => wsL_law_in w (inlX2 w h)
theorem inX3 : ∀ w ∈ wsX30, w ∈ lw_tbl := fun w h => wsL_law_in w (inlX3 w h)
theorem inX4 : ∀ w ∈ wsX40, w ∈ lw_tbl := fun w h => wsL_law_in w (inlX4 w h)
theorem inX5 : ∀ w ∈ wsX50, w ∈ lw_tbl := fun w h => wsL_law_in w (inlX5 w h)
theorem inJxe99ae : ∀ w ∈ wsJxe99ae0, w ∈ lw_tbl := by decide +kernel
theorem inJ9 : ∀ w ∈ wsJ90, w ∈ lw_tbl := by decide +kernel
theorem inJ0 : ∀ w ∈ wsJ00, w ∈ lw_tbl := by decide +kernel

