set_option maxRecDepth 20000 in
theorem ggX4_init_X2_init : GoodIn wsX4_init wsX2_init := goodIn_r _ [25, 26, 2, 3, 27, 21, 28, 29, 30, 31, 32, 33, 34, 35, 36, 37, 38, 58, 59, 60, 61, 62, 63, 64, 65, 66, 67, 68] (by decide +kernel) (by decide +kernel)
set_option maxRecDepth 20000 in
theorem gX4_init_X2_init_n9 : GoodIn wsX4_init (wsX2_init) := ggX4_init_X2_init
set_option maxRecDepth 20000 in
theorem ggX4_init_X1_init : GoodIn wsX4_init wsX1_init := goodIn_r _ [41, 42, 2, 3, 43, 44, 45, 5, 6, 24, 25, 26, 27, 21, 28, 29, 30, 31, 32, 33, 34, 35, 36, 37, 38, 76, 77, 58, 59, 60, 61, 62, 63, 64, 65, 66, 67, 68] (by decide +kernel) (by decide +kernel)
set_option maxRecDepth 20000 in
theorem gX4_init_X1_init : GoodIn wsX4_init (wsX1_init) := ggX4_init_X1_init
set_option maxRecDepth 20000 in
theorem ggX4_init_X0_init : GoodIn wsX4_init wsX0_init := goodIn_r _ [47, 48, 2, 3, 49, 50, 78, 79] (by decide +kernel) (by decide +kernel)
set_option maxRecDepth 20000 in
theorem gX4_init_X0_init_n28 : GoodIn wsX4_init (wsX0_init) := ggX4_init_X0_init
set_option maxRecDepth 20000 in
theorem ggX4_init_X3_init : GoodIn wsX4_init wsX3_init := goodIn_r _ [52, 53, 2, 3, 54, 55, 56, 57, 80, 81, 82, 83] (by decide +kernel) (by decide +kernel)
set_option maxRecDepth 20000 in
theorem gX4_init_X3_init_n35 : GoodIn wsX4_init (wsX3_init) := ggX4_init_X3_init
theorem dX4_init_0 : decode cX4_init 0 = .ok (.aload_n 0, 1) := by decide +kernel
theorem dX4_init_1 : decode cX4_init 1 = .ok (.invokespecial 1, 3) := by decide +kernel
theorem dX4_init_4 : decode cX4_init 4 = .ok (.aload_n 0, 1) := by decide +kernel
theorem dX4_init_5 : decode cX4_init 5 = .ok (.new 7, 3) := by decide +kernel
theorem dX4_init_8 : decode cX4_init 8 = .ok (.dup, 1) := by decide +kernel
theorem dX4_init_9 : decode cX4_init 9 = .ok (.invokespecial 9, 3) := by decide +kernel
theorem dX4_init_12 : decode cX4_init 12 = .ok (.putfield 10, 3) := by decide +kernel
theorem dX4_init_15 : decode cX4_init 15 = .ok (.aload_n 0, 1) := by decide +kernel
theorem dX4_init_16 : decode cX4_init 16 = .ok (.new 7, 3) := by decide +kernel
theorem dX4_init_19 : decode cX4_init 19 = .ok (.dup, 1) := by decide +kernel
theorem dX4_init_20 : decode cX4_init 20 = .ok (.invokespecial 9, 3) := by decide +kernel
theorem dX4_init_23 : decode cX4_init 23 = .ok (.putfield 16, 3) := by decide +kernel
theorem dX4_init_26 : decode cX4_init 26 = .ok (.aload_n 0, 1) := by decide +kernel
theorem dX4_init_27 : decode cX4_init 27 = .ok (.new 19, 3) := by decide +kernel
theorem dX4_init_30 : decode cX4_init 30 = .ok (.dup, 1) := by decide +kernel
theorem dX4_init_31 : decode cX4_init 31 = .ok (.invokespecial 21, 3) := by decide +kernel
theorem dX4_init_34 : decode cX4_init 34 = .ok (.putfield 22, 3) := by decide +kernel
theorem dX4_init_37 : decode cX4_init 37 = .ok (.aload_n 0, 1) := by decide +kernel
theorem dX4_init_38 : decode cX4_init 38 = .ok (.new 26, 3) := by decide +kernel
theorem dX4_init_41 : decode cX4_init 41 = .ok (.dup, 1) := by decide +kernel
theorem dX4_init_42 : decode cX4_init 42 = .ok (.invokespecial 28, 3) := by decide +kernel
theorem dX4_init_45 : decode cX4_init 45 = .ok (.putfield 29, 3) := by decide +kernel
theorem dX4_init_48 : decode cX4_init 48 = .ok (.aload_n 0, 1) := by decide +kernel
theorem dX4_init_49 : decode cX4_init 49 = .ok (.new 33, 3) := by decide +kernel
theorem dX4_init_52 : decode cX4_init 52 = .ok (.dup, 1) := by decide +kernel
theorem dX4_init_53 : decode cX4_init 53 = .ok (.invokespecial 35, 3) := by decide +kernel
theorem dX4_init_56 : decode cX4_init 56 = .ok (.putfield 36, 3) := by decide +kernel
theorem dX4_init_59 : decode cX4_init 59 = .ok (.aload_n 0, 1) := by decide +kernel
theorem dX4_init_60 : decode cX4_init 60 = .ok (.bipush 60, 2) := by decide +kernel
theorem dX4_init_62 : decode cX4_init 62 = .ok (.newarray .int, 2) := by decide +kernel
theorem dX4_init_64 : decode cX4_init 64 = .ok (.putfield 40, 3) := by decide +kernel
theorem dX4_init_67 : decode cX4_init 67 = .ok (.aload_n 0, 1) := by decide +kernel
theorem dX4_init_68 : decode cX4_init 68 = .ok (.iconst 0, 1) := by decide +kernel
theorem dX4_init_69 : decode cX4_init 69 = .ok (.putfield 44, 3) := by decide +kernel
theorem dX4_init_72 : decode cX4_init 72 = .ok (.return_, 1) := by decide +kernel
set_option maxRecDepth 20000 in
theorem ggX4_put_X4_isFloat : GoodIn wsX4_put wsX4_isFloat := goodIn_r _ [13, 14, 15, 12, 16] (by decide +kernel) (by decide +kernel)
set_option maxRecDepth 20000 in
theorem gX4_put_X4_isFloat : GoodIn wsX4_put (va_wsS RX4 58 yX4_isFloat wsX4_isFloat) := goodIn_app (goodIn_of _ (by decide +kernel)) ggX4_put_X4_isFloat
set_option maxRecDepth 20000 in
theorem ggX4_put_X1_save : GoodIn wsX4_put wsX1_save := goodIn_r _ [21, 22, 23, 24, 25, 26, 20, 27, 28, 29, 30, 31, 32, 33, 34, 35, 36, 37, 38, 39, 40, 41, 72, 73, 61, 62, 63, 64, 65, 66, 67, 68, 69, 70, 71] (by decide +kernel) (by decide +kernel)
set_option maxRecDepth 20000 in
theorem gX4_put_X1_save : GoodIn wsX4_put (wsV RX4 72 RX1 yX1_save wsX1_save) := goodIn_app (goodIn_of _ (by decide +kernel)) ggX4_put_X1_save
set_option maxRecDepth 20000 in
theorem ggX4_put_X2_addLast : GoodIn wsX4_put wsX2_addLast := goodIn_r _ [45, 33, 34, 35, 36, 37, 61, 62, 63, 64, 65, 66, 67, 68, 69, 70, 71] (by decide +kernel) (by decide +kernel)
set_option maxRecDepth 20000 in
theorem gX4_put_X2_addLast : GoodIn wsX4_put (wsV RX4 76 RX2 yX2_addLast wsX2_addLast) := goodIn_app (goodIn_of _ (by decide +kernel)) ggX4_put_X2_addLast
set_option maxRecDepth 20000 in
theorem ggX4_put_X2_shift : GoodIn wsX4_put wsX2_shift := goodIn_r _ [49, 50, 51, 52, 31, 53, 34, 35, 36, 37, 61, 62, 63, 64, 65, 66, 67, 68, 69, 70, 71] (by decide +kernel) (by decide +kernel)
set_option maxRecDepth 20000 in
theorem gX4_put_X2_shift : GoodIn wsX4_put (wsV RX4 80 RX2 yX2_shift wsX2_shift) := goodIn_app (goodIn_of _ (by decide +kernel)) ggX4_put_X2_shift
theorem dX4_put_0 : decode cX4_put 0 = .ok (.iload_n 1, 1) := by decide +kernel
theorem dX4_put_1 : decode cX4_put 1 = .ok (.ifCond .lt 14, 3) := by decide +kernel
theorem dX4_put_4 : decode cX4_put 4 = .ok (.iload_n 1, 1) := by decide +kernel
theorem dX4_put_5 : decode cX4_put 5 = .ok (.aload_n 0, 1) := by decide +kernel
theorem dX4_put_6 : decode cX4_put 6 = .ok (.getfield 10, 3) := by decide +kernel
theorem dX4_put_9 : decode cX4_put 9 = .ok (.getfield 48, 3) := by decide +kernel
theorem dX4_put_12 : decode cX4_put 12 = .ok (.if_icmp .le 13, 3) := by decide +kernel
theorem dX4_put_15 : decode cX4_put 15 = .ok (.new 51, 3) := by decide +kernel
theorem dX4_put_18 : decode cX4_put 18 = .ok (.dup, 1) := by decide +kernel
theorem dX4_put_19 : decode cX4_put 19 = .ok (.ldc 53, 2) := by decide +kernel
theorem dX4_put_21 : decode cX4_put 21 = .ok (.invokespecial 55, 3) := by decide +kernel
theorem dX4_put_24 : decode cX4_put 24 = .ok (.athrow, 1) := by decide +kernel
theorem dX4_put_25 : decode cX4_put 25 = .ok (.iload_n 2, 1) := by decide +kernel
theorem dX4_put_26 : decode cX4_put 26 = .ok (.iload_n 3, 1) := by decide +kernel
theorem dX4_put_27 : decode cX4_put 27 = .ok (.iload 4, 2) := by decide +kernel
theorem dX4_put_29 : decode cX4_put 29 = .ok (.invokestatic 58, 3) := by decide +kernel
theorem dX4_put_32 : decode cX4_put 32 = .ok (.ifCond .ne 13, 3) := by decide +kernel
theorem dX4_put_35 : decode cX4_put 35 = .ok (.new 62, 3) := by decide +kernel
theorem dX4_put_38 : decode cX4_put 38 = .ok (.dup, 1) := by decide +kernel
theorem dX4_put_39 : decode cX4_put 39 = .ok (.ldc 64, 2) := by decide +kernel
theorem dX4_put_41 : decode cX4_put 41 = .ok (.invokespecial 66, 3) := by decide +kernel
theorem dX4_put_44 : decode cX4_put 44 = .ok (.athrow, 1) := by decide +kernel
theorem dX4_put_45 : decode cX4_put 45 = .ok (.aload_n 0, 1) := by decide +kernel
theorem dX4_put_46 : decode cX4_put 46 = .ok (.getfield 10, 3) := by decide +kernel
theorem dX4_put_49 : decode cX4_put 49 = .ok (.getfield 48, 3) := by decide +kernel
theorem dX4_put_52 : decode cX4_put 52 = .ok (.bipush 12, 2) := by decide +kernel
theorem dX4_put_54 : decode cX4_put 54 = .ok (.if_icmp .lt 13, 3) := by decide +kernel
theorem dX4_put_57 : decode cX4_put 57 = .ok (.new 67, 3) := by decide +kernel
theorem dX4_put_60 : decode cX4_put 60 = .ok (.dup, 1) := by decide +kernel
theorem dX4_put_61 : decode cX4_put 61 = .ok (.ldc 69, 2) := by decide +kernel
theorem dX4_put_63 : decode cX4_put 63 = .ok (.invokespecial 71, 3) := by decide +kernel
theorem dX4_put_66 : decode cX4_put 66 = .ok (.athrow, 1) := by decide +kernel
theorem dX4_put_67 : decode cX4_put 67 = .ok (.aload_n 0, 1) := by decide +kernel
theorem dX4_put_68 : decode cX4_put 68 = .ok (.getfield 22, 3) := by decide +kernel
theorem dX4_put_71 : decode cX4_put 71 = .ok (.aload_n 0, 1) := by decide +kernel
theorem dX4_put_72 : decode cX4_put 72 = .ok (.getfield 10, 3) := by decide +kernel
theorem dX4_put_75 : decode cX4_put 75 = .ok (.invokevirtual 72, 3) := by decide +kernel
theorem dX4_put_78 : decode cX4_put 78 = .ok (.aload_n 0, 1) := by decide +kernel
theorem dX4_put_79 : decode cX4_put 79 = .ok (.getfield 10, 3) := by decide +kernel
theorem dX4_put_82 : decode cX4_put 82 = .ok (.iload_n 2, 1) := by decide +kernel
theorem dX4_put_83 : decode cX4_put 83 = .ok (.iload_n 3, 1) := by decide +kernel
theorem dX4_put_84 : decode cX4_put 84 = .ok (.iload 4, 2) := by decide +kernel
theorem dX4_put_86 : decode cX4_put 86 = .ok (.invokevirtual 76, 3) := by decide +kernel
theorem dX4_put_89 : decode cX4_put 89 = .ok (.aload_n 0, 1) := by decide +kernel
theorem dX4_put_90 : decode cX4_put 90 = .ok (.getfield 10, 3) := by decide +kernel
theorem dX4_put_93 : decode cX4_put 93 = .ok (.aload_n 0, 1) := by decide +kernel
theorem dX4_put_94 : decode cX4_put 94 = .ok (.getfield 10, 3) := by decide +kernel
theorem dX4_put_97 : decode cX4_put 97 = .ok (.getfield 48, 3) := by decide +kernel
theorem dX4_put_100 : decode cX4_put 100 = .ok (.iconst 1, 1) := by decide +kernel
theorem dX4_put_101 : decode cX4_put 101 = .ok (.isub, 1) := by decide +kernel
theorem dX4_put_102 : decode cX4_put 102 = .ok (.iload_n 1, 1) := by decide +kernel
theorem dX4_put_103 : decode cX4_put 103 = .ok (.invokevirtual 80, 3) := by decide +kernel
theorem dX4_put_106 : decode cX4_put 106 = .ok (.aload_n 0, 1) := by decide +kernel
theorem dX4_put_107 : decode cX4_put 107 = .ok (.getfield 10, 3) := by decide +kernel
theorem dX4_put_110 : decode cX4_put 110 = .ok (.getfield 48, 3) := by decide +kernel
theorem dX4_put_113 : decode cX4_put 113 = .ok (.ireturn, 1) := by decide +kernel
set_option maxRecDepth 20000 in
theorem ggX4_remove_X4_needFloat : GoodIn wsX4_remove wsX4_needFloat := goodIn_ca (goodIn_r _ [8, 9, 10, 2, 3, 48, 49, 50, 51, 52, 53, 54, 55, 56, 57, 58, 59, 60, 61, 62, 63, 64, 65] (by decide +kernel) (by decide +kernel)) (goodIn_sub (fun _ h => List.mem_cons_of_mem _ (List.mem_append_right _ h)) (by decide +kernel))
set_option maxRecDepth 20000 in
theorem gX4_remove_X4_needFloat : GoodIn wsX4_remove (wsV RX4 84 RX4 yX4_needFloat wsX4_needFloat) := goodIn_app (goodIn_of _ (by decide +kernel)) ggX4_remove_X4_needFloat
set_option maxRecDepth 20000 in
theorem ggX4_remove_X1_save : GoodIn wsX4_remove wsX1_save := goodIn_r _ [15, 16, 17, 18, 19, 20, 14, 21, 22, 23, 24, 25, 26, 27, 28, 29, 30, 31, 32, 33, 34, 35, 66, 67, 55, 56, 57, 58, 59, 60, 61, 62, 63, 64, 65] (by decide +kernel) (by decide +kernel)
set_option maxRecDepth 20000 in
theorem gX4_remove_X1_save : GoodIn wsX4_remove (wsV RX4 72 RX1 yX1_save wsX1_save) := goodIn_app (goodIn_of _ (by decide +kernel)) ggX4_remove_X1_save
set_option maxRecDepth 20000 in
theorem ggX4_remove_X2_takeAway : GoodIn wsX4_remove wsX2_takeAway := goodIn_r _ [39, 27, 40, 41, 42, 25, 43, 44, 45, 46, 47, 28, 29, 30, 31, 55, 56, 57, 58, 59, 60, 61, 62, 63, 64, 65] (by decide +kernel) (by decide +kernel)
set_option maxRecDepth 20000 in
theorem gX4_remove_X2_takeAway : GoodIn wsX4_remove (wsV RX4 88 RX2 yX2_takeAway wsX2_takeAway) := goodIn_app (goodIn_of _ (by decide +kernel)) ggX4_remove_X2_takeAway
theorem dX4_remove_0 : decode cX4_remove 0 = .ok (.aload_n 0, 1) := by decide +kernel
theorem dX4_remove_1 : decode cX4_remove 1 = .ok (.iload_n 1, 1) := by decide +kernel
theorem dX4_remove_2 : decode cX4_remove 2 = .ok (.invokevirtual 84, 3) := by decide +kernel
theorem dX4_remove_5 : decode cX4_remove 5 = .ok (.aload_n 0, 1) := by decide +kernel
theorem dX4_remove_6 : decode cX4_remove 6 = .ok (.getfield 22, 3) := by decide +kernel
theorem dX4_remove_9 : decode cX4_remove 9 = .ok (.aload_n 0, 1) := by decide +kernel
theorem dX4_remove_10 : decode cX4_remove 10 = .ok (.getfield 10, 3) := by decide +kernel
theorem dX4_remove_13 : decode cX4_remove 13 = .ok (.invokevirtual 72, 3) := by decide +kernel
theorem dX4_remove_16 : decode cX4_remove 16 = .ok (.aload_n 0, 1) := by decide +kernel
theorem dX4_remove_17 : decode cX4_remove 17 = .ok (.getfield 10, 3) := by decide +kernel
theorem dX4_remove_20 : decode cX4_remove 20 = .ok (.iload_n 1, 1) := by decide +kernel
theorem dX4_remove_21 : decode cX4_remove 21 = .ok (.invokevirtual 88, 3) := by decide +kernel
theorem dX4_remove_24 : decode cX4_remove 24 = .ok (.aload_n 0, 1) := by decide +kernel
theorem dX4_remove_25 : decode cX4_remove 25 = .ok (.getfield 10, 3) := by decide +kernel
theorem dX4_remove_28 : decode cX4_remove 28 = .ok (.getfield 48, 3) := by decide +kernel
theorem dX4_remove_31 : decode cX4_remove 31 = .ok (.ireturn, 1) := by decide +kernel
set_option maxRecDepth 20000 in
theorem ggX4_move_X4_needFloat : GoodIn wsX4_move wsX4_needFloat := goodIn_ca (goodIn_r _ [7, 8, 9, 2, 10, 64, 65, 66, 67, 68, 69, 70, 71, 72, 73, 74, 75, 76, 77, 78, 79, 80, 81] (by decide +kernel) (by decide +kernel)) (goodIn_sub (fun _ h => List.mem_cons_of_mem _ (List.mem_append_right _ h)) (by decide +kernel))
set_option maxRecDepth 20000 in
theorem gX4_move_X4_needFloat : GoodIn wsX4_move (wsV RX4 84 RX4 yX4_needFloat wsX4_needFloat) := goodIn_app (goodIn_of _ (by decide +kernel)) ggX4_move_X4_needFloat
set_option maxRecDepth 20000 in
theorem ggX4_move_X1_save : GoodIn wsX4_move wsX1_save := goodIn_r _ [15, 16, 17, 18, 19, 20, 14, 21, 22, 23, 24, 25, 26, 27, 28, 29, 30, 31, 32, 33, 34, 35, 82, 83, 71, 72, 73, 74, 75, 76, 77, 78, 79, 80, 81] (by decide +kernel) (by decide +kernel)
set_option maxRecDepth 20000 in
theorem gX4_move_X1_save : GoodIn wsX4_move (wsV RX4 72 RX1 yX1_save wsX1_save) := goodIn_app (goodIn_of _ (by decide +kernel)) ggX4_move_X1_save
set_option maxRecDepth 20000 in
theorem ggX4_move_X2_shift : GoodIn wsX4_move wsX2_shift := goodIn_r _ [39, 40, 41, 42, 25, 43, 28, 29, 30, 31, 71, 72, 73, 74, 75, 76, 77, 78, 79, 80, 81] (by decide +kernel) (by decide +kernel)
set_option maxRecDepth 20000 in
theorem gX4_move_X2_shift : GoodIn wsX4_move (wsV RX4 80 RX2 yX2_shift wsX2_shift) := goodIn_app (goodIn_of _ (by decide +kernel)) ggX4_move_X2_shift
set_option maxRecDepth 20000 in
theorem ggX4_move_X2_allTrouble : GoodIn wsX4_move wsX2_allTrouble := goodIn_r _ [47, 27, 48, 49, 50, 25, 51, 52, 53, 54, 55, 30, 28, 56, 57, 58, 59, 35, 60, 61, 62, 63, 71, 72, 73, 74, 75, 76, 77, 78, 79, 80, 81] (by decide +kernel) (by decide +kernel)
set_option maxRecDepth 20000 in
theorem gX4_move_X2_allTrouble : GoodIn wsX4_move (wsV RX4 91 RX2 yX2_allTrouble wsX2_allTrouble) := goodIn_app (goodIn_of _ (by decide +kernel)) ggX4_move_X2_allTrouble
theorem dX4_move_0 : decode cX4_move 0 = .ok (.aload_n 0, 1) := by decide +kernel
theorem dX4_move_1 : decode cX4_move 1 = .ok (.iload_n 1, 1) := by decide +kernel
theorem dX4_move_2 : decode cX4_move 2 = .ok (.invokevirtual 84, 3) := by decide +kernel
theorem dX4_move_5 : decode cX4_move 5 = .ok (.aload_n 0, 1) := by decide +kernel
theorem dX4_move_6 : decode cX4_move 6 = .ok (.iload_n 2, 1) := by decide +kernel
theorem dX4_move_7 : decode cX4_move 7 = .ok (.invokevirtual 84, 3) := by decide +kernel
theorem dX4_move_10 : decode cX4_move 10 = .ok (.aload_n 0, 1) := by decide +kernel
theorem dX4_move_11 : decode cX4_move 11 = .ok (.getfield 22, 3) := by decide +kernel
theorem dX4_move_14 : decode cX4_move 14 = .ok (.aload_n 0, 1) := by decide +kernel
theorem dX4_move_15 : decode cX4_move 15 = .ok (.getfield 10, 3) := by decide +kernel
theorem dX4_move_18 : decode cX4_move 18 = .ok (.invokevirtual 72, 3) := by decide +kernel
theorem dX4_move_21 : decode cX4_move 21 = .ok (.aload_n 0, 1) := by decide +kernel
theorem dX4_move_22 : decode cX4_move 22 = .ok (.getfield 10, 3) := by decide +kernel
theorem dX4_move_25 : decode cX4_move 25 = .ok (.iload_n 1, 1) := by decide +kernel
theorem dX4_move_26 : decode cX4_move 26 = .ok (.iload_n 2, 1) := by decide +kernel
theorem dX4_move_27 : decode cX4_move 27 = .ok (.invokevirtual 80, 3) := by decide +kernel
theorem dX4_move_30 : decode cX4_move 30 = .ok (.aload_n 0, 1) := by decide +kernel
theorem dX4_move_31 : decode cX4_move 31 = .ok (.getfield 10, 3) := by decide +kernel
theorem dX4_move_34 : decode cX4_move 34 = .ok (.invokevirtual 91, 3) := by decide +kernel
theorem dX4_move_37 : decode cX4_move 37 = .ok (.ireturn, 1) := by decide +kernel
set_option maxRecDepth 20000 in
theorem ggX4_exchange_X4_needFloat : GoodIn wsX4_exchange wsX4_needFloat := goodIn_ca (goodIn_r _ [7, 8, 9, 2, 10, 60, 61, 62, 63, 64, 65, 66, 67, 68, 69, 70, 71, 72, 73, 74, 75, 76, 77] (by decide +kernel) (by decide +kernel)) (goodIn_sub (fun _ h => List.mem_cons_of_mem _ (List.mem_append_right _ h)) (by decide +kernel))
set_option maxRecDepth 20000 in
theorem gX4_exchange_X4_needFloat : GoodIn wsX4_exchange (wsV RX4 84 RX4 yX4_needFloat wsX4_needFloat) := goodIn_app (goodIn_of _ (by decide +kernel)) ggX4_exchange_X4_needFloat
set_option maxRecDepth 20000 in
theorem ggX4_exchange_X1_save : GoodIn wsX4_exchange wsX1_save := goodIn_r _ [15, 16, 17, 18, 19, 20, 14, 21, 22, 23, 24, 25, 26, 27, 28, 29, 30, 31, 32, 33, 34, 35, 78, 79, 67, 68, 69, 70, 71, 72, 73, 74, 75, 76, 77] (by decide +kernel) (by decide +kernel)
set_option maxRecDepth 20000 in
theorem gX4_exchange_X1_save : GoodIn wsX4_exchange (wsV RX4 72 RX1 yX1_save wsX1_save) := goodIn_app (goodIn_of _ (by decide +kernel)) ggX4_exchange_X1_save
set_option maxRecDepth 20000 in
theorem ggX4_exchange_X2_swap : GoodIn wsX4_exchange wsX2_swap := goodIn_r _ [39, 28, 29, 30, 31, 67, 68, 69, 70, 71, 72, 73, 74, 75, 76, 77] (by decide +kernel) (by decide +kernel)
set_option maxRecDepth 20000 in
theorem gX4_exchange_X2_swap : GoodIn wsX4_exchange (wsV RX4 95 RX2 yX2_swap wsX2_swap) := goodIn_app (goodIn_of _ (by decide +kernel)) ggX4_exchange_X2_swap
set_option maxRecDepth 20000 in
theorem ggX4_exchange_X2_allTrouble : GoodIn wsX4_exchange wsX2_allTrouble := goodIn_r _ [43, 27, 44, 45, 46, 25, 47, 48, 49, 50, 51, 30, 28, 52, 53, 54, 55, 35, 56, 57, 58, 59, 67, 68, 69, 70, 71, 72, 73, 74, 75, 76, 77] (by decide +kernel) (by decide +kernel)
set_option maxRecDepth 20000 in
theorem gX4_exchange_X2_allTrouble : GoodIn wsX4_exchange (wsV RX4 91 RX2 yX2_allTrouble wsX2_allTrouble) := goodIn_app (goodIn_of _ (by decide +kernel)) ggX4_exchange_X2_allTrouble
theorem dX4_exchange_0 : decode cX4_exchange 0 = .ok (.aload_n 0, 1) := by decide +kernel
theorem dX4_exchange_1 : decode cX4_exchange 1 = .ok (.iload_n 1, 1) := by decide +kernel
theorem dX4_exchange_2 : decode cX4_exchange 2 = .ok (.invokevirtual 84, 3) := by decide +kernel
theorem dX4_exchange_5 : decode cX4_exchange 5 = .ok (.aload_n 0, 1) := by decide +kernel
theorem dX4_exchange_6 : decode cX4_exchange 6 = .ok (.iload_n 2, 1) := by decide +kernel
theorem dX4_exchange_7 : decode cX4_exchange 7 = .ok (.invokevirtual 84, 3) := by decide +kernel
theorem dX4_exchange_10 : decode cX4_exchange 10 = .ok (.aload_n 0, 1) := by decide +kernel
theorem dX4_exchange_11 : decode cX4_exchange 11 = .ok (.getfield 22, 3) := by decide +kernel
theorem dX4_exchange_14 : decode cX4_exchange 14 = .ok (.aload_n 0, 1) := by decide +kernel
theorem dX4_exchange_15 : decode cX4_exchange 15 = .ok (.getfield 10, 3) := by decide +kernel
theorem dX4_exchange_18 : decode cX4_exchange 18 = .ok (.invokevirtual 72, 3) := by decide +kernel
theorem dX4_exchange_21 : decode cX4_exchange 21 = .ok (.aload_n 0, 1) := by decide +kernel
theorem dX4_exchange_22 : decode cX4_exchange 22 = .ok (.getfield 10, 3) := by decide +kernel
theorem dX4_exchange_25 : decode cX4_exchange 25 = .ok (.iload_n 1, 1) := by decide +kernel
theorem dX4_exchange_26 : decode cX4_exchange 26 = .ok (.iload_n 2, 1) := by decide +kernel
theorem dX4_exchange_27 : decode cX4_exchange 27 = .ok (.invokevirtual 95, 3) := by decide +kernel
theorem dX4_exchange_30 : decode cX4_exchange 30 = .ok (.aload_n 0, 1) := by decide +kernel
theorem dX4_exchange_31 : decode cX4_exchange 31 = .ok (.getfield 10, 3) := by decide +kernel
theorem dX4_exchange_34 : decode cX4_exchange 34 = .ok (.invokevirtual 91, 3) := by decide +kernel
theorem dX4_exchange_37 : decode cX4_exchange 37 = .ok (.ireturn, 1) := by decide +kernel
set_option maxRecDepth 20000 in
theorem ggX4_fold_X4_needFloat : GoodIn wsX4_fold wsX4_needFloat := goodIn_ca (goodIn_r _ [8, 9, 10, 2, 11, 41, 42, 43, 44, 45, 46, 47, 48, 49, 50, 51, 52, 53, 54, 55, 56, 57, 58] (by decide +kernel) (by decide +kernel)) (goodIn_sub (fun _ h => List.mem_cons_of_mem _ (List.mem_append_right _ h)) (by decide +kernel))
set_option maxRecDepth 20000 in
theorem gX4_fold_X4_needFloat : GoodIn wsX4_fold (wsV RX4 84 RX4 yX4_needFloat wsX4_needFloat) := goodIn_app (goodIn_of _ (by decide +kernel)) ggX4_fold_X4_needFloat
set_option maxRecDepth 20000 in
theorem ggX4_fold_X1_save : GoodIn wsX4_fold wsX1_save := goodIn_r _ [16, 17, 18, 19, 20, 21, 15, 22, 23, 24, 25, 26, 27, 28, 29, 30, 31, 32, 33, 34, 35, 36, 59, 60, 48, 49, 50, 51, 52, 53, 54, 55, 56, 57, 58] (by decide +kernel) (by decide +kernel)
set_option maxRecDepth 20000 in
theorem gX4_fold_X1_save : GoodIn wsX4_fold (wsV RX4 72 RX1 yX1_save wsX1_save) := goodIn_app (goodIn_of _ (by decide +kernel)) ggX4_fold_X1_save
set_option maxRecDepth 20000 in
theorem ggX4_fold_X2_countedHeight : GoodIn wsX4_fold wsX2_countedHeight := goodIn_r _ [40, 32, 30, 48, 49, 50, 51, 52, 53, 54, 55, 56, 57, 58] (by decide +kernel) (by decide +kernel)
set_option maxRecDepth 20000 in
theorem gX4_fold_X2_countedHeight : GoodIn wsX4_fold (wsV RX4 102 RX2 yX2_countedHeight wsX2_countedHeight) := goodIn_app (goodIn_of _ (by decide +kernel)) ggX4_fold_X2_countedHeight
theorem dX4_fold_0 : decode cX4_fold 0 = .ok (.aload_n 0, 1) := by decide +kernel
theorem dX4_fold_1 : decode cX4_fold 1 = .ok (.iload_n 1, 1) := by decide +kernel
theorem dX4_fold_2 : decode cX4_fold 2 = .ok (.invokevirtual 84, 3) := by decide +kernel
theorem dX4_fold_5 : decode cX4_fold 5 = .ok (.aload_n 0, 1) := by decide +kernel
theorem dX4_fold_6 : decode cX4_fold 6 = .ok (.getfield 22, 3) := by decide +kernel
theorem dX4_fold_9 : decode cX4_fold 9 = .ok (.aload_n 0, 1) := by decide +kernel
theorem dX4_fold_10 : decode cX4_fold 10 = .ok (.getfield 10, 3) := by decide +kernel
theorem dX4_fold_13 : decode cX4_fold 13 = .ok (.invokevirtual 72, 3) := by decide +kernel
theorem dX4_fold_16 : decode cX4_fold 16 = .ok (.aload_n 0, 1) := by decide +kernel
theorem dX4_fold_17 : decode cX4_fold 17 = .ok (.getfield 10, 3) := by decide +kernel
theorem dX4_fold_20 : decode cX4_fold 20 = .ok (.getfield 98, 3) := by decide +kernel
theorem dX4_fold_23 : decode cX4_fold 23 = .ok (.iload_n 1, 1) := by decide +kernel
theorem dX4_fold_24 : decode cX4_fold 24 = .ok (.iload_n 2, 1) := by decide +kernel
theorem dX4_fold_25 : decode cX4_fold 25 = .ok (.bastore, 1) := by decide +kernel
theorem dX4_fold_26 : decode cX4_fold 26 = .ok (.aload_n 0, 1) := by decide +kernel
theorem dX4_fold_27 : decode cX4_fold 27 = .ok (.getfield 10, 3) := by decide +kernel
theorem dX4_fold_30 : decode cX4_fold 30 = .ok (.iload_n 1, 1) := by decide +kernel
theorem dX4_fold_31 : decode cX4_fold 31 = .ok (.invokevirtual 102, 3) := by decide +kernel
theorem dX4_fold_34 : decode cX4_fold 34 = .ok (.ireturn, 1) := by decide +kernel
set_option maxRecDepth 20000 in
theorem ggX4_arrange_X1_save : GoodIn wsX4_arrange wsX1_save := goodIn_r _ [8, 9, 10, 11, 12, 13, 7, 14, 15, 16, 17, 18, 19, 20, 21, 22, 23, 24, 25, 26, 27, 28, 96, 97, 98, 99, 100, 101, 102, 103, 104, 105, 106, 107, 108] (by decide +kernel) (by decide +kernel)
set_option maxRecDepth 20000 in
theorem gX4_arrange_X1_save : GoodIn wsX4_arrange (wsV RX4 72 RX1 yX1_save wsX1_save) := goodIn_app (goodIn_of _ (by decide +kernel)) ggX4_arrange_X1_save
set_option maxRecDepth 20000 in
theorem ggX4_arrange_X4_doBestExchange : GoodIn wsX4_arrange wsX4_doBestExchange := goodIn_r _ [33, 34, 2, 35, 36, 37, 38, 39, 40, 41, 42, 43, 44, 45, 18, 46, 20, 47, 48, 49, 50, 51, 52, 53, 54, 23, 21, 55, 56, 57, 58, 28, 59, 60, 61, 62, 63, 64, 65, 66, 67, 25, 68, 69, 70, 71, 26, 72, 73, 74, 75, 76, 27, 77, 78, 79, 80, 24, 22, 81, 82, 83, 84, 85, 86, 87, 88, 89, 90, 91, 92, 93, 94, 95, 98, 99, 100, 101, 102, 103, 104, 105, 106, 107, 108, 109, 110] (by decide +kernel) (by decide +kernel)
set_option maxRecDepth 20000 in
theorem gX4_arrange_X4_doBestExchange : GoodIn wsX4_arrange (wsV RX4 107 RX4 yX4_doBestExchange wsX4_doBestExchange) := goodIn_app (goodIn_of _ (by decide +kernel)) ggX4_arrange_X4_doBestExchange
theorem dX4_arrange_0 : decode cX4_arrange 0 = .ok (.aload_n 0, 1) := by decide +kernel
theorem dX4_arrange_1 : decode cX4_arrange 1 = .ok (.getfield 22, 3) := by decide +kernel
theorem dX4_arrange_4 : decode cX4_arrange 4 = .ok (.aload_n 0, 1) := by decide +kernel
theorem dX4_arrange_5 : decode cX4_arrange 5 = .ok (.getfield 10, 3) := by decide +kernel
theorem dX4_arrange_8 : decode cX4_arrange 8 = .ok (.invokevirtual 72, 3) := by decide +kernel
theorem dX4_arrange_11 : decode cX4_arrange 11 = .ok (.iconst 0, 1) := by decide +kernel
theorem dX4_arrange_12 : decode cX4_arrange 12 = .ok (.istore_n 1, 1) := by decide +kernel
theorem dX4_arrange_13 : decode cX4_arrange 13 = .ok (.iload_n 1, 1) := by decide +kernel
theorem dX4_arrange_14 : decode cX4_arrange 14 = .ok (.ldc 106, 2) := by decide +kernel
theorem dX4_arrange_16 : decode cX4_arrange 16 = .ok (.if_icmp .ge 16, 3) := by decide +kernel
theorem dX4_arrange_19 : decode cX4_arrange 19 = .ok (.aload_n 0, 1) := by decide +kernel
theorem dX4_arrange_20 : decode cX4_arrange 20 = .ok (.invokevirtual 107, 3) := by decide +kernel
theorem dX4_arrange_23 : decode cX4_arrange 23 = .ok (.ifCond .eq 9, 3) := by decide +kernel
theorem dX4_arrange_26 : decode cX4_arrange 26 = .ok (.iinc 1 1, 3) := by decide +kernel
theorem dX4_arrange_29 : decode cX4_arrange 29 = .ok (.goto (-16), 3) := by decide +kernel
theorem dX4_arrange_32 : decode cX4_arrange 32 = .ok (.iload_n 1, 1) := by decide +kernel
theorem dX4_arrange_33 : decode cX4_arrange 33 = .ok (.ireturn, 1) := by decide +kernel
set_option maxRecDepth 20000 in
theorem ggX4_bridge_X4_isHeight : GoodIn wsX4_bridge wsX4_isHeight := goodIn_r _ [11] (by decide +kernel) (by decide +kernel)
set_option maxRecDepth 20000 in
theorem gX4_bridge_X4_isHeight : GoodIn wsX4_bridge (va_wsS RX4 111 yX4_isHeight wsX4_isHeight) := goodIn_app (goodIn_of _ (by decide +kernel)) ggX4_bridge_X4_isHeight
set_option maxRecDepth 20000 in
theorem ggX4_bridge_X2_hasBridgeAt : GoodIn wsX4_bridge wsX2_hasBridgeAt := goodIn_r _ [16, 17, 18, 52, 53, 54, 55, 56, 57, 58, 59, 60, 61, 62] (by decide +kernel) (by decide +kernel)
set_option maxRecDepth 20000 in
theorem gX4_bridge_X2_hasBridgeAt : GoodIn wsX4_bridge (wsV RX4 120 RX2 yX2_hasBridgeAt wsX2_hasBridgeAt) := goodIn_app (goodIn_of _ (by decide +kernel)) ggX4_bridge_X2_hasBridgeAt
set_option maxRecDepth 20000 in
theorem ggX4_bridge_X1_save : GoodIn wsX4_bridge wsX1_save := goodIn_r _ [23, 24, 25, 26, 27, 28, 22, 29, 30, 31, 32, 15, 33, 34, 35, 36, 37, 38, 17, 18, 39, 40, 63, 64, 52, 53, 54, 55, 56, 57, 58, 59, 60, 61, 62] (by decide +kernel) (by decide +kernel)
set_option maxRecDepth 20000 in
theorem gX4_bridge_X1_save : GoodIn wsX4_bridge (wsV RX4 72 RX1 yX1_save wsX1_save) := goodIn_app (goodIn_of _ (by decide +kernel)) ggX4_bridge_X1_save
set_option maxRecDepth 20000 in
theorem ggX4_bridge_X2_build : GoodIn wsX4_bridge wsX2_build := goodIn_r _ [44, 17, 18, 39, 52, 53, 54, 55, 56, 57, 58, 59, 60, 61, 62] (by decide +kernel) (by decide +kernel)
set_option maxRecDepth 20000 in
theorem gX4_bridge_X2_build : GoodIn wsX4_bridge (wsV RX4 125 RX2 yX2_build wsX2_build) := goodIn_app (goodIn_of _ (by decide +kernel)) ggX4_bridge_X2_build
theorem dX4_bridge_0 : decode cX4_bridge 0 = .ok (.iload_n 1, 1) := by decide +kernel
theorem dX4_bridge_1 : decode cX4_bridge 1 = .ok (.iconst 1, 1) := by decide +kernel
theorem dX4_bridge_2 : decode cX4_bridge 2 = .ok (.if_icmp .lt 16, 3) := by decide +kernel
theorem dX4_bridge_5 : decode cX4_bridge 5 = .ok (.iload_n 1, 1) := by decide +kernel
theorem dX4_bridge_6 : decode cX4_bridge 6 = .ok (.bipush 50, 2) := by decide +kernel
theorem dX4_bridge_8 : decode cX4_bridge 8 = .ok (.if_icmp .gt 10, 3) := by decide +kernel
theorem dX4_bridge_11 : decode cX4_bridge 11 = .ok (.iload_n 2, 1) := by decide +kernel
theorem dX4_bridge_12 : decode cX4_bridge 12 = .ok (.invokestatic 111, 3) := by decide +kernel
theorem dX4_bridge_15 : decode cX4_bridge 15 = .ok (.ifCond .ne 13, 3) := by decide +kernel
theorem dX4_bridge_18 : decode cX4_bridge 18 = .ok (.new 62, 3) := by decide +kernel
theorem dX4_bridge_21 : decode cX4_bridge 21 = .ok (.dup, 1) := by decide +kernel
theorem dX4_bridge_22 : decode cX4_bridge 22 = .ok (.ldc 115, 2) := by decide +kernel
theorem dX4_bridge_24 : decode cX4_bridge 24 = .ok (.invokespecial 66, 3) := by decide +kernel
theorem dX4_bridge_27 : decode cX4_bridge 27 = .ok (.athrow, 1) := by decide +kernel
theorem dX4_bridge_28 : decode cX4_bridge 28 = .ok (.aload_n 0, 1) := by decide +kernel
theorem dX4_bridge_29 : decode cX4_bridge 29 = .ok (.getfield 10, 3) := by decide +kernel
theorem dX4_bridge_32 : decode cX4_bridge 32 = .ok (.getfield 117, 3) := by decide +kernel
theorem dX4_bridge_35 : decode cX4_bridge 35 = .ok (.iconst 4, 1) := by decide +kernel
theorem dX4_bridge_36 : decode cX4_bridge 36 = .ok (.if_icmp .ge 14, 3) := by decide +kernel
theorem dX4_bridge_39 : decode cX4_bridge 39 = .ok (.aload_n 0, 1) := by decide +kernel
theorem dX4_bridge_40 : decode cX4_bridge 40 = .ok (.getfield 10, 3) := by decide +kernel
theorem dX4_bridge_43 : decode cX4_bridge 43 = .ok (.iload_n 1, 1) := by decide +kernel
theorem dX4_bridge_44 : decode cX4_bridge 44 = .ok (.invokevirtual 120, 3) := by decide +kernel
theorem dX4_bridge_47 : decode cX4_bridge 47 = .ok (.ifCond .eq 13, 3) := by decide +kernel
theorem dX4_bridge_50 : decode cX4_bridge 50 = .ok (.new 67, 3) := by decide +kernel
theorem dX4_bridge_53 : decode cX4_bridge 53 = .ok (.dup, 1) := by decide +kernel
theorem dX4_bridge_54 : decode cX4_bridge 54 = .ok (.ldc 123, 2) := by decide +kernel
theorem dX4_bridge_56 : decode cX4_bridge 56 = .ok (.invokespecial 71, 3) := by decide +kernel
theorem dX4_bridge_59 : decode cX4_bridge 59 = .ok (.athrow, 1) := by decide +kernel
theorem dX4_bridge_60 : decode cX4_bridge 60 = .ok (.aload_n 0, 1) := by decide +kernel
theorem dX4_bridge_61 : decode cX4_bridge 61 = .ok (.getfield 22, 3) := by decide +kernel
theorem dX4_bridge_64 : decode cX4_bridge 64 = .ok (.aload_n 0, 1) := by decide +kernel
theorem dX4_bridge_65 : decode cX4_bridge 65 = .ok (.getfield 10, 3) := by decide +kernel
theorem dX4_bridge_68 : decode cX4_bridge 68 = .ok (.invokevirtual 72, 3) := by decide +kernel
theorem dX4_bridge_71 : decode cX4_bridge 71 = .ok (.aload_n 0, 1) := by decide +kernel
theorem dX4_bridge_72 : decode cX4_bridge 72 = .ok (.getfield 10, 3) := by decide +kernel
theorem dX4_bridge_75 : decode cX4_bridge 75 = .ok (.iload_n 1, 1) := by decide +kernel
theorem dX4_bridge_76 : decode cX4_bridge 76 = .ok (.iload_n 2, 1) := by decide +kernel
theorem dX4_bridge_77 : decode cX4_bridge 77 = .ok (.invokevirtual 125, 3) := by decide +kernel
theorem dX4_bridge_80 : decode cX4_bridge 80 = .ok (.ireturn, 1) := by decide +kernel
set_option maxRecDepth 20000 in
theorem ggX4_unbridge_X4_needBridge : GoodIn wsX4_unbridge wsX4_needBridge := goodIn_ca (goodIn_r _ [8, 9, 10, 2, 11, 41, 42, 43, 44, 45, 46, 47, 48, 49, 50, 51, 52, 53, 54, 55, 56, 57, 58] (by decide +kernel) (by decide +kernel)) (goodIn_sub (fun _ h => List.mem_cons_of_mem _ (List.mem_append_right _ h)) (by decide +kernel))
set_option maxRecDepth 20000 in
theorem gX4_unbridge_X4_needBridge : GoodIn wsX4_unbridge (wsV RX4 129 RX4 yX4_needBridge wsX4_needBridge) := goodIn_app (goodIn_of _ (by decide +kernel)) ggX4_unbridge_X4_needBridge
set_option maxRecDepth 20000 in
theorem ggX4_unbridge_X1_save : GoodIn wsX4_unbridge wsX1_save := goodIn_r _ [16, 17, 18, 19, 20, 21, 15, 22, 23, 24, 25, 26, 27, 28, 29, 30, 31, 32, 33, 34, 35, 36, 59, 60, 48, 49, 50, 51, 52, 53, 54, 55, 56, 57, 58] (by decide +kernel) (by decide +kernel)
set_option maxRecDepth 20000 in
theorem gX4_unbridge_X1_save : GoodIn wsX4_unbridge (wsV RX4 72 RX1 yX1_save wsX1_save) := goodIn_app (goodIn_of _ (by decide +kernel)) ggX4_unbridge_X1_save
set_option maxRecDepth 20000 in
theorem ggX4_unbridge_X2_pullDown : GoodIn wsX4_unbridge wsX2_pullDown := goodIn_r _ [40, 33, 34, 35, 48, 49, 50, 51, 52, 53, 54, 55, 56, 57, 58] (by decide +kernel) (by decide +kernel)
set_option maxRecDepth 20000 in
theorem gX4_unbridge_X2_pullDown : GoodIn wsX4_unbridge (wsV RX4 135 RX2 yX2_pullDown wsX2_pullDown) := goodIn_app (goodIn_of _ (by decide +kernel)) ggX4_unbridge_X2_pullDown
theorem dX4_unbridge_0 : decode cX4_unbridge 0 = .ok (.aload_n 0, 1) := by decide +kernel
theorem dX4_unbridge_1 : decode cX4_unbridge 1 = .ok (.iload_n 1, 1) := by decide +kernel
theorem dX4_unbridge_2 : decode cX4_unbridge 2 = .ok (.invokevirtual 129, 3) := by decide +kernel
theorem dX4_unbridge_5 : decode cX4_unbridge 5 = .ok (.aload_n 0, 1) := by decide +kernel
theorem dX4_unbridge_6 : decode cX4_unbridge 6 = .ok (.getfield 22, 3) := by decide +kernel
theorem dX4_unbridge_9 : decode cX4_unbridge 9 = .ok (.aload_n 0, 1) := by decide +kernel
theorem dX4_unbridge_10 : decode cX4_unbridge 10 = .ok (.getfield 10, 3) := by decide +kernel
theorem dX4_unbridge_13 : decode cX4_unbridge 13 = .ok (.invokevirtual 72, 3) := by decide +kernel
theorem dX4_unbridge_16 : decode cX4_unbridge 16 = .ok (.aload_n 0, 1) := by decide +kernel
theorem dX4_unbridge_17 : decode cX4_unbridge 17 = .ok (.getfield 10, 3) := by decide +kernel
theorem dX4_unbridge_20 : decode cX4_unbridge 20 = .ok (.getfield 132, 3) := by decide +kernel
theorem dX4_unbridge_23 : decode cX4_unbridge 23 = .ok (.iload_n 1, 1) := by decide +kernel
theorem dX4_unbridge_24 : decode cX4_unbridge 24 = .ok (.iaload, 1) := by decide +kernel
theorem dX4_unbridge_25 : decode cX4_unbridge 25 = .ok (.istore_n 2, 1) := by decide +kernel
theorem dX4_unbridge_26 : decode cX4_unbridge 26 = .ok (.aload_n 0, 1) := by decide +kernel
theorem dX4_unbridge_27 : decode cX4_unbridge 27 = .ok (.getfield 10, 3) := by decide +kernel
theorem dX4_unbridge_30 : decode cX4_unbridge 30 = .ok (.iload_n 1, 1) := by decide +kernel
theorem dX4_unbridge_31 : decode cX4_unbridge 31 = .ok (.invokevirtual 135, 3) := by decide +kernel
theorem dX4_unbridge_34 : decode cX4_unbridge 34 = .ok (.iload_n 2, 1) := by decide +kernel
theorem dX4_unbridge_35 : decode cX4_unbridge 35 = .ok (.ireturn, 1) := by decide +kernel
set_option maxRecDepth 20000 in
theorem ggX4_set_X4_needSetting : GoodIn wsX4_set wsX4_needSetting := goodIn_ca (goodIn_r _ [11, 12, 13] (by decide +kernel) (by decide +kernel)) (goodIn_sub (fun _ h => List.mem_cons_of_mem _ (List.mem_append_right _ h)) (by decide +kernel))
set_option maxRecDepth 20000 in
theorem gX4_set_X4_needSetting : GoodIn wsX4_set (va_wsS RX4 138 yX4_needSetting wsX4_needSetting) := goodIn_app (goodIn_of _ (by decide +kernel)) ggX4_set_X4_needSetting
set_option maxRecDepth 20000 in
theorem ggX4_set_X1_save : GoodIn wsX4_set wsX1_save := goodIn_r _ [18, 19, 20, 21, 22, 23, 17, 24, 25, 26, 27, 28, 29, 30, 31, 32, 33, 34, 35, 36, 37, 38, 57, 58, 46, 47, 48, 49, 50, 51, 52, 53, 54, 55, 56] (by decide +kernel) (by decide +kernel)
set_option maxRecDepth 20000 in
theorem gX4_set_X1_save : GoodIn wsX4_set (wsV RX4 72 RX1 yX1_save wsX1_save) := goodIn_app (goodIn_of _ (by decide +kernel)) ggX4_set_X1_save
theorem dX4_set_0 : decode cX4_set 0 = .ok (.iload_n 1, 1) := by decide +kernel
theorem dX4_set_1 : decode cX4_set 1 = .ok (.invokestatic 138, 3) := by decide +kernel
theorem dX4_set_4 : decode cX4_set 4 = .ok (.iload_n 2, 1) := by decide +kernel
theorem dX4_set_5 : decode cX4_set 5 = .ok (.getstatic 141, 3) := by decide +kernel
theorem dX4_set_8 : decode cX4_set 8 = .ok (.iload_n 1, 1) := by decide +kernel
theorem dX4_set_9 : decode cX4_set 9 = .ok (.iaload, 1) := by decide +kernel
theorem dX4_set_10 : decode cX4_set 10 = .ok (.if_icmp .lt 12, 3) := by decide +kernel
theorem dX4_set_13 : decode cX4_set 13 = .ok (.iload_n 2, 1) := by decide +kernel
theorem dX4_set_14 : decode cX4_set 14 = .ok (.getstatic 144, 3) := by decide +kernel
theorem dX4_set_17 : decode cX4_set 17 = .ok (.iload_n 1, 1) := by decide +kernel
theorem dX4_set_18 : decode cX4_set 18 = .ok (.iaload, 1) := by decide +kernel
theorem dX4_set_19 : decode cX4_set 19 = .ok (.if_icmp .le 13, 3) := by decide +kernel
theorem dX4_set_22 : decode cX4_set 22 = .ok (.new 62, 3) := by decide +kernel
theorem dX4_set_25 : decode cX4_set 25 = .ok (.dup, 1) := by decide +kernel
theorem dX4_set_26 : decode cX4_set 26 = .ok (.ldc 147, 2) := by decide +kernel
theorem dX4_set_28 : decode cX4_set 28 = .ok (.invokespecial 66, 3) := by decide +kernel
theorem dX4_set_31 : decode cX4_set 31 = .ok (.athrow, 1) := by decide +kernel
theorem dX4_set_32 : decode cX4_set 32 = .ok (.aload_n 0, 1) := by decide +kernel
theorem dX4_set_33 : decode cX4_set 33 = .ok (.getfield 22, 3) := by decide +kernel
theorem dX4_set_36 : decode cX4_set 36 = .ok (.aload_n 0, 1) := by decide +kernel
theorem dX4_set_37 : decode cX4_set 37 = .ok (.getfield 10, 3) := by decide +kernel
theorem dX4_set_40 : decode cX4_set 40 = .ok (.invokevirtual 72, 3) := by decide +kernel
theorem dX4_set_43 : decode cX4_set 43 = .ok (.aload_n 0, 1) := by decide +kernel
theorem dX4_set_44 : decode cX4_set 44 = .ok (.getfield 10, 3) := by decide +kernel
theorem dX4_set_47 : decode cX4_set 47 = .ok (.getfield 149, 3) := by decide +kernel
theorem dX4_set_50 : decode cX4_set 50 = .ok (.iload_n 1, 1) := by decide +kernel
theorem dX4_set_51 : decode cX4_set 51 = .ok (.iaload, 1) := by decide +kernel
theorem dX4_set_52 : decode cX4_set 52 = .ok (.istore_n 3, 1) := by decide +kernel
theorem dX4_set_53 : decode cX4_set 53 = .ok (.aload_n 0, 1) := by decide +kernel
theorem dX4_set_54 : decode cX4_set 54 = .ok (.getfield 10, 3) := by decide +kernel
theorem dX4_set_57 : decode cX4_set 57 = .ok (.getfield 149, 3) := by decide +kernel
theorem dX4_set_60 : decode cX4_set 60 = .ok (.iload_n 1, 1) := by decide +kernel
theorem dX4_set_61 : decode cX4_set 61 = .ok (.iload_n 2, 1) := by decide +kernel
theorem dX4_set_62 : decode cX4_set 62 = .ok (.iastore, 1) := by decide +kernel
theorem dX4_set_63 : decode cX4_set 63 = .ok (.iload_n 3, 1) := by decide +kernel
theorem dX4_set_64 : decode cX4_set 64 = .ok (.ireturn, 1) := by decide +kernel
set_option maxRecDepth 20000 in
theorem ggX4_undo_X1_restoreLatest : GoodIn wsX4_undo wsX1_restoreLatest := goodIn_r _ [10, 11, 12, 13, 14, 15, 16, 17, 18, 19, 20, 21, 22, 23, 24, 25, 26, 34, 35, 36, 37, 38, 39, 40, 41, 42, 43, 44, 45, 46] (by decide +kernel) (by decide +kernel)
set_option maxRecDepth 20000 in
theorem gX4_undo_X1_restoreLatest : GoodIn wsX4_undo (wsV RX4 177 RX1 yX1_restoreLatest wsX1_restoreLatest) := goodIn_app (goodIn_of _ (by decide +kernel)) ggX4_undo_X1_restoreLatest
theorem dX4_undo_0 : decode cX4_undo 0 = .ok (.aload_n 0, 1) := by decide +kernel
theorem dX4_undo_1 : decode cX4_undo 1 = .ok (.getfield 22, 3) := by decide +kernel
theorem dX4_undo_4 : decode cX4_undo 4 = .ok (.getfield 172, 3) := by decide +kernel
theorem dX4_undo_7 : decode cX4_undo 7 = .ok (.ifCond .gt 13, 3) := by decide +kernel
theorem dX4_undo_10 : decode cX4_undo 10 = .ok (.new 67, 3) := by decide +kernel
theorem dX4_undo_13 : decode cX4_undo 13 = .ok (.dup, 1) := by decide +kernel
theorem dX4_undo_14 : decode cX4_undo 14 = .ok (.ldc 175, 2) := by decide +kernel
theorem dX4_undo_16 : decode cX4_undo 16 = .ok (.invokespecial 71, 3) := by decide +kernel
theorem dX4_undo_19 : decode cX4_undo 19 = .ok (.athrow, 1) := by decide +kernel
theorem dX4_undo_20 : decode cX4_undo 20 = .ok (.aload_n 0, 1) := by decide +kernel
theorem dX4_undo_21 : decode cX4_undo 21 = .ok (.getfield 22, 3) := by decide +kernel
theorem dX4_undo_24 : decode cX4_undo 24 = .ok (.aload_n 0, 1) := by decide +kernel
theorem dX4_undo_25 : decode cX4_undo 25 = .ok (.getfield 10, 3) := by decide +kernel
theorem dX4_undo_28 : decode cX4_undo 28 = .ok (.invokevirtual 177, 3) := by decide +kernel
theorem dX4_undo_31 : decode cX4_undo 31 = .ok (.aload_n 0, 1) := by decide +kernel
theorem dX4_undo_32 : decode cX4_undo 32 = .ok (.getfield 22, 3) := by decide +kernel
theorem dX4_undo_35 : decode cX4_undo 35 = .ok (.getfield 172, 3) := by decide +kernel
theorem dX4_undo_38 : decode cX4_undo 38 = .ok (.ireturn, 1) := by decide +kernel
set_option maxRecDepth 20000 in
theorem ggX4_floatAt_X4_needFloat : GoodIn wsX4_floatAt wsX4_needFloat := goodIn_ca (goodIn_r _ [8, 9, 10, 3, 11, 52, 53, 54, 55, 56, 57, 58, 59, 60, 61, 62, 63, 64, 65, 66, 67, 68, 69] (by decide +kernel) (by decide +kernel)) (goodIn_sub (fun _ h => List.mem_cons_of_mem _ (List.mem_append_right _ h)) (by decide +kernel))
set_option maxRecDepth 20000 in
theorem gX4_floatAt_X4_needFloat : GoodIn wsX4_floatAt (wsV RX4 84 RX4 yX4_needFloat wsX4_needFloat) := goodIn_app (goodIn_of _ (by decide +kernel)) ggX4_floatAt_X4_needFloat
set_option maxRecDepth 20000 in
theorem ggX4_floatAt_X2_floatProperty : GoodIn wsX4_floatAt wsX2_floatProperty := goodIn_r _ [16, 17, 18, 19, 20, 21, 22, 23, 15, 24, 25, 26, 27, 28, 29, 30, 31, 32, 33, 34, 35, 36, 37, 38, 39, 40, 41, 42, 43, 44, 45, 46, 47, 48, 49, 50, 51, 59, 60, 61, 62, 63, 64, 65, 66, 67, 68, 69] (by decide +kernel) (by decide +kernel)
set_option maxRecDepth 20000 in
theorem gX4_floatAt_X2_floatProperty : GoodIn wsX4_floatAt (wsV RX4 182 RX2 yX2_floatProperty wsX2_floatProperty) := goodIn_app (goodIn_of _ (by decide +kernel)) ggX4_floatAt_X2_floatProperty
theorem dX4_floatAt_0 : decode cX4_floatAt 0 = .ok (.aload_n 0, 1) := by decide +kernel
theorem dX4_floatAt_1 : decode cX4_floatAt 1 = .ok (.iload_n 1, 1) := by decide +kernel
theorem dX4_floatAt_2 : decode cX4_floatAt 2 = .ok (.invokevirtual 84, 3) := by decide +kernel
theorem dX4_floatAt_5 : decode cX4_floatAt 5 = .ok (.iload_n 2, 1) := by decide +kernel
theorem dX4_floatAt_6 : decode cX4_floatAt 6 = .ok (.ifCond .lt 9, 3) := by decide +kernel
theorem dX4_floatAt_9 : decode cX4_floatAt 9 = .ok (.iload_n 2, 1) := by decide +kernel
theorem dX4_floatAt_10 : decode cX4_floatAt 10 = .ok (.bipush 7, 2) := by decide +kernel
theorem dX4_floatAt_12 : decode cX4_floatAt 12 = .ok (.if_icmp .lt 13, 3) := by decide +kernel
theorem dX4_floatAt_15 : decode cX4_floatAt 15 = .ok (.new 62, 3) := by decide +kernel
theorem dX4_floatAt_18 : decode cX4_floatAt 18 = .ok (.dup, 1) := by decide +kernel
theorem dX4_floatAt_19 : decode cX4_floatAt 19 = .ok (.ldc 180, 2) := by decide +kernel
theorem dX4_floatAt_21 : decode cX4_floatAt 21 = .ok (.invokespecial 66, 3) := by decide +kernel
theorem dX4_floatAt_24 : decode cX4_floatAt 24 = .ok (.athrow, 1) := by decide +kernel
theorem dX4_floatAt_25 : decode cX4_floatAt 25 = .ok (.aload_n 0, 1) := by decide +kernel
theorem dX4_floatAt_26 : decode cX4_floatAt 26 = .ok (.getfield 10, 3) := by decide +kernel
theorem dX4_floatAt_29 : decode cX4_floatAt 29 = .ok (.iload_n 1, 1) := by decide +kernel
theorem dX4_floatAt_30 : decode cX4_floatAt 30 = .ok (.iload_n 2, 1) := by decide +kernel
theorem dX4_floatAt_31 : decode cX4_floatAt 31 = .ok (.invokevirtual 182, 3) := by decide +kernel
theorem dX4_floatAt_34 : decode cX4_floatAt 34 = .ok (.ireturn, 1) := by decide +kernel
set_option maxRecDepth 20000 in
theorem ggX4_trouble_X4_needFloat : GoodIn wsX4_trouble wsX4_needFloat := goodIn_ca (goodIn_r _ [8, 9, 10, 3, 11, 32, 33, 34, 35, 36, 37, 38, 39, 40, 41, 42, 43, 44, 45, 46, 47, 48, 49] (by decide +kernel) (by decide +kernel)) (goodIn_sub (fun _ h => List.mem_cons_of_mem _ (List.mem_append_right _ h)) (by decide +kernel))
set_option maxRecDepth 20000 in
theorem gX4_trouble_X4_needFloat : GoodIn wsX4_trouble (wsV RX4 84 RX4 yX4_needFloat wsX4_needFloat) := goodIn_app (goodIn_of _ (by decide +kernel)) ggX4_trouble_X4_needFloat
set_option maxRecDepth 20000 in
theorem ggX4_trouble_X2_troubleBy : GoodIn wsX4_trouble wsX2_troubleBy := goodIn_r _ [16, 17, 18, 19, 15, 20, 21, 22, 23, 24, 25, 26, 27, 28, 29, 30, 31, 39, 40, 41, 42, 43, 44, 45, 46, 47, 48, 49] (by decide +kernel) (by decide +kernel)
set_option maxRecDepth 20000 in
theorem gX4_trouble_X2_troubleBy : GoodIn wsX4_trouble (wsV RX4 187 RX2 yX2_troubleBy wsX2_troubleBy) := goodIn_app (goodIn_of _ (by decide +kernel)) ggX4_trouble_X2_troubleBy
theorem dX4_trouble_0 : decode cX4_trouble 0 = .ok (.aload_n 0, 1) := by decide +kernel
theorem dX4_trouble_1 : decode cX4_trouble 1 = .ok (.iload_n 1, 1) := by decide +kernel
theorem dX4_trouble_2 : decode cX4_trouble 2 = .ok (.invokevirtual 84, 3) := by decide +kernel
theorem dX4_trouble_5 : decode cX4_trouble 5 = .ok (.iload_n 2, 1) := by decide +kernel
theorem dX4_trouble_6 : decode cX4_trouble 6 = .ok (.ifCond .lt 8, 3) := by decide +kernel
theorem dX4_trouble_9 : decode cX4_trouble 9 = .ok (.iload_n 2, 1) := by decide +kernel
theorem dX4_trouble_10 : decode cX4_trouble 10 = .ok (.iconst 3, 1) := by decide +kernel
theorem dX4_trouble_11 : decode cX4_trouble 11 = .ok (.if_icmp .lt 13, 3) := by decide +kernel
theorem dX4_trouble_14 : decode cX4_trouble 14 = .ok (.new 62, 3) := by decide +kernel
theorem dX4_trouble_17 : decode cX4_trouble 17 = .ok (.dup, 1) := by decide +kernel
theorem dX4_trouble_18 : decode cX4_trouble 18 = .ok (.ldc 185, 2) := by decide +kernel
theorem dX4_trouble_20 : decode cX4_trouble 20 = .ok (.invokespecial 66, 3) := by decide +kernel
theorem dX4_trouble_23 : decode cX4_trouble 23 = .ok (.athrow, 1) := by decide +kernel
theorem dX4_trouble_24 : decode cX4_trouble 24 = .ok (.aload_n 0, 1) := by decide +kernel
theorem dX4_trouble_25 : decode cX4_trouble 25 = .ok (.getfield 10, 3) := by decide +kernel
theorem dX4_trouble_28 : decode cX4_trouble 28 = .ok (.iload_n 1, 1) := by decide +kernel
theorem dX4_trouble_29 : decode cX4_trouble 29 = .ok (.iload_n 2, 1) := by decide +kernel
theorem dX4_trouble_30 : decode cX4_trouble 30 = .ok (.invokevirtual 187, 3) := by decide +kernel
theorem dX4_trouble_33 : decode cX4_trouble 33 = .ok (.ireturn, 1) := by decide +kernel
set_option maxRecDepth 20000 in
theorem ggX4_comes_X4_needFloat : GoodIn wsX4_comes wsX4_needFloat := goodIn_ca (goodIn_r _ [8, 9, 10, 1, 11, 37, 38, 39, 40, 41, 42, 43, 44, 45, 46, 47, 48, 49, 50, 51, 52, 53, 54] (by decide +kernel) (by decide +kernel)) (goodIn_sub (fun _ h => List.mem_cons_of_mem _ (List.mem_append_right _ h)) (by decide +kernel))
set_option maxRecDepth 20000 in
theorem gX4_comes_X4_needFloat : GoodIn wsX4_comes (wsV RX4 84 RX4 yX4_needFloat wsX4_needFloat) := goodIn_app (goodIn_of _ (by decide +kernel)) ggX4_comes_X4_needFloat
set_option maxRecDepth 20000 in
theorem ggX4_comes_X4_needBridge : GoodIn wsX4_comes wsX4_needBridge := goodIn_ca (goodIn_r _ [15, 9, 10, 1, 3, 37, 38, 39, 40, 41, 42, 43, 44, 45, 46, 47, 48, 49, 50, 51, 52, 53, 54] (by decide +kernel) (by decide +kernel)) (goodIn_sub (fun _ h => List.mem_cons_of_mem _ (List.mem_append_right _ h)) (by decide +kernel))
set_option maxRecDepth 20000 in
theorem gX4_comes_X4_needBridge : GoodIn wsX4_comes (wsV RX4 129 RX4 yX4_needBridge wsX4_needBridge) := goodIn_app (goodIn_of _ (by decide +kernel)) ggX4_comes_X4_needBridge
set_option maxRecDepth 20000 in
theorem ggX4_comes_X2_travel : GoodIn wsX4_comes wsX2_travel := goodIn_r _ [20, 21, 22, 23, 24, 25, 26, 27, 28, 29, 30, 31, 32, 33, 19, 34, 35, 36, 44, 45, 46, 47, 48, 49, 50, 51, 52, 53, 54] (by decide +kernel) (by decide +kernel)
set_option maxRecDepth 20000 in
theorem gX4_comes_X2_travel : GoodIn wsX4_comes (wsV RX4 190 RX2 yX2_travel wsX2_travel) := goodIn_app (goodIn_of _ (by decide +kernel)) ggX4_comes_X2_travel
theorem dX4_comes_0 : decode cX4_comes 0 = .ok (.aload_n 0, 1) := by decide +kernel
theorem dX4_comes_1 : decode cX4_comes 1 = .ok (.iload_n 1, 1) := by decide +kernel
theorem dX4_comes_2 : decode cX4_comes 2 = .ok (.invokevirtual 84, 3) := by decide +kernel
theorem dX4_comes_5 : decode cX4_comes 5 = .ok (.iload_n 2, 1) := by decide +kernel
theorem dX4_comes_6 : decode cX4_comes 6 = .ok (.iconst (-1), 1) := by decide +kernel
theorem dX4_comes_7 : decode cX4_comes 7 = .ok (.if_icmp .eq 8, 3) := by decide +kernel
theorem dX4_comes_10 : decode cX4_comes 10 = .ok (.aload_n 0, 1) := by decide +kernel
theorem dX4_comes_11 : decode cX4_comes 11 = .ok (.iload_n 2, 1) := by decide +kernel
theorem dX4_comes_12 : decode cX4_comes 12 = .ok (.invokevirtual 129, 3) := by decide +kernel
theorem dX4_comes_15 : decode cX4_comes 15 = .ok (.aload_n 0, 1) := by decide +kernel
theorem dX4_comes_16 : decode cX4_comes 16 = .ok (.getfield 10, 3) := by decide +kernel
theorem dX4_comes_19 : decode cX4_comes 19 = .ok (.iload_n 1, 1) := by decide +kernel
theorem dX4_comes_20 : decode cX4_comes 20 = .ok (.invokevirtual 190, 3) := by decide +kernel
theorem dX4_comes_23 : decode cX4_comes 23 = .ok (.aload_n 0, 1) := by decide +kernel
theorem dX4_comes_24 : decode cX4_comes 24 = .ok (.getfield 10, 3) := by decide +kernel
theorem dX4_comes_27 : decode cX4_comes 27 = .ok (.getfield 193, 3) := by decide +kernel
theorem dX4_comes_30 : decode cX4_comes 30 = .ok (.iload_n 2, 1) := by decide +kernel
theorem dX4_comes_31 : decode cX4_comes 31 = .ok (.iconst (-1), 1) := by decide +kernel
theorem dX4_comes_32 : decode cX4_comes 32 = .ok (.if_icmp .ne 13, 3) := by decide +kernel
theorem dX4_comes_35 : decode cX4_comes 35 = .ok (.aload_n 0, 1) := by decide +kernel
theorem dX4_comes_36 : decode cX4_comes 36 = .ok (.getfield 10, 3) := by decide +kernel
theorem dX4_comes_39 : decode cX4_comes 39 = .ok (.getfield 117, 3) := by decide +kernel
theorem dX4_comes_42 : decode cX4_comes 42 = .ok (.goto 4, 3) := by decide +kernel
theorem dX4_comes_45 : decode cX4_comes 45 = .ok (.iload_n 2, 1) := by decide +kernel
theorem dX4_comes_46 : decode cX4_comes 46 = .ok (.iaload, 1) := by decide +kernel
theorem dX4_comes_47 : decode cX4_comes 47 = .ok (.ireturn, 1) := by decide +kernel
set_option maxRecDepth 20000 in
theorem ggX4_bridgeOf_X4_needBridge : GoodIn wsX4_bridgeOf wsX4_needBridge := goodIn_ca (goodIn_r _ [8, 9, 10, 3, 11, 34, 35, 36, 37, 38, 39, 40, 41, 42, 43, 44, 45, 46, 47, 48, 49, 50, 51] (by decide +kernel) (by decide +kernel)) (goodIn_sub (fun _ h => List.mem_cons_of_mem _ (List.mem_append_right _ h)) (by decide +kernel))
set_option maxRecDepth 20000 in
theorem gX4_bridgeOf_X4_needBridge : GoodIn wsX4_bridgeOf (wsV RX4 129 RX4 yX4_needBridge wsX4_needBridge) := goodIn_app (goodIn_of _ (by decide +kernel)) ggX4_bridgeOf_X4_needBridge
set_option maxRecDepth 20000 in
theorem ggX4_bridgeOf_X2_bridgeProperty : GoodIn wsX4_bridgeOf wsX2_bridgeProperty := goodIn_r _ [16, 17, 18, 19, 20, 21, 15, 22, 23, 24, 25, 26, 27, 28, 29, 30, 31, 32, 33, 41, 42, 43, 44, 45, 46, 47, 48, 49, 50, 51] (by decide +kernel) (by decide +kernel)
set_option maxRecDepth 20000 in
theorem gX4_bridgeOf_X2_bridgeProperty : GoodIn wsX4_bridgeOf (wsV RX4 198 RX2 yX2_bridgeProperty wsX2_bridgeProperty) := goodIn_app (goodIn_of _ (by decide +kernel)) ggX4_bridgeOf_X2_bridgeProperty
theorem dX4_bridgeOf_0 : decode cX4_bridgeOf 0 = .ok (.aload_n 0, 1) := by decide +kernel
theorem dX4_bridgeOf_1 : decode cX4_bridgeOf 1 = .ok (.iload_n 1, 1) := by decide +kernel
theorem dX4_bridgeOf_2 : decode cX4_bridgeOf 2 = .ok (.invokevirtual 129, 3) := by decide +kernel
theorem dX4_bridgeOf_5 : decode cX4_bridgeOf 5 = .ok (.iload_n 2, 1) := by decide +kernel
theorem dX4_bridgeOf_6 : decode cX4_bridgeOf 6 = .ok (.ifCond .lt 8, 3) := by decide +kernel
theorem dX4_bridgeOf_9 : decode cX4_bridgeOf 9 = .ok (.iload_n 2, 1) := by decide +kernel
theorem dX4_bridgeOf_10 : decode cX4_bridgeOf 10 = .ok (.iconst 3, 1) := by decide +kernel
theorem dX4_bridgeOf_11 : decode cX4_bridgeOf 11 = .ok (.if_icmp .lt 13, 3) := by decide +kernel
theorem dX4_bridgeOf_14 : decode cX4_bridgeOf 14 = .ok (.new 62, 3) := by decide +kernel
theorem dX4_bridgeOf_17 : decode cX4_bridgeOf 17 = .ok (.dup, 1) := by decide +kernel
theorem dX4_bridgeOf_18 : decode cX4_bridgeOf 18 = .ok (.ldc 196, 2) := by decide +kernel
theorem dX4_bridgeOf_20 : decode cX4_bridgeOf 20 = .ok (.invokespecial 66, 3) := by decide +kernel
theorem dX4_bridgeOf_23 : decode cX4_bridgeOf 23 = .ok (.athrow, 1) := by decide +kernel
theorem dX4_bridgeOf_24 : decode cX4_bridgeOf 24 = .ok (.aload_n 0, 1) := by decide +kernel
theorem dX4_bridgeOf_25 : decode cX4_bridgeOf 25 = .ok (.getfield 10, 3) := by decide +kernel
theorem dX4_bridgeOf_28 : decode cX4_bridgeOf 28 = .ok (.iload_n 1, 1) := by decide +kernel
theorem dX4_bridgeOf_29 : decode cX4_bridgeOf 29 = .ok (.iload_n 2, 1) := by decide +kernel
theorem dX4_bridgeOf_30 : decode cX4_bridgeOf 30 = .ok (.invokevirtual 198, 3) := by decide +kernel
theorem dX4_bridgeOf_33 : decode cX4_bridgeOf 33 = .ok (.ireturn, 1) := by decide +kernel
set_option maxRecDepth 20000 in
theorem ggX4_count_X4_number : GoodIn wsX4_count wsX4_number := goodIn_r _ [7, 8, 9, 10, 11, 12, 13, 14, 15, 16, 17, 18, 19, 20, 21, 22, 23, 24, 25, 26, 27, 28, 29, 30, 31, 32, 33, 34, 35, 36, 37, 38, 39, 40, 41, 42, 43, 44, 45, 46, 47, 48, 49, 50, 51, 52, 53, 54, 55, 56, 57, 58, 59, 60, 61, 62, 63, 64, 65, 66, 67, 68, 69, 70, 71, 72, 73, 74, 75, 76, 77, 78, 79, 80, 81, 82, 83, 84, 85, 86, 87, 88, 89, 90, 91, 92, 93, 94, 95, 96, 97, 98, 99, 100, 101, 102, 103, 104, 105] (by decide +kernel) (by decide +kernel)
set_option maxRecDepth 20000 in
theorem gX4_count_X4_number : GoodIn wsX4_count (wsV RX4 203 RX4 yX4_number wsX4_number) := goodIn_app (goodIn_of _ (by decide +kernel)) ggX4_count_X4_number
theorem dX4_count_0 : decode cX4_count 0 = .ok (.iload_n 1, 1) := by decide +kernel
theorem dX4_count_1 : decode cX4_count 1 = .ok (.ifCond .lt 9, 3) := by decide +kernel
theorem dX4_count_4 : decode cX4_count 4 = .ok (.iload_n 1, 1) := by decide +kernel
theorem dX4_count_5 : decode cX4_count 5 = .ok (.bipush 9, 2) := by decide +kernel
theorem dX4_count_7 : decode cX4_count 7 = .ok (.if_icmp .lt 13, 3) := by decide +kernel
theorem dX4_count_10 : decode cX4_count 10 = .ok (.new 62, 3) := by decide +kernel
theorem dX4_count_13 : decode cX4_count 13 = .ok (.dup, 1) := by decide +kernel
theorem dX4_count_14 : decode cX4_count 14 = .ok (.ldc 201, 2) := by decide +kernel
theorem dX4_count_16 : decode cX4_count 16 = .ok (.invokespecial 66, 3) := by decide +kernel
theorem dX4_count_19 : decode cX4_count 19 = .ok (.athrow, 1) := by decide +kernel
theorem dX4_count_20 : decode cX4_count 20 = .ok (.aload_n 0, 1) := by decide +kernel
theorem dX4_count_21 : decode cX4_count 21 = .ok (.iload_n 1, 1) := by decide +kernel
theorem dX4_count_22 : decode cX4_count 22 = .ok (.invokevirtual 203, 3) := by decide +kernel
theorem dX4_count_25 : decode cX4_count 25 = .ok (.ireturn, 1) := by decide +kernel
set_option maxRecDepth 20000 in
theorem ggX4_setting_X4_needSetting : GoodIn wsX4_setting wsX4_needSetting := goodIn_ca (goodIn_r _ [6, 7, 8] (by decide +kernel) (by decide +kernel)) (goodIn_sub (fun _ h => List.mem_cons_of_mem _ (List.mem_append_right _ h)) (by decide +kernel))
set_option maxRecDepth 20000 in
theorem gX4_setting_X4_needSetting : GoodIn wsX4_setting (va_wsS RX4 138 yX4_needSetting wsX4_needSetting) := goodIn_app (goodIn_of _ (by decide +kernel)) ggX4_setting_X4_needSetting
theorem dX4_setting_0 : decode cX4_setting 0 = .ok (.iload_n 1, 1) := by decide +kernel
theorem dX4_setting_1 : decode cX4_setting 1 = .ok (.invokestatic 138, 3) := by decide +kernel
theorem dX4_setting_4 : decode cX4_setting 4 = .ok (.aload_n 0, 1) := by decide +kernel
theorem dX4_setting_5 : decode cX4_setting 5 = .ok (.getfield 10, 3) := by decide +kernel
theorem dX4_setting_8 : decode cX4_setting 8 = .ok (.getfield 149, 3) := by decide +kernel
theorem dX4_setting_11 : decode cX4_setting 11 = .ok (.iload_n 1, 1) := by decide +kernel
theorem dX4_setting_12 : decode cX4_setting 12 = .ok (.iaload, 1) := by decide +kernel
theorem dX4_setting_13 : decode cX4_setting 13 = .ok (.ireturn, 1) := by decide +kernel
set_option maxRecDepth 20000 in
theorem ggX4_bestFold_X2_copyFrom : GoodIn wsX4_bestFold wsX2_copyFrom := goodIn_r _ [9, 10, 11, 12, 13, 14, 15, 16, 17, 18, 44, 45, 46, 47, 48, 49, 50, 51, 52, 53, 54] (by decide +kernel) (by decide +kernel)
set_option maxRecDepth 20000 in
theorem gX4_bestFold_X2_copyFrom : GoodIn wsX4_bestFold (wsV RX4 208 RX2 yX2_copyFrom wsX2_copyFrom) := goodIn_app (goodIn_of _ (by decide +kernel)) ggX4_bestFold_X2_copyFrom
set_option maxRecDepth 20000 in
theorem ggX4_bestFold_X2_end : GoodIn wsX4_bestFold wsX2_end := goodIn_r _ [22, 10, 23, 15, 24, 25, 26, 8, 27, 18, 16, 28, 29, 30, 31, 32, 17, 33, 34, 35, 36, 14, 12, 44, 45, 46, 47, 48, 49, 50, 51, 52, 53, 54] (by decide +kernel) (by decide +kernel)
set_option maxRecDepth 20000 in
theorem gX4_bestFold_X2_end : GoodIn wsX4_bestFold (wsV RX4 211 RX2 yX2_end wsX2_end) := goodIn_app (goodIn_of _ (by decide +kernel)) ggX4_bestFold_X2_end
theorem dX4_bestFold_0 : decode cX4_bestFold 0 = .ok (.aload_n 0, 1) := by decide +kernel
theorem dX4_bestFold_1 : decode cX4_bestFold 1 = .ok (.getfield 16, 3) := by decide +kernel
theorem dX4_bestFold_4 : decode cX4_bestFold 4 = .ok (.aload_n 0, 1) := by decide +kernel
theorem dX4_bestFold_5 : decode cX4_bestFold 5 = .ok (.getfield 10, 3) := by decide +kernel
theorem dX4_bestFold_8 : decode cX4_bestFold 8 = .ok (.invokevirtual 208, 3) := by decide +kernel
theorem dX4_bestFold_11 : decode cX4_bestFold 11 = .ok (.iconst (-1), 1) := by decide +kernel
theorem dX4_bestFold_12 : decode cX4_bestFold 12 = .ok (.istore_n 1, 1) := by decide +kernel
theorem dX4_bestFold_13 : decode cX4_bestFold 13 = .ok (.iconst 0, 1) := by decide +kernel
theorem dX4_bestFold_14 : decode cX4_bestFold 14 = .ok (.istore_n 2, 1) := by decide +kernel
theorem dX4_bestFold_15 : decode cX4_bestFold 15 = .ok (.iconst 0, 1) := by decide +kernel
theorem dX4_bestFold_16 : decode cX4_bestFold 16 = .ok (.istore_n 3, 1) := by decide +kernel
theorem dX4_bestFold_17 : decode cX4_bestFold 17 = .ok (.iload_n 3, 1) := by decide +kernel
theorem dX4_bestFold_18 : decode cX4_bestFold 18 = .ok (.aload_n 0, 1) := by decide +kernel
theorem dX4_bestFold_19 : decode cX4_bestFold 19 = .ok (.getfield 16, 3) := by decide +kernel
theorem dX4_bestFold_22 : decode cX4_bestFold 22 = .ok (.getfield 48, 3) := by decide +kernel
theorem dX4_bestFold_25 : decode cX4_bestFold 25 = .ok (.if_icmp .ge 66, 3) := by decide +kernel
theorem dX4_bestFold_28 : decode cX4_bestFold 28 = .ok (.aload_n 0, 1) := by decide +kernel
theorem dX4_bestFold_29 : decode cX4_bestFold 29 = .ok (.getfield 16, 3) := by decide +kernel
theorem dX4_bestFold_32 : decode cX4_bestFold 32 = .ok (.getfield 98, 3) := by decide +kernel
theorem dX4_bestFold_35 : decode cX4_bestFold 35 = .ok (.iload_n 3, 1) := by decide +kernel
theorem dX4_bestFold_36 : decode cX4_bestFold 36 = .ok (.baload, 1) := by decide +kernel
theorem dX4_bestFold_37 : decode cX4_bestFold 37 = .ok (.ifCond .ne 48, 3) := by decide +kernel
theorem dX4_bestFold_40 : decode cX4_bestFold 40 = .ok (.aload_n 0, 1) := by decide +kernel
theorem dX4_bestFold_41 : decode cX4_bestFold 41 = .ok (.getfield 16, 3) := by decide +kernel
theorem dX4_bestFold_44 : decode cX4_bestFold 44 = .ok (.getfield 98, 3) := by decide +kernel
theorem dX4_bestFold_47 : decode cX4_bestFold 47 = .ok (.iload_n 3, 1) := by decide +kernel
theorem dX4_bestFold_48 : decode cX4_bestFold 48 = .ok (.iconst 1, 1) := by decide +kernel
theorem dX4_bestFold_49 : decode cX4_bestFold 49 = .ok (.bastore, 1) := by decide +kernel
theorem dX4_bestFold_50 : decode cX4_bestFold 50 = .ok (.aload_n 0, 1) := by decide +kernel
theorem dX4_bestFold_51 : decode cX4_bestFold 51 = .ok (.getfield 16, 3) := by decide +kernel
theorem dX4_bestFold_54 : decode cX4_bestFold 54 = .ok (.invokevirtual 211, 3) := by decide +kernel
theorem dX4_bestFold_57 : decode cX4_bestFold 57 = .ok (.istore 4, 2) := by decide +kernel
theorem dX4_bestFold_59 : decode cX4_bestFold 59 = .ok (.aload_n 0, 1) := by decide +kernel
theorem dX4_bestFold_60 : decode cX4_bestFold 60 = .ok (.getfield 16, 3) := by decide +kernel
theorem dX4_bestFold_63 : decode cX4_bestFold 63 = .ok (.getfield 98, 3) := by decide +kernel
theorem dX4_bestFold_66 : decode cX4_bestFold 66 = .ok (.iload_n 3, 1) := by decide +kernel
theorem dX4_bestFold_67 : decode cX4_bestFold 67 = .ok (.iconst 0, 1) := by decide +kernel
theorem dX4_bestFold_68 : decode cX4_bestFold 68 = .ok (.bastore, 1) := by decide +kernel
theorem dX4_bestFold_69 : decode cX4_bestFold 69 = .ok (.iload_n 1, 1) := by decide +kernel
theorem dX4_bestFold_70 : decode cX4_bestFold 70 = .ok (.iconst (-1), 1) := by decide +kernel
theorem dX4_bestFold_71 : decode cX4_bestFold 71 = .ok (.if_icmp .eq 9, 3) := by decide +kernel
theorem dX4_bestFold_74 : decode cX4_bestFold 74 = .ok (.iload 4, 2) := by decide +kernel
theorem dX4_bestFold_76 : decode cX4_bestFold 76 = .ok (.iload_n 2, 1) := by decide +kernel
theorem dX4_bestFold_77 : decode cX4_bestFold 77 = .ok (.if_icmp .ge 8, 3) := by decide +kernel
theorem dX4_bestFold_80 : decode cX4_bestFold 80 = .ok (.iload_n 3, 1) := by decide +kernel
theorem dX4_bestFold_81 : decode cX4_bestFold 81 = .ok (.istore_n 1, 1) := by decide +kernel
theorem dX4_bestFold_82 : decode cX4_bestFold 82 = .ok (.iload 4, 2) := by decide +kernel
theorem dX4_bestFold_84 : decode cX4_bestFold 84 = .ok (.istore_n 2, 1) := by decide +kernel
theorem dX4_bestFold_85 : decode cX4_bestFold 85 = .ok (.iinc 3 1, 3) := by decide +kernel
theorem dX4_bestFold_88 : decode cX4_bestFold 88 = .ok (.goto (-71), 3) := by decide +kernel
theorem dX4_bestFold_91 : decode cX4_bestFold 91 = .ok (.iload_n 1, 1) := by decide +kernel
theorem dX4_bestFold_92 : decode cX4_bestFold 92 = .ok (.ireturn, 1) := by decide +kernel
set_option maxRecDepth 20000 in
theorem ggX4_leastTrouble_X2_copyFrom : GoodIn wsX4_leastTrouble wsX2_copyFrom := goodIn_r _ [8, 9, 10, 11, 12, 13, 14, 15, 16, 17, 54, 55, 56, 57, 58, 59, 60, 61, 62, 63, 64] (by decide +kernel) (by decide +kernel)
set_option maxRecDepth 20000 in
theorem gX4_leastTrouble_X2_copyFrom : GoodIn wsX4_leastTrouble (wsV RX4 208 RX2 yX2_copyFrom wsX2_copyFrom) := goodIn_app (goodIn_of _ (by decide +kernel)) ggX4_leastTrouble_X2_copyFrom
set_option maxRecDepth 20000 in
theorem ggX4_leastTrouble_X2_allTrouble : GoodIn wsX4_leastTrouble wsX2_allTrouble := goodIn_r _ [21, 9, 22, 23, 24, 7, 25, 26, 27, 28, 29, 12, 10, 30, 31, 32, 33, 17, 34, 35, 36, 37, 54, 55, 56, 57, 58, 59, 60, 61, 62, 63, 64] (by decide +kernel) (by decide +kernel)
set_option maxRecDepth 20000 in
theorem gX4_leastTrouble_X2_allTrouble : GoodIn wsX4_leastTrouble (wsV RX4 91 RX2 yX2_allTrouble wsX2_allTrouble) := goodIn_app (goodIn_of _ (by decide +kernel)) ggX4_leastTrouble_X2_allTrouble
set_option maxRecDepth 20000 in
theorem ggX4_leastTrouble_X4_leastFrom : GoodIn wsX4_leastTrouble wsX4_leastFrom := goodIn_r _ [41, 2, 42, 43, 44, 7, 45, 10, 11, 12, 13, 46, 23, 24, 25, 26, 27, 28, 29, 30, 31, 32, 33, 17, 34, 35, 36, 37, 38, 39, 40, 54, 55, 56, 57, 58, 59, 60, 61, 62, 63, 64] (by decide +kernel) (by decide +kernel)
set_option maxRecDepth 20000 in
theorem gX4_leastTrouble_X4_leastFrom : GoodIn wsX4_leastTrouble (va_wsS RX4 217 yX4_leastFrom wsX4_leastFrom) := goodIn_app (goodIn_of _ (by decide +kernel)) ggX4_leastTrouble_X4_leastFrom
theorem dX4_leastTrouble_0 : decode cX4_leastTrouble 0 = .ok (.aload_n 0, 1) := by decide +kernel
theorem dX4_leastTrouble_1 : decode cX4_leastTrouble 1 = .ok (.getfield 10, 3) := by decide +kernel
theorem dX4_leastTrouble_4 : decode cX4_leastTrouble 4 = .ok (.getfield 48, 3) := by decide +kernel
theorem dX4_leastTrouble_7 : decode cX4_leastTrouble 7 = .ok (.bipush 6, 2) := by decide +kernel
theorem dX4_leastTrouble_9 : decode cX4_leastTrouble 9 = .ok (.if_icmp .le 5, 3) := by decide +kernel
theorem dX4_leastTrouble_12 : decode cX4_leastTrouble 12 = .ok (.iconst (-1), 1) := by decide +kernel
theorem dX4_leastTrouble_13 : decode cX4_leastTrouble 13 = .ok (.ireturn, 1) := by decide +kernel
theorem dX4_leastTrouble_14 : decode cX4_leastTrouble 14 = .ok (.aload_n 0, 1) := by decide +kernel
theorem dX4_leastTrouble_15 : decode cX4_leastTrouble 15 = .ok (.getfield 16, 3) := by decide +kernel
theorem dX4_leastTrouble_18 : decode cX4_leastTrouble 18 = .ok (.aload_n 0, 1) := by decide +kernel
theorem dX4_leastTrouble_19 : decode cX4_leastTrouble 19 = .ok (.getfield 10, 3) := by decide +kernel
theorem dX4_leastTrouble_22 : decode cX4_leastTrouble 22 = .ok (.invokevirtual 208, 3) := by decide +kernel
theorem dX4_leastTrouble_25 : decode cX4_leastTrouble 25 = .ok (.aload_n 0, 1) := by decide +kernel
theorem dX4_leastTrouble_26 : decode cX4_leastTrouble 26 = .ok (.getfield 16, 3) := by decide +kernel
theorem dX4_leastTrouble_29 : decode cX4_leastTrouble 29 = .ok (.iconst 0, 1) := by decide +kernel
theorem dX4_leastTrouble_30 : decode cX4_leastTrouble 30 = .ok (.iconst 0, 1) := by decide +kernel
theorem dX4_leastTrouble_31 : decode cX4_leastTrouble 31 = .ok (.aload_n 0, 1) := by decide +kernel
theorem dX4_leastTrouble_32 : decode cX4_leastTrouble 32 = .ok (.getfield 16, 3) := by decide +kernel
theorem dX4_leastTrouble_35 : decode cX4_leastTrouble 35 = .ok (.invokevirtual 91, 3) := by decide +kernel
theorem dX4_leastTrouble_38 : decode cX4_leastTrouble 38 = .ok (.invokestatic 217, 3) := by decide +kernel
theorem dX4_leastTrouble_41 : decode cX4_leastTrouble 41 = .ok (.ireturn, 1) := by decide +kernel
set_option maxRecDepth 20000 in
theorem ggX4_smoothness_X2_troubledFloats : GoodIn wsX4_smoothness wsX2_troubledFloats := goodIn_r _ [7, 8, 9, 10, 11, 6, 12, 13, 14, 15, 16, 17, 18, 19, 20, 21, 22, 23, 24, 25, 26, 27, 35, 36, 37, 38, 39, 40, 41, 42, 43, 44, 45] (by decide +kernel) (by decide +kernel)
set_option maxRecDepth 20000 in
theorem gX4_smoothness_X2_troubledFloats : GoodIn wsX4_smoothness (wsV RX4 221 RX2 yX2_troubledFloats wsX2_troubledFloats) := goodIn_app (goodIn_of _ (by decide +kernel)) ggX4_smoothness_X2_troubledFloats
theorem dX4_smoothness_0 : decode cX4_smoothness 0 = .ok (.aload_n 0, 1) := by decide +kernel
theorem dX4_smoothness_1 : decode cX4_smoothness 1 = .ok (.getfield 10, 3) := by decide +kernel
theorem dX4_smoothness_4 : decode cX4_smoothness 4 = .ok (.getfield 48, 3) := by decide +kernel
theorem dX4_smoothness_7 : decode cX4_smoothness 7 = .ok (.ifCond .gt 5, 3) := by decide +kernel
theorem dX4_smoothness_10 : decode cX4_smoothness 10 = .ok (.dconst 1, 1) := by decide +kernel
theorem dX4_smoothness_11 : decode cX4_smoothness 11 = .ok (.dreturn, 1) := by decide +kernel
theorem dX4_smoothness_12 : decode cX4_smoothness 12 = .ok (.aload_n 0, 1) := by decide +kernel
theorem dX4_smoothness_13 : decode cX4_smoothness 13 = .ok (.getfield 10, 3) := by decide +kernel
theorem dX4_smoothness_16 : decode cX4_smoothness 16 = .ok (.getfield 48, 3) := by decide +kernel
theorem dX4_smoothness_19 : decode cX4_smoothness 19 = .ok (.aload_n 0, 1) := by decide +kernel
theorem dX4_smoothness_20 : decode cX4_smoothness 20 = .ok (.getfield 10, 3) := by decide +kernel
theorem dX4_smoothness_23 : decode cX4_smoothness 23 = .ok (.invokevirtual 221, 3) := by decide +kernel
theorem dX4_smoothness_26 : decode cX4_smoothness 26 = .ok (.isub, 1) := by decide +kernel
theorem dX4_smoothness_27 : decode cX4_smoothness 27 = .ok (.i2d, 1) := by decide +kernel
theorem dX4_smoothness_28 : decode cX4_smoothness 28 = .ok (.aload_n 0, 1) := by decide +kernel
theorem dX4_smoothness_29 : decode cX4_smoothness 29 = .ok (.getfield 10, 3) := by decide +kernel
theorem dX4_smoothness_32 : decode cX4_smoothness 32 = .ok (.getfield 48, 3) := by decide +kernel
theorem dX4_smoothness_35 : decode cX4_smoothness 35 = .ok (.i2d, 1) := by decide +kernel
theorem dX4_smoothness_36 : decode cX4_smoothness 36 = .ok (.ddiv, 1) := by decide +kernel
theorem dX4_smoothness_37 : decode cX4_smoothness 37 = .ok (.dreturn, 1) := by decide +kernel
theorem dX4_needFloat_0 : decode cX4_needFloat 0 = .ok (.iload_n 1, 1) := by decide +kernel
theorem dX4_needFloat_1 : decode cX4_needFloat 1 = .ok (.ifCond .lt 14, 3) := by decide +kernel
theorem dX4_needFloat_4 : decode cX4_needFloat 4 = .ok (.iload_n 1, 1) := by decide +kernel
theorem dX4_needFloat_5 : decode cX4_needFloat 5 = .ok (.aload_n 0, 1) := by decide +kernel
theorem dX4_needFloat_6 : decode cX4_needFloat 6 = .ok (.getfield 10, 3) := by decide +kernel
theorem dX4_needFloat_9 : decode cX4_needFloat 9 = .ok (.getfield 48, 3) := by decide +kernel
theorem dX4_needFloat_12 : decode cX4_needFloat 12 = .ok (.if_icmp .lt 13, 3) := by decide +kernel
theorem dX4_needFloat_15 : decode cX4_needFloat 15 = .ok (.new 51, 3) := by decide +kernel
theorem dX4_needFloat_18 : decode cX4_needFloat 18 = .ok (.dup, 1) := by decide +kernel
theorem dX4_needFloat_19 : decode cX4_needFloat 19 = .ok (.ldc 248, 2) := by decide +kernel
theorem dX4_needFloat_21 : decode cX4_needFloat 21 = .ok (.invokespecial 55, 3) := by decide +kernel
theorem dX4_needFloat_24 : decode cX4_needFloat 24 = .ok (.athrow, 1) := by decide +kernel
theorem dX4_needFloat_25 : decode cX4_needFloat 25 = .ok (.return_, 1) := by decide +kernel
theorem dX4_needBridge_0 : decode cX4_needBridge 0 = .ok (.iload_n 1, 1) := by decide +kernel
theorem dX4_needBridge_1 : decode cX4_needBridge 1 = .ok (.ifCond .lt 14, 3) := by decide +kernel
theorem dX4_needBridge_4 : decode cX4_needBridge 4 = .ok (.iload_n 1, 1) := by decide +kernel
theorem dX4_needBridge_5 : decode cX4_needBridge 5 = .ok (.aload_n 0, 1) := by decide +kernel
theorem dX4_needBridge_6 : decode cX4_needBridge 6 = .ok (.getfield 10, 3) := by decide +kernel
theorem dX4_needBridge_9 : decode cX4_needBridge 9 = .ok (.getfield 117, 3) := by decide +kernel
theorem dX4_needBridge_12 : decode cX4_needBridge 12 = .ok (.if_icmp .lt 13, 3) := by decide +kernel
theorem dX4_needBridge_15 : decode cX4_needBridge 15 = .ok (.new 51, 3) := by decide +kernel
theorem dX4_needBridge_18 : decode cX4_needBridge 18 = .ok (.dup, 1) := by decide +kernel
theorem dX4_needBridge_19 : decode cX4_needBridge 19 = .ok (.ldc 250, 2) := by decide +kernel
theorem dX4_needBridge_21 : decode cX4_needBridge 21 = .ok (.invokespecial 55, 3) := by decide +kernel
theorem dX4_needBridge_24 : decode cX4_needBridge 24 = .ok (.athrow, 1) := by decide +kernel
theorem dX4_needBridge_25 : decode cX4_needBridge 25 = .ok (.return_, 1) := by decide +kernel
theorem dX4_needSetting_0 : decode cX4_needSetting 0 = .ok (.iload_n 0, 1) := by decide +kernel
theorem dX4_needSetting_1 : decode cX4_needSetting 1 = .ok (.ifCond .lt 8, 3) := by decide +kernel
theorem dX4_needSetting_4 : decode cX4_needSetting 4 = .ok (.iload_n 0, 1) := by decide +kernel
theorem dX4_needSetting_5 : decode cX4_needSetting 5 = .ok (.iconst 4, 1) := by decide +kernel
theorem dX4_needSetting_6 : decode cX4_needSetting 6 = .ok (.if_icmp .lt 13, 3) := by decide +kernel
theorem dX4_needSetting_9 : decode cX4_needSetting 9 = .ok (.new 51, 3) := by decide +kernel
theorem dX4_needSetting_12 : decode cX4_needSetting 12 = .ok (.dup, 1) := by decide +kernel
theorem dX4_needSetting_13 : decode cX4_needSetting 13 = .ok (.ldc 252, 2) := by decide +kernel
theorem dX4_needSetting_15 : decode cX4_needSetting 15 = .ok (.invokespecial 55, 3) := by decide +kernel
theorem dX4_needSetting_18 : decode cX4_needSetting 18 = .ok (.athrow, 1) := by decide +kernel
theorem dX4_needSetting_19 : decode cX4_needSetting 19 = .ok (.return_, 1) := by decide +kernel
theorem dX4_isHeight_0 : decode cX4_isHeight 0 = .ok (.iload_n 0, 1) := by decide +kernel
theorem dX4_isHeight_1 : decode cX4_isHeight 1 = .ok (.bipush 10, 2) := by decide +kernel
theorem dX4_isHeight_3 : decode cX4_isHeight 3 = .ok (.if_icmp .lt 13, 3) := by decide +kernel
theorem dX4_isHeight_6 : decode cX4_isHeight 6 = .ok (.iload_n 0, 1) := by decide +kernel
theorem dX4_isHeight_7 : decode cX4_isHeight 7 = .ok (.bipush 99, 2) := by decide +kernel
theorem dX4_isHeight_9 : decode cX4_isHeight 9 = .ok (.if_icmp .gt 7, 3) := by decide +kernel
theorem dX4_isHeight_12 : decode cX4_isHeight 12 = .ok (.iconst 1, 1) := by decide +kernel
theorem dX4_isHeight_13 : decode cX4_isHeight 13 = .ok (.goto 4, 3) := by decide +kernel
theorem dX4_isHeight_16 : decode cX4_isHeight 16 = .ok (.iconst 0, 1) := by decide +kernel
theorem dX4_isHeight_17 : decode cX4_isHeight 17 = .ok (.ireturn, 1) := by decide +kernel
set_option maxRecDepth 20000 in
theorem ggX4_isFloat_X4_isHeight : GoodIn wsX4_isFloat wsX4_isHeight := goodIn_r _ [4] (by decide +kernel) (by decide +kernel)
set_option maxRecDepth 20000 in
theorem gX4_isFloat_X4_isHeight : GoodIn wsX4_isFloat (va_wsS RX4 111 yX4_isHeight wsX4_isHeight) := goodIn_app (goodIn_of _ (by decide +kernel)) ggX4_isFloat_X4_isHeight
theorem dX4_isFloat_0 : decode cX4_isFloat 0 = .ok (.iload_n 0, 1) := by decide +kernel
theorem dX4_isFloat_1 : decode cX4_isFloat 1 = .ok (.ifCond .lt 15, 3) := by decide +kernel
theorem dX4_isFloat_4 : decode cX4_isFloat 4 = .ok (.iload_n 0, 1) := by decide +kernel
theorem dX4_isFloat_5 : decode cX4_isFloat 5 = .ok (.iconst 4, 1) := by decide +kernel
theorem dX4_isFloat_6 : decode cX4_isFloat 6 = .ok (.if_icmp .ge 10, 3) := by decide +kernel
theorem dX4_isFloat_9 : decode cX4_isFloat 9 = .ok (.iload_n 1, 1) := by decide +kernel
theorem dX4_isFloat_10 : decode cX4_isFloat 10 = .ok (.invokestatic 111, 3) := by decide +kernel
theorem dX4_isFloat_13 : decode cX4_isFloat 13 = .ok (.ifCond .ne 5, 3) := by decide +kernel
theorem dX4_isFloat_16 : decode cX4_isFloat 16 = .ok (.iconst 0, 1) := by decide +kernel
theorem dX4_isFloat_17 : decode cX4_isFloat 17 = .ok (.ireturn, 1) := by decide +kernel
theorem dX4_isFloat_18 : decode cX4_isFloat 18 = .ok (.iload_n 2, 1) := by decide +kernel
theorem dX4_isFloat_19 : decode cX4_isFloat 19 = .ok (.ifCond .lt 22, 3) := by decide +kernel
theorem dX4_isFloat_22 : decode cX4_isFloat 22 = .ok (.iload_n 2, 1) := by decide +kernel
theorem dX4_isFloat_23 : decode cX4_isFloat 23 = .ok (.iload_n 0, 1) := by decide +kernel
theorem dX4_isFloat_24 : decode cX4_isFloat 24 = .ok (.iconst 1, 1) := by decide +kernel
theorem dX4_isFloat_25 : decode cX4_isFloat 25 = .ok (.if_icmp .ne 8, 3) := by decide +kernel
theorem dX4_isFloat_28 : decode cX4_isFloat 28 = .ok (.bipush 15, 2) := by decide +kernel
theorem dX4_isFloat_30 : decode cX4_isFloat 30 = .ok (.goto 4, 3) := by decide +kernel
theorem dX4_isFloat_33 : decode cX4_isFloat 33 = .ok (.iconst 0, 1) := by decide +kernel
theorem dX4_isFloat_34 : decode cX4_isFloat 34 = .ok (.if_icmp .gt 7, 3) := by decide +kernel
theorem dX4_isFloat_37 : decode cX4_isFloat 37 = .ok (.iconst 1, 1) := by decide +kernel
theorem dX4_isFloat_38 : decode cX4_isFloat 38 = .ok (.goto 4, 3) := by decide +kernel
theorem dX4_isFloat_41 : decode cX4_isFloat 41 = .ok (.iconst 0, 1) := by decide +kernel
theorem dX4_isFloat_42 : decode cX4_isFloat 42 = .ok (.ireturn, 1) := by decide +kernel
set_option maxRecDepth 20000 in
theorem ggX4_doBestExchange_X0_startAt : GoodIn wsX4_doBestExchange wsX0_startAt := goodIn_r _ [8, 9, 10, 11, 12, 13, 14, 15, 16, 17, 18, 19, 20, 21, 22, 23, 24, 25, 26, 27, 28, 29, 30, 31, 32, 33, 34, 35, 36, 37, 38, 39, 40, 41, 42, 43, 44, 45, 46, 47, 48, 49, 50, 51, 52, 53, 54, 55, 56, 57, 58, 85, 86, 74, 75, 76, 77, 78, 79, 80, 81, 82, 83, 84] (by decide +kernel) (by decide +kernel)
set_option maxRecDepth 20000 in
theorem gX4_doBestExchange_X0_startAt : GoodIn wsX4_doBestExchange (wsV RX4 254 RX0 yX0_startAt wsX0_startAt) := goodIn_app (goodIn_of _ (by decide +kernel)) ggX4_doBestExchange_X0_startAt
set_option maxRecDepth 20000 in
theorem ggX4_doBestExchange_X2_swap : GoodIn wsX4_doBestExchange wsX2_swap := goodIn_r _ [62, 26, 58, 25, 57, 74, 75, 76, 77, 78, 79, 80, 81, 82, 83, 84] (by decide +kernel) (by decide +kernel)
set_option maxRecDepth 20000 in
theorem gX4_doBestExchange_X2_swap : GoodIn wsX4_doBestExchange (wsV RX4 95 RX2 yX2_swap wsX2_swap) := goodIn_app (goodIn_of _ (by decide +kernel)) ggX4_doBestExchange_X2_swap
set_option maxRecDepth 20000 in
theorem ggX4_doBestExchange_X0_isBeatenBy : GoodIn wsX4_doBestExchange wsX0_isBeatenBy := goodIn_r _ [66, 9, 10, 11, 12, 13, 14, 15, 16, 17, 18, 19, 20, 21, 22, 23, 24, 25, 26, 27, 28, 29, 30, 31, 32, 33, 34, 35, 36, 37, 38, 39, 40, 41, 42, 43, 44, 45, 46, 47, 48, 49, 50, 51, 52, 53, 54, 55, 56, 57, 58, 85, 86, 74, 75, 76, 77, 78, 79, 80, 81, 82, 83, 84] (by decide +kernel) (by decide +kernel)
set_option maxRecDepth 20000 in
theorem gX4_doBestExchange_X0_isBeatenBy : GoodIn wsX4_doBestExchange (wsV RX4 257 RX0 yX0_isBeatenBy wsX0_isBeatenBy) := goodIn_app (goodIn_of _ (by decide +kernel)) ggX4_doBestExchange_X0_isBeatenBy
theorem dX4_doBestExchange_0 : decode cX4_doBestExchange 0 = .ok (.iconst (-1), 1) := by decide +kernel
theorem dX4_doBestExchange_1 : decode cX4_doBestExchange 1 = .ok (.istore_n 1, 1) := by decide +kernel
theorem dX4_doBestExchange_2 : decode cX4_doBestExchange 2 = .ok (.iconst (-1), 1) := by decide +kernel
theorem dX4_doBestExchange_3 : decode cX4_doBestExchange 3 = .ok (.istore_n 2, 1) := by decide +kernel
theorem dX4_doBestExchange_4 : decode cX4_doBestExchange 4 = .ok (.aload_n 0, 1) := by decide +kernel
theorem dX4_doBestExchange_5 : decode cX4_doBestExchange 5 = .ok (.getfield 29, 3) := by decide +kernel
theorem dX4_doBestExchange_8 : decode cX4_doBestExchange 8 = .ok (.aload_n 0, 1) := by decide +kernel
theorem dX4_doBestExchange_9 : decode cX4_doBestExchange 9 = .ok (.getfield 10, 3) := by decide +kernel
theorem dX4_doBestExchange_12 : decode cX4_doBestExchange 12 = .ok (.invokevirtual 254, 3) := by decide +kernel
theorem dX4_doBestExchange_15 : decode cX4_doBestExchange 15 = .ok (.iconst 0, 1) := by decide +kernel
theorem dX4_doBestExchange_16 : decode cX4_doBestExchange 16 = .ok (.istore_n 3, 1) := by decide +kernel
theorem dX4_doBestExchange_17 : decode cX4_doBestExchange 17 = .ok (.iload_n 3, 1) := by decide +kernel
theorem dX4_doBestExchange_18 : decode cX4_doBestExchange 18 = .ok (.aload_n 0, 1) := by decide +kernel
theorem dX4_doBestExchange_19 : decode cX4_doBestExchange 19 = .ok (.getfield 10, 3) := by decide +kernel
theorem dX4_doBestExchange_22 : decode cX4_doBestExchange 22 = .ok (.getfield 48, 3) := by decide +kernel
theorem dX4_doBestExchange_25 : decode cX4_doBestExchange 25 = .ok (.if_icmp .ge 71, 3) := by decide +kernel
theorem dX4_doBestExchange_28 : decode cX4_doBestExchange 28 = .ok (.iload_n 3, 1) := by decide +kernel
theorem dX4_doBestExchange_29 : decode cX4_doBestExchange 29 = .ok (.iconst 1, 1) := by decide +kernel
theorem dX4_doBestExchange_30 : decode cX4_doBestExchange 30 = .ok (.iadd, 1) := by decide +kernel
theorem dX4_doBestExchange_31 : decode cX4_doBestExchange 31 = .ok (.istore 4, 2) := by decide +kernel
theorem dX4_doBestExchange_33 : decode cX4_doBestExchange 33 = .ok (.iload 4, 2) := by decide +kernel
theorem dX4_doBestExchange_35 : decode cX4_doBestExchange 35 = .ok (.aload_n 0, 1) := by decide +kernel
theorem dX4_doBestExchange_36 : decode cX4_doBestExchange 36 = .ok (.getfield 10, 3) := by decide +kernel
theorem dX4_doBestExchange_39 : decode cX4_doBestExchange 39 = .ok (.getfield 48, 3) := by decide +kernel
theorem dX4_doBestExchange_42 : decode cX4_doBestExchange 42 = .ok (.if_icmp .ge 48, 3) := by decide +kernel
theorem dX4_doBestExchange_45 : decode cX4_doBestExchange 45 = .ok (.aload_n 0, 1) := by decide +kernel
theorem dX4_doBestExchange_46 : decode cX4_doBestExchange 46 = .ok (.getfield 10, 3) := by decide +kernel
theorem dX4_doBestExchange_49 : decode cX4_doBestExchange 49 = .ok (.iload_n 3, 1) := by decide +kernel
theorem dX4_doBestExchange_50 : decode cX4_doBestExchange 50 = .ok (.iload 4, 2) := by decide +kernel
theorem dX4_doBestExchange_52 : decode cX4_doBestExchange 52 = .ok (.invokevirtual 95, 3) := by decide +kernel
theorem dX4_doBestExchange_55 : decode cX4_doBestExchange 55 = .ok (.aload_n 0, 1) := by decide +kernel
theorem dX4_doBestExchange_56 : decode cX4_doBestExchange 56 = .ok (.getfield 29, 3) := by decide +kernel
theorem dX4_doBestExchange_59 : decode cX4_doBestExchange 59 = .ok (.aload_n 0, 1) := by decide +kernel
theorem dX4_doBestExchange_60 : decode cX4_doBestExchange 60 = .ok (.getfield 10, 3) := by decide +kernel
theorem dX4_doBestExchange_63 : decode cX4_doBestExchange 63 = .ok (.invokevirtual 257, 3) := by decide +kernel
theorem dX4_doBestExchange_66 : decode cX4_doBestExchange 66 = .ok (.ifCond .eq 8, 3) := by decide +kernel
theorem dX4_doBestExchange_69 : decode cX4_doBestExchange 69 = .ok (.iload_n 3, 1) := by decide +kernel
theorem dX4_doBestExchange_70 : decode cX4_doBestExchange 70 = .ok (.istore_n 1, 1) := by decide +kernel
theorem dX4_doBestExchange_71 : decode cX4_doBestExchange 71 = .ok (.iload 4, 2) := by decide +kernel
theorem dX4_doBestExchange_73 : decode cX4_doBestExchange 73 = .ok (.istore_n 2, 1) := by decide +kernel
theorem dX4_doBestExchange_74 : decode cX4_doBestExchange 74 = .ok (.aload_n 0, 1) := by decide +kernel
theorem dX4_doBestExchange_75 : decode cX4_doBestExchange 75 = .ok (.getfield 10, 3) := by decide +kernel
theorem dX4_doBestExchange_78 : decode cX4_doBestExchange 78 = .ok (.iload_n 3, 1) := by decide +kernel
theorem dX4_doBestExchange_79 : decode cX4_doBestExchange 79 = .ok (.iload 4, 2) := by decide +kernel
theorem dX4_doBestExchange_81 : decode cX4_doBestExchange 81 = .ok (.invokevirtual 95, 3) := by decide +kernel
theorem dX4_doBestExchange_84 : decode cX4_doBestExchange 84 = .ok (.iinc 4 1, 3) := by decide +kernel
theorem dX4_doBestExchange_87 : decode cX4_doBestExchange 87 = .ok (.goto (-54), 3) := by decide +kernel
theorem dX4_doBestExchange_90 : decode cX4_doBestExchange 90 = .ok (.iinc 3 1, 3) := by decide +kernel
theorem dX4_doBestExchange_93 : decode cX4_doBestExchange 93 = .ok (.goto (-76), 3) := by decide +kernel
theorem dX4_doBestExchange_96 : decode cX4_doBestExchange 96 = .ok (.iload_n 1, 1) := by decide +kernel
theorem dX4_doBestExchange_97 : decode cX4_doBestExchange 97 = .ok (.iconst (-1), 1) := by decide +kernel
theorem dX4_doBestExchange_98 : decode cX4_doBestExchange 98 = .ok (.if_icmp .ne 5, 3) := by decide +kernel
theorem dX4_doBestExchange_101 : decode cX4_doBestExchange 101 = .ok (.iconst 0, 1) := by decide +kernel
theorem dX4_doBestExchange_102 : decode cX4_doBestExchange 102 = .ok (.ireturn, 1) := by decide +kernel
theorem dX4_doBestExchange_103 : decode cX4_doBestExchange 103 = .ok (.aload_n 0, 1) := by decide +kernel
theorem dX4_doBestExchange_104 : decode cX4_doBestExchange 104 = .ok (.getfield 10, 3) := by decide +kernel
theorem dX4_doBestExchange_107 : decode cX4_doBestExchange 107 = .ok (.iload_n 1, 1) := by decide +kernel
theorem dX4_doBestExchange_108 : decode cX4_doBestExchange 108 = .ok (.iload_n 2, 1) := by decide +kernel
theorem dX4_doBestExchange_109 : decode cX4_doBestExchange 109 = .ok (.invokevirtual 95, 3) := by decide +kernel
theorem dX4_doBestExchange_112 : decode cX4_doBestExchange 112 = .ok (.iconst 1, 1) := by decide +kernel
theorem dX4_doBestExchange_113 : decode cX4_doBestExchange 113 = .ok (.ireturn, 1) := by decide +kernel
set_option maxRecDepth 20000 in
theorem ggX4_leastFrom_X2_swap : GoodIn wsX4_leastFrom wsX2_swap := goodIn_r _ [6, 7, 8, 9, 10, 31, 32, 33, 34, 35, 36, 37, 38, 39, 40, 41] (by decide +kernel) (by decide +kernel)
set_option maxRecDepth 20000 in
theorem gX4_leastFrom_X2_swap : GoodIn wsX4_leastFrom (wsV RX4 95 RX2 yX2_swap wsX2_swap) := goodIn_app (goodIn_of _ (by decide +kernel)) ggX4_leastFrom_X2_swap
set_option maxRecDepth 20000 in
theorem ggX4_leastFrom_X2_troubleAt : GoodIn wsX4_leastFrom wsX2_troubleAt := goodIn_r _ [14, 15, 16, 17, 5, 18, 9, 7, 19, 20, 21, 22, 23, 24, 25, 26, 27, 31, 32, 33, 34, 35, 36, 37, 38, 39, 40, 41] (by decide +kernel) (by decide +kernel)
set_option maxRecDepth 20000 in
theorem gX4_leastFrom_X2_troubleAt : GoodIn wsX4_leastFrom (wsV RX4 261 RX2 yX2_troubleAt wsX2_troubleAt) := goodIn_app (goodIn_of _ (by decide +kernel)) ggX4_leastFrom_X2_troubleAt
set_option maxRecDepth 20000 in
theorem ggX4_leastFrom_X4_leastFrom : GoodIn wsX4_leastFrom wsX4_leastFrom := goodIn_r _ [0, 1, 2, 3, 4, 5, 6, 7, 8, 9, 10, 11, 12, 13, 14, 15, 16, 17, 18, 19, 20, 21, 22, 23, 24, 25, 26, 27, 28, 29, 30, 31, 32, 33, 34, 35, 36, 37, 38, 39, 40, 41] (by decide +kernel) (by decide +kernel)
set_option maxRecDepth 20000 in
theorem gX4_leastFrom_X4_leastFrom : GoodIn wsX4_leastFrom (va_wsS RX4 217 yX4_leastFrom wsX4_leastFrom) := goodIn_app (goodIn_of _ (by decide +kernel)) ggX4_leastFrom_X4_leastFrom
theorem dX4_leastFrom_0 : decode cX4_leastFrom 0 = .ok (.iload_n 2, 1) := by decide +kernel
theorem dX4_leastFrom_1 : decode cX4_leastFrom 1 = .ok (.iload_n 3, 1) := by decide +kernel
theorem dX4_leastFrom_2 : decode cX4_leastFrom 2 = .ok (.if_icmp .lt 5, 3) := by decide +kernel
theorem dX4_leastFrom_5 : decode cX4_leastFrom 5 = .ok (.iload_n 3, 1) := by decide +kernel
theorem dX4_leastFrom_6 : decode cX4_leastFrom 6 = .ok (.ireturn, 1) := by decide +kernel
theorem dX4_leastFrom_7 : decode cX4_leastFrom 7 = .ok (.iload_n 1, 1) := by decide +kernel
theorem dX4_leastFrom_8 : decode cX4_leastFrom 8 = .ok (.aload_n 0, 1) := by decide +kernel
theorem dX4_leastFrom_9 : decode cX4_leastFrom 9 = .ok (.getfield 48, 3) := by decide +kernel
theorem dX4_leastFrom_12 : decode cX4_leastFrom 12 = .ok (.if_icmp .ge 9, 3) := by decide +kernel
theorem dX4_leastFrom_15 : decode cX4_leastFrom 15 = .ok (.iload_n 1, 1) := by decide +kernel
theorem dX4_leastFrom_16 : decode cX4_leastFrom 16 = .ok (.bipush 6, 2) := by decide +kernel
theorem dX4_leastFrom_18 : decode cX4_leastFrom 18 = .ok (.if_icmp .lt 5, 3) := by decide +kernel
theorem dX4_leastFrom_21 : decode cX4_leastFrom 21 = .ok (.iload_n 2, 1) := by decide +kernel
theorem dX4_leastFrom_22 : decode cX4_leastFrom 22 = .ok (.ireturn, 1) := by decide +kernel
theorem dX4_leastFrom_23 : decode cX4_leastFrom 23 = .ok (.iload_n 3, 1) := by decide +kernel
theorem dX4_leastFrom_24 : decode cX4_leastFrom 24 = .ok (.istore 4, 2) := by decide +kernel
theorem dX4_leastFrom_26 : decode cX4_leastFrom 26 = .ok (.iload_n 1, 1) := by decide +kernel
theorem dX4_leastFrom_27 : decode cX4_leastFrom 27 = .ok (.istore 5, 2) := by decide +kernel
theorem dX4_leastFrom_29 : decode cX4_leastFrom 29 = .ok (.iload 5, 2) := by decide +kernel
theorem dX4_leastFrom_31 : decode cX4_leastFrom 31 = .ok (.aload_n 0, 1) := by decide +kernel
theorem dX4_leastFrom_32 : decode cX4_leastFrom 32 = .ok (.getfield 48, 3) := by decide +kernel
theorem dX4_leastFrom_35 : decode cX4_leastFrom 35 = .ok (.if_icmp .ge 41, 3) := by decide +kernel
theorem dX4_leastFrom_38 : decode cX4_leastFrom 38 = .ok (.aload_n 0, 1) := by decide +kernel
theorem dX4_leastFrom_39 : decode cX4_leastFrom 39 = .ok (.iload_n 1, 1) := by decide +kernel
theorem dX4_leastFrom_40 : decode cX4_leastFrom 40 = .ok (.iload 5, 2) := by decide +kernel
theorem dX4_leastFrom_42 : decode cX4_leastFrom 42 = .ok (.invokevirtual 95, 3) := by decide +kernel
theorem dX4_leastFrom_45 : decode cX4_leastFrom 45 = .ok (.aload_n 0, 1) := by decide +kernel
theorem dX4_leastFrom_46 : decode cX4_leastFrom 46 = .ok (.iload_n 1, 1) := by decide +kernel
theorem dX4_leastFrom_47 : decode cX4_leastFrom 47 = .ok (.iconst 1, 1) := by decide +kernel
theorem dX4_leastFrom_48 : decode cX4_leastFrom 48 = .ok (.iadd, 1) := by decide +kernel
theorem dX4_leastFrom_49 : decode cX4_leastFrom 49 = .ok (.iload_n 2, 1) := by decide +kernel
theorem dX4_leastFrom_50 : decode cX4_leastFrom 50 = .ok (.aload_n 0, 1) := by decide +kernel
theorem dX4_leastFrom_51 : decode cX4_leastFrom 51 = .ok (.iload_n 1, 1) := by decide +kernel
theorem dX4_leastFrom_52 : decode cX4_leastFrom 52 = .ok (.invokevirtual 261, 3) := by decide +kernel
theorem dX4_leastFrom_55 : decode cX4_leastFrom 55 = .ok (.iadd, 1) := by decide +kernel
theorem dX4_leastFrom_56 : decode cX4_leastFrom 56 = .ok (.iload 4, 2) := by decide +kernel
theorem dX4_leastFrom_58 : decode cX4_leastFrom 58 = .ok (.invokestatic 217, 3) := by decide +kernel
theorem dX4_leastFrom_61 : decode cX4_leastFrom 61 = .ok (.istore 4, 2) := by decide +kernel
theorem dX4_leastFrom_63 : decode cX4_leastFrom 63 = .ok (.aload_n 0, 1) := by decide +kernel
theorem dX4_leastFrom_64 : decode cX4_leastFrom 64 = .ok (.iload_n 1, 1) := by decide +kernel
theorem dX4_leastFrom_65 : decode cX4_leastFrom 65 = .ok (.iload 5, 2) := by decide +kernel
theorem dX4_leastFrom_67 : decode cX4_leastFrom 67 = .ok (.invokevirtual 95, 3) := by decide +kernel
theorem dX4_leastFrom_70 : decode cX4_leastFrom 70 = .ok (.iinc 5 1, 3) := by decide +kernel
theorem dX4_leastFrom_73 : decode cX4_leastFrom 73 = .ok (.goto (-44), 3) := by decide +kernel
theorem dX4_leastFrom_76 : decode cX4_leastFrom 76 = .ok (.iload 4, 2) := by decide +kernel
theorem dX4_leastFrom_78 : decode cX4_leastFrom 78 = .ok (.ireturn, 1) := by decide +kernel
set_option maxRecDepth 20000 in
theorem ggX4_number_X2_allTrouble : GoodIn wsX4_number wsX2_allTrouble := goodIn_r _ [10, 11, 12, 13, 14, 9, 15, 16, 17, 18, 19, 20, 21, 22, 23, 24, 25, 26, 27, 28, 29, 30, 86, 87, 88, 89, 90, 91, 92, 93, 94, 95, 96] (by decide +kernel) (by decide +kernel)
set_option maxRecDepth 20000 in
theorem gX4_number_X2_allTrouble : GoodIn wsX4_number (wsV RX4 91 RX2 yX2_allTrouble wsX2_allTrouble) := goodIn_app (goodIn_of _ (by decide +kernel)) ggX4_number_X2_allTrouble
set_option maxRecDepth 20000 in
theorem ggX4_number_X2_end : GoodIn wsX4_number wsX2_end := goodIn_r _ [34, 11, 35, 36, 37, 38, 39, 9, 40, 26, 41, 42, 43, 44, 45, 46, 47, 48, 49, 50, 51, 52, 53, 86, 87, 88, 89, 90, 91, 92, 93, 94, 95, 96] (by decide +kernel) (by decide +kernel)
set_option maxRecDepth 20000 in
theorem gX4_number_X2_end : GoodIn wsX4_number (wsV RX4 211 RX2 yX2_end wsX2_end) := goodIn_app (goodIn_of _ (by decide +kernel)) ggX4_number_X2_end
set_option maxRecDepth 20000 in
theorem ggX4_number_X2_loweredFloats : GoodIn wsX4_number wsX2_loweredFloats := goodIn_r _ [57, 11, 58, 59, 60, 9, 61, 36, 62, 63, 64, 65, 47, 48, 49, 50, 51, 52, 53, 86, 87, 88, 89, 90, 91, 92, 93, 94, 95, 96] (by decide +kernel) (by decide +kernel)
set_option maxRecDepth 20000 in
theorem gX4_number_X2_loweredFloats : GoodIn wsX4_number (wsV RX4 264 RX2 yX2_loweredFloats wsX2_loweredFloats) := goodIn_app (goodIn_of _ (by decide +kernel)) ggX4_number_X2_loweredFloats
set_option maxRecDepth 20000 in
theorem ggX4_number_X2_troubledFloats : GoodIn wsX4_number wsX2_troubledFloats := goodIn_r _ [69, 11, 12, 13, 14, 9, 15, 16, 17, 18, 19, 20, 21, 22, 23, 24, 25, 26, 27, 28, 29, 30, 86, 87, 88, 89, 90, 91, 92, 93, 94, 95, 96] (by decide +kernel) (by decide +kernel)
set_option maxRecDepth 20000 in
theorem gX4_number_X2_troubledFloats : GoodIn wsX4_number (wsV RX4 221 RX2 yX2_troubledFloats wsX2_troubledFloats) := goodIn_app (goodIn_of _ (by decide +kernel)) ggX4_number_X2_troubledFloats
set_option maxRecDepth 20000 in
theorem ggX4_number_X2_waiting : GoodIn wsX4_number wsX2_waiting := goodIn_r _ [73, 11, 26, 74, 32, 33, 9, 34, 35, 36, 37, 38, 39, 40, 41, 42, 43, 44, 45, 46, 47, 48, 49, 50, 51, 52, 53, 86, 87, 88, 89, 90, 91, 92, 93, 94, 95, 96] (by decide +kernel) (by decide +kernel)
set_option maxRecDepth 20000 in
theorem gX4_number_X2_waiting : GoodIn wsX4_number (wsV RX4 267 RX2 yX2_waiting wsX2_waiting) := goodIn_app (goodIn_of _ (by decide +kernel)) ggX4_number_X2_waiting
set_option maxRecDepth 20000 in
theorem ggX4_number_X2_greatestHeight : GoodIn wsX4_number wsX2_greatestHeight := goodIn_r _ [78, 11, 43, 44, 45, 46, 48, 49, 50, 9, 51, 52, 53, 86, 87, 88, 89, 90, 91, 92, 93, 94, 95, 96] (by decide +kernel) (by decide +kernel)
set_option maxRecDepth 20000 in
theorem gX4_number_X2_greatestHeight : GoodIn wsX4_number (wsV RX4 270 RX2 yX2_greatestHeight wsX2_greatestHeight) := goodIn_app (goodIn_of _ (by decide +kernel)) ggX4_number_X2_greatestHeight
theorem dX4_number_0 : decode cX4_number 0 = .ok (.iload_n 1, 1) := by decide +kernel
theorem dX4_number_1 : decode cX4_number 1 = .ok (.tableswitch 111 0 7 #[47, 55, 63, 71, 79, 87, 95, 103], 47) := by decide +kernel
theorem dX4_number_48 : decode cX4_number 48 = .ok (.aload_n 0, 1) := by decide +kernel
theorem dX4_number_49 : decode cX4_number 49 = .ok (.getfield 10, 3) := by decide +kernel
theorem dX4_number_52 : decode cX4_number 52 = .ok (.getfield 48, 3) := by decide +kernel
theorem dX4_number_55 : decode cX4_number 55 = .ok (.ireturn, 1) := by decide +kernel
theorem dX4_number_56 : decode cX4_number 56 = .ok (.aload_n 0, 1) := by decide +kernel
theorem dX4_number_57 : decode cX4_number 57 = .ok (.getfield 10, 3) := by decide +kernel
theorem dX4_number_60 : decode cX4_number 60 = .ok (.getfield 117, 3) := by decide +kernel
theorem dX4_number_63 : decode cX4_number 63 = .ok (.ireturn, 1) := by decide +kernel
theorem dX4_number_64 : decode cX4_number 64 = .ok (.aload_n 0, 1) := by decide +kernel
theorem dX4_number_65 : decode cX4_number 65 = .ok (.getfield 10, 3) := by decide +kernel
theorem dX4_number_68 : decode cX4_number 68 = .ok (.invokevirtual 91, 3) := by decide +kernel
theorem dX4_number_71 : decode cX4_number 71 = .ok (.ireturn, 1) := by decide +kernel
theorem dX4_number_72 : decode cX4_number 72 = .ok (.aload_n 0, 1) := by decide +kernel
theorem dX4_number_73 : decode cX4_number 73 = .ok (.getfield 10, 3) := by decide +kernel
theorem dX4_number_76 : decode cX4_number 76 = .ok (.invokevirtual 211, 3) := by decide +kernel
theorem dX4_number_79 : decode cX4_number 79 = .ok (.ireturn, 1) := by decide +kernel
theorem dX4_number_80 : decode cX4_number 80 = .ok (.aload_n 0, 1) := by decide +kernel
theorem dX4_number_81 : decode cX4_number 81 = .ok (.getfield 10, 3) := by decide +kernel
theorem dX4_number_84 : decode cX4_number 84 = .ok (.invokevirtual 264, 3) := by decide +kernel
theorem dX4_number_87 : decode cX4_number 87 = .ok (.ireturn, 1) := by decide +kernel
theorem dX4_number_88 : decode cX4_number 88 = .ok (.aload_n 0, 1) := by decide +kernel
theorem dX4_number_89 : decode cX4_number 89 = .ok (.getfield 10, 3) := by decide +kernel
theorem dX4_number_92 : decode cX4_number 92 = .ok (.invokevirtual 221, 3) := by decide +kernel
theorem dX4_number_95 : decode cX4_number 95 = .ok (.ireturn, 1) := by decide +kernel
theorem dX4_number_96 : decode cX4_number 96 = .ok (.aload_n 0, 1) := by decide +kernel
theorem dX4_number_97 : decode cX4_number 97 = .ok (.getfield 10, 3) := by decide +kernel
theorem dX4_number_100 : decode cX4_number 100 = .ok (.invokevirtual 267, 3) := by decide +kernel
theorem dX4_number_103 : decode cX4_number 103 = .ok (.ireturn, 1) := by decide +kernel
theorem dX4_number_104 : decode cX4_number 104 = .ok (.aload_n 0, 1) := by decide +kernel
theorem dX4_number_105 : decode cX4_number 105 = .ok (.getfield 10, 3) := by decide +kernel
theorem dX4_number_108 : decode cX4_number 108 = .ok (.invokevirtual 270, 3) := by decide +kernel
theorem dX4_number_111 : decode cX4_number 111 = .ok (.ireturn, 1) := by decide +kernel
theorem dX4_number_112 : decode cX4_number 112 = .ok (.aload_n 0, 1) := by decide +kernel
theorem dX4_number_113 : decode cX4_number 113 = .ok (.getfield 22, 3) := by decide +kernel
theorem dX4_number_116 : decode cX4_number 116 = .ok (.getfield 172, 3) := by decide +kernel
theorem dX4_number_119 : decode cX4_number 119 = .ok (.ireturn, 1) := by decide +kernel
theorem dJ9_max_7cf53_0 : decode cJ9_max_7cf53 0 = .ok (.iload_n 0, 1) := by decide +kernel
theorem dJ9_max_7cf53_1 : decode cJ9_max_7cf53 1 = .ok (.iload_n 1, 1) := by decide +kernel
theorem dJ9_max_7cf53_2 : decode cJ9_max_7cf53 2 = .ok (.if_icmp .lt 7, 3) := by decide +kernel
theorem dJ9_max_7cf53_5 : decode cJ9_max_7cf53 5 = .ok (.iload_n 0, 1) := by decide +kernel
theorem dJ9_max_7cf53_6 : decode cJ9_max_7cf53 6 = .ok (.goto 4, 3) := by decide +kernel
theorem dJ9_max_7cf53_9 : decode cJ9_max_7cf53 9 = .ok (.iload_n 1, 1) := by decide +kernel
theorem dJ9_max_7cf53_10 : decode cJ9_max_7cf53 10 = .ok (.ireturn, 1) := by decide +kernel
