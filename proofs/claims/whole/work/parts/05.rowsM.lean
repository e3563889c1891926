theorem dX5_init_0 : decode cX5_init 0 = .ok (.aload_n 0, 1) := by decide +kernel
theorem dX5_init_1 : decode cX5_init 1 = .ok (.invokespecial 1, 3) := by decide +kernel
theorem dX5_init_4 : decode cX5_init 4 = .ok (.aload_n 0, 1) := by decide +kernel
theorem dX5_init_5 : decode cX5_init 5 = .ok (.bipush 62, 2) := by decide +kernel
theorem dX5_init_7 : decode cX5_init 7 = .ok (.newarray .int, 2) := by decide +kernel
theorem dX5_init_9 : decode cX5_init 9 = .ok (.putfield 7, 3) := by decide +kernel
theorem dX5_init_12 : decode cX5_init 12 = .ok (.aload_n 0, 1) := by decide +kernel
theorem dX5_init_13 : decode cX5_init 13 = .ok (.bipush 62, 2) := by decide +kernel
theorem dX5_init_15 : decode cX5_init 15 = .ok (.newarray .int, 2) := by decide +kernel
theorem dX5_init_17 : decode cX5_init 17 = .ok (.putfield 13, 3) := by decide +kernel
theorem dX5_init_20 : decode cX5_init 20 = .ok (.aload_n 0, 1) := by decide +kernel
theorem dX5_init_21 : decode cX5_init 21 = .ok (.sipush 372, 3) := by decide +kernel
theorem dX5_init_24 : decode cX5_init 24 = .ok (.newarray .int, 2) := by decide +kernel
theorem dX5_init_26 : decode cX5_init 26 = .ok (.putfield 16, 3) := by decide +kernel
theorem dX5_init_29 : decode cX5_init 29 = .ok (.aload_n 0, 1) := by decide +kernel
theorem dX5_init_30 : decode cX5_init 30 = .ok (.bipush 60, 2) := by decide +kernel
theorem dX5_init_32 : decode cX5_init 32 = .ok (.newarray .int, 2) := by decide +kernel
theorem dX5_init_34 : decode cX5_init 34 = .ok (.putfield 19, 3) := by decide +kernel
theorem dX5_init_37 : decode cX5_init 37 = .ok (.aload_n 0, 1) := by decide +kernel
theorem dX5_init_38 : decode cX5_init 38 = .ok (.bipush 63, 2) := by decide +kernel
theorem dX5_init_40 : decode cX5_init 40 = .ok (.newarray .int, 2) := by decide +kernel
theorem dX5_init_42 : decode cX5_init 42 = .ok (.putfield 22, 3) := by decide +kernel
theorem dX5_init_45 : decode cX5_init 45 = .ok (.aload_n 0, 1) := by decide +kernel
theorem dX5_init_46 : decode cX5_init 46 = .ok (.bipush 60, 2) := by decide +kernel
theorem dX5_init_48 : decode cX5_init 48 = .ok (.newarray .int, 2) := by decide +kernel
theorem dX5_init_50 : decode cX5_init 50 = .ok (.putfield 25, 3) := by decide +kernel
theorem dX5_init_53 : decode cX5_init 53 = .ok (.aload_n 0, 1) := by decide +kernel
theorem dX5_init_54 : decode cX5_init 54 = .ok (.getfield 7, 3) := by decide +kernel
theorem dX5_init_57 : decode cX5_init 57 = .ok (.iconst 0, 1) := by decide +kernel
theorem dX5_init_58 : decode cX5_init 58 = .ok (.iconst 3, 1) := by decide +kernel
theorem dX5_init_59 : decode cX5_init 59 = .ok (.iastore, 1) := by decide +kernel
theorem dX5_init_60 : decode cX5_init 60 = .ok (.aload_n 0, 1) := by decide +kernel
theorem dX5_init_61 : decode cX5_init 61 = .ok (.getfield 7, 3) := by decide +kernel
theorem dX5_init_64 : decode cX5_init 64 = .ok (.iconst 1, 1) := by decide +kernel
theorem dX5_init_65 : decode cX5_init 65 = .ok (.iconst 2, 1) := by decide +kernel
theorem dX5_init_66 : decode cX5_init 66 = .ok (.iastore, 1) := by decide +kernel
theorem dX5_init_67 : decode cX5_init 67 = .ok (.aload_n 0, 1) := by decide +kernel
theorem dX5_init_68 : decode cX5_init 68 = .ok (.getfield 7, 3) := by decide +kernel
theorem dX5_init_71 : decode cX5_init 71 = .ok (.iconst 2, 1) := by decide +kernel
theorem dX5_init_72 : decode cX5_init 72 = .ok (.iconst 2, 1) := by decide +kernel
theorem dX5_init_73 : decode cX5_init 73 = .ok (.iastore, 1) := by decide +kernel
theorem dX5_init_74 : decode cX5_init 74 = .ok (.aload_n 0, 1) := by decide +kernel
theorem dX5_init_75 : decode cX5_init 75 = .ok (.getfield 7, 3) := by decide +kernel
theorem dX5_init_78 : decode cX5_init 78 = .ok (.iconst 3, 1) := by decide +kernel
theorem dX5_init_79 : decode cX5_init 79 = .ok (.iconst 4, 1) := by decide +kernel
theorem dX5_init_80 : decode cX5_init 80 = .ok (.iastore, 1) := by decide +kernel
theorem dX5_init_81 : decode cX5_init 81 = .ok (.return_, 1) := by decide +kernel
theorem dX5_thrown_0 : decode cX5_thrown 0 = .ok (.aload_n 0, 1) := by decide +kernel
theorem dX5_thrown_1 : decode cX5_thrown 1 = .ok (.getfield 28, 3) := by decide +kernel
theorem dX5_thrown_4 : decode cX5_thrown 4 = .ok (.ireturn, 1) := by decide +kernel
theorem dX5_fails_0 : decode cX5_fails 0 = .ok (.aload_n 0, 1) := by decide +kernel
theorem dX5_fails_1 : decode cX5_fails 1 = .ok (.iload_n 1, 1) := by decide +kernel
theorem dX5_fails_2 : decode cX5_fails 2 = .ok (.putfield 28, 3) := by decide +kernel
theorem dX5_fails_5 : decode cX5_fails 5 = .ok (.iconst 0, 1) := by decide +kernel
theorem dX5_fails_6 : decode cX5_fails 6 = .ok (.ireturn, 1) := by decide +kernel
theorem dX5_in_0 : decode cX5_in 0 = .ok (.iload_n 0, 1) := by decide +kernel
theorem dX5_in_1 : decode cX5_in 1 = .ok (.iload_n 1, 1) := by decide +kernel
theorem dX5_in_2 : decode cX5_in 2 = .ok (.if_icmp .lt 12, 3) := by decide +kernel
theorem dX5_in_5 : decode cX5_in 5 = .ok (.iload_n 0, 1) := by decide +kernel
theorem dX5_in_6 : decode cX5_in 6 = .ok (.iload_n 2, 1) := by decide +kernel
theorem dX5_in_7 : decode cX5_in 7 = .ok (.if_icmp .gt 7, 3) := by decide +kernel
theorem dX5_in_10 : decode cX5_in 10 = .ok (.iconst 1, 1) := by decide +kernel
theorem dX5_in_11 : decode cX5_in 11 = .ok (.goto 4, 3) := by decide +kernel
theorem dX5_in_14 : decode cX5_in 14 = .ok (.iconst 0, 1) := by decide +kernel
theorem dX5_in_15 : decode cX5_in 15 = .ok (.ireturn, 1) := by decide +kernel
set_option maxRecDepth 20000 in
theorem ggX5_isFloat_X5_in : GoodIn wsX5_isFloat wsX5_in := goodIn_r _ [5] (by decide +kernel) (by decide +kernel)
set_option maxRecDepth 20000 in
theorem gX5_isFloat_X5_in : GoodIn wsX5_isFloat (va_wsS RX5 32 yX5_in wsX5_in) := goodIn_app (goodIn_of _ (by decide +kernel)) ggX5_isFloat_X5_in
theorem dX5_isFloat_0 : decode cX5_isFloat 0 = .ok (.iload_n 1, 1) := by decide +kernel
theorem dX5_isFloat_1 : decode cX5_isFloat 1 = .ok (.iconst 0, 1) := by decide +kernel
theorem dX5_isFloat_2 : decode cX5_isFloat 2 = .ok (.aload_n 0, 1) := by decide +kernel
theorem dX5_isFloat_3 : decode cX5_isFloat 3 = .ok (.getfield 7, 3) := by decide +kernel
theorem dX5_isFloat_6 : decode cX5_isFloat 6 = .ok (.iconst 4, 1) := by decide +kernel
theorem dX5_isFloat_7 : decode cX5_isFloat 7 = .ok (.iaload, 1) := by decide +kernel
theorem dX5_isFloat_8 : decode cX5_isFloat 8 = .ok (.iconst 1, 1) := by decide +kernel
theorem dX5_isFloat_9 : decode cX5_isFloat 9 = .ok (.isub, 1) := by decide +kernel
theorem dX5_isFloat_10 : decode cX5_isFloat 10 = .ok (.invokestatic 32, 3) := by decide +kernel
theorem dX5_isFloat_13 : decode cX5_isFloat 13 = .ok (.ireturn, 1) := by decide +kernel
set_option maxRecDepth 20000 in
theorem ggX5_isBridge_X5_in : GoodIn wsX5_isBridge wsX5_in := goodIn_r _ [5] (by decide +kernel) (by decide +kernel)
set_option maxRecDepth 20000 in
theorem gX5_isBridge_X5_in : GoodIn wsX5_isBridge (va_wsS RX5 32 yX5_in wsX5_in) := goodIn_app (goodIn_of _ (by decide +kernel)) ggX5_isBridge_X5_in
theorem dX5_isBridge_0 : decode cX5_isBridge 0 = .ok (.iload_n 1, 1) := by decide +kernel
theorem dX5_isBridge_1 : decode cX5_isBridge 1 = .ok (.iconst 0, 1) := by decide +kernel
theorem dX5_isBridge_2 : decode cX5_isBridge 2 = .ok (.aload_n 0, 1) := by decide +kernel
theorem dX5_isBridge_3 : decode cX5_isBridge 3 = .ok (.getfield 7, 3) := by decide +kernel
theorem dX5_isBridge_6 : decode cX5_isBridge 6 = .ok (.iconst 5, 1) := by decide +kernel
theorem dX5_isBridge_7 : decode cX5_isBridge 7 = .ok (.iaload, 1) := by decide +kernel
theorem dX5_isBridge_8 : decode cX5_isBridge 8 = .ok (.iconst 1, 1) := by decide +kernel
theorem dX5_isBridge_9 : decode cX5_isBridge 9 = .ok (.isub, 1) := by decide +kernel
theorem dX5_isBridge_10 : decode cX5_isBridge 10 = .ok (.invokestatic 32, 3) := by decide +kernel
theorem dX5_isBridge_13 : decode cX5_isBridge 13 = .ok (.ireturn, 1) := by decide +kernel
theorem dX5_of_0 : decode cX5_of 0 = .ok (.aload_n 0, 1) := by decide +kernel
theorem dX5_of_1 : decode cX5_of 1 = .ok (.bipush 14, 2) := by decide +kernel
theorem dX5_of_3 : decode cX5_of 3 = .ok (.iconst 4, 1) := by decide +kernel
theorem dX5_of_4 : decode cX5_of 4 = .ok (.iload_n 1, 1) := by decide +kernel
theorem dX5_of_5 : decode cX5_of 5 = .ok (.imul, 1) := by decide +kernel
theorem dX5_of_6 : decode cX5_of 6 = .ok (.iadd, 1) := by decide +kernel
theorem dX5_of_7 : decode cX5_of 7 = .ok (.iload_n 2, 1) := by decide +kernel
theorem dX5_of_8 : decode cX5_of 8 = .ok (.iadd, 1) := by decide +kernel
theorem dX5_of_9 : decode cX5_of 9 = .ok (.iaload, 1) := by decide +kernel
theorem dX5_of_10 : decode cX5_of 10 = .ok (.ireturn, 1) := by decide +kernel
theorem dX5_copies_0 : decode cX5_copies 0 = .ok (.iconst 0, 1) := by decide +kernel
theorem dX5_copies_1 : decode cX5_copies 1 = .ok (.istore 4, 2) := by decide +kernel
theorem dX5_copies_3 : decode cX5_copies 3 = .ok (.iload 4, 2) := by decide +kernel
theorem dX5_copies_5 : decode cX5_copies 5 = .ok (.bipush 62, 2) := by decide +kernel
theorem dX5_copies_7 : decode cX5_copies 7 = .ok (.if_icmp .ge 21, 3) := by decide +kernel
theorem dX5_copies_10 : decode cX5_copies 10 = .ok (.aload_n 2, 1) := by decide +kernel
theorem dX5_copies_11 : decode cX5_copies 11 = .ok (.iload_n 3, 1) := by decide +kernel
theorem dX5_copies_12 : decode cX5_copies 12 = .ok (.iload 4, 2) := by decide +kernel
theorem dX5_copies_14 : decode cX5_copies 14 = .ok (.iadd, 1) := by decide +kernel
theorem dX5_copies_15 : decode cX5_copies 15 = .ok (.aload_n 0, 1) := by decide +kernel
theorem dX5_copies_16 : decode cX5_copies 16 = .ok (.iload_n 1, 1) := by decide +kernel
theorem dX5_copies_17 : decode cX5_copies 17 = .ok (.iload 4, 2) := by decide +kernel
theorem dX5_copies_19 : decode cX5_copies 19 = .ok (.iadd, 1) := by decide +kernel
theorem dX5_copies_20 : decode cX5_copies 20 = .ok (.iaload, 1) := by decide +kernel
theorem dX5_copies_21 : decode cX5_copies 21 = .ok (.iastore, 1) := by decide +kernel
theorem dX5_copies_22 : decode cX5_copies 22 = .ok (.iinc 4 1, 3) := by decide +kernel
theorem dX5_copies_25 : decode cX5_copies 25 = .ok (.goto (-22), 3) := by decide +kernel
theorem dX5_copies_28 : decode cX5_copies 28 = .ok (.return_, 1) := by decide +kernel
set_option maxRecDepth 20000 in
theorem ggX5_saves_X5_copies : GoodIn wsX5_saves wsX5_copies := goodIn_r _ [7] (by decide +kernel) (by decide +kernel)
set_option maxRecDepth 20000 in
theorem gX5_saves_X5_copies : GoodIn wsX5_saves (va_wsS RX5 39 yX5_copies wsX5_copies) := goodIn_app (goodIn_of _ (by decide +kernel)) ggX5_saves_X5_copies
theorem dX5_saves_0 : decode cX5_saves 0 = .ok (.aload_n 0, 1) := by decide +kernel
theorem dX5_saves_1 : decode cX5_saves 1 = .ok (.getfield 36, 3) := by decide +kernel
theorem dX5_saves_4 : decode cX5_saves 4 = .ok (.bipush 6, 2) := by decide +kernel
theorem dX5_saves_6 : decode cX5_saves 6 = .ok (.if_icmp .ne 43, 3) := by decide +kernel
theorem dX5_saves_9 : decode cX5_saves 9 = .ok (.iconst 0, 1) := by decide +kernel
theorem dX5_saves_10 : decode cX5_saves 10 = .ok (.istore_n 1, 1) := by decide +kernel
theorem dX5_saves_11 : decode cX5_saves 11 = .ok (.iload_n 1, 1) := by decide +kernel
theorem dX5_saves_12 : decode cX5_saves 12 = .ok (.sipush 310, 3) := by decide +kernel
theorem dX5_saves_15 : decode cX5_saves 15 = .ok (.if_icmp .ge 24, 3) := by decide +kernel
theorem dX5_saves_18 : decode cX5_saves 18 = .ok (.aload_n 0, 1) := by decide +kernel
theorem dX5_saves_19 : decode cX5_saves 19 = .ok (.getfield 16, 3) := by decide +kernel
theorem dX5_saves_22 : decode cX5_saves 22 = .ok (.iload_n 1, 1) := by decide +kernel
theorem dX5_saves_23 : decode cX5_saves 23 = .ok (.aload_n 0, 1) := by decide +kernel
theorem dX5_saves_24 : decode cX5_saves 24 = .ok (.getfield 16, 3) := by decide +kernel
theorem dX5_saves_27 : decode cX5_saves 27 = .ok (.iload_n 1, 1) := by decide +kernel
theorem dX5_saves_28 : decode cX5_saves 28 = .ok (.bipush 62, 2) := by decide +kernel
theorem dX5_saves_30 : decode cX5_saves 30 = .ok (.iadd, 1) := by decide +kernel
theorem dX5_saves_31 : decode cX5_saves 31 = .ok (.iaload, 1) := by decide +kernel
theorem dX5_saves_32 : decode cX5_saves 32 = .ok (.iastore, 1) := by decide +kernel
theorem dX5_saves_33 : decode cX5_saves 33 = .ok (.iinc 1 1, 3) := by decide +kernel
theorem dX5_saves_36 : decode cX5_saves 36 = .ok (.goto (-25), 3) := by decide +kernel
theorem dX5_saves_39 : decode cX5_saves 39 = .ok (.aload_n 0, 1) := by decide +kernel
theorem dX5_saves_40 : decode cX5_saves 40 = .ok (.dup, 1) := by decide +kernel
theorem dX5_saves_41 : decode cX5_saves 41 = .ok (.getfield 36, 3) := by decide +kernel
theorem dX5_saves_44 : decode cX5_saves 44 = .ok (.iconst 1, 1) := by decide +kernel
theorem dX5_saves_45 : decode cX5_saves 45 = .ok (.isub, 1) := by decide +kernel
theorem dX5_saves_46 : decode cX5_saves 46 = .ok (.putfield 36, 3) := by decide +kernel
theorem dX5_saves_49 : decode cX5_saves 49 = .ok (.aload_n 0, 1) := by decide +kernel
theorem dX5_saves_50 : decode cX5_saves 50 = .ok (.getfield 7, 3) := by decide +kernel
theorem dX5_saves_53 : decode cX5_saves 53 = .ok (.iconst 0, 1) := by decide +kernel
theorem dX5_saves_54 : decode cX5_saves 54 = .ok (.aload_n 0, 1) := by decide +kernel
theorem dX5_saves_55 : decode cX5_saves 55 = .ok (.getfield 16, 3) := by decide +kernel
theorem dX5_saves_58 : decode cX5_saves 58 = .ok (.bipush 62, 2) := by decide +kernel
theorem dX5_saves_60 : decode cX5_saves 60 = .ok (.aload_n 0, 1) := by decide +kernel
theorem dX5_saves_61 : decode cX5_saves 61 = .ok (.getfield 36, 3) := by decide +kernel
theorem dX5_saves_64 : decode cX5_saves 64 = .ok (.imul, 1) := by decide +kernel
theorem dX5_saves_65 : decode cX5_saves 65 = .ok (.invokestatic 39, 3) := by decide +kernel
theorem dX5_saves_68 : decode cX5_saves 68 = .ok (.aload_n 0, 1) := by decide +kernel
theorem dX5_saves_69 : decode cX5_saves 69 = .ok (.dup, 1) := by decide +kernel
theorem dX5_saves_70 : decode cX5_saves 70 = .ok (.getfield 36, 3) := by decide +kernel
theorem dX5_saves_73 : decode cX5_saves 73 = .ok (.iconst 1, 1) := by decide +kernel
theorem dX5_saves_74 : decode cX5_saves 74 = .ok (.iadd, 1) := by decide +kernel
theorem dX5_saves_75 : decode cX5_saves 75 = .ok (.putfield 36, 3) := by decide +kernel
theorem dX5_saves_78 : decode cX5_saves 78 = .ok (.return_, 1) := by decide +kernel
set_option maxRecDepth 20000 in
theorem ggX5_undo_X5_fails : GoodIn wsX5_undo wsX5_fails := goodIn_r _ [9, 1, 13, 14, 15, 16, 17, 18, 19, 20, 21, 22, 23, 24] (by decide +kernel) (by decide +kernel)
set_option maxRecDepth 20000 in
theorem gX5_undo_X5_fails : GoodIn wsX5_undo (wsV RX5 43 RX5 yX5_fails wsX5_fails) := goodIn_app (goodIn_of _ (by decide +kernel)) ggX5_undo_X5_fails
set_option maxRecDepth 20000 in
theorem ggX5_undo_X5_copies : GoodIn wsX5_undo wsX5_copies := goodIn_r _ [12] (by decide +kernel) (by decide +kernel)
set_option maxRecDepth 20000 in
theorem gX5_undo_X5_copies : GoodIn wsX5_undo (va_wsS RX5 39 yX5_copies wsX5_copies) := goodIn_app (goodIn_of _ (by decide +kernel)) ggX5_undo_X5_copies
theorem dX5_undo_0 : decode cX5_undo 0 = .ok (.aload_n 0, 1) := by decide +kernel
theorem dX5_undo_1 : decode cX5_undo 1 = .ok (.iconst 0, 1) := by decide +kernel
theorem dX5_undo_2 : decode cX5_undo 2 = .ok (.putfield 28, 3) := by decide +kernel
theorem dX5_undo_5 : decode cX5_undo 5 = .ok (.aload_n 0, 1) := by decide +kernel
theorem dX5_undo_6 : decode cX5_undo 6 = .ok (.getfield 36, 3) := by decide +kernel
theorem dX5_undo_9 : decode cX5_undo 9 = .ok (.ifCond .ne 9, 3) := by decide +kernel
theorem dX5_undo_12 : decode cX5_undo 12 = .ok (.aload_n 0, 1) := by decide +kernel
theorem dX5_undo_13 : decode cX5_undo 13 = .ok (.iconst 1, 1) := by decide +kernel
theorem dX5_undo_14 : decode cX5_undo 14 = .ok (.invokevirtual 43, 3) := by decide +kernel
theorem dX5_undo_17 : decode cX5_undo 17 = .ok (.ireturn, 1) := by decide +kernel
theorem dX5_undo_18 : decode cX5_undo 18 = .ok (.aload_n 0, 1) := by decide +kernel
theorem dX5_undo_19 : decode cX5_undo 19 = .ok (.dup, 1) := by decide +kernel
theorem dX5_undo_20 : decode cX5_undo 20 = .ok (.getfield 36, 3) := by decide +kernel
theorem dX5_undo_23 : decode cX5_undo 23 = .ok (.iconst 1, 1) := by decide +kernel
theorem dX5_undo_24 : decode cX5_undo 24 = .ok (.isub, 1) := by decide +kernel
theorem dX5_undo_25 : decode cX5_undo 25 = .ok (.putfield 36, 3) := by decide +kernel
theorem dX5_undo_28 : decode cX5_undo 28 = .ok (.aload_n 0, 1) := by decide +kernel
theorem dX5_undo_29 : decode cX5_undo 29 = .ok (.getfield 16, 3) := by decide +kernel
theorem dX5_undo_32 : decode cX5_undo 32 = .ok (.bipush 62, 2) := by decide +kernel
theorem dX5_undo_34 : decode cX5_undo 34 = .ok (.aload_n 0, 1) := by decide +kernel
theorem dX5_undo_35 : decode cX5_undo 35 = .ok (.getfield 36, 3) := by decide +kernel
theorem dX5_undo_38 : decode cX5_undo 38 = .ok (.imul, 1) := by decide +kernel
theorem dX5_undo_39 : decode cX5_undo 39 = .ok (.aload_n 0, 1) := by decide +kernel
theorem dX5_undo_40 : decode cX5_undo 40 = .ok (.getfield 7, 3) := by decide +kernel
theorem dX5_undo_43 : decode cX5_undo 43 = .ok (.iconst 0, 1) := by decide +kernel
theorem dX5_undo_44 : decode cX5_undo 44 = .ok (.invokestatic 39, 3) := by decide +kernel
theorem dX5_undo_47 : decode cX5_undo 47 = .ok (.aload_n 0, 1) := by decide +kernel
theorem dX5_undo_48 : decode cX5_undo 48 = .ok (.getfield 36, 3) := by decide +kernel
theorem dX5_undo_51 : decode cX5_undo 51 = .ok (.ireturn, 1) := by decide +kernel
set_option maxRecDepth 20000 in
theorem ggX5_troubled_X5_of : GoodIn wsX5_troubled wsX5_of := goodIn_r _ [4] (by decide +kernel) (by decide +kernel)
set_option maxRecDepth 20000 in
theorem gX5_troubled_X5_of : GoodIn wsX5_troubled (va_wsS RX5 47 yX5_of wsX5_of) := goodIn_app (goodIn_of _ (by decide +kernel)) ggX5_troubled_X5_of
theorem dX5_troubled_0 : decode cX5_troubled 0 = .ok (.aload_n 0, 1) := by decide +kernel
theorem dX5_troubled_1 : decode cX5_troubled 1 = .ok (.iload_n 1, 1) := by decide +kernel
theorem dX5_troubled_2 : decode cX5_troubled 2 = .ok (.iconst 0, 1) := by decide +kernel
theorem dX5_troubled_3 : decode cX5_troubled 3 = .ok (.invokestatic 47, 3) := by decide +kernel
theorem dX5_troubled_6 : decode cX5_troubled 6 = .ok (.istore_n 3, 1) := by decide +kernel
theorem dX5_troubled_7 : decode cX5_troubled 7 = .ok (.iload_n 2, 1) := by decide +kernel
theorem dX5_troubled_8 : decode cX5_troubled 8 = .ok (.ifCond .ne 70, 3) := by decide +kernel
theorem dX5_troubled_11 : decode cX5_troubled 11 = .ok (.iload_n 1, 1) := by decide +kernel
theorem dX5_troubled_12 : decode cX5_troubled 12 = .ok (.ifCond .le 28, 3) := by decide +kernel
theorem dX5_troubled_15 : decode cX5_troubled 15 = .ok (.aload_n 0, 1) := by decide +kernel
theorem dX5_troubled_16 : decode cX5_troubled 16 = .ok (.iload_n 1, 1) := by decide +kernel
theorem dX5_troubled_17 : decode cX5_troubled 17 = .ok (.iconst 2, 1) := by decide +kernel
theorem dX5_troubled_18 : decode cX5_troubled 18 = .ok (.invokestatic 47, 3) := by decide +kernel
theorem dX5_troubled_21 : decode cX5_troubled 21 = .ok (.aload_n 0, 1) := by decide +kernel
theorem dX5_troubled_22 : decode cX5_troubled 22 = .ok (.iload_n 1, 1) := by decide +kernel
theorem dX5_troubled_23 : decode cX5_troubled 23 = .ok (.iconst 1, 1) := by decide +kernel
theorem dX5_troubled_24 : decode cX5_troubled 24 = .ok (.isub, 1) := by decide +kernel
theorem dX5_troubled_25 : decode cX5_troubled 25 = .ok (.iconst 0, 1) := by decide +kernel
theorem dX5_troubled_26 : decode cX5_troubled 26 = .ok (.invokestatic 47, 3) := by decide +kernel
theorem dX5_troubled_29 : decode cX5_troubled 29 = .ok (.ishr, 1) := by decide +kernel
theorem dX5_troubled_30 : decode cX5_troubled 30 = .ok (.iconst 1, 1) := by decide +kernel
theorem dX5_troubled_31 : decode cX5_troubled 31 = .ok (.iand, 1) := by decide +kernel
theorem dX5_troubled_32 : decode cX5_troubled 32 = .ok (.iconst 1, 1) := by decide +kernel
theorem dX5_troubled_33 : decode cX5_troubled 33 = .ok (.if_icmp .ne 7, 3) := by decide +kernel
theorem dX5_troubled_36 : decode cX5_troubled 36 = .ok (.iconst 3, 1) := by decide +kernel
theorem dX5_troubled_37 : decode cX5_troubled 37 = .ok (.goto 4, 3) := by decide +kernel
theorem dX5_troubled_40 : decode cX5_troubled 40 = .ok (.iconst 0, 1) := by decide +kernel
theorem dX5_troubled_41 : decode cX5_troubled 41 = .ok (.istore 4, 2) := by decide +kernel
theorem dX5_troubled_43 : decode cX5_troubled 43 = .ok (.iload 4, 2) := by decide +kernel
theorem dX5_troubled_45 : decode cX5_troubled 45 = .ok (.iload_n 1, 1) := by decide +kernel
theorem dX5_troubled_46 : decode cX5_troubled 46 = .ok (.iconst 1, 1) := by decide +kernel
theorem dX5_troubled_47 : decode cX5_troubled 47 = .ok (.if_icmp .le 28, 3) := by decide +kernel
theorem dX5_troubled_50 : decode cX5_troubled 50 = .ok (.aload_n 0, 1) := by decide +kernel
theorem dX5_troubled_51 : decode cX5_troubled 51 = .ok (.iload_n 1, 1) := by decide +kernel
theorem dX5_troubled_52 : decode cX5_troubled 52 = .ok (.iconst 2, 1) := by decide +kernel
theorem dX5_troubled_53 : decode cX5_troubled 53 = .ok (.invokestatic 47, 3) := by decide +kernel
theorem dX5_troubled_56 : decode cX5_troubled 56 = .ok (.aload_n 0, 1) := by decide +kernel
theorem dX5_troubled_57 : decode cX5_troubled 57 = .ok (.iload_n 1, 1) := by decide +kernel
theorem dX5_troubled_58 : decode cX5_troubled 58 = .ok (.iconst 2, 1) := by decide +kernel
theorem dX5_troubled_59 : decode cX5_troubled 59 = .ok (.isub, 1) := by decide +kernel
theorem dX5_troubled_60 : decode cX5_troubled 60 = .ok (.iconst 0, 1) := by decide +kernel
theorem dX5_troubled_61 : decode cX5_troubled 61 = .ok (.invokestatic 47, 3) := by decide +kernel
theorem dX5_troubled_64 : decode cX5_troubled 64 = .ok (.ishr, 1) := by decide +kernel
theorem dX5_troubled_65 : decode cX5_troubled 65 = .ok (.iconst 1, 1) := by decide +kernel
theorem dX5_troubled_66 : decode cX5_troubled 66 = .ok (.iand, 1) := by decide +kernel
theorem dX5_troubled_67 : decode cX5_troubled 67 = .ok (.iconst 1, 1) := by decide +kernel
theorem dX5_troubled_68 : decode cX5_troubled 68 = .ok (.if_icmp .ne 7, 3) := by decide +kernel
theorem dX5_troubled_71 : decode cX5_troubled 71 = .ok (.iconst 1, 1) := by decide +kernel
theorem dX5_troubled_72 : decode cX5_troubled 72 = .ok (.goto 4, 3) := by decide +kernel
theorem dX5_troubled_75 : decode cX5_troubled 75 = .ok (.iconst 0, 1) := by decide +kernel
theorem dX5_troubled_76 : decode cX5_troubled 76 = .ok (.iadd, 1) := by decide +kernel
theorem dX5_troubled_77 : decode cX5_troubled 77 = .ok (.ireturn, 1) := by decide +kernel
theorem dX5_troubled_78 : decode cX5_troubled 78 = .ok (.iload_n 2, 1) := by decide +kernel
theorem dX5_troubled_79 : decode cX5_troubled 79 = .ok (.iconst 2, 1) := by decide +kernel
theorem dX5_troubled_80 : decode cX5_troubled 80 = .ok (.if_icmp .ne 30, 3) := by decide +kernel
theorem dX5_troubled_83 : decode cX5_troubled 83 = .ok (.iload_n 3, 1) := by decide +kernel
theorem dX5_troubled_84 : decode cX5_troubled 84 = .ok (.iconst 3, 1) := by decide +kernel
theorem dX5_troubled_85 : decode cX5_troubled 85 = .ok (.if_icmp .ne 23, 3) := by decide +kernel
theorem dX5_troubled_88 : decode cX5_troubled 88 = .ok (.iload_n 1, 1) := by decide +kernel
theorem dX5_troubled_89 : decode cX5_troubled 89 = .ok (.ifCond .le 19, 3) := by decide +kernel
theorem dX5_troubled_92 : decode cX5_troubled 92 = .ok (.aload_n 0, 1) := by decide +kernel
theorem dX5_troubled_93 : decode cX5_troubled 93 = .ok (.iload_n 1, 1) := by decide +kernel
theorem dX5_troubled_94 : decode cX5_troubled 94 = .ok (.iconst 1, 1) := by decide +kernel
theorem dX5_troubled_95 : decode cX5_troubled 95 = .ok (.isub, 1) := by decide +kernel
theorem dX5_troubled_96 : decode cX5_troubled 96 = .ok (.iconst 0, 1) := by decide +kernel
theorem dX5_troubled_97 : decode cX5_troubled 97 = .ok (.invokestatic 47, 3) := by decide +kernel
theorem dX5_troubled_100 : decode cX5_troubled 100 = .ok (.iconst 3, 1) := by decide +kernel
theorem dX5_troubled_101 : decode cX5_troubled 101 = .ok (.if_icmp .ne 7, 3) := by decide +kernel
theorem dX5_troubled_104 : decode cX5_troubled 104 = .ok (.iconst 2, 1) := by decide +kernel
theorem dX5_troubled_105 : decode cX5_troubled 105 = .ok (.goto 4, 3) := by decide +kernel
theorem dX5_troubled_108 : decode cX5_troubled 108 = .ok (.iconst 0, 1) := by decide +kernel
theorem dX5_troubled_109 : decode cX5_troubled 109 = .ok (.ireturn, 1) := by decide +kernel
theorem dX5_troubled_110 : decode cX5_troubled 110 = .ok (.iconst 0, 1) := by decide +kernel
theorem dX5_troubled_111 : decode cX5_troubled 111 = .ok (.istore 4, 2) := by decide +kernel
theorem dX5_troubled_113 : decode cX5_troubled 113 = .ok (.iconst 0, 1) := by decide +kernel
theorem dX5_troubled_114 : decode cX5_troubled 114 = .ok (.istore 5, 2) := by decide +kernel
theorem dX5_troubled_116 : decode cX5_troubled 116 = .ok (.iload 5, 2) := by decide +kernel
theorem dX5_troubled_118 : decode cX5_troubled 118 = .ok (.iload_n 1, 1) := by decide +kernel
theorem dX5_troubled_119 : decode cX5_troubled 119 = .ok (.if_icmp .ge 45, 3) := by decide +kernel
theorem dX5_troubled_122 : decode cX5_troubled 122 = .ok (.iload_n 3, 1) := by decide +kernel
theorem dX5_troubled_123 : decode cX5_troubled 123 = .ok (.iconst 2, 1) := by decide +kernel
theorem dX5_troubled_124 : decode cX5_troubled 124 = .ok (.if_icmp .ne 40, 3) := by decide +kernel
theorem dX5_troubled_127 : decode cX5_troubled 127 = .ok (.iload 4, 2) := by decide +kernel
theorem dX5_troubled_129 : decode cX5_troubled 129 = .ok (.aload_n 0, 1) := by decide +kernel
theorem dX5_troubled_130 : decode cX5_troubled 130 = .ok (.iload 5, 2) := by decide +kernel
theorem dX5_troubled_132 : decode cX5_troubled 132 = .ok (.iconst 0, 1) := by decide +kernel
theorem dX5_troubled_133 : decode cX5_troubled 133 = .ok (.invokestatic 47, 3) := by decide +kernel
theorem dX5_troubled_136 : decode cX5_troubled 136 = .ok (.iconst 2, 1) := by decide +kernel
theorem dX5_troubled_137 : decode cX5_troubled 137 = .ok (.if_icmp .ne 17, 3) := by decide +kernel
theorem dX5_troubled_140 : decode cX5_troubled 140 = .ok (.iload_n 1, 1) := by decide +kernel
theorem dX5_troubled_141 : decode cX5_troubled 141 = .ok (.iload 5, 2) := by decide +kernel
theorem dX5_troubled_143 : decode cX5_troubled 143 = .ok (.isub, 1) := by decide +kernel
theorem dX5_troubled_144 : decode cX5_troubled 144 = .ok (.aload_n 0, 1) := by decide +kernel
theorem dX5_troubled_145 : decode cX5_troubled 145 = .ok (.iconst 0, 1) := by decide +kernel
theorem dX5_troubled_146 : decode cX5_troubled 146 = .ok (.iaload, 1) := by decide +kernel
theorem dX5_troubled_147 : decode cX5_troubled 147 = .ok (.if_icmp .ge 7, 3) := by decide +kernel
theorem dX5_troubled_150 : decode cX5_troubled 150 = .ok (.iconst 1, 1) := by decide +kernel
theorem dX5_troubled_151 : decode cX5_troubled 151 = .ok (.goto 4, 3) := by decide +kernel
theorem dX5_troubled_154 : decode cX5_troubled 154 = .ok (.iconst 0, 1) := by decide +kernel
theorem dX5_troubled_155 : decode cX5_troubled 155 = .ok (.iadd, 1) := by decide +kernel
theorem dX5_troubled_156 : decode cX5_troubled 156 = .ok (.istore 4, 2) := by decide +kernel
theorem dX5_troubled_158 : decode cX5_troubled 158 = .ok (.iinc 5 1, 3) := by decide +kernel
theorem dX5_troubled_161 : decode cX5_troubled 161 = .ok (.goto (-45), 3) := by decide +kernel
theorem dX5_troubled_164 : decode cX5_troubled 164 = .ok (.iload 4, 2) := by decide +kernel
theorem dX5_troubled_166 : decode cX5_troubled 166 = .ok (.ireturn, 1) := by decide +kernel
set_option maxRecDepth 20000 in
theorem ggX5_troubles_X5_troubled : GoodIn wsX5_troubles wsX5_troubled := goodIn_r _ [4, 5, 6, 3, 7] (by decide +kernel) (by decide +kernel)
set_option maxRecDepth 20000 in
theorem gX5_troubles_X5_troubled : GoodIn wsX5_troubles (va_wsS RX5 51 yX5_troubled wsX5_troubled) := goodIn_app (goodIn_of _ (by decide +kernel)) ggX5_troubles_X5_troubled
theorem dX5_troubles_0 : decode cX5_troubles 0 = .ok (.aload_n 0, 1) := by decide +kernel
theorem dX5_troubles_1 : decode cX5_troubles 1 = .ok (.iload_n 1, 1) := by decide +kernel
theorem dX5_troubles_2 : decode cX5_troubles 2 = .ok (.iconst 0, 1) := by decide +kernel
theorem dX5_troubles_3 : decode cX5_troubles 3 = .ok (.invokestatic 51, 3) := by decide +kernel
theorem dX5_troubles_6 : decode cX5_troubles 6 = .ok (.aload_n 0, 1) := by decide +kernel
theorem dX5_troubles_7 : decode cX5_troubles 7 = .ok (.iload_n 1, 1) := by decide +kernel
theorem dX5_troubles_8 : decode cX5_troubles 8 = .ok (.iconst 1, 1) := by decide +kernel
theorem dX5_troubles_9 : decode cX5_troubles 9 = .ok (.invokestatic 51, 3) := by decide +kernel
theorem dX5_troubles_12 : decode cX5_troubles 12 = .ok (.iadd, 1) := by decide +kernel
theorem dX5_troubles_13 : decode cX5_troubles 13 = .ok (.aload_n 0, 1) := by decide +kernel
theorem dX5_troubles_14 : decode cX5_troubles 14 = .ok (.iload_n 1, 1) := by decide +kernel
theorem dX5_troubles_15 : decode cX5_troubles 15 = .ok (.iconst 2, 1) := by decide +kernel
theorem dX5_troubles_16 : decode cX5_troubles 16 = .ok (.invokestatic 51, 3) := by decide +kernel
theorem dX5_troubles_19 : decode cX5_troubles 19 = .ok (.iadd, 1) := by decide +kernel
theorem dX5_troubles_20 : decode cX5_troubles 20 = .ok (.ireturn, 1) := by decide +kernel
set_option maxRecDepth 20000 in
theorem ggX5_allTrouble_X5_troubles : GoodIn wsX5_allTrouble wsX5_troubles := goodIn_r _ [4, 5, 6, 3, 7, 8, 9, 10] (by decide +kernel) (by decide +kernel)
set_option maxRecDepth 20000 in
theorem gX5_allTrouble_X5_troubles : GoodIn wsX5_allTrouble (va_wsS RX5 54 yX5_troubles wsX5_troubles) := goodIn_app (goodIn_of _ (by decide +kernel)) ggX5_allTrouble_X5_troubles
theorem dX5_allTrouble_0 : decode cX5_allTrouble 0 = .ok (.iconst 0, 1) := by decide +kernel
theorem dX5_allTrouble_1 : decode cX5_allTrouble 1 = .ok (.istore_n 1, 1) := by decide +kernel
theorem dX5_allTrouble_2 : decode cX5_allTrouble 2 = .ok (.iconst 0, 1) := by decide +kernel
theorem dX5_allTrouble_3 : decode cX5_allTrouble 3 = .ok (.istore_n 2, 1) := by decide +kernel
theorem dX5_allTrouble_4 : decode cX5_allTrouble 4 = .ok (.iload_n 2, 1) := by decide +kernel
theorem dX5_allTrouble_5 : decode cX5_allTrouble 5 = .ok (.aload_n 0, 1) := by decide +kernel
theorem dX5_allTrouble_6 : decode cX5_allTrouble 6 = .ok (.iconst 4, 1) := by decide +kernel
theorem dX5_allTrouble_7 : decode cX5_allTrouble 7 = .ok (.iaload, 1) := by decide +kernel
theorem dX5_allTrouble_8 : decode cX5_allTrouble 8 = .ok (.if_icmp .ge 17, 3) := by decide +kernel
theorem dX5_allTrouble_11 : decode cX5_allTrouble 11 = .ok (.iload_n 1, 1) := by decide +kernel
theorem dX5_allTrouble_12 : decode cX5_allTrouble 12 = .ok (.aload_n 0, 1) := by decide +kernel
theorem dX5_allTrouble_13 : decode cX5_allTrouble 13 = .ok (.iload_n 2, 1) := by decide +kernel
theorem dX5_allTrouble_14 : decode cX5_allTrouble 14 = .ok (.invokestatic 54, 3) := by decide +kernel
theorem dX5_allTrouble_17 : decode cX5_allTrouble 17 = .ok (.iadd, 1) := by decide +kernel
theorem dX5_allTrouble_18 : decode cX5_allTrouble 18 = .ok (.istore_n 1, 1) := by decide +kernel
theorem dX5_allTrouble_19 : decode cX5_allTrouble 19 = .ok (.iinc 2 1, 3) := by decide +kernel
theorem dX5_allTrouble_22 : decode cX5_allTrouble 22 = .ok (.goto (-18), 3) := by decide +kernel
theorem dX5_allTrouble_25 : decode cX5_allTrouble 25 = .ok (.iload_n 1, 1) := by decide +kernel
theorem dX5_allTrouble_26 : decode cX5_allTrouble 26 = .ok (.ireturn, 1) := by decide +kernel
set_option maxRecDepth 20000 in
theorem ggX5_high_X5_of : GoodIn wsX5_high wsX5_of := goodIn_r _ [4] (by decide +kernel) (by decide +kernel)
set_option maxRecDepth 20000 in
theorem gX5_high_X5_of : GoodIn wsX5_high (va_wsS RX5 47 yX5_of wsX5_of) := goodIn_app (goodIn_of _ (by decide +kernel)) ggX5_high_X5_of
theorem dX5_high_0 : decode cX5_high 0 = .ok (.aload_n 0, 1) := by decide +kernel
theorem dX5_high_1 : decode cX5_high 1 = .ok (.iload_n 1, 1) := by decide +kernel
theorem dX5_high_2 : decode cX5_high 2 = .ok (.iconst 1, 1) := by decide +kernel
theorem dX5_high_3 : decode cX5_high 3 = .ok (.invokestatic 47, 3) := by decide +kernel
theorem dX5_high_6 : decode cX5_high 6 = .ok (.bipush 20, 2) := by decide +kernel
theorem dX5_high_8 : decode cX5_high 8 = .ok (.aload_n 0, 1) := by decide +kernel
theorem dX5_high_9 : decode cX5_high 9 = .ok (.iload_n 1, 1) := by decide +kernel
theorem dX5_high_10 : decode cX5_high 10 = .ok (.iconst 3, 1) := by decide +kernel
theorem dX5_high_11 : decode cX5_high 11 = .ok (.invokestatic 47, 3) := by decide +kernel
theorem dX5_high_14 : decode cX5_high 14 = .ok (.imul, 1) := by decide +kernel
theorem dX5_high_15 : decode cX5_high 15 = .ok (.isub, 1) := by decide +kernel
theorem dX5_high_16 : decode cX5_high 16 = .ok (.istore_n 2, 1) := by decide +kernel
theorem dX5_high_17 : decode cX5_high 17 = .ok (.iload_n 2, 1) := by decide +kernel
theorem dX5_high_18 : decode cX5_high 18 = .ok (.bipush 10, 2) := by decide +kernel
theorem dX5_high_20 : decode cX5_high 20 = .ok (.if_icmp .ge 8, 3) := by decide +kernel
theorem dX5_high_23 : decode cX5_high 23 = .ok (.bipush 10, 2) := by decide +kernel
theorem dX5_high_25 : decode cX5_high 25 = .ok (.goto 4, 3) := by decide +kernel
theorem dX5_high_28 : decode cX5_high 28 = .ok (.iload_n 2, 1) := by decide +kernel
theorem dX5_high_29 : decode cX5_high 29 = .ok (.ireturn, 1) := by decide +kernel
set_option maxRecDepth 20000 in
theorem ggX5_isLowered_X5_high : GoodIn wsX5_isLowered wsX5_high := goodIn_r _ [4, 5, 6, 3, 7] (by decide +kernel) (by decide +kernel)
set_option maxRecDepth 20000 in
theorem gX5_isLowered_X5_high : GoodIn wsX5_isLowered (va_wsS RX5 58 yX5_high wsX5_high) := goodIn_app (goodIn_of _ (by decide +kernel)) ggX5_isLowered_X5_high
theorem dX5_isLowered_0 : decode cX5_isLowered 0 = .ok (.aload_n 0, 1) := by decide +kernel
theorem dX5_isLowered_1 : decode cX5_isLowered 1 = .ok (.iload_n 1, 1) := by decide +kernel
theorem dX5_isLowered_2 : decode cX5_isLowered 2 = .ok (.invokestatic 58, 3) := by decide +kernel
theorem dX5_isLowered_5 : decode cX5_isLowered 5 = .ok (.aload_n 0, 1) := by decide +kernel
theorem dX5_isLowered_6 : decode cX5_isLowered 6 = .ok (.bipush 6, 2) := by decide +kernel
theorem dX5_isLowered_8 : decode cX5_isLowered 8 = .ok (.iconst 2, 1) := by decide +kernel
theorem dX5_isLowered_9 : decode cX5_isLowered 9 = .ok (.iload_n 2, 1) := by decide +kernel
theorem dX5_isLowered_10 : decode cX5_isLowered 10 = .ok (.imul, 1) := by decide +kernel
theorem dX5_isLowered_11 : decode cX5_isLowered 11 = .ok (.iadd, 1) := by decide +kernel
theorem dX5_isLowered_12 : decode cX5_isLowered 12 = .ok (.iconst 1, 1) := by decide +kernel
theorem dX5_isLowered_13 : decode cX5_isLowered 13 = .ok (.iadd, 1) := by decide +kernel
theorem dX5_isLowered_14 : decode cX5_isLowered 14 = .ok (.iaload, 1) := by decide +kernel
theorem dX5_isLowered_15 : decode cX5_isLowered 15 = .ok (.if_icmp .le 7, 3) := by decide +kernel
theorem dX5_isLowered_18 : decode cX5_isLowered 18 = .ok (.iconst 1, 1) := by decide +kernel
theorem dX5_isLowered_19 : decode cX5_isLowered 19 = .ok (.goto 4, 3) := by decide +kernel
theorem dX5_isLowered_22 : decode cX5_isLowered 22 = .ok (.iconst 0, 1) := by decide +kernel
theorem dX5_isLowered_23 : decode cX5_isLowered 23 = .ok (.ireturn, 1) := by decide +kernel
set_option maxRecDepth 20000 in
theorem ggX5_goes_X5_isLowered : GoodIn wsX5_goes wsX5_isLowered := goodIn_r _ [5, 6, 7, 4, 8, 9, 10, 11] (by decide +kernel) (by decide +kernel)
set_option maxRecDepth 20000 in
theorem gX5_goes_X5_isLowered : GoodIn wsX5_goes (va_wsS RX5 61 yX5_isLowered wsX5_isLowered) := goodIn_app (goodIn_of _ (by decide +kernel)) ggX5_goes_X5_isLowered
theorem dX5_goes_0 : decode cX5_goes 0 = .ok (.aload_n 1, 1) := by decide +kernel
theorem dX5_goes_1 : decode cX5_goes 1 = .ok (.iconst 5, 1) := by decide +kernel
theorem dX5_goes_2 : decode cX5_goes 2 = .ok (.iaload, 1) := by decide +kernel
theorem dX5_goes_3 : decode cX5_goes 3 = .ok (.istore_n 3, 1) := by decide +kernel
theorem dX5_goes_4 : decode cX5_goes 4 = .ok (.iconst 0, 1) := by decide +kernel
theorem dX5_goes_5 : decode cX5_goes 5 = .ok (.istore 4, 2) := by decide +kernel
theorem dX5_goes_7 : decode cX5_goes 7 = .ok (.iload 4, 2) := by decide +kernel
theorem dX5_goes_9 : decode cX5_goes 9 = .ok (.aload_n 1, 1) := by decide +kernel
theorem dX5_goes_10 : decode cX5_goes 10 = .ok (.iconst 4, 1) := by decide +kernel
theorem dX5_goes_11 : decode cX5_goes 11 = .ok (.iaload, 1) := by decide +kernel
theorem dX5_goes_12 : decode cX5_goes 12 = .ok (.if_icmp .ge 192, 3) := by decide +kernel
theorem dX5_goes_15 : decode cX5_goes 15 = .ok (.iload 4, 2) := by decide +kernel
theorem dX5_goes_17 : decode cX5_goes 17 = .ok (.aload_n 1, 1) := by decide +kernel
theorem dX5_goes_18 : decode cX5_goes 18 = .ok (.iconst 1, 1) := by decide +kernel
theorem dX5_goes_19 : decode cX5_goes 19 = .ok (.iaload, 1) := by decide +kernel
theorem dX5_goes_20 : decode cX5_goes 20 = .ok (.imul, 1) := by decide +kernel
theorem dX5_goes_21 : decode cX5_goes 21 = .ok (.istore 5, 2) := by decide +kernel
theorem dX5_goes_23 : decode cX5_goes 23 = .ok (.iconst 0, 1) := by decide +kernel
theorem dX5_goes_24 : decode cX5_goes 24 = .ok (.istore 6, 2) := by decide +kernel
theorem dX5_goes_26 : decode cX5_goes 26 = .ok (.iconst 0, 1) := by decide +kernel
theorem dX5_goes_27 : decode cX5_goes 27 = .ok (.istore 7, 2) := by decide +kernel
theorem dX5_goes_29 : decode cX5_goes 29 = .ok (.iload 7, 2) := by decide +kernel
theorem dX5_goes_31 : decode cX5_goes 31 = .ok (.iload_n 3, 1) := by decide +kernel
theorem dX5_goes_32 : decode cX5_goes 32 = .ok (.if_icmp .gt 166, 3) := by decide +kernel
theorem dX5_goes_35 : decode cX5_goes 35 = .ok (.iload 7, 2) := by decide +kernel
theorem dX5_goes_37 : decode cX5_goes 37 = .ok (.iload_n 3, 1) := by decide +kernel
theorem dX5_goes_38 : decode cX5_goes 38 = .ok (.if_icmp .ne 8, 3) := by decide +kernel
theorem dX5_goes_41 : decode cX5_goes 41 = .ok (.bipush 60, 2) := by decide +kernel
theorem dX5_goes_43 : decode cX5_goes 43 = .ok (.goto 12, 3) := by decide +kernel
theorem dX5_goes_46 : decode cX5_goes 46 = .ok (.aload_n 1, 1) := by decide +kernel
theorem dX5_goes_47 : decode cX5_goes 47 = .ok (.bipush 6, 2) := by decide +kernel
theorem dX5_goes_49 : decode cX5_goes 49 = .ok (.iconst 2, 1) := by decide +kernel
theorem dX5_goes_50 : decode cX5_goes 50 = .ok (.iload 7, 2) := by decide +kernel
theorem dX5_goes_52 : decode cX5_goes 52 = .ok (.imul, 1) := by decide +kernel
theorem dX5_goes_53 : decode cX5_goes 53 = .ok (.iadd, 1) := by decide +kernel
theorem dX5_goes_54 : decode cX5_goes 54 = .ok (.iaload, 1) := by decide +kernel
theorem dX5_goes_55 : decode cX5_goes 55 = .ok (.istore 8, 2) := by decide +kernel
theorem dX5_goes_57 : decode cX5_goes 57 = .ok (.iload 4, 2) := by decide +kernel
theorem dX5_goes_59 : decode cX5_goes 59 = .ok (.ifCond .ne 7, 3) := by decide +kernel
theorem dX5_goes_62 : decode cX5_goes 62 = .ok (.iconst 0, 1) := by decide +kernel
theorem dX5_goes_63 : decode cX5_goes 63 = .ok (.goto 46, 3) := by decide +kernel
theorem dX5_goes_66 : decode cX5_goes 66 = .ok (.aload_n 0, 1) := by decide +kernel
theorem dX5_goes_67 : decode cX5_goes 67 = .ok (.getfield 25, 3) := by decide +kernel
theorem dX5_goes_70 : decode cX5_goes 70 = .ok (.iconst 5, 1) := by decide +kernel
theorem dX5_goes_71 : decode cX5_goes 71 = .ok (.iload 4, 2) := by decide +kernel
theorem dX5_goes_73 : decode cX5_goes 73 = .ok (.iconst 1, 1) := by decide +kernel
theorem dX5_goes_74 : decode cX5_goes 74 = .ok (.isub, 1) := by decide +kernel
theorem dX5_goes_75 : decode cX5_goes 75 = .ok (.imul, 1) := by decide +kernel
theorem dX5_goes_76 : decode cX5_goes 76 = .ok (.iload 7, 2) := by decide +kernel
theorem dX5_goes_78 : decode cX5_goes 78 = .ok (.iadd, 1) := by decide +kernel
theorem dX5_goes_79 : decode cX5_goes 79 = .ok (.iaload, 1) := by decide +kernel
theorem dX5_goes_80 : decode cX5_goes 80 = .ok (.iload 7, 2) := by decide +kernel
theorem dX5_goes_82 : decode cX5_goes 82 = .ok (.iload_n 3, 1) := by decide +kernel
theorem dX5_goes_83 : decode cX5_goes 83 = .ok (.if_icmp .ge 20, 3) := by decide +kernel
theorem dX5_goes_86 : decode cX5_goes 86 = .ok (.aload_n 1, 1) := by decide +kernel
theorem dX5_goes_87 : decode cX5_goes 87 = .ok (.iload 4, 2) := by decide +kernel
theorem dX5_goes_89 : decode cX5_goes 89 = .ok (.iconst 1, 1) := by decide +kernel
theorem dX5_goes_90 : decode cX5_goes 90 = .ok (.isub, 1) := by decide +kernel
theorem dX5_goes_91 : decode cX5_goes 91 = .ok (.iload 7, 2) := by decide +kernel
theorem dX5_goes_93 : decode cX5_goes 93 = .ok (.invokestatic 61, 3) := by decide +kernel
theorem dX5_goes_96 : decode cX5_goes 96 = .ok (.ifCond .eq 7, 3) := by decide +kernel
theorem dX5_goes_99 : decode cX5_goes 99 = .ok (.iload_n 2, 1) := by decide +kernel
theorem dX5_goes_100 : decode cX5_goes 100 = .ok (.goto 4, 3) := by decide +kernel
theorem dX5_goes_103 : decode cX5_goes 103 = .ok (.iconst 0, 1) := by decide +kernel
theorem dX5_goes_104 : decode cX5_goes 104 = .ok (.iadd, 1) := by decide +kernel
theorem dX5_goes_105 : decode cX5_goes 105 = .ok (.aload_n 1, 1) := by decide +kernel
theorem dX5_goes_106 : decode cX5_goes 106 = .ok (.iconst 1, 1) := by decide +kernel
theorem dX5_goes_107 : decode cX5_goes 107 = .ok (.iaload, 1) := by decide +kernel
theorem dX5_goes_108 : decode cX5_goes 108 = .ok (.iadd, 1) := by decide +kernel
theorem dX5_goes_109 : decode cX5_goes 109 = .ok (.istore 9, 2) := by decide +kernel
theorem dX5_goes_111 : decode cX5_goes 111 = .ok (.iload 5, 2) := by decide +kernel
theorem dX5_goes_113 : decode cX5_goes 113 = .ok (.iload 8, 2) := by decide +kernel
theorem dX5_goes_115 : decode cX5_goes 115 = .ok (.iload 6, 2) := by decide +kernel
theorem dX5_goes_117 : decode cX5_goes 117 = .ok (.isub, 1) := by decide +kernel
theorem dX5_goes_118 : decode cX5_goes 118 = .ok (.aload_n 1, 1) := by decide +kernel
theorem dX5_goes_119 : decode cX5_goes 119 = .ok (.iconst 2, 1) := by decide +kernel
theorem dX5_goes_120 : decode cX5_goes 120 = .ok (.iaload, 1) := by decide +kernel
theorem dX5_goes_121 : decode cX5_goes 121 = .ok (.imul, 1) := by decide +kernel
theorem dX5_goes_122 : decode cX5_goes 122 = .ok (.iadd, 1) := by decide +kernel
theorem dX5_goes_123 : decode cX5_goes 123 = .ok (.istore 10, 2) := by decide +kernel
theorem dX5_goes_125 : decode cX5_goes 125 = .ok (.aload_n 0, 1) := by decide +kernel
theorem dX5_goes_126 : decode cX5_goes 126 = .ok (.getfield 25, 3) := by decide +kernel
theorem dX5_goes_129 : decode cX5_goes 129 = .ok (.iconst 5, 1) := by decide +kernel
theorem dX5_goes_130 : decode cX5_goes 130 = .ok (.iload 4, 2) := by decide +kernel
theorem dX5_goes_132 : decode cX5_goes 132 = .ok (.imul, 1) := by decide +kernel
theorem dX5_goes_133 : decode cX5_goes 133 = .ok (.iload 7, 2) := by decide +kernel
theorem dX5_goes_135 : decode cX5_goes 135 = .ok (.iadd, 1) := by decide +kernel
theorem dX5_goes_136 : decode cX5_goes 136 = .ok (.iload 9, 2) := by decide +kernel
theorem dX5_goes_138 : decode cX5_goes 138 = .ok (.iload 10, 2) := by decide +kernel
theorem dX5_goes_140 : decode cX5_goes 140 = .ok (.if_icmp .le 8, 3) := by decide +kernel
theorem dX5_goes_143 : decode cX5_goes 143 = .ok (.iload 9, 2) := by decide +kernel
theorem dX5_goes_145 : decode cX5_goes 145 = .ok (.goto 5, 3) := by decide +kernel
theorem dX5_goes_148 : decode cX5_goes 148 = .ok (.iload 10, 2) := by decide +kernel
theorem dX5_goes_150 : decode cX5_goes 150 = .ok (.iastore, 1) := by decide +kernel
theorem dX5_goes_151 : decode cX5_goes 151 = .ok (.aload_n 0, 1) := by decide +kernel
theorem dX5_goes_152 : decode cX5_goes 152 = .ok (.getfield 25, 3) := by decide +kernel
theorem dX5_goes_155 : decode cX5_goes 155 = .ok (.iconst 5, 1) := by decide +kernel
theorem dX5_goes_156 : decode cX5_goes 156 = .ok (.iload 4, 2) := by decide +kernel
theorem dX5_goes_158 : decode cX5_goes 158 = .ok (.imul, 1) := by decide +kernel
theorem dX5_goes_159 : decode cX5_goes 159 = .ok (.iload 7, 2) := by decide +kernel
theorem dX5_goes_161 : decode cX5_goes 161 = .ok (.iadd, 1) := by decide +kernel
theorem dX5_goes_162 : decode cX5_goes 162 = .ok (.iaload, 1) := by decide +kernel
theorem dX5_goes_163 : decode cX5_goes 163 = .ok (.iload 7, 2) := by decide +kernel
theorem dX5_goes_165 : decode cX5_goes 165 = .ok (.iload_n 3, 1) := by decide +kernel
theorem dX5_goes_166 : decode cX5_goes 166 = .ok (.if_icmp .ge 18, 3) := by decide +kernel
theorem dX5_goes_169 : decode cX5_goes 169 = .ok (.aload_n 1, 1) := by decide +kernel
theorem dX5_goes_170 : decode cX5_goes 170 = .ok (.iload 4, 2) := by decide +kernel
theorem dX5_goes_172 : decode cX5_goes 172 = .ok (.iload 7, 2) := by decide +kernel
theorem dX5_goes_174 : decode cX5_goes 174 = .ok (.invokestatic 61, 3) := by decide +kernel
theorem dX5_goes_177 : decode cX5_goes 177 = .ok (.ifCond .eq 7, 3) := by decide +kernel
theorem dX5_goes_180 : decode cX5_goes 180 = .ok (.iload_n 2, 1) := by decide +kernel
theorem dX5_goes_181 : decode cX5_goes 181 = .ok (.goto 4, 3) := by decide +kernel
theorem dX5_goes_184 : decode cX5_goes 184 = .ok (.iconst 0, 1) := by decide +kernel
theorem dX5_goes_185 : decode cX5_goes 185 = .ok (.iadd, 1) := by decide +kernel
theorem dX5_goes_186 : decode cX5_goes 186 = .ok (.istore 5, 2) := by decide +kernel
theorem dX5_goes_188 : decode cX5_goes 188 = .ok (.iload 8, 2) := by decide +kernel
theorem dX5_goes_190 : decode cX5_goes 190 = .ok (.istore 6, 2) := by decide +kernel
theorem dX5_goes_192 : decode cX5_goes 192 = .ok (.iinc 7 1, 3) := by decide +kernel
theorem dX5_goes_195 : decode cX5_goes 195 = .ok (.goto (-166), 3) := by decide +kernel
theorem dX5_goes_198 : decode cX5_goes 198 = .ok (.iinc 4 1, 3) := by decide +kernel
theorem dX5_goes_201 : decode cX5_goes 201 = .ok (.goto (-194), 3) := by decide +kernel
theorem dX5_goes_204 : decode cX5_goes 204 = .ok (.aload_n 1, 1) := by decide +kernel
theorem dX5_goes_205 : decode cX5_goes 205 = .ok (.iconst 4, 1) := by decide +kernel
theorem dX5_goes_206 : decode cX5_goes 206 = .ok (.iaload, 1) := by decide +kernel
theorem dX5_goes_207 : decode cX5_goes 207 = .ok (.ifCond .ne 7, 3) := by decide +kernel
theorem dX5_goes_210 : decode cX5_goes 210 = .ok (.iconst 0, 1) := by decide +kernel
theorem dX5_goes_211 : decode cX5_goes 211 = .ok (.goto 17, 3) := by decide +kernel
theorem dX5_goes_214 : decode cX5_goes 214 = .ok (.aload_n 0, 1) := by decide +kernel
theorem dX5_goes_215 : decode cX5_goes 215 = .ok (.getfield 25, 3) := by decide +kernel
theorem dX5_goes_218 : decode cX5_goes 218 = .ok (.iconst 5, 1) := by decide +kernel
theorem dX5_goes_219 : decode cX5_goes 219 = .ok (.aload_n 1, 1) := by decide +kernel
theorem dX5_goes_220 : decode cX5_goes 220 = .ok (.iconst 4, 1) := by decide +kernel
theorem dX5_goes_221 : decode cX5_goes 221 = .ok (.iaload, 1) := by decide +kernel
theorem dX5_goes_222 : decode cX5_goes 222 = .ok (.iconst 1, 1) := by decide +kernel
theorem dX5_goes_223 : decode cX5_goes 223 = .ok (.isub, 1) := by decide +kernel
theorem dX5_goes_224 : decode cX5_goes 224 = .ok (.imul, 1) := by decide +kernel
theorem dX5_goes_225 : decode cX5_goes 225 = .ok (.iload_n 3, 1) := by decide +kernel
theorem dX5_goes_226 : decode cX5_goes 226 = .ok (.iadd, 1) := by decide +kernel
theorem dX5_goes_227 : decode cX5_goes 227 = .ok (.iaload, 1) := by decide +kernel
theorem dX5_goes_228 : decode cX5_goes 228 = .ok (.ireturn, 1) := by decide +kernel
set_option maxRecDepth 20000 in
theorem ggX5_ends_X5_goes : GoodIn wsX5_ends wsX5_goes := goodIn_r _ [5, 6, 7, 8, 4, 9, 10, 11, 12, 13, 14, 15, 16, 17, 18, 19, 20, 21, 22, 23, 24, 25, 26, 27] (by decide +kernel) (by decide +kernel)
set_option maxRecDepth 20000 in
theorem gX5_ends_X5_goes : GoodIn wsX5_ends (wsV RX5 65 RX5 yX5_goes wsX5_goes) := goodIn_app (goodIn_of _ (by decide +kernel)) ggX5_ends_X5_goes
theorem dX5_ends_0 : decode cX5_ends 0 = .ok (.aload_n 0, 1) := by decide +kernel
theorem dX5_ends_1 : decode cX5_ends 1 = .ok (.aload_n 1, 1) := by decide +kernel
theorem dX5_ends_2 : decode cX5_ends 2 = .ok (.aload_n 1, 1) := by decide +kernel
theorem dX5_ends_3 : decode cX5_ends 3 = .ok (.iconst 3, 1) := by decide +kernel
theorem dX5_ends_4 : decode cX5_ends 4 = .ok (.iaload, 1) := by decide +kernel
theorem dX5_ends_5 : decode cX5_ends 5 = .ok (.invokevirtual 65, 3) := by decide +kernel
theorem dX5_ends_8 : decode cX5_ends 8 = .ok (.ireturn, 1) := by decide +kernel
theorem dX5_puts_0 : decode cX5_puts 0 = .ok (.bipush 14, 2) := by decide +kernel
theorem dX5_puts_2 : decode cX5_puts 2 = .ok (.iconst 4, 1) := by decide +kernel
theorem dX5_puts_3 : decode cX5_puts 3 = .ok (.aload_n 0, 1) := by decide +kernel
theorem dX5_puts_4 : decode cX5_puts 4 = .ok (.iconst 4, 1) := by decide +kernel
theorem dX5_puts_5 : decode cX5_puts 5 = .ok (.iaload, 1) := by decide +kernel
theorem dX5_puts_6 : decode cX5_puts 6 = .ok (.imul, 1) := by decide +kernel
theorem dX5_puts_7 : decode cX5_puts 7 = .ok (.iadd, 1) := by decide +kernel
theorem dX5_puts_8 : decode cX5_puts 8 = .ok (.iconst 1, 1) := by decide +kernel
theorem dX5_puts_9 : decode cX5_puts 9 = .ok (.isub, 1) := by decide +kernel
theorem dX5_puts_10 : decode cX5_puts 10 = .ok (.istore 6, 2) := by decide +kernel
theorem dX5_puts_12 : decode cX5_puts 12 = .ok (.iload 6, 2) := by decide +kernel
theorem dX5_puts_14 : decode cX5_puts 14 = .ok (.bipush 14, 2) := by decide +kernel
theorem dX5_puts_16 : decode cX5_puts 16 = .ok (.iconst 4, 1) := by decide +kernel
theorem dX5_puts_17 : decode cX5_puts 17 = .ok (.iload_n 1, 1) := by decide +kernel
theorem dX5_puts_18 : decode cX5_puts 18 = .ok (.imul, 1) := by decide +kernel
theorem dX5_puts_19 : decode cX5_puts 19 = .ok (.iadd, 1) := by decide +kernel
theorem dX5_puts_20 : decode cX5_puts 20 = .ok (.if_icmp .lt 19, 3) := by decide +kernel
theorem dX5_puts_23 : decode cX5_puts 23 = .ok (.aload_n 0, 1) := by decide +kernel
theorem dX5_puts_24 : decode cX5_puts 24 = .ok (.iload 6, 2) := by decide +kernel
theorem dX5_puts_26 : decode cX5_puts 26 = .ok (.iconst 4, 1) := by decide +kernel
theorem dX5_puts_27 : decode cX5_puts 27 = .ok (.iadd, 1) := by decide +kernel
theorem dX5_puts_28 : decode cX5_puts 28 = .ok (.aload_n 0, 1) := by decide +kernel
theorem dX5_puts_29 : decode cX5_puts 29 = .ok (.iload 6, 2) := by decide +kernel
theorem dX5_puts_31 : decode cX5_puts 31 = .ok (.iaload, 1) := by decide +kernel
theorem dX5_puts_32 : decode cX5_puts 32 = .ok (.iastore, 1) := by decide +kernel
theorem dX5_puts_33 : decode cX5_puts 33 = .ok (.iinc 6 (-1), 3) := by decide +kernel
theorem dX5_puts_36 : decode cX5_puts 36 = .ok (.goto (-24), 3) := by decide +kernel
theorem dX5_puts_39 : decode cX5_puts 39 = .ok (.bipush 14, 2) := by decide +kernel
theorem dX5_puts_41 : decode cX5_puts 41 = .ok (.iconst 4, 1) := by decide +kernel
theorem dX5_puts_42 : decode cX5_puts 42 = .ok (.iload_n 1, 1) := by decide +kernel
theorem dX5_puts_43 : decode cX5_puts 43 = .ok (.imul, 1) := by decide +kernel
theorem dX5_puts_44 : decode cX5_puts 44 = .ok (.iadd, 1) := by decide +kernel
theorem dX5_puts_45 : decode cX5_puts 45 = .ok (.istore 6, 2) := by decide +kernel
theorem dX5_puts_47 : decode cX5_puts 47 = .ok (.aload_n 0, 1) := by decide +kernel
theorem dX5_puts_48 : decode cX5_puts 48 = .ok (.iload 6, 2) := by decide +kernel
theorem dX5_puts_50 : decode cX5_puts 50 = .ok (.iload_n 2, 1) := by decide +kernel
theorem dX5_puts_51 : decode cX5_puts 51 = .ok (.iastore, 1) := by decide +kernel
theorem dX5_puts_52 : decode cX5_puts 52 = .ok (.aload_n 0, 1) := by decide +kernel
theorem dX5_puts_53 : decode cX5_puts 53 = .ok (.iload 6, 2) := by decide +kernel
theorem dX5_puts_55 : decode cX5_puts 55 = .ok (.iconst 1, 1) := by decide +kernel
theorem dX5_puts_56 : decode cX5_puts 56 = .ok (.iadd, 1) := by decide +kernel
theorem dX5_puts_57 : decode cX5_puts 57 = .ok (.iload_n 3, 1) := by decide +kernel
theorem dX5_puts_58 : decode cX5_puts 58 = .ok (.iastore, 1) := by decide +kernel
theorem dX5_puts_59 : decode cX5_puts 59 = .ok (.aload_n 0, 1) := by decide +kernel
theorem dX5_puts_60 : decode cX5_puts 60 = .ok (.iload 6, 2) := by decide +kernel
theorem dX5_puts_62 : decode cX5_puts 62 = .ok (.iconst 2, 1) := by decide +kernel
theorem dX5_puts_63 : decode cX5_puts 63 = .ok (.iadd, 1) := by decide +kernel
theorem dX5_puts_64 : decode cX5_puts 64 = .ok (.iload 4, 2) := by decide +kernel
theorem dX5_puts_66 : decode cX5_puts 66 = .ok (.iastore, 1) := by decide +kernel
theorem dX5_puts_67 : decode cX5_puts 67 = .ok (.aload_n 0, 1) := by decide +kernel
theorem dX5_puts_68 : decode cX5_puts 68 = .ok (.iload 6, 2) := by decide +kernel
theorem dX5_puts_70 : decode cX5_puts 70 = .ok (.iconst 3, 1) := by decide +kernel
theorem dX5_puts_71 : decode cX5_puts 71 = .ok (.iadd, 1) := by decide +kernel
theorem dX5_puts_72 : decode cX5_puts 72 = .ok (.iload 5, 2) := by decide +kernel
theorem dX5_puts_74 : decode cX5_puts 74 = .ok (.iastore, 1) := by decide +kernel
theorem dX5_puts_75 : decode cX5_puts 75 = .ok (.aload_n 0, 1) := by decide +kernel
theorem dX5_puts_76 : decode cX5_puts 76 = .ok (.iconst 4, 1) := by decide +kernel
theorem dX5_puts_77 : decode cX5_puts 77 = .ok (.dup2, 1) := by decide +kernel
theorem dX5_puts_78 : decode cX5_puts 78 = .ok (.iaload, 1) := by decide +kernel
theorem dX5_puts_79 : decode cX5_puts 79 = .ok (.iconst 1, 1) := by decide +kernel
theorem dX5_puts_80 : decode cX5_puts 80 = .ok (.iadd, 1) := by decide +kernel
theorem dX5_puts_81 : decode cX5_puts 81 = .ok (.iastore, 1) := by decide +kernel
theorem dX5_puts_82 : decode cX5_puts 82 = .ok (.return_, 1) := by decide +kernel
theorem dX5_goesOut_0 : decode cX5_goesOut 0 = .ok (.aload_n 0, 1) := by decide +kernel
theorem dX5_goesOut_1 : decode cX5_goesOut 1 = .ok (.iconst 4, 1) := by decide +kernel
theorem dX5_goesOut_2 : decode cX5_goesOut 2 = .ok (.dup2, 1) := by decide +kernel
theorem dX5_goesOut_3 : decode cX5_goesOut 3 = .ok (.iaload, 1) := by decide +kernel
theorem dX5_goesOut_4 : decode cX5_goesOut 4 = .ok (.iconst 1, 1) := by decide +kernel
theorem dX5_goesOut_5 : decode cX5_goesOut 5 = .ok (.isub, 1) := by decide +kernel
theorem dX5_goesOut_6 : decode cX5_goesOut 6 = .ok (.iastore, 1) := by decide +kernel
theorem dX5_goesOut_7 : decode cX5_goesOut 7 = .ok (.bipush 14, 2) := by decide +kernel
theorem dX5_goesOut_9 : decode cX5_goesOut 9 = .ok (.iconst 4, 1) := by decide +kernel
theorem dX5_goesOut_10 : decode cX5_goesOut 10 = .ok (.iload_n 1, 1) := by decide +kernel
theorem dX5_goesOut_11 : decode cX5_goesOut 11 = .ok (.imul, 1) := by decide +kernel
theorem dX5_goesOut_12 : decode cX5_goesOut 12 = .ok (.iadd, 1) := by decide +kernel
theorem dX5_goesOut_13 : decode cX5_goesOut 13 = .ok (.istore_n 2, 1) := by decide +kernel
theorem dX5_goesOut_14 : decode cX5_goesOut 14 = .ok (.iload_n 2, 1) := by decide +kernel
theorem dX5_goesOut_15 : decode cX5_goesOut 15 = .ok (.bipush 14, 2) := by decide +kernel
theorem dX5_goesOut_17 : decode cX5_goesOut 17 = .ok (.iconst 4, 1) := by decide +kernel
theorem dX5_goesOut_18 : decode cX5_goesOut 18 = .ok (.aload_n 0, 1) := by decide +kernel
theorem dX5_goesOut_19 : decode cX5_goesOut 19 = .ok (.iconst 4, 1) := by decide +kernel
theorem dX5_goesOut_20 : decode cX5_goesOut 20 = .ok (.iaload, 1) := by decide +kernel
theorem dX5_goesOut_21 : decode cX5_goesOut 21 = .ok (.imul, 1) := by decide +kernel
theorem dX5_goesOut_22 : decode cX5_goesOut 22 = .ok (.iadd, 1) := by decide +kernel
theorem dX5_goesOut_23 : decode cX5_goesOut 23 = .ok (.if_icmp .ge 17, 3) := by decide +kernel
theorem dX5_goesOut_26 : decode cX5_goesOut 26 = .ok (.aload_n 0, 1) := by decide +kernel
theorem dX5_goesOut_27 : decode cX5_goesOut 27 = .ok (.iload_n 2, 1) := by decide +kernel
theorem dX5_goesOut_28 : decode cX5_goesOut 28 = .ok (.aload_n 0, 1) := by decide +kernel
theorem dX5_goesOut_29 : decode cX5_goesOut 29 = .ok (.iload_n 2, 1) := by decide +kernel
theorem dX5_goesOut_30 : decode cX5_goesOut 30 = .ok (.iconst 4, 1) := by decide +kernel
theorem dX5_goesOut_31 : decode cX5_goesOut 31 = .ok (.iadd, 1) := by decide +kernel
theorem dX5_goesOut_32 : decode cX5_goesOut 32 = .ok (.iaload, 1) := by decide +kernel
theorem dX5_goesOut_33 : decode cX5_goesOut 33 = .ok (.iastore, 1) := by decide +kernel
theorem dX5_goesOut_34 : decode cX5_goesOut 34 = .ok (.iinc 2 1, 3) := by decide +kernel
theorem dX5_goesOut_37 : decode cX5_goesOut 37 = .ok (.goto (-23), 3) := by decide +kernel
theorem dX5_goesOut_40 : decode cX5_goesOut 40 = .ok (.return_, 1) := by decide +kernel
set_option maxRecDepth 20000 in
theorem ggX5_moves_X5_of : GoodIn wsX5_moves wsX5_of := goodIn_r _ [4] (by decide +kernel) (by decide +kernel)
set_option maxRecDepth 20000 in
theorem gX5_moves_X5_of : GoodIn wsX5_moves (va_wsS RX5 47 yX5_of wsX5_of) := goodIn_app (goodIn_of _ (by decide +kernel)) ggX5_moves_X5_of
set_option maxRecDepth 20000 in
theorem ggX5_moves_X5_goesOut : GoodIn wsX5_moves wsX5_goesOut := goodIn_r _ [7] (by decide +kernel) (by decide +kernel)
set_option maxRecDepth 20000 in
theorem gX5_moves_X5_goesOut : GoodIn wsX5_moves (va_wsS RX5 68 yX5_goesOut wsX5_goesOut) := goodIn_app (goodIn_of _ (by decide +kernel)) ggX5_moves_X5_goesOut
set_option maxRecDepth 20000 in
theorem ggX5_moves_X5_puts : GoodIn wsX5_moves wsX5_puts := goodIn_r _ [10] (by decide +kernel) (by decide +kernel)
set_option maxRecDepth 20000 in
theorem gX5_moves_X5_puts : GoodIn wsX5_moves (va_wsS RX5 72 yX5_puts wsX5_puts) := goodIn_app (goodIn_of _ (by decide +kernel)) ggX5_moves_X5_puts
theorem dX5_moves_0 : decode cX5_moves 0 = .ok (.aload_n 0, 1) := by decide +kernel
theorem dX5_moves_1 : decode cX5_moves 1 = .ok (.iload_n 1, 1) := by decide +kernel
theorem dX5_moves_2 : decode cX5_moves 2 = .ok (.iconst 0, 1) := by decide +kernel
theorem dX5_moves_3 : decode cX5_moves 3 = .ok (.invokestatic 47, 3) := by decide +kernel
theorem dX5_moves_6 : decode cX5_moves 6 = .ok (.istore_n 3, 1) := by decide +kernel
theorem dX5_moves_7 : decode cX5_moves 7 = .ok (.aload_n 0, 1) := by decide +kernel
theorem dX5_moves_8 : decode cX5_moves 8 = .ok (.iload_n 1, 1) := by decide +kernel
theorem dX5_moves_9 : decode cX5_moves 9 = .ok (.iconst 1, 1) := by decide +kernel
theorem dX5_moves_10 : decode cX5_moves 10 = .ok (.invokestatic 47, 3) := by decide +kernel
theorem dX5_moves_13 : decode cX5_moves 13 = .ok (.istore 4, 2) := by decide +kernel
theorem dX5_moves_15 : decode cX5_moves 15 = .ok (.aload_n 0, 1) := by decide +kernel
theorem dX5_moves_16 : decode cX5_moves 16 = .ok (.iload_n 1, 1) := by decide +kernel
theorem dX5_moves_17 : decode cX5_moves 17 = .ok (.iconst 2, 1) := by decide +kernel
theorem dX5_moves_18 : decode cX5_moves 18 = .ok (.invokestatic 47, 3) := by decide +kernel
theorem dX5_moves_21 : decode cX5_moves 21 = .ok (.istore 5, 2) := by decide +kernel
theorem dX5_moves_23 : decode cX5_moves 23 = .ok (.aload_n 0, 1) := by decide +kernel
theorem dX5_moves_24 : decode cX5_moves 24 = .ok (.iload_n 1, 1) := by decide +kernel
theorem dX5_moves_25 : decode cX5_moves 25 = .ok (.iconst 3, 1) := by decide +kernel
theorem dX5_moves_26 : decode cX5_moves 26 = .ok (.invokestatic 47, 3) := by decide +kernel
theorem dX5_moves_29 : decode cX5_moves 29 = .ok (.istore 6, 2) := by decide +kernel
theorem dX5_moves_31 : decode cX5_moves 31 = .ok (.aload_n 0, 1) := by decide +kernel
theorem dX5_moves_32 : decode cX5_moves 32 = .ok (.iload_n 1, 1) := by decide +kernel
theorem dX5_moves_33 : decode cX5_moves 33 = .ok (.invokestatic 68, 3) := by decide +kernel
theorem dX5_moves_36 : decode cX5_moves 36 = .ok (.aload_n 0, 1) := by decide +kernel
theorem dX5_moves_37 : decode cX5_moves 37 = .ok (.iload_n 2, 1) := by decide +kernel
theorem dX5_moves_38 : decode cX5_moves 38 = .ok (.iload_n 3, 1) := by decide +kernel
theorem dX5_moves_39 : decode cX5_moves 39 = .ok (.iload 4, 2) := by decide +kernel
theorem dX5_moves_41 : decode cX5_moves 41 = .ok (.iload 5, 2) := by decide +kernel
theorem dX5_moves_43 : decode cX5_moves 43 = .ok (.iload 6, 2) := by decide +kernel
theorem dX5_moves_45 : decode cX5_moves 45 = .ok (.invokestatic 72, 3) := by decide +kernel
theorem dX5_moves_48 : decode cX5_moves 48 = .ok (.return_, 1) := by decide +kernel
set_option maxRecDepth 20000 in
theorem ggX5_exchanges_X5_of : GoodIn wsX5_exchanges wsX5_of := goodIn_r _ [4] (by decide +kernel) (by decide +kernel)
set_option maxRecDepth 20000 in
theorem gX5_exchanges_X5_of : GoodIn wsX5_exchanges (va_wsS RX5 47 yX5_of wsX5_of) := goodIn_app (goodIn_of _ (by decide +kernel)) ggX5_exchanges_X5_of
theorem dX5_exchanges_0 : decode cX5_exchanges 0 = .ok (.iconst 0, 1) := by decide +kernel
theorem dX5_exchanges_1 : decode cX5_exchanges 1 = .ok (.istore_n 3, 1) := by decide +kernel
theorem dX5_exchanges_2 : decode cX5_exchanges 2 = .ok (.iload_n 3, 1) := by decide +kernel
theorem dX5_exchanges_3 : decode cX5_exchanges 3 = .ok (.iconst 4, 1) := by decide +kernel
theorem dX5_exchanges_4 : decode cX5_exchanges 4 = .ok (.if_icmp .ge 45, 3) := by decide +kernel
theorem dX5_exchanges_7 : decode cX5_exchanges 7 = .ok (.aload_n 0, 1) := by decide +kernel
theorem dX5_exchanges_8 : decode cX5_exchanges 8 = .ok (.iload_n 1, 1) := by decide +kernel
theorem dX5_exchanges_9 : decode cX5_exchanges 9 = .ok (.iload_n 3, 1) := by decide +kernel
theorem dX5_exchanges_10 : decode cX5_exchanges 10 = .ok (.invokestatic 47, 3) := by decide +kernel
theorem dX5_exchanges_13 : decode cX5_exchanges 13 = .ok (.istore 4, 2) := by decide +kernel
theorem dX5_exchanges_15 : decode cX5_exchanges 15 = .ok (.aload_n 0, 1) := by decide +kernel
theorem dX5_exchanges_16 : decode cX5_exchanges 16 = .ok (.bipush 14, 2) := by decide +kernel
theorem dX5_exchanges_18 : decode cX5_exchanges 18 = .ok (.iconst 4, 1) := by decide +kernel
theorem dX5_exchanges_19 : decode cX5_exchanges 19 = .ok (.iload_n 1, 1) := by decide +kernel
theorem dX5_exchanges_20 : decode cX5_exchanges 20 = .ok (.imul, 1) := by decide +kernel
theorem dX5_exchanges_21 : decode cX5_exchanges 21 = .ok (.iadd, 1) := by decide +kernel
theorem dX5_exchanges_22 : decode cX5_exchanges 22 = .ok (.iload_n 3, 1) := by decide +kernel
theorem dX5_exchanges_23 : decode cX5_exchanges 23 = .ok (.iadd, 1) := by decide +kernel
theorem dX5_exchanges_24 : decode cX5_exchanges 24 = .ok (.aload_n 0, 1) := by decide +kernel
theorem dX5_exchanges_25 : decode cX5_exchanges 25 = .ok (.iload_n 2, 1) := by decide +kernel
theorem dX5_exchanges_26 : decode cX5_exchanges 26 = .ok (.iload_n 3, 1) := by decide +kernel
theorem dX5_exchanges_27 : decode cX5_exchanges 27 = .ok (.invokestatic 47, 3) := by decide +kernel
theorem dX5_exchanges_30 : decode cX5_exchanges 30 = .ok (.iastore, 1) := by decide +kernel
theorem dX5_exchanges_31 : decode cX5_exchanges 31 = .ok (.aload_n 0, 1) := by decide +kernel
theorem dX5_exchanges_32 : decode cX5_exchanges 32 = .ok (.bipush 14, 2) := by decide +kernel
theorem dX5_exchanges_34 : decode cX5_exchanges 34 = .ok (.iconst 4, 1) := by decide +kernel
theorem dX5_exchanges_35 : decode cX5_exchanges 35 = .ok (.iload_n 2, 1) := by decide +kernel
theorem dX5_exchanges_36 : decode cX5_exchanges 36 = .ok (.imul, 1) := by decide +kernel
theorem dX5_exchanges_37 : decode cX5_exchanges 37 = .ok (.iadd, 1) := by decide +kernel
theorem dX5_exchanges_38 : decode cX5_exchanges 38 = .ok (.iload_n 3, 1) := by decide +kernel
theorem dX5_exchanges_39 : decode cX5_exchanges 39 = .ok (.iadd, 1) := by decide +kernel
theorem dX5_exchanges_40 : decode cX5_exchanges 40 = .ok (.iload 4, 2) := by decide +kernel
theorem dX5_exchanges_42 : decode cX5_exchanges 42 = .ok (.iastore, 1) := by decide +kernel
theorem dX5_exchanges_43 : decode cX5_exchanges 43 = .ok (.iinc 3 1, 3) := by decide +kernel
theorem dX5_exchanges_46 : decode cX5_exchanges 46 = .ok (.goto (-44), 3) := by decide +kernel
theorem dX5_exchanges_49 : decode cX5_exchanges 49 = .ok (.return_, 1) := by decide +kernel
set_option maxRecDepth 20000 in
theorem ggX5_bestExchange_X5_allTrouble : GoodIn wsX5_bestExchange wsX5_allTrouble := goodIn_r _ [6, 7, 8, 5, 9, 10, 11, 12, 13, 14, 15] (by decide +kernel) (by decide +kernel)
set_option maxRecDepth 20000 in
theorem gX5_bestExchange_X5_allTrouble : GoodIn wsX5_bestExchange (va_wsS RX5 76 yX5_allTrouble wsX5_allTrouble) := goodIn_app (goodIn_of _ (by decide +kernel)) ggX5_bestExchange_X5_allTrouble
set_option maxRecDepth 20000 in
theorem ggX5_bestExchange_X5_ends : GoodIn wsX5_bestExchange wsX5_ends := goodIn_r _ [19, 20, 21, 22, 5, 23, 24, 25, 26, 27, 28, 29, 30, 13, 14, 15, 37, 38, 39, 40, 41, 42, 43, 44, 45, 46, 47, 48] (by decide +kernel) (by decide +kernel)
set_option maxRecDepth 20000 in
theorem gX5_bestExchange_X5_ends : GoodIn wsX5_bestExchange (wsV RX5 80 RX5 yX5_ends wsX5_ends) := goodIn_app (goodIn_of _ (by decide +kernel)) ggX5_bestExchange_X5_ends
set_option maxRecDepth 20000 in
theorem ggX5_bestExchange_X5_copies : GoodIn wsX5_bestExchange wsX5_copies := goodIn_r _ [33] (by decide +kernel) (by decide +kernel)
set_option maxRecDepth 20000 in
theorem gX5_bestExchange_X5_copies : GoodIn wsX5_bestExchange (va_wsS RX5 39 yX5_copies wsX5_copies) := goodIn_app (goodIn_of _ (by decide +kernel)) ggX5_bestExchange_X5_copies
set_option maxRecDepth 20000 in
theorem ggX5_bestExchange_X5_exchanges : GoodIn wsX5_bestExchange wsX5_exchanges := goodIn_r _ [36, 13, 14, 5, 15] (by decide +kernel) (by decide +kernel)
set_option maxRecDepth 20000 in
theorem gX5_bestExchange_X5_exchanges : GoodIn wsX5_bestExchange (va_wsS RX5 83 yX5_exchanges wsX5_exchanges) := goodIn_app (goodIn_of _ (by decide +kernel)) ggX5_bestExchange_X5_exchanges
theorem dX5_bestExchange_0 : decode cX5_bestExchange 0 = .ok (.iconst (-1), 1) := by decide +kernel
theorem dX5_bestExchange_1 : decode cX5_bestExchange 1 = .ok (.istore_n 1, 1) := by decide +kernel
theorem dX5_bestExchange_2 : decode cX5_bestExchange 2 = .ok (.aload_n 0, 1) := by decide +kernel
theorem dX5_bestExchange_3 : decode cX5_bestExchange 3 = .ok (.getfield 7, 3) := by decide +kernel
theorem dX5_bestExchange_6 : decode cX5_bestExchange 6 = .ok (.invokestatic 76, 3) := by decide +kernel
theorem dX5_bestExchange_9 : decode cX5_bestExchange 9 = .ok (.istore_n 2, 1) := by decide +kernel
theorem dX5_bestExchange_10 : decode cX5_bestExchange 10 = .ok (.aload_n 0, 1) := by decide +kernel
theorem dX5_bestExchange_11 : decode cX5_bestExchange 11 = .ok (.aload_n 0, 1) := by decide +kernel
theorem dX5_bestExchange_12 : decode cX5_bestExchange 12 = .ok (.getfield 7, 3) := by decide +kernel
theorem dX5_bestExchange_15 : decode cX5_bestExchange 15 = .ok (.invokevirtual 80, 3) := by decide +kernel
theorem dX5_bestExchange_18 : decode cX5_bestExchange 18 = .ok (.istore_n 3, 1) := by decide +kernel
theorem dX5_bestExchange_19 : decode cX5_bestExchange 19 = .ok (.iconst 0, 1) := by decide +kernel
theorem dX5_bestExchange_20 : decode cX5_bestExchange 20 = .ok (.istore 4, 2) := by decide +kernel
theorem dX5_bestExchange_22 : decode cX5_bestExchange 22 = .ok (.iload 4, 2) := by decide +kernel
theorem dX5_bestExchange_24 : decode cX5_bestExchange 24 = .ok (.sipush 144, 3) := by decide +kernel
theorem dX5_bestExchange_27 : decode cX5_bestExchange 27 = .ok (.if_icmp .ge 153, 3) := by decide +kernel
theorem dX5_bestExchange_30 : decode cX5_bestExchange 30 = .ok (.iload 4, 2) := by decide +kernel
theorem dX5_bestExchange_32 : decode cX5_bestExchange 32 = .ok (.bipush 12, 2) := by decide +kernel
theorem dX5_bestExchange_34 : decode cX5_bestExchange 34 = .ok (.idiv, 1) := by decide +kernel
theorem dX5_bestExchange_35 : decode cX5_bestExchange 35 = .ok (.istore 5, 2) := by decide +kernel
theorem dX5_bestExchange_37 : decode cX5_bestExchange 37 = .ok (.iload 4, 2) := by decide +kernel
theorem dX5_bestExchange_39 : decode cX5_bestExchange 39 = .ok (.bipush 12, 2) := by decide +kernel
theorem dX5_bestExchange_41 : decode cX5_bestExchange 41 = .ok (.irem, 1) := by decide +kernel
theorem dX5_bestExchange_42 : decode cX5_bestExchange 42 = .ok (.istore 6, 2) := by decide +kernel
theorem dX5_bestExchange_44 : decode cX5_bestExchange 44 = .ok (.iload 5, 2) := by decide +kernel
theorem dX5_bestExchange_46 : decode cX5_bestExchange 46 = .ok (.iload 6, 2) := by decide +kernel
theorem dX5_bestExchange_48 : decode cX5_bestExchange 48 = .ok (.if_icmp .ge 126, 3) := by decide +kernel
theorem dX5_bestExchange_51 : decode cX5_bestExchange 51 = .ok (.iload 6, 2) := by decide +kernel
theorem dX5_bestExchange_53 : decode cX5_bestExchange 53 = .ok (.aload_n 0, 1) := by decide +kernel
theorem dX5_bestExchange_54 : decode cX5_bestExchange 54 = .ok (.getfield 7, 3) := by decide +kernel
theorem dX5_bestExchange_57 : decode cX5_bestExchange 57 = .ok (.iconst 4, 1) := by decide +kernel
theorem dX5_bestExchange_58 : decode cX5_bestExchange 58 = .ok (.iaload, 1) := by decide +kernel
theorem dX5_bestExchange_59 : decode cX5_bestExchange 59 = .ok (.if_icmp .ge 115, 3) := by decide +kernel
theorem dX5_bestExchange_62 : decode cX5_bestExchange 62 = .ok (.aload_n 0, 1) := by decide +kernel
theorem dX5_bestExchange_63 : decode cX5_bestExchange 63 = .ok (.getfield 7, 3) := by decide +kernel
theorem dX5_bestExchange_66 : decode cX5_bestExchange 66 = .ok (.iconst 0, 1) := by decide +kernel
theorem dX5_bestExchange_67 : decode cX5_bestExchange 67 = .ok (.aload_n 0, 1) := by decide +kernel
theorem dX5_bestExchange_68 : decode cX5_bestExchange 68 = .ok (.getfield 13, 3) := by decide +kernel
theorem dX5_bestExchange_71 : decode cX5_bestExchange 71 = .ok (.iconst 0, 1) := by decide +kernel
theorem dX5_bestExchange_72 : decode cX5_bestExchange 72 = .ok (.invokestatic 39, 3) := by decide +kernel
theorem dX5_bestExchange_75 : decode cX5_bestExchange 75 = .ok (.aload_n 0, 1) := by decide +kernel
theorem dX5_bestExchange_76 : decode cX5_bestExchange 76 = .ok (.getfield 13, 3) := by decide +kernel
theorem dX5_bestExchange_79 : decode cX5_bestExchange 79 = .ok (.iload 5, 2) := by decide +kernel
theorem dX5_bestExchange_81 : decode cX5_bestExchange 81 = .ok (.iload 6, 2) := by decide +kernel
theorem dX5_bestExchange_83 : decode cX5_bestExchange 83 = .ok (.invokestatic 83, 3) := by decide +kernel
theorem dX5_bestExchange_86 : decode cX5_bestExchange 86 = .ok (.aload_n 0, 1) := by decide +kernel
theorem dX5_bestExchange_87 : decode cX5_bestExchange 87 = .ok (.getfield 13, 3) := by decide +kernel
theorem dX5_bestExchange_90 : decode cX5_bestExchange 90 = .ok (.invokestatic 76, 3) := by decide +kernel
theorem dX5_bestExchange_93 : decode cX5_bestExchange 93 = .ok (.istore 7, 2) := by decide +kernel
theorem dX5_bestExchange_95 : decode cX5_bestExchange 95 = .ok (.iload 7, 2) := by decide +kernel
theorem dX5_bestExchange_97 : decode cX5_bestExchange 97 = .ok (.iload_n 2, 1) := by decide +kernel
theorem dX5_bestExchange_98 : decode cX5_bestExchange 98 = .ok (.if_icmp .lt 21, 3) := by decide +kernel
theorem dX5_bestExchange_101 : decode cX5_bestExchange 101 = .ok (.iload 7, 2) := by decide +kernel
theorem dX5_bestExchange_103 : decode cX5_bestExchange 103 = .ok (.iload_n 2, 1) := by decide +kernel
theorem dX5_bestExchange_104 : decode cX5_bestExchange 104 = .ok (.if_icmp .ne 19, 3) := by decide +kernel
theorem dX5_bestExchange_107 : decode cX5_bestExchange 107 = .ok (.aload_n 0, 1) := by decide +kernel
theorem dX5_bestExchange_108 : decode cX5_bestExchange 108 = .ok (.aload_n 0, 1) := by decide +kernel
theorem dX5_bestExchange_109 : decode cX5_bestExchange 109 = .ok (.getfield 13, 3) := by decide +kernel
theorem dX5_bestExchange_112 : decode cX5_bestExchange 112 = .ok (.invokevirtual 80, 3) := by decide +kernel
theorem dX5_bestExchange_115 : decode cX5_bestExchange 115 = .ok (.iload_n 3, 1) := by decide +kernel
theorem dX5_bestExchange_116 : decode cX5_bestExchange 116 = .ok (.if_icmp .ge 7, 3) := by decide +kernel
theorem dX5_bestExchange_119 : decode cX5_bestExchange 119 = .ok (.iconst 1, 1) := by decide +kernel
theorem dX5_bestExchange_120 : decode cX5_bestExchange 120 = .ok (.goto 4, 3) := by decide +kernel
theorem dX5_bestExchange_123 : decode cX5_bestExchange 123 = .ok (.iconst 0, 1) := by decide +kernel
theorem dX5_bestExchange_124 : decode cX5_bestExchange 124 = .ok (.istore 8, 2) := by decide +kernel
theorem dX5_bestExchange_126 : decode cX5_bestExchange 126 = .ok (.iload 8, 2) := by decide +kernel
theorem dX5_bestExchange_128 : decode cX5_bestExchange 128 = .ok (.ifCond .eq 14, 3) := by decide +kernel
theorem dX5_bestExchange_131 : decode cX5_bestExchange 131 = .ok (.bipush 16, 2) := by decide +kernel
theorem dX5_bestExchange_133 : decode cX5_bestExchange 133 = .ok (.iload 5, 2) := by decide +kernel
theorem dX5_bestExchange_135 : decode cX5_bestExchange 135 = .ok (.imul, 1) := by decide +kernel
theorem dX5_bestExchange_136 : decode cX5_bestExchange 136 = .ok (.iload 6, 2) := by decide +kernel
theorem dX5_bestExchange_138 : decode cX5_bestExchange 138 = .ok (.iadd, 1) := by decide +kernel
theorem dX5_bestExchange_139 : decode cX5_bestExchange 139 = .ok (.goto 4, 3) := by decide +kernel
theorem dX5_bestExchange_142 : decode cX5_bestExchange 142 = .ok (.iload_n 1, 1) := by decide +kernel
theorem dX5_bestExchange_143 : decode cX5_bestExchange 143 = .ok (.istore_n 1, 1) := by decide +kernel
theorem dX5_bestExchange_144 : decode cX5_bestExchange 144 = .ok (.iload 8, 2) := by decide +kernel
theorem dX5_bestExchange_146 : decode cX5_bestExchange 146 = .ok (.ifCond .eq 14, 3) := by decide +kernel
theorem dX5_bestExchange_149 : decode cX5_bestExchange 149 = .ok (.aload_n 0, 1) := by decide +kernel
theorem dX5_bestExchange_150 : decode cX5_bestExchange 150 = .ok (.aload_n 0, 1) := by decide +kernel
theorem dX5_bestExchange_151 : decode cX5_bestExchange 151 = .ok (.getfield 13, 3) := by decide +kernel
theorem dX5_bestExchange_154 : decode cX5_bestExchange 154 = .ok (.invokevirtual 80, 3) := by decide +kernel
theorem dX5_bestExchange_157 : decode cX5_bestExchange 157 = .ok (.goto 4, 3) := by decide +kernel
theorem dX5_bestExchange_160 : decode cX5_bestExchange 160 = .ok (.iload_n 3, 1) := by decide +kernel
theorem dX5_bestExchange_161 : decode cX5_bestExchange 161 = .ok (.istore_n 3, 1) := by decide +kernel
theorem dX5_bestExchange_162 : decode cX5_bestExchange 162 = .ok (.iload 8, 2) := by decide +kernel
theorem dX5_bestExchange_164 : decode cX5_bestExchange 164 = .ok (.ifCond .eq 8, 3) := by decide +kernel
theorem dX5_bestExchange_167 : decode cX5_bestExchange 167 = .ok (.iload 7, 2) := by decide +kernel
theorem dX5_bestExchange_169 : decode cX5_bestExchange 169 = .ok (.goto 4, 3) := by decide +kernel
theorem dX5_bestExchange_172 : decode cX5_bestExchange 172 = .ok (.iload_n 2, 1) := by decide +kernel
theorem dX5_bestExchange_173 : decode cX5_bestExchange 173 = .ok (.istore_n 2, 1) := by decide +kernel
theorem dX5_bestExchange_174 : decode cX5_bestExchange 174 = .ok (.iinc 4 1, 3) := by decide +kernel
theorem dX5_bestExchange_177 : decode cX5_bestExchange 177 = .ok (.goto (-155), 3) := by decide +kernel
theorem dX5_bestExchange_180 : decode cX5_bestExchange 180 = .ok (.iload_n 1, 1) := by decide +kernel
theorem dX5_bestExchange_181 : decode cX5_bestExchange 181 = .ok (.ireturn, 1) := by decide +kernel
set_option maxRecDepth 20000 in
theorem ggX5_isKind_X5_in : GoodIn wsX5_isKind wsX5_in := goodIn_r _ [4] (by decide +kernel) (by decide +kernel)
set_option maxRecDepth 20000 in
theorem gX5_isKind_X5_in : GoodIn wsX5_isKind (va_wsS RX5 32 yX5_in wsX5_in) := goodIn_app (goodIn_of _ (by decide +kernel)) ggX5_isKind_X5_in
theorem dX5_isKind_0 : decode cX5_isKind 0 = .ok (.iload_n 0, 1) := by decide +kernel
theorem dX5_isKind_1 : decode cX5_isKind 1 = .ok (.iconst 0, 1) := by decide +kernel
theorem dX5_isKind_2 : decode cX5_isKind 2 = .ok (.iconst 3, 1) := by decide +kernel
theorem dX5_isKind_3 : decode cX5_isKind 3 = .ok (.invokestatic 32, 3) := by decide +kernel
theorem dX5_isKind_6 : decode cX5_isKind 6 = .ok (.ifCond .eq 37, 3) := by decide +kernel
theorem dX5_isKind_9 : decode cX5_isKind 9 = .ok (.iload_n 1, 1) := by decide +kernel
theorem dX5_isKind_10 : decode cX5_isKind 10 = .ok (.bipush 10, 2) := by decide +kernel
theorem dX5_isKind_12 : decode cX5_isKind 12 = .ok (.bipush 99, 2) := by decide +kernel
theorem dX5_isKind_14 : decode cX5_isKind 14 = .ok (.invokestatic 32, 3) := by decide +kernel
theorem dX5_isKind_17 : decode cX5_isKind 17 = .ok (.ifCond .eq 26, 3) := by decide +kernel
theorem dX5_isKind_20 : decode cX5_isKind 20 = .ok (.iload_n 2, 1) := by decide +kernel
theorem dX5_isKind_21 : decode cX5_isKind 21 = .ok (.iconst 0, 1) := by decide +kernel
theorem dX5_isKind_22 : decode cX5_isKind 22 = .ok (.iload_n 0, 1) := by decide +kernel
theorem dX5_isKind_23 : decode cX5_isKind 23 = .ok (.iconst 1, 1) := by decide +kernel
theorem dX5_isKind_24 : decode cX5_isKind 24 = .ok (.if_icmp .ne 8, 3) := by decide +kernel
theorem dX5_isKind_27 : decode cX5_isKind 27 = .ok (.bipush 15, 2) := by decide +kernel
theorem dX5_isKind_29 : decode cX5_isKind 29 = .ok (.goto 4, 3) := by decide +kernel
theorem dX5_isKind_32 : decode cX5_isKind 32 = .ok (.iconst 0, 1) := by decide +kernel
theorem dX5_isKind_33 : decode cX5_isKind 33 = .ok (.invokestatic 32, 3) := by decide +kernel
theorem dX5_isKind_36 : decode cX5_isKind 36 = .ok (.ifCond .eq 7, 3) := by decide +kernel
theorem dX5_isKind_39 : decode cX5_isKind 39 = .ok (.iconst 1, 1) := by decide +kernel
theorem dX5_isKind_40 : decode cX5_isKind 40 = .ok (.goto 4, 3) := by decide +kernel
theorem dX5_isKind_43 : decode cX5_isKind 43 = .ok (.iconst 0, 1) := by decide +kernel
theorem dX5_isKind_44 : decode cX5_isKind 44 = .ok (.ireturn, 1) := by decide +kernel
set_option maxRecDepth 20000 in
theorem ggX5_put_X5_in : GoodIn wsX5_put wsX5_in := goodIn_r _ [6] (by decide +kernel) (by decide +kernel)
set_option maxRecDepth 20000 in
theorem gX5_put_X5_in : GoodIn wsX5_put (va_wsS RX5 32 yX5_in wsX5_in) := goodIn_app (goodIn_of _ (by decide +kernel)) ggX5_put_X5_in
set_option maxRecDepth 20000 in
theorem ggX5_put_X5_fails : GoodIn wsX5_put wsX5_fails := goodIn_r _ [10, 1, 26, 27, 28, 29, 30, 31, 32, 33, 34, 35, 36, 37] (by decide +kernel) (by decide +kernel)
set_option maxRecDepth 20000 in
theorem gX5_put_X5_fails : GoodIn wsX5_put (wsV RX5 43 RX5 yX5_fails wsX5_fails) := goodIn_app (goodIn_of _ (by decide +kernel)) ggX5_put_X5_fails
set_option maxRecDepth 20000 in
theorem ggX5_put_X5_isKind : GoodIn wsX5_put wsX5_isKind := goodIn_r _ [13, 3, 4, 5, 6] (by decide +kernel) (by decide +kernel)
set_option maxRecDepth 20000 in
theorem gX5_put_X5_isKind : GoodIn wsX5_put (va_wsS RX5 87 yX5_isKind wsX5_isKind) := goodIn_app (goodIn_of _ (by decide +kernel)) ggX5_put_X5_isKind
set_option maxRecDepth 20000 in
theorem ggX5_put_X5_saves : GoodIn wsX5_put wsX5_saves := goodIn_r _ [17, 18, 19, 2, 20, 21, 5, 22, 26, 27, 28, 29, 30, 31, 32, 33, 34, 35, 36, 37] (by decide +kernel) (by decide +kernel)
set_option maxRecDepth 20000 in
theorem gX5_put_X5_saves : GoodIn wsX5_put (wsV RX5 90 RX5 yX5_saves wsX5_saves) := goodIn_app (goodIn_of _ (by decide +kernel)) ggX5_put_X5_saves
set_option maxRecDepth 20000 in
theorem ggX5_put_X5_puts : GoodIn wsX5_put wsX5_puts := goodIn_r _ [25] (by decide +kernel) (by decide +kernel)
set_option maxRecDepth 20000 in
theorem gX5_put_X5_puts : GoodIn wsX5_put (va_wsS RX5 72 yX5_puts wsX5_puts) := goodIn_app (goodIn_of _ (by decide +kernel)) ggX5_put_X5_puts
theorem dX5_put_0 : decode cX5_put 0 = .ok (.aload_n 0, 1) := by decide +kernel
theorem dX5_put_1 : decode cX5_put 1 = .ok (.iconst 0, 1) := by decide +kernel
theorem dX5_put_2 : decode cX5_put 2 = .ok (.putfield 28, 3) := by decide +kernel
theorem dX5_put_5 : decode cX5_put 5 = .ok (.iload_n 1, 1) := by decide +kernel
theorem dX5_put_6 : decode cX5_put 6 = .ok (.iconst 0, 1) := by decide +kernel
theorem dX5_put_7 : decode cX5_put 7 = .ok (.aload_n 0, 1) := by decide +kernel
theorem dX5_put_8 : decode cX5_put 8 = .ok (.getfield 7, 3) := by decide +kernel
theorem dX5_put_11 : decode cX5_put 11 = .ok (.iconst 4, 1) := by decide +kernel
theorem dX5_put_12 : decode cX5_put 12 = .ok (.iaload, 1) := by decide +kernel
theorem dX5_put_13 : decode cX5_put 13 = .ok (.invokestatic 32, 3) := by decide +kernel
theorem dX5_put_16 : decode cX5_put 16 = .ok (.ifCond .ne 9, 3) := by decide +kernel
theorem dX5_put_19 : decode cX5_put 19 = .ok (.aload_n 0, 1) := by decide +kernel
theorem dX5_put_20 : decode cX5_put 20 = .ok (.iconst 1, 1) := by decide +kernel
theorem dX5_put_21 : decode cX5_put 21 = .ok (.invokevirtual 43, 3) := by decide +kernel
theorem dX5_put_24 : decode cX5_put 24 = .ok (.ireturn, 1) := by decide +kernel
theorem dX5_put_25 : decode cX5_put 25 = .ok (.iload_n 2, 1) := by decide +kernel
theorem dX5_put_26 : decode cX5_put 26 = .ok (.iload_n 3, 1) := by decide +kernel
theorem dX5_put_27 : decode cX5_put 27 = .ok (.iload 4, 2) := by decide +kernel
theorem dX5_put_29 : decode cX5_put 29 = .ok (.invokestatic 87, 3) := by decide +kernel
theorem dX5_put_32 : decode cX5_put 32 = .ok (.ifCond .ne 9, 3) := by decide +kernel
theorem dX5_put_35 : decode cX5_put 35 = .ok (.aload_n 0, 1) := by decide +kernel
theorem dX5_put_36 : decode cX5_put 36 = .ok (.iconst 2, 1) := by decide +kernel
theorem dX5_put_37 : decode cX5_put 37 = .ok (.invokevirtual 43, 3) := by decide +kernel
theorem dX5_put_40 : decode cX5_put 40 = .ok (.ireturn, 1) := by decide +kernel
theorem dX5_put_41 : decode cX5_put 41 = .ok (.aload_n 0, 1) := by decide +kernel
theorem dX5_put_42 : decode cX5_put 42 = .ok (.getfield 7, 3) := by decide +kernel
theorem dX5_put_45 : decode cX5_put 45 = .ok (.iconst 4, 1) := by decide +kernel
theorem dX5_put_46 : decode cX5_put 46 = .ok (.iaload, 1) := by decide +kernel
theorem dX5_put_47 : decode cX5_put 47 = .ok (.bipush 12, 2) := by decide +kernel
theorem dX5_put_49 : decode cX5_put 49 = .ok (.if_icmp .ne 9, 3) := by decide +kernel
theorem dX5_put_52 : decode cX5_put 52 = .ok (.aload_n 0, 1) := by decide +kernel
theorem dX5_put_53 : decode cX5_put 53 = .ok (.iconst 3, 1) := by decide +kernel
theorem dX5_put_54 : decode cX5_put 54 = .ok (.invokevirtual 43, 3) := by decide +kernel
theorem dX5_put_57 : decode cX5_put 57 = .ok (.ireturn, 1) := by decide +kernel
theorem dX5_put_58 : decode cX5_put 58 = .ok (.aload_n 0, 1) := by decide +kernel
theorem dX5_put_59 : decode cX5_put 59 = .ok (.invokevirtual 90, 3) := by decide +kernel
theorem dX5_put_62 : decode cX5_put 62 = .ok (.aload_n 0, 1) := by decide +kernel
theorem dX5_put_63 : decode cX5_put 63 = .ok (.getfield 7, 3) := by decide +kernel
theorem dX5_put_66 : decode cX5_put 66 = .ok (.iload_n 1, 1) := by decide +kernel
theorem dX5_put_67 : decode cX5_put 67 = .ok (.iload_n 2, 1) := by decide +kernel
theorem dX5_put_68 : decode cX5_put 68 = .ok (.iload_n 3, 1) := by decide +kernel
theorem dX5_put_69 : decode cX5_put 69 = .ok (.iload 4, 2) := by decide +kernel
theorem dX5_put_71 : decode cX5_put 71 = .ok (.iconst 0, 1) := by decide +kernel
theorem dX5_put_72 : decode cX5_put 72 = .ok (.invokestatic 72, 3) := by decide +kernel
theorem dX5_put_75 : decode cX5_put 75 = .ok (.aload_n 0, 1) := by decide +kernel
theorem dX5_put_76 : decode cX5_put 76 = .ok (.getfield 7, 3) := by decide +kernel
theorem dX5_put_79 : decode cX5_put 79 = .ok (.iconst 4, 1) := by decide +kernel
theorem dX5_put_80 : decode cX5_put 80 = .ok (.iaload, 1) := by decide +kernel
theorem dX5_put_81 : decode cX5_put 81 = .ok (.ireturn, 1) := by decide +kernel
set_option maxRecDepth 20000 in
theorem ggX5_remove_X5_isFloat : GoodIn wsX5_remove wsX5_isFloat := goodIn_r _ [7, 2, 8, 9, 6, 10, 27, 28, 29, 30, 31, 32, 33, 34, 35, 36, 37, 38] (by decide +kernel) (by decide +kernel)
set_option maxRecDepth 20000 in
theorem gX5_remove_X5_isFloat : GoodIn wsX5_remove (wsV RX5 93 RX5 yX5_isFloat wsX5_isFloat) := goodIn_app (goodIn_of _ (by decide +kernel)) ggX5_remove_X5_isFloat
set_option maxRecDepth 20000 in
theorem ggX5_remove_X5_fails : GoodIn wsX5_remove wsX5_fails := goodIn_r _ [14, 1, 27, 28, 29, 30, 31, 32, 33, 34, 35, 36, 37, 38] (by decide +kernel) (by decide +kernel)
set_option maxRecDepth 20000 in
theorem gX5_remove_X5_fails : GoodIn wsX5_remove (wsV RX5 43 RX5 yX5_fails wsX5_fails) := goodIn_app (goodIn_of _ (by decide +kernel)) ggX5_remove_X5_fails
set_option maxRecDepth 20000 in
theorem ggX5_remove_X5_saves : GoodIn wsX5_remove wsX5_saves := goodIn_r _ [18, 19, 20, 2, 21, 22, 6, 23, 27, 28, 29, 30, 31, 32, 33, 34, 35, 36, 37, 38] (by decide +kernel) (by decide +kernel)
set_option maxRecDepth 20000 in
theorem gX5_remove_X5_saves : GoodIn wsX5_remove (wsV RX5 90 RX5 yX5_saves wsX5_saves) := goodIn_app (goodIn_of _ (by decide +kernel)) ggX5_remove_X5_saves
set_option maxRecDepth 20000 in
theorem ggX5_remove_X5_goesOut : GoodIn wsX5_remove wsX5_goesOut := goodIn_r _ [26] (by decide +kernel) (by decide +kernel)
set_option maxRecDepth 20000 in
theorem gX5_remove_X5_goesOut : GoodIn wsX5_remove (va_wsS RX5 68 yX5_goesOut wsX5_goesOut) := goodIn_app (goodIn_of _ (by decide +kernel)) ggX5_remove_X5_goesOut
theorem dX5_remove_0 : decode cX5_remove 0 = .ok (.aload_n 0, 1) := by decide +kernel
theorem dX5_remove_1 : decode cX5_remove 1 = .ok (.iconst 0, 1) := by decide +kernel
theorem dX5_remove_2 : decode cX5_remove 2 = .ok (.putfield 28, 3) := by decide +kernel
theorem dX5_remove_5 : decode cX5_remove 5 = .ok (.aload_n 0, 1) := by decide +kernel
theorem dX5_remove_6 : decode cX5_remove 6 = .ok (.iload_n 1, 1) := by decide +kernel
theorem dX5_remove_7 : decode cX5_remove 7 = .ok (.invokevirtual 93, 3) := by decide +kernel
theorem dX5_remove_10 : decode cX5_remove 10 = .ok (.ifCond .ne 9, 3) := by decide +kernel
theorem dX5_remove_13 : decode cX5_remove 13 = .ok (.aload_n 0, 1) := by decide +kernel
theorem dX5_remove_14 : decode cX5_remove 14 = .ok (.iconst 1, 1) := by decide +kernel
theorem dX5_remove_15 : decode cX5_remove 15 = .ok (.invokevirtual 43, 3) := by decide +kernel
theorem dX5_remove_18 : decode cX5_remove 18 = .ok (.ireturn, 1) := by decide +kernel
theorem dX5_remove_19 : decode cX5_remove 19 = .ok (.aload_n 0, 1) := by decide +kernel
theorem dX5_remove_20 : decode cX5_remove 20 = .ok (.invokevirtual 90, 3) := by decide +kernel
theorem dX5_remove_23 : decode cX5_remove 23 = .ok (.aload_n 0, 1) := by decide +kernel
theorem dX5_remove_24 : decode cX5_remove 24 = .ok (.getfield 7, 3) := by decide +kernel
theorem dX5_remove_27 : decode cX5_remove 27 = .ok (.iload_n 1, 1) := by decide +kernel
theorem dX5_remove_28 : decode cX5_remove 28 = .ok (.invokestatic 68, 3) := by decide +kernel
theorem dX5_remove_31 : decode cX5_remove 31 = .ok (.aload_n 0, 1) := by decide +kernel
theorem dX5_remove_32 : decode cX5_remove 32 = .ok (.getfield 7, 3) := by decide +kernel
theorem dX5_remove_35 : decode cX5_remove 35 = .ok (.iconst 4, 1) := by decide +kernel
theorem dX5_remove_36 : decode cX5_remove 36 = .ok (.iaload, 1) := by decide +kernel
theorem dX5_remove_37 : decode cX5_remove 37 = .ok (.ireturn, 1) := by decide +kernel
set_option maxRecDepth 20000 in
theorem ggX5_move_X5_isFloat : GoodIn wsX5_move wsX5_isFloat := goodIn_r _ [7, 2, 8, 9, 6, 10, 45, 46, 47, 48, 49, 50, 51, 52, 53, 54, 55, 56] (by decide +kernel) (by decide +kernel)
set_option maxRecDepth 20000 in
theorem gX5_move_X5_isFloat : GoodIn wsX5_move (wsV RX5 93 RX5 yX5_isFloat wsX5_isFloat) := goodIn_app (goodIn_of _ (by decide +kernel)) ggX5_move_X5_isFloat
set_option maxRecDepth 20000 in
theorem ggX5_move_X5_fails : GoodIn wsX5_move wsX5_fails := goodIn_r _ [14, 1, 45, 46, 47, 48, 49, 50, 51, 52, 53, 54, 55, 56] (by decide +kernel) (by decide +kernel)
set_option maxRecDepth 20000 in
theorem gX5_move_X5_fails : GoodIn wsX5_move (wsV RX5 43 RX5 yX5_fails wsX5_fails) := goodIn_app (goodIn_of _ (by decide +kernel)) ggX5_move_X5_fails
set_option maxRecDepth 20000 in
theorem ggX5_move_X5_saves : GoodIn wsX5_move wsX5_saves := goodIn_r _ [18, 19, 20, 2, 21, 22, 6, 23, 45, 46, 47, 48, 49, 50, 51, 52, 53, 54, 55, 56] (by decide +kernel) (by decide +kernel)
set_option maxRecDepth 20000 in
theorem gX5_move_X5_saves : GoodIn wsX5_move (wsV RX5 90 RX5 yX5_saves wsX5_saves) := goodIn_app (goodIn_of _ (by decide +kernel)) ggX5_move_X5_saves
set_option maxRecDepth 20000 in
theorem ggX5_move_X5_moves : GoodIn wsX5_move wsX5_moves := goodIn_r _ [26, 27, 28, 6, 29, 30, 31, 32, 33, 34, 35] (by decide +kernel) (by decide +kernel)
set_option maxRecDepth 20000 in
theorem gX5_move_X5_moves : GoodIn wsX5_move (va_wsS RX5 97 yX5_moves wsX5_moves) := goodIn_app (goodIn_of _ (by decide +kernel)) ggX5_move_X5_moves
set_option maxRecDepth 20000 in
theorem ggX5_move_X5_allTrouble : GoodIn wsX5_move wsX5_allTrouble := goodIn_r _ [38, 39, 40, 6, 41, 42, 43, 44, 27, 28, 29] (by decide +kernel) (by decide +kernel)
set_option maxRecDepth 20000 in
theorem gX5_move_X5_allTrouble : GoodIn wsX5_move (va_wsS RX5 76 yX5_allTrouble wsX5_allTrouble) := goodIn_app (goodIn_of _ (by decide +kernel)) ggX5_move_X5_allTrouble
theorem dX5_move_0 : decode cX5_move 0 = .ok (.aload_n 0, 1) := by decide +kernel
theorem dX5_move_1 : decode cX5_move 1 = .ok (.iconst 0, 1) := by decide +kernel
theorem dX5_move_2 : decode cX5_move 2 = .ok (.putfield 28, 3) := by decide +kernel
theorem dX5_move_5 : decode cX5_move 5 = .ok (.aload_n 0, 1) := by decide +kernel
theorem dX5_move_6 : decode cX5_move 6 = .ok (.iload_n 1, 1) := by decide +kernel
theorem dX5_move_7 : decode cX5_move 7 = .ok (.invokevirtual 93, 3) := by decide +kernel
theorem dX5_move_10 : decode cX5_move 10 = .ok (.ifCond .eq 11, 3) := by decide +kernel
theorem dX5_move_13 : decode cX5_move 13 = .ok (.aload_n 0, 1) := by decide +kernel
theorem dX5_move_14 : decode cX5_move 14 = .ok (.iload_n 2, 1) := by decide +kernel
theorem dX5_move_15 : decode cX5_move 15 = .ok (.invokevirtual 93, 3) := by decide +kernel
theorem dX5_move_18 : decode cX5_move 18 = .ok (.ifCond .ne 9, 3) := by decide +kernel
theorem dX5_move_21 : decode cX5_move 21 = .ok (.aload_n 0, 1) := by decide +kernel
theorem dX5_move_22 : decode cX5_move 22 = .ok (.iconst 1, 1) := by decide +kernel
theorem dX5_move_23 : decode cX5_move 23 = .ok (.invokevirtual 43, 3) := by decide +kernel
theorem dX5_move_26 : decode cX5_move 26 = .ok (.ireturn, 1) := by decide +kernel
theorem dX5_move_27 : decode cX5_move 27 = .ok (.aload_n 0, 1) := by decide +kernel
theorem dX5_move_28 : decode cX5_move 28 = .ok (.invokevirtual 90, 3) := by decide +kernel
theorem dX5_move_31 : decode cX5_move 31 = .ok (.aload_n 0, 1) := by decide +kernel
theorem dX5_move_32 : decode cX5_move 32 = .ok (.getfield 7, 3) := by decide +kernel
theorem dX5_move_35 : decode cX5_move 35 = .ok (.iload_n 1, 1) := by decide +kernel
theorem dX5_move_36 : decode cX5_move 36 = .ok (.iload_n 2, 1) := by decide +kernel
theorem dX5_move_37 : decode cX5_move 37 = .ok (.invokestatic 97, 3) := by decide +kernel
theorem dX5_move_40 : decode cX5_move 40 = .ok (.aload_n 0, 1) := by decide +kernel
theorem dX5_move_41 : decode cX5_move 41 = .ok (.getfield 7, 3) := by decide +kernel
theorem dX5_move_44 : decode cX5_move 44 = .ok (.invokestatic 76, 3) := by decide +kernel
theorem dX5_move_47 : decode cX5_move 47 = .ok (.ireturn, 1) := by decide +kernel
set_option maxRecDepth 20000 in
theorem ggX5_exchange_X5_isFloat : GoodIn wsX5_exchange wsX5_isFloat := goodIn_r _ [7, 2, 8, 9, 6, 10, 39, 40, 41, 42, 43, 44, 45, 46, 47, 48, 49, 50] (by decide +kernel) (by decide +kernel)
set_option maxRecDepth 20000 in
theorem gX5_exchange_X5_isFloat : GoodIn wsX5_exchange (wsV RX5 93 RX5 yX5_isFloat wsX5_isFloat) := goodIn_app (goodIn_of _ (by decide +kernel)) ggX5_exchange_X5_isFloat
set_option maxRecDepth 20000 in
theorem ggX5_exchange_X5_fails : GoodIn wsX5_exchange wsX5_fails := goodIn_r _ [14, 1, 39, 40, 41, 42, 43, 44, 45, 46, 47, 48, 49, 50] (by decide +kernel) (by decide +kernel)
set_option maxRecDepth 20000 in
theorem gX5_exchange_X5_fails : GoodIn wsX5_exchange (wsV RX5 43 RX5 yX5_fails wsX5_fails) := goodIn_app (goodIn_of _ (by decide +kernel)) ggX5_exchange_X5_fails
set_option maxRecDepth 20000 in
theorem ggX5_exchange_X5_saves : GoodIn wsX5_exchange wsX5_saves := goodIn_r _ [18, 19, 20, 2, 21, 22, 6, 23, 39, 40, 41, 42, 43, 44, 45, 46, 47, 48, 49, 50] (by decide +kernel) (by decide +kernel)
set_option maxRecDepth 20000 in
theorem gX5_exchange_X5_saves : GoodIn wsX5_exchange (wsV RX5 90 RX5 yX5_saves wsX5_saves) := goodIn_app (goodIn_of _ (by decide +kernel)) ggX5_exchange_X5_saves
set_option maxRecDepth 20000 in
theorem ggX5_exchange_X5_exchanges : GoodIn wsX5_exchange wsX5_exchanges := goodIn_r _ [26, 27, 28, 6, 29] (by decide +kernel) (by decide +kernel)
set_option maxRecDepth 20000 in
theorem gX5_exchange_X5_exchanges : GoodIn wsX5_exchange (va_wsS RX5 83 yX5_exchanges wsX5_exchanges) := goodIn_app (goodIn_of _ (by decide +kernel)) ggX5_exchange_X5_exchanges
set_option maxRecDepth 20000 in
theorem ggX5_exchange_X5_allTrouble : GoodIn wsX5_exchange wsX5_allTrouble := goodIn_r _ [32, 33, 34, 6, 35, 36, 37, 38, 27, 28, 29] (by decide +kernel) (by decide +kernel)
set_option maxRecDepth 20000 in
theorem gX5_exchange_X5_allTrouble : GoodIn wsX5_exchange (va_wsS RX5 76 yX5_allTrouble wsX5_allTrouble) := goodIn_app (goodIn_of _ (by decide +kernel)) ggX5_exchange_X5_allTrouble
theorem dX5_exchange_0 : decode cX5_exchange 0 = .ok (.aload_n 0, 1) := by decide +kernel
theorem dX5_exchange_1 : decode cX5_exchange 1 = .ok (.iconst 0, 1) := by decide +kernel
theorem dX5_exchange_2 : decode cX5_exchange 2 = .ok (.putfield 28, 3) := by decide +kernel
theorem dX5_exchange_5 : decode cX5_exchange 5 = .ok (.aload_n 0, 1) := by decide +kernel
theorem dX5_exchange_6 : decode cX5_exchange 6 = .ok (.iload_n 1, 1) := by decide +kernel
theorem dX5_exchange_7 : decode cX5_exchange 7 = .ok (.invokevirtual 93, 3) := by decide +kernel
theorem dX5_exchange_10 : decode cX5_exchange 10 = .ok (.ifCond .eq 11, 3) := by decide +kernel
theorem dX5_exchange_13 : decode cX5_exchange 13 = .ok (.aload_n 0, 1) := by decide +kernel
theorem dX5_exchange_14 : decode cX5_exchange 14 = .ok (.iload_n 2, 1) := by decide +kernel
theorem dX5_exchange_15 : decode cX5_exchange 15 = .ok (.invokevirtual 93, 3) := by decide +kernel
theorem dX5_exchange_18 : decode cX5_exchange 18 = .ok (.ifCond .ne 9, 3) := by decide +kernel
theorem dX5_exchange_21 : decode cX5_exchange 21 = .ok (.aload_n 0, 1) := by decide +kernel
theorem dX5_exchange_22 : decode cX5_exchange 22 = .ok (.iconst 1, 1) := by decide +kernel
theorem dX5_exchange_23 : decode cX5_exchange 23 = .ok (.invokevirtual 43, 3) := by decide +kernel
theorem dX5_exchange_26 : decode cX5_exchange 26 = .ok (.ireturn, 1) := by decide +kernel
theorem dX5_exchange_27 : decode cX5_exchange 27 = .ok (.aload_n 0, 1) := by decide +kernel
theorem dX5_exchange_28 : decode cX5_exchange 28 = .ok (.invokevirtual 90, 3) := by decide +kernel
theorem dX5_exchange_31 : decode cX5_exchange 31 = .ok (.aload_n 0, 1) := by decide +kernel
theorem dX5_exchange_32 : decode cX5_exchange 32 = .ok (.getfield 7, 3) := by decide +kernel
theorem dX5_exchange_35 : decode cX5_exchange 35 = .ok (.iload_n 1, 1) := by decide +kernel
theorem dX5_exchange_36 : decode cX5_exchange 36 = .ok (.iload_n 2, 1) := by decide +kernel
theorem dX5_exchange_37 : decode cX5_exchange 37 = .ok (.invokestatic 83, 3) := by decide +kernel
theorem dX5_exchange_40 : decode cX5_exchange 40 = .ok (.aload_n 0, 1) := by decide +kernel
theorem dX5_exchange_41 : decode cX5_exchange 41 = .ok (.getfield 7, 3) := by decide +kernel
theorem dX5_exchange_44 : decode cX5_exchange 44 = .ok (.invokestatic 76, 3) := by decide +kernel
theorem dX5_exchange_47 : decode cX5_exchange 47 = .ok (.ireturn, 1) := by decide +kernel
set_option maxRecDepth 20000 in
theorem ggX5_fold_X5_isFloat : GoodIn wsX5_fold wsX5_isFloat := goodIn_r _ [7, 2, 8, 9, 6, 10, 30, 31, 32, 33, 34, 35, 36, 37, 38, 39, 40, 41] (by decide +kernel) (by decide +kernel)
set_option maxRecDepth 20000 in
theorem gX5_fold_X5_isFloat : GoodIn wsX5_fold (wsV RX5 93 RX5 yX5_isFloat wsX5_isFloat) := goodIn_app (goodIn_of _ (by decide +kernel)) ggX5_fold_X5_isFloat
set_option maxRecDepth 20000 in
theorem ggX5_fold_X5_fails : GoodIn wsX5_fold wsX5_fails := goodIn_r _ [14, 1, 30, 31, 32, 33, 34, 35, 36, 37, 38, 39, 40, 41] (by decide +kernel) (by decide +kernel)
set_option maxRecDepth 20000 in
theorem gX5_fold_X5_fails : GoodIn wsX5_fold (wsV RX5 43 RX5 yX5_fails wsX5_fails) := goodIn_app (goodIn_of _ (by decide +kernel)) ggX5_fold_X5_fails
set_option maxRecDepth 20000 in
theorem ggX5_fold_X5_saves : GoodIn wsX5_fold wsX5_saves := goodIn_r _ [18, 19, 20, 2, 21, 22, 6, 23, 30, 31, 32, 33, 34, 35, 36, 37, 38, 39, 40, 41] (by decide +kernel) (by decide +kernel)
set_option maxRecDepth 20000 in
theorem gX5_fold_X5_saves : GoodIn wsX5_fold (wsV RX5 90 RX5 yX5_saves wsX5_saves) := goodIn_app (goodIn_of _ (by decide +kernel)) ggX5_fold_X5_saves
set_option maxRecDepth 20000 in
theorem ggX5_fold_X5_high : GoodIn wsX5_fold wsX5_high := goodIn_r _ [26, 27, 28, 6, 29] (by decide +kernel) (by decide +kernel)
set_option maxRecDepth 20000 in
theorem gX5_fold_X5_high : GoodIn wsX5_fold (va_wsS RX5 58 yX5_high wsX5_high) := goodIn_app (goodIn_of _ (by decide +kernel)) ggX5_fold_X5_high
theorem dX5_fold_0 : decode cX5_fold 0 = .ok (.aload_n 0, 1) := by decide +kernel
theorem dX5_fold_1 : decode cX5_fold 1 = .ok (.iconst 0, 1) := by decide +kernel
theorem dX5_fold_2 : decode cX5_fold 2 = .ok (.putfield 28, 3) := by decide +kernel
theorem dX5_fold_5 : decode cX5_fold 5 = .ok (.aload_n 0, 1) := by decide +kernel
theorem dX5_fold_6 : decode cX5_fold 6 = .ok (.iload_n 1, 1) := by decide +kernel
theorem dX5_fold_7 : decode cX5_fold 7 = .ok (.invokevirtual 93, 3) := by decide +kernel
theorem dX5_fold_10 : decode cX5_fold 10 = .ok (.ifCond .ne 9, 3) := by decide +kernel
theorem dX5_fold_13 : decode cX5_fold 13 = .ok (.aload_n 0, 1) := by decide +kernel
theorem dX5_fold_14 : decode cX5_fold 14 = .ok (.iconst 1, 1) := by decide +kernel
theorem dX5_fold_15 : decode cX5_fold 15 = .ok (.invokevirtual 43, 3) := by decide +kernel
theorem dX5_fold_18 : decode cX5_fold 18 = .ok (.ireturn, 1) := by decide +kernel
theorem dX5_fold_19 : decode cX5_fold 19 = .ok (.aload_n 0, 1) := by decide +kernel
theorem dX5_fold_20 : decode cX5_fold 20 = .ok (.invokevirtual 90, 3) := by decide +kernel
theorem dX5_fold_23 : decode cX5_fold 23 = .ok (.aload_n 0, 1) := by decide +kernel
theorem dX5_fold_24 : decode cX5_fold 24 = .ok (.getfield 7, 3) := by decide +kernel
theorem dX5_fold_27 : decode cX5_fold 27 = .ok (.bipush 14, 2) := by decide +kernel
theorem dX5_fold_29 : decode cX5_fold 29 = .ok (.iconst 4, 1) := by decide +kernel
theorem dX5_fold_30 : decode cX5_fold 30 = .ok (.iload_n 1, 1) := by decide +kernel
theorem dX5_fold_31 : decode cX5_fold 31 = .ok (.imul, 1) := by decide +kernel
theorem dX5_fold_32 : decode cX5_fold 32 = .ok (.iadd, 1) := by decide +kernel
theorem dX5_fold_33 : decode cX5_fold 33 = .ok (.iconst 3, 1) := by decide +kernel
theorem dX5_fold_34 : decode cX5_fold 34 = .ok (.iadd, 1) := by decide +kernel
theorem dX5_fold_35 : decode cX5_fold 35 = .ok (.iload_n 2, 1) := by decide +kernel
theorem dX5_fold_36 : decode cX5_fold 36 = .ok (.ifCond .eq 7, 3) := by decide +kernel
theorem dX5_fold_39 : decode cX5_fold 39 = .ok (.iconst 1, 1) := by decide +kernel
theorem dX5_fold_40 : decode cX5_fold 40 = .ok (.goto 4, 3) := by decide +kernel
theorem dX5_fold_43 : decode cX5_fold 43 = .ok (.iconst 0, 1) := by decide +kernel
theorem dX5_fold_44 : decode cX5_fold 44 = .ok (.iastore, 1) := by decide +kernel
theorem dX5_fold_45 : decode cX5_fold 45 = .ok (.aload_n 0, 1) := by decide +kernel
theorem dX5_fold_46 : decode cX5_fold 46 = .ok (.getfield 7, 3) := by decide +kernel
theorem dX5_fold_49 : decode cX5_fold 49 = .ok (.iload_n 1, 1) := by decide +kernel
theorem dX5_fold_50 : decode cX5_fold 50 = .ok (.invokestatic 58, 3) := by decide +kernel
theorem dX5_fold_53 : decode cX5_fold 53 = .ok (.ireturn, 1) := by decide +kernel
set_option maxRecDepth 20000 in
theorem ggX5_arrange_X5_saves : GoodIn wsX5_arrange wsX5_saves := goodIn_r _ [7, 8, 9, 2, 10, 11, 6, 12, 48, 49, 50, 51, 52, 53, 54, 55, 56, 57, 58, 59] (by decide +kernel) (by decide +kernel)
set_option maxRecDepth 20000 in
theorem gX5_arrange_X5_saves : GoodIn wsX5_arrange (wsV RX5 90 RX5 yX5_saves wsX5_saves) := goodIn_app (goodIn_of _ (by decide +kernel)) ggX5_arrange_X5_saves
set_option maxRecDepth 20000 in
theorem ggX5_arrange_X5_bestExchange : GoodIn wsX5_arrange wsX5_bestExchange := goodIn_r _ [16, 2, 17, 18, 19, 6, 20, 21, 22, 23, 24, 25, 26, 27, 28, 29, 30, 31, 32, 33, 34, 35, 36, 37, 38, 39, 40, 41, 42, 43, 44, 10, 11, 12, 45, 46, 47, 48, 49, 50, 51, 52, 53, 54, 55, 56, 57, 58, 59] (by decide +kernel) (by decide +kernel)
set_option maxRecDepth 20000 in
theorem gX5_arrange_X5_bestExchange : GoodIn wsX5_arrange (wsV RX5 100 RX5 yX5_bestExchange wsX5_bestExchange) := goodIn_app (goodIn_of _ (by decide +kernel)) ggX5_arrange_X5_bestExchange
set_option maxRecDepth 20000 in
theorem ggX5_arrange_X5_exchanges : GoodIn wsX5_arrange wsX5_exchanges := goodIn_r _ [47, 27, 28, 6, 29] (by decide +kernel) (by decide +kernel)
set_option maxRecDepth 20000 in
theorem gX5_arrange_X5_exchanges : GoodIn wsX5_arrange (va_wsS RX5 83 yX5_exchanges wsX5_exchanges) := goodIn_app (goodIn_of _ (by decide +kernel)) ggX5_arrange_X5_exchanges
theorem dX5_arrange_0 : decode cX5_arrange 0 = .ok (.aload_n 0, 1) := by decide +kernel
theorem dX5_arrange_1 : decode cX5_arrange 1 = .ok (.iconst 0, 1) := by decide +kernel
theorem dX5_arrange_2 : decode cX5_arrange 2 = .ok (.putfield 28, 3) := by decide +kernel
theorem dX5_arrange_5 : decode cX5_arrange 5 = .ok (.aload_n 0, 1) := by decide +kernel
theorem dX5_arrange_6 : decode cX5_arrange 6 = .ok (.invokevirtual 90, 3) := by decide +kernel
theorem dX5_arrange_9 : decode cX5_arrange 9 = .ok (.iconst 0, 1) := by decide +kernel
theorem dX5_arrange_10 : decode cX5_arrange 10 = .ok (.istore_n 1, 1) := by decide +kernel
theorem dX5_arrange_11 : decode cX5_arrange 11 = .ok (.aload_n 0, 1) := by decide +kernel
theorem dX5_arrange_12 : decode cX5_arrange 12 = .ok (.invokevirtual 100, 3) := by decide +kernel
theorem dX5_arrange_15 : decode cX5_arrange 15 = .ok (.istore_n 2, 1) := by decide +kernel
theorem dX5_arrange_16 : decode cX5_arrange 16 = .ok (.iload_n 2, 1) := by decide +kernel
theorem dX5_arrange_17 : decode cX5_arrange 17 = .ok (.iconst (-1), 1) := by decide +kernel
theorem dX5_arrange_18 : decode cX5_arrange 18 = .ok (.if_icmp .eq 29, 3) := by decide +kernel
theorem dX5_arrange_21 : decode cX5_arrange 21 = .ok (.aload_n 0, 1) := by decide +kernel
theorem dX5_arrange_22 : decode cX5_arrange 22 = .ok (.getfield 7, 3) := by decide +kernel
theorem dX5_arrange_25 : decode cX5_arrange 25 = .ok (.iload_n 2, 1) := by decide +kernel
theorem dX5_arrange_26 : decode cX5_arrange 26 = .ok (.bipush 16, 2) := by decide +kernel
theorem dX5_arrange_28 : decode cX5_arrange 28 = .ok (.idiv, 1) := by decide +kernel
theorem dX5_arrange_29 : decode cX5_arrange 29 = .ok (.iload_n 2, 1) := by decide +kernel
theorem dX5_arrange_30 : decode cX5_arrange 30 = .ok (.bipush 16, 2) := by decide +kernel
theorem dX5_arrange_32 : decode cX5_arrange 32 = .ok (.irem, 1) := by decide +kernel
theorem dX5_arrange_33 : decode cX5_arrange 33 = .ok (.invokestatic 83, 3) := by decide +kernel
theorem dX5_arrange_36 : decode cX5_arrange 36 = .ok (.iinc 1 1, 3) := by decide +kernel
theorem dX5_arrange_39 : decode cX5_arrange 39 = .ok (.aload_n 0, 1) := by decide +kernel
theorem dX5_arrange_40 : decode cX5_arrange 40 = .ok (.invokevirtual 100, 3) := by decide +kernel
theorem dX5_arrange_43 : decode cX5_arrange 43 = .ok (.istore_n 2, 1) := by decide +kernel
theorem dX5_arrange_44 : decode cX5_arrange 44 = .ok (.goto (-28), 3) := by decide +kernel
theorem dX5_arrange_47 : decode cX5_arrange 47 = .ok (.iload_n 1, 1) := by decide +kernel
theorem dX5_arrange_48 : decode cX5_arrange 48 = .ok (.ireturn, 1) := by decide +kernel
theorem dX5_isBridged_0 : decode cX5_isBridged 0 = .ok (.iconst 0, 1) := by decide +kernel
theorem dX5_isBridged_1 : decode cX5_isBridged 1 = .ok (.istore_n 2, 1) := by decide +kernel
theorem dX5_isBridged_2 : decode cX5_isBridged 2 = .ok (.iconst 0, 1) := by decide +kernel
theorem dX5_isBridged_3 : decode cX5_isBridged 3 = .ok (.istore_n 3, 1) := by decide +kernel
theorem dX5_isBridged_4 : decode cX5_isBridged 4 = .ok (.iload_n 3, 1) := by decide +kernel
theorem dX5_isBridged_5 : decode cX5_isBridged 5 = .ok (.aload_n 0, 1) := by decide +kernel
theorem dX5_isBridged_6 : decode cX5_isBridged 6 = .ok (.getfield 7, 3) := by decide +kernel
theorem dX5_isBridged_9 : decode cX5_isBridged 9 = .ok (.iconst 5, 1) := by decide +kernel
theorem dX5_isBridged_10 : decode cX5_isBridged 10 = .ok (.iaload, 1) := by decide +kernel
theorem dX5_isBridged_11 : decode cX5_isBridged 11 = .ok (.if_icmp .ge 34, 3) := by decide +kernel
theorem dX5_isBridged_14 : decode cX5_isBridged 14 = .ok (.iload_n 2, 1) := by decide +kernel
theorem dX5_isBridged_15 : decode cX5_isBridged 15 = .ok (.ifCond .ne 18, 3) := by decide +kernel
theorem dX5_isBridged_18 : decode cX5_isBridged 18 = .ok (.aload_n 0, 1) := by decide +kernel
theorem dX5_isBridged_19 : decode cX5_isBridged 19 = .ok (.getfield 7, 3) := by decide +kernel
theorem dX5_isBridged_22 : decode cX5_isBridged 22 = .ok (.bipush 6, 2) := by decide +kernel
theorem dX5_isBridged_24 : decode cX5_isBridged 24 = .ok (.iconst 2, 1) := by decide +kernel
theorem dX5_isBridged_25 : decode cX5_isBridged 25 = .ok (.iload_n 3, 1) := by decide +kernel
theorem dX5_isBridged_26 : decode cX5_isBridged 26 = .ok (.imul, 1) := by decide +kernel
theorem dX5_isBridged_27 : decode cX5_isBridged 27 = .ok (.iadd, 1) := by decide +kernel
theorem dX5_isBridged_28 : decode cX5_isBridged 28 = .ok (.iaload, 1) := by decide +kernel
theorem dX5_isBridged_29 : decode cX5_isBridged 29 = .ok (.iload_n 1, 1) := by decide +kernel
theorem dX5_isBridged_30 : decode cX5_isBridged 30 = .ok (.if_icmp .ne 7, 3) := by decide +kernel
theorem dX5_isBridged_33 : decode cX5_isBridged 33 = .ok (.iconst 1, 1) := by decide +kernel
theorem dX5_isBridged_34 : decode cX5_isBridged 34 = .ok (.goto 4, 3) := by decide +kernel
theorem dX5_isBridged_37 : decode cX5_isBridged 37 = .ok (.iconst 0, 1) := by decide +kernel
theorem dX5_isBridged_38 : decode cX5_isBridged 38 = .ok (.istore_n 2, 1) := by decide +kernel
theorem dX5_isBridged_39 : decode cX5_isBridged 39 = .ok (.iinc 3 1, 3) := by decide +kernel
theorem dX5_isBridged_42 : decode cX5_isBridged 42 = .ok (.goto (-38), 3) := by decide +kernel
theorem dX5_isBridged_45 : decode cX5_isBridged 45 = .ok (.iload_n 2, 1) := by decide +kernel
theorem dX5_isBridged_46 : decode cX5_isBridged 46 = .ok (.ireturn, 1) := by decide +kernel
set_option maxRecDepth 20000 in
theorem ggX5_bridge_X5_in : GoodIn wsX5_bridge wsX5_in := goodIn_r _ [6] (by decide +kernel) (by decide +kernel)
set_option maxRecDepth 20000 in
theorem gX5_bridge_X5_in : GoodIn wsX5_bridge (va_wsS RX5 32 yX5_in wsX5_in) := goodIn_app (goodIn_of _ (by decide +kernel)) ggX5_bridge_X5_in
set_option maxRecDepth 20000 in
theorem ggX5_bridge_X5_fails : GoodIn wsX5_bridge wsX5_fails := goodIn_r _ [10, 1, 24, 25, 26, 27, 28, 29, 30, 31, 32, 33, 34, 35] (by decide +kernel) (by decide +kernel)
set_option maxRecDepth 20000 in
theorem gX5_bridge_X5_fails : GoodIn wsX5_bridge (wsV RX5 43 RX5 yX5_fails wsX5_fails) := goodIn_app (goodIn_of _ (by decide +kernel)) ggX5_bridge_X5_fails
set_option maxRecDepth 20000 in
theorem ggX5_bridge_X5_isBridged : GoodIn wsX5_bridge wsX5_isBridged := goodIn_r _ [14, 2, 24, 25, 26, 27, 28, 29, 30, 31, 32, 33, 34, 35] (by decide +kernel) (by decide +kernel)
set_option maxRecDepth 20000 in
theorem gX5_bridge_X5_isBridged : GoodIn wsX5_bridge (wsV RX5 104 RX5 yX5_isBridged wsX5_isBridged) := goodIn_app (goodIn_of _ (by decide +kernel)) ggX5_bridge_X5_isBridged
set_option maxRecDepth 20000 in
theorem ggX5_bridge_X5_saves : GoodIn wsX5_bridge wsX5_saves := goodIn_r _ [18, 19, 20, 2, 21, 22, 5, 23, 24, 25, 26, 27, 28, 29, 30, 31, 32, 33, 34, 35] (by decide +kernel) (by decide +kernel)
set_option maxRecDepth 20000 in
theorem gX5_bridge_X5_saves : GoodIn wsX5_bridge (wsV RX5 90 RX5 yX5_saves wsX5_saves) := goodIn_app (goodIn_of _ (by decide +kernel)) ggX5_bridge_X5_saves
theorem dX5_bridge_0 : decode cX5_bridge 0 = .ok (.aload_n 0, 1) := by decide +kernel
theorem dX5_bridge_1 : decode cX5_bridge 1 = .ok (.iconst 0, 1) := by decide +kernel
theorem dX5_bridge_2 : decode cX5_bridge 2 = .ok (.putfield 28, 3) := by decide +kernel
theorem dX5_bridge_5 : decode cX5_bridge 5 = .ok (.iload_n 1, 1) := by decide +kernel
theorem dX5_bridge_6 : decode cX5_bridge 6 = .ok (.iconst 1, 1) := by decide +kernel
theorem dX5_bridge_7 : decode cX5_bridge 7 = .ok (.bipush 50, 2) := by decide +kernel
theorem dX5_bridge_9 : decode cX5_bridge 9 = .ok (.invokestatic 32, 3) := by decide +kernel
theorem dX5_bridge_12 : decode cX5_bridge 12 = .ok (.ifCond .eq 14, 3) := by decide +kernel
theorem dX5_bridge_15 : decode cX5_bridge 15 = .ok (.iload_n 2, 1) := by decide +kernel
theorem dX5_bridge_16 : decode cX5_bridge 16 = .ok (.bipush 10, 2) := by decide +kernel
theorem dX5_bridge_18 : decode cX5_bridge 18 = .ok (.bipush 99, 2) := by decide +kernel
theorem dX5_bridge_20 : decode cX5_bridge 20 = .ok (.invokestatic 32, 3) := by decide +kernel
theorem dX5_bridge_23 : decode cX5_bridge 23 = .ok (.ifCond .ne 9, 3) := by decide +kernel
theorem dX5_bridge_26 : decode cX5_bridge 26 = .ok (.aload_n 0, 1) := by decide +kernel
theorem dX5_bridge_27 : decode cX5_bridge 27 = .ok (.iconst 1, 1) := by decide +kernel
theorem dX5_bridge_28 : decode cX5_bridge 28 = .ok (.invokevirtual 43, 3) := by decide +kernel
theorem dX5_bridge_31 : decode cX5_bridge 31 = .ok (.ireturn, 1) := by decide +kernel
theorem dX5_bridge_32 : decode cX5_bridge 32 = .ok (.aload_n 0, 1) := by decide +kernel
theorem dX5_bridge_33 : decode cX5_bridge 33 = .ok (.getfield 7, 3) := by decide +kernel
theorem dX5_bridge_36 : decode cX5_bridge 36 = .ok (.iconst 5, 1) := by decide +kernel
theorem dX5_bridge_37 : decode cX5_bridge 37 = .ok (.iaload, 1) := by decide +kernel
theorem dX5_bridge_38 : decode cX5_bridge 38 = .ok (.iconst 4, 1) := by decide +kernel
theorem dX5_bridge_39 : decode cX5_bridge 39 = .ok (.if_icmp .eq 11, 3) := by decide +kernel
theorem dX5_bridge_42 : decode cX5_bridge 42 = .ok (.aload_n 0, 1) := by decide +kernel
theorem dX5_bridge_43 : decode cX5_bridge 43 = .ok (.iload_n 1, 1) := by decide +kernel
theorem dX5_bridge_44 : decode cX5_bridge 44 = .ok (.invokevirtual 104, 3) := by decide +kernel
theorem dX5_bridge_47 : decode cX5_bridge 47 = .ok (.ifCond .eq 9, 3) := by decide +kernel
theorem dX5_bridge_50 : decode cX5_bridge 50 = .ok (.aload_n 0, 1) := by decide +kernel
theorem dX5_bridge_51 : decode cX5_bridge 51 = .ok (.iconst 2, 1) := by decide +kernel
theorem dX5_bridge_52 : decode cX5_bridge 52 = .ok (.invokevirtual 43, 3) := by decide +kernel
theorem dX5_bridge_55 : decode cX5_bridge 55 = .ok (.ireturn, 1) := by decide +kernel
theorem dX5_bridge_56 : decode cX5_bridge 56 = .ok (.aload_n 0, 1) := by decide +kernel
theorem dX5_bridge_57 : decode cX5_bridge 57 = .ok (.invokevirtual 90, 3) := by decide +kernel
theorem dX5_bridge_60 : decode cX5_bridge 60 = .ok (.aload_n 0, 1) := by decide +kernel
theorem dX5_bridge_61 : decode cX5_bridge 61 = .ok (.getfield 7, 3) := by decide +kernel
theorem dX5_bridge_64 : decode cX5_bridge 64 = .ok (.iconst 5, 1) := by decide +kernel
theorem dX5_bridge_65 : decode cX5_bridge 65 = .ok (.iaload, 1) := by decide +kernel
theorem dX5_bridge_66 : decode cX5_bridge 66 = .ok (.istore_n 3, 1) := by decide +kernel
theorem dX5_bridge_67 : decode cX5_bridge 67 = .ok (.iload_n 3, 1) := by decide +kernel
theorem dX5_bridge_68 : decode cX5_bridge 68 = .ok (.ifCond .le 76, 3) := by decide +kernel
theorem dX5_bridge_71 : decode cX5_bridge 71 = .ok (.aload_n 0, 1) := by decide +kernel
theorem dX5_bridge_72 : decode cX5_bridge 72 = .ok (.getfield 7, 3) := by decide +kernel
theorem dX5_bridge_75 : decode cX5_bridge 75 = .ok (.bipush 6, 2) := by decide +kernel
theorem dX5_bridge_77 : decode cX5_bridge 77 = .ok (.iconst 2, 1) := by decide +kernel
theorem dX5_bridge_78 : decode cX5_bridge 78 = .ok (.iload_n 3, 1) := by decide +kernel
theorem dX5_bridge_79 : decode cX5_bridge 79 = .ok (.imul, 1) := by decide +kernel
theorem dX5_bridge_80 : decode cX5_bridge 80 = .ok (.iadd, 1) := by decide +kernel
theorem dX5_bridge_81 : decode cX5_bridge 81 = .ok (.iconst 2, 1) := by decide +kernel
theorem dX5_bridge_82 : decode cX5_bridge 82 = .ok (.isub, 1) := by decide +kernel
theorem dX5_bridge_83 : decode cX5_bridge 83 = .ok (.iaload, 1) := by decide +kernel
theorem dX5_bridge_84 : decode cX5_bridge 84 = .ok (.iload_n 1, 1) := by decide +kernel
theorem dX5_bridge_85 : decode cX5_bridge 85 = .ok (.if_icmp .le 59, 3) := by decide +kernel
theorem dX5_bridge_88 : decode cX5_bridge 88 = .ok (.aload_n 0, 1) := by decide +kernel
theorem dX5_bridge_89 : decode cX5_bridge 89 = .ok (.getfield 7, 3) := by decide +kernel
theorem dX5_bridge_92 : decode cX5_bridge 92 = .ok (.bipush 6, 2) := by decide +kernel
theorem dX5_bridge_94 : decode cX5_bridge 94 = .ok (.iconst 2, 1) := by decide +kernel
theorem dX5_bridge_95 : decode cX5_bridge 95 = .ok (.iload_n 3, 1) := by decide +kernel
theorem dX5_bridge_96 : decode cX5_bridge 96 = .ok (.imul, 1) := by decide +kernel
theorem dX5_bridge_97 : decode cX5_bridge 97 = .ok (.iadd, 1) := by decide +kernel
theorem dX5_bridge_98 : decode cX5_bridge 98 = .ok (.aload_n 0, 1) := by decide +kernel
theorem dX5_bridge_99 : decode cX5_bridge 99 = .ok (.getfield 7, 3) := by decide +kernel
theorem dX5_bridge_102 : decode cX5_bridge 102 = .ok (.bipush 6, 2) := by decide +kernel
theorem dX5_bridge_104 : decode cX5_bridge 104 = .ok (.iconst 2, 1) := by decide +kernel
theorem dX5_bridge_105 : decode cX5_bridge 105 = .ok (.iload_n 3, 1) := by decide +kernel
theorem dX5_bridge_106 : decode cX5_bridge 106 = .ok (.imul, 1) := by decide +kernel
theorem dX5_bridge_107 : decode cX5_bridge 107 = .ok (.iadd, 1) := by decide +kernel
theorem dX5_bridge_108 : decode cX5_bridge 108 = .ok (.iconst 2, 1) := by decide +kernel
theorem dX5_bridge_109 : decode cX5_bridge 109 = .ok (.isub, 1) := by decide +kernel
theorem dX5_bridge_110 : decode cX5_bridge 110 = .ok (.iaload, 1) := by decide +kernel
theorem dX5_bridge_111 : decode cX5_bridge 111 = .ok (.iastore, 1) := by decide +kernel
theorem dX5_bridge_112 : decode cX5_bridge 112 = .ok (.aload_n 0, 1) := by decide +kernel
theorem dX5_bridge_113 : decode cX5_bridge 113 = .ok (.getfield 7, 3) := by decide +kernel
theorem dX5_bridge_116 : decode cX5_bridge 116 = .ok (.bipush 6, 2) := by decide +kernel
theorem dX5_bridge_118 : decode cX5_bridge 118 = .ok (.iconst 2, 1) := by decide +kernel
theorem dX5_bridge_119 : decode cX5_bridge 119 = .ok (.iload_n 3, 1) := by decide +kernel
theorem dX5_bridge_120 : decode cX5_bridge 120 = .ok (.imul, 1) := by decide +kernel
theorem dX5_bridge_121 : decode cX5_bridge 121 = .ok (.iadd, 1) := by decide +kernel
theorem dX5_bridge_122 : decode cX5_bridge 122 = .ok (.iconst 1, 1) := by decide +kernel
theorem dX5_bridge_123 : decode cX5_bridge 123 = .ok (.iadd, 1) := by decide +kernel
theorem dX5_bridge_124 : decode cX5_bridge 124 = .ok (.aload_n 0, 1) := by decide +kernel
theorem dX5_bridge_125 : decode cX5_bridge 125 = .ok (.getfield 7, 3) := by decide +kernel
theorem dX5_bridge_128 : decode cX5_bridge 128 = .ok (.bipush 6, 2) := by decide +kernel
theorem dX5_bridge_130 : decode cX5_bridge 130 = .ok (.iconst 2, 1) := by decide +kernel
theorem dX5_bridge_131 : decode cX5_bridge 131 = .ok (.iload_n 3, 1) := by decide +kernel
theorem dX5_bridge_132 : decode cX5_bridge 132 = .ok (.imul, 1) := by decide +kernel
theorem dX5_bridge_133 : decode cX5_bridge 133 = .ok (.iadd, 1) := by decide +kernel
theorem dX5_bridge_134 : decode cX5_bridge 134 = .ok (.iconst 1, 1) := by decide +kernel
theorem dX5_bridge_135 : decode cX5_bridge 135 = .ok (.isub, 1) := by decide +kernel
theorem dX5_bridge_136 : decode cX5_bridge 136 = .ok (.iaload, 1) := by decide +kernel
theorem dX5_bridge_137 : decode cX5_bridge 137 = .ok (.iastore, 1) := by decide +kernel
theorem dX5_bridge_138 : decode cX5_bridge 138 = .ok (.iinc 3 (-1), 3) := by decide +kernel
theorem dX5_bridge_141 : decode cX5_bridge 141 = .ok (.goto (-74), 3) := by decide +kernel
theorem dX5_bridge_144 : decode cX5_bridge 144 = .ok (.aload_n 0, 1) := by decide +kernel
theorem dX5_bridge_145 : decode cX5_bridge 145 = .ok (.getfield 7, 3) := by decide +kernel
theorem dX5_bridge_148 : decode cX5_bridge 148 = .ok (.bipush 6, 2) := by decide +kernel
theorem dX5_bridge_150 : decode cX5_bridge 150 = .ok (.iconst 2, 1) := by decide +kernel
theorem dX5_bridge_151 : decode cX5_bridge 151 = .ok (.iload_n 3, 1) := by decide +kernel
theorem dX5_bridge_152 : decode cX5_bridge 152 = .ok (.imul, 1) := by decide +kernel
theorem dX5_bridge_153 : decode cX5_bridge 153 = .ok (.iadd, 1) := by decide +kernel
theorem dX5_bridge_154 : decode cX5_bridge 154 = .ok (.iload_n 1, 1) := by decide +kernel
theorem dX5_bridge_155 : decode cX5_bridge 155 = .ok (.iastore, 1) := by decide +kernel
theorem dX5_bridge_156 : decode cX5_bridge 156 = .ok (.aload_n 0, 1) := by decide +kernel
theorem dX5_bridge_157 : decode cX5_bridge 157 = .ok (.getfield 7, 3) := by decide +kernel
theorem dX5_bridge_160 : decode cX5_bridge 160 = .ok (.bipush 6, 2) := by decide +kernel
theorem dX5_bridge_162 : decode cX5_bridge 162 = .ok (.iconst 2, 1) := by decide +kernel
theorem dX5_bridge_163 : decode cX5_bridge 163 = .ok (.iload_n 3, 1) := by decide +kernel
theorem dX5_bridge_164 : decode cX5_bridge 164 = .ok (.imul, 1) := by decide +kernel
theorem dX5_bridge_165 : decode cX5_bridge 165 = .ok (.iadd, 1) := by decide +kernel
theorem dX5_bridge_166 : decode cX5_bridge 166 = .ok (.iconst 1, 1) := by decide +kernel
theorem dX5_bridge_167 : decode cX5_bridge 167 = .ok (.iadd, 1) := by decide +kernel
theorem dX5_bridge_168 : decode cX5_bridge 168 = .ok (.iload_n 2, 1) := by decide +kernel
theorem dX5_bridge_169 : decode cX5_bridge 169 = .ok (.iastore, 1) := by decide +kernel
theorem dX5_bridge_170 : decode cX5_bridge 170 = .ok (.aload_n 0, 1) := by decide +kernel
theorem dX5_bridge_171 : decode cX5_bridge 171 = .ok (.getfield 7, 3) := by decide +kernel
theorem dX5_bridge_174 : decode cX5_bridge 174 = .ok (.iconst 5, 1) := by decide +kernel
theorem dX5_bridge_175 : decode cX5_bridge 175 = .ok (.dup2, 1) := by decide +kernel
theorem dX5_bridge_176 : decode cX5_bridge 176 = .ok (.iaload, 1) := by decide +kernel
theorem dX5_bridge_177 : decode cX5_bridge 177 = .ok (.iconst 1, 1) := by decide +kernel
theorem dX5_bridge_178 : decode cX5_bridge 178 = .ok (.iadd, 1) := by decide +kernel
theorem dX5_bridge_179 : decode cX5_bridge 179 = .ok (.iastore, 1) := by decide +kernel
theorem dX5_bridge_180 : decode cX5_bridge 180 = .ok (.iload_n 3, 1) := by decide +kernel
theorem dX5_bridge_181 : decode cX5_bridge 181 = .ok (.ireturn, 1) := by decide +kernel
set_option maxRecDepth 20000 in
theorem ggX5_unbridge_X5_isBridge : GoodIn wsX5_unbridge wsX5_isBridge := goodIn_r _ [7, 2, 8, 9, 6, 10, 24, 25, 26, 27, 28, 29, 30, 31, 32, 33, 34, 35] (by decide +kernel) (by decide +kernel)
set_option maxRecDepth 20000 in
theorem gX5_unbridge_X5_isBridge : GoodIn wsX5_unbridge (wsV RX5 107 RX5 yX5_isBridge wsX5_isBridge) := goodIn_app (goodIn_of _ (by decide +kernel)) ggX5_unbridge_X5_isBridge
set_option maxRecDepth 20000 in
theorem ggX5_unbridge_X5_fails : GoodIn wsX5_unbridge wsX5_fails := goodIn_r _ [14, 1, 24, 25, 26, 27, 28, 29, 30, 31, 32, 33, 34, 35] (by decide +kernel) (by decide +kernel)
set_option maxRecDepth 20000 in
theorem gX5_unbridge_X5_fails : GoodIn wsX5_unbridge (wsV RX5 43 RX5 yX5_fails wsX5_fails) := goodIn_app (goodIn_of _ (by decide +kernel)) ggX5_unbridge_X5_fails
set_option maxRecDepth 20000 in
theorem ggX5_unbridge_X5_saves : GoodIn wsX5_unbridge wsX5_saves := goodIn_r _ [18, 19, 20, 2, 21, 22, 6, 23, 24, 25, 26, 27, 28, 29, 30, 31, 32, 33, 34, 35] (by decide +kernel) (by decide +kernel)
set_option maxRecDepth 20000 in
theorem gX5_unbridge_X5_saves : GoodIn wsX5_unbridge (wsV RX5 90 RX5 yX5_saves wsX5_saves) := goodIn_app (goodIn_of _ (by decide +kernel)) ggX5_unbridge_X5_saves
theorem dX5_unbridge_0 : decode cX5_unbridge 0 = .ok (.aload_n 0, 1) := by decide +kernel
theorem dX5_unbridge_1 : decode cX5_unbridge 1 = .ok (.iconst 0, 1) := by decide +kernel
theorem dX5_unbridge_2 : decode cX5_unbridge 2 = .ok (.putfield 28, 3) := by decide +kernel
theorem dX5_unbridge_5 : decode cX5_unbridge 5 = .ok (.aload_n 0, 1) := by decide +kernel
theorem dX5_unbridge_6 : decode cX5_unbridge 6 = .ok (.iload_n 1, 1) := by decide +kernel
theorem dX5_unbridge_7 : decode cX5_unbridge 7 = .ok (.invokevirtual 107, 3) := by decide +kernel
theorem dX5_unbridge_10 : decode cX5_unbridge 10 = .ok (.ifCond .ne 9, 3) := by decide +kernel
theorem dX5_unbridge_13 : decode cX5_unbridge 13 = .ok (.aload_n 0, 1) := by decide +kernel
theorem dX5_unbridge_14 : decode cX5_unbridge 14 = .ok (.iconst 1, 1) := by decide +kernel
theorem dX5_unbridge_15 : decode cX5_unbridge 15 = .ok (.invokevirtual 43, 3) := by decide +kernel
theorem dX5_unbridge_18 : decode cX5_unbridge 18 = .ok (.ireturn, 1) := by decide +kernel
theorem dX5_unbridge_19 : decode cX5_unbridge 19 = .ok (.aload_n 0, 1) := by decide +kernel
theorem dX5_unbridge_20 : decode cX5_unbridge 20 = .ok (.invokevirtual 90, 3) := by decide +kernel
theorem dX5_unbridge_23 : decode cX5_unbridge 23 = .ok (.aload_n 0, 1) := by decide +kernel
theorem dX5_unbridge_24 : decode cX5_unbridge 24 = .ok (.getfield 7, 3) := by decide +kernel
theorem dX5_unbridge_27 : decode cX5_unbridge 27 = .ok (.bipush 6, 2) := by decide +kernel
theorem dX5_unbridge_29 : decode cX5_unbridge 29 = .ok (.iconst 2, 1) := by decide +kernel
theorem dX5_unbridge_30 : decode cX5_unbridge 30 = .ok (.iload_n 1, 1) := by decide +kernel
theorem dX5_unbridge_31 : decode cX5_unbridge 31 = .ok (.imul, 1) := by decide +kernel
theorem dX5_unbridge_32 : decode cX5_unbridge 32 = .ok (.iadd, 1) := by decide +kernel
theorem dX5_unbridge_33 : decode cX5_unbridge 33 = .ok (.iaload, 1) := by decide +kernel
theorem dX5_unbridge_34 : decode cX5_unbridge 34 = .ok (.istore_n 2, 1) := by decide +kernel
theorem dX5_unbridge_35 : decode cX5_unbridge 35 = .ok (.aload_n 0, 1) := by decide +kernel
theorem dX5_unbridge_36 : decode cX5_unbridge 36 = .ok (.getfield 7, 3) := by decide +kernel
theorem dX5_unbridge_39 : decode cX5_unbridge 39 = .ok (.iconst 5, 1) := by decide +kernel
theorem dX5_unbridge_40 : decode cX5_unbridge 40 = .ok (.dup2, 1) := by decide +kernel
theorem dX5_unbridge_41 : decode cX5_unbridge 41 = .ok (.iaload, 1) := by decide +kernel
theorem dX5_unbridge_42 : decode cX5_unbridge 42 = .ok (.iconst 1, 1) := by decide +kernel
theorem dX5_unbridge_43 : decode cX5_unbridge 43 = .ok (.isub, 1) := by decide +kernel
theorem dX5_unbridge_44 : decode cX5_unbridge 44 = .ok (.iastore, 1) := by decide +kernel
theorem dX5_unbridge_45 : decode cX5_unbridge 45 = .ok (.bipush 6, 2) := by decide +kernel
theorem dX5_unbridge_47 : decode cX5_unbridge 47 = .ok (.iconst 2, 1) := by decide +kernel
theorem dX5_unbridge_48 : decode cX5_unbridge 48 = .ok (.iload_n 1, 1) := by decide +kernel
theorem dX5_unbridge_49 : decode cX5_unbridge 49 = .ok (.imul, 1) := by decide +kernel
theorem dX5_unbridge_50 : decode cX5_unbridge 50 = .ok (.iadd, 1) := by decide +kernel
theorem dX5_unbridge_51 : decode cX5_unbridge 51 = .ok (.istore_n 3, 1) := by decide +kernel
theorem dX5_unbridge_52 : decode cX5_unbridge 52 = .ok (.iload_n 3, 1) := by decide +kernel
theorem dX5_unbridge_53 : decode cX5_unbridge 53 = .ok (.bipush 6, 2) := by decide +kernel
theorem dX5_unbridge_55 : decode cX5_unbridge 55 = .ok (.iconst 2, 1) := by decide +kernel
theorem dX5_unbridge_56 : decode cX5_unbridge 56 = .ok (.aload_n 0, 1) := by decide +kernel
theorem dX5_unbridge_57 : decode cX5_unbridge 57 = .ok (.getfield 7, 3) := by decide +kernel
theorem dX5_unbridge_60 : decode cX5_unbridge 60 = .ok (.iconst 5, 1) := by decide +kernel
theorem dX5_unbridge_61 : decode cX5_unbridge 61 = .ok (.iaload, 1) := by decide +kernel
theorem dX5_unbridge_62 : decode cX5_unbridge 62 = .ok (.imul, 1) := by decide +kernel
theorem dX5_unbridge_63 : decode cX5_unbridge 63 = .ok (.iadd, 1) := by decide +kernel
theorem dX5_unbridge_64 : decode cX5_unbridge 64 = .ok (.if_icmp .ge 23, 3) := by decide +kernel
theorem dX5_unbridge_67 : decode cX5_unbridge 67 = .ok (.aload_n 0, 1) := by decide +kernel
theorem dX5_unbridge_68 : decode cX5_unbridge 68 = .ok (.getfield 7, 3) := by decide +kernel
theorem dX5_unbridge_71 : decode cX5_unbridge 71 = .ok (.iload_n 3, 1) := by decide +kernel
theorem dX5_unbridge_72 : decode cX5_unbridge 72 = .ok (.aload_n 0, 1) := by decide +kernel
theorem dX5_unbridge_73 : decode cX5_unbridge 73 = .ok (.getfield 7, 3) := by decide +kernel
theorem dX5_unbridge_76 : decode cX5_unbridge 76 = .ok (.iload_n 3, 1) := by decide +kernel
theorem dX5_unbridge_77 : decode cX5_unbridge 77 = .ok (.iconst 2, 1) := by decide +kernel
theorem dX5_unbridge_78 : decode cX5_unbridge 78 = .ok (.iadd, 1) := by decide +kernel
theorem dX5_unbridge_79 : decode cX5_unbridge 79 = .ok (.iaload, 1) := by decide +kernel
theorem dX5_unbridge_80 : decode cX5_unbridge 80 = .ok (.iastore, 1) := by decide +kernel
theorem dX5_unbridge_81 : decode cX5_unbridge 81 = .ok (.iinc 3 1, 3) := by decide +kernel
theorem dX5_unbridge_84 : decode cX5_unbridge 84 = .ok (.goto (-32), 3) := by decide +kernel
theorem dX5_unbridge_87 : decode cX5_unbridge 87 = .ok (.iload_n 2, 1) := by decide +kernel
theorem dX5_unbridge_88 : decode cX5_unbridge 88 = .ok (.ireturn, 1) := by decide +kernel
set_option maxRecDepth 20000 in
theorem ggX5_set_X5_in : GoodIn wsX5_set wsX5_in := goodIn_r _ [6] (by decide +kernel) (by decide +kernel)
set_option maxRecDepth 20000 in
theorem gX5_set_X5_in : GoodIn wsX5_set (va_wsS RX5 32 yX5_in wsX5_in) := goodIn_app (goodIn_of _ (by decide +kernel)) ggX5_set_X5_in
set_option maxRecDepth 20000 in
theorem ggX5_set_X5_fails : GoodIn wsX5_set wsX5_fails := goodIn_r _ [10, 1, 20, 21, 22, 23, 24, 25, 26, 27, 28, 29, 30, 31] (by decide +kernel) (by decide +kernel)
set_option maxRecDepth 20000 in
theorem gX5_set_X5_fails : GoodIn wsX5_set (wsV RX5 43 RX5 yX5_fails wsX5_fails) := goodIn_app (goodIn_of _ (by decide +kernel)) ggX5_set_X5_fails
set_option maxRecDepth 20000 in
theorem ggX5_set_X5_saves : GoodIn wsX5_set wsX5_saves := goodIn_r _ [14, 15, 16, 2, 17, 18, 5, 19, 20, 21, 22, 23, 24, 25, 26, 27, 28, 29, 30, 31] (by decide +kernel) (by decide +kernel)
set_option maxRecDepth 20000 in
theorem gX5_set_X5_saves : GoodIn wsX5_set (wsV RX5 90 RX5 yX5_saves wsX5_saves) := goodIn_app (goodIn_of _ (by decide +kernel)) ggX5_set_X5_saves
theorem dX5_set_0 : decode cX5_set 0 = .ok (.aload_n 0, 1) := by decide +kernel
theorem dX5_set_1 : decode cX5_set 1 = .ok (.iconst 0, 1) := by decide +kernel
theorem dX5_set_2 : decode cX5_set 2 = .ok (.putfield 28, 3) := by decide +kernel
theorem dX5_set_5 : decode cX5_set 5 = .ok (.iload_n 1, 1) := by decide +kernel
theorem dX5_set_6 : decode cX5_set 6 = .ok (.iconst 0, 1) := by decide +kernel
theorem dX5_set_7 : decode cX5_set 7 = .ok (.iconst 3, 1) := by decide +kernel
theorem dX5_set_8 : decode cX5_set 8 = .ok (.invokestatic 32, 3) := by decide +kernel
theorem dX5_set_11 : decode cX5_set 11 = .ok (.ifCond .ne 9, 3) := by decide +kernel
theorem dX5_set_14 : decode cX5_set 14 = .ok (.aload_n 0, 1) := by decide +kernel
theorem dX5_set_15 : decode cX5_set 15 = .ok (.iconst 1, 1) := by decide +kernel
theorem dX5_set_16 : decode cX5_set 16 = .ok (.invokevirtual 43, 3) := by decide +kernel
theorem dX5_set_19 : decode cX5_set 19 = .ok (.ireturn, 1) := by decide +kernel
theorem dX5_set_20 : decode cX5_set 20 = .ok (.iload_n 2, 1) := by decide +kernel
theorem dX5_set_21 : decode cX5_set 21 = .ok (.iload_n 1, 1) := by decide +kernel
theorem dX5_set_22 : decode cX5_set 22 = .ok (.iconst 3, 1) := by decide +kernel
theorem dX5_set_23 : decode cX5_set 23 = .ok (.if_icmp .ne 7, 3) := by decide +kernel
theorem dX5_set_26 : decode cX5_set 26 = .ok (.iconst 0, 1) := by decide +kernel
theorem dX5_set_27 : decode cX5_set 27 = .ok (.goto 4, 3) := by decide +kernel
theorem dX5_set_30 : decode cX5_set 30 = .ok (.iconst 1, 1) := by decide +kernel
theorem dX5_set_31 : decode cX5_set 31 = .ok (.iload_n 1, 1) := by decide +kernel
theorem dX5_set_32 : decode cX5_set 32 = .ok (.ifCond .ne 8, 3) := by decide +kernel
theorem dX5_set_35 : decode cX5_set 35 = .ok (.bipush 6, 2) := by decide +kernel
theorem dX5_set_37 : decode cX5_set 37 = .ok (.goto 15, 3) := by decide +kernel
theorem dX5_set_40 : decode cX5_set 40 = .ok (.iload_n 1, 1) := by decide +kernel
theorem dX5_set_41 : decode cX5_set 41 = .ok (.iconst 3, 1) := by decide +kernel
theorem dX5_set_42 : decode cX5_set 42 = .ok (.if_icmp .ne 8, 3) := by decide +kernel
theorem dX5_set_45 : decode cX5_set 45 = .ok (.bipush 20, 2) := by decide +kernel
theorem dX5_set_47 : decode cX5_set 47 = .ok (.goto 5, 3) := by decide +kernel
theorem dX5_set_50 : decode cX5_set 50 = .ok (.bipush 9, 2) := by decide +kernel
theorem dX5_set_52 : decode cX5_set 52 = .ok (.invokestatic 32, 3) := by decide +kernel
theorem dX5_set_55 : decode cX5_set 55 = .ok (.ifCond .ne 9, 3) := by decide +kernel
theorem dX5_set_58 : decode cX5_set 58 = .ok (.aload_n 0, 1) := by decide +kernel
theorem dX5_set_59 : decode cX5_set 59 = .ok (.iconst 2, 1) := by decide +kernel
theorem dX5_set_60 : decode cX5_set 60 = .ok (.invokevirtual 43, 3) := by decide +kernel
theorem dX5_set_63 : decode cX5_set 63 = .ok (.ireturn, 1) := by decide +kernel
theorem dX5_set_64 : decode cX5_set 64 = .ok (.aload_n 0, 1) := by decide +kernel
theorem dX5_set_65 : decode cX5_set 65 = .ok (.invokevirtual 90, 3) := by decide +kernel
theorem dX5_set_68 : decode cX5_set 68 = .ok (.aload_n 0, 1) := by decide +kernel
theorem dX5_set_69 : decode cX5_set 69 = .ok (.getfield 7, 3) := by decide +kernel
theorem dX5_set_72 : decode cX5_set 72 = .ok (.iload_n 1, 1) := by decide +kernel
theorem dX5_set_73 : decode cX5_set 73 = .ok (.iaload, 1) := by decide +kernel
theorem dX5_set_74 : decode cX5_set 74 = .ok (.istore_n 3, 1) := by decide +kernel
theorem dX5_set_75 : decode cX5_set 75 = .ok (.aload_n 0, 1) := by decide +kernel
theorem dX5_set_76 : decode cX5_set 76 = .ok (.getfield 7, 3) := by decide +kernel
theorem dX5_set_79 : decode cX5_set 79 = .ok (.iload_n 1, 1) := by decide +kernel
theorem dX5_set_80 : decode cX5_set 80 = .ok (.iload_n 2, 1) := by decide +kernel
theorem dX5_set_81 : decode cX5_set 81 = .ok (.iastore, 1) := by decide +kernel
theorem dX5_set_82 : decode cX5_set 82 = .ok (.iload_n 3, 1) := by decide +kernel
theorem dX5_set_83 : decode cX5_set 83 = .ok (.ireturn, 1) := by decide +kernel
set_option maxRecDepth 20000 in
theorem ggX5_append_X5_in : GoodIn wsX5_append wsX5_in := goodIn_r _ [7] (by decide +kernel) (by decide +kernel)
set_option maxRecDepth 20000 in
theorem gX5_append_X5_in : GoodIn wsX5_append (va_wsS RX5 32 yX5_in wsX5_in) := goodIn_app (goodIn_of _ (by decide +kernel)) ggX5_append_X5_in
set_option maxRecDepth 20000 in
theorem ggX5_append_X5_fails : GoodIn wsX5_append wsX5_fails := goodIn_r _ [11, 1, 12, 13, 14, 15, 16, 17, 18, 19, 20, 21, 22, 23] (by decide +kernel) (by decide +kernel)
set_option maxRecDepth 20000 in
theorem gX5_append_X5_fails : GoodIn wsX5_append (wsV RX5 43 RX5 yX5_fails wsX5_fails) := goodIn_app (goodIn_of _ (by decide +kernel)) ggX5_append_X5_fails
theorem dX5_append_0 : decode cX5_append 0 = .ok (.aload_n 0, 1) := by decide +kernel
theorem dX5_append_1 : decode cX5_append 1 = .ok (.iconst 0, 1) := by decide +kernel
theorem dX5_append_2 : decode cX5_append 2 = .ok (.putfield 28, 3) := by decide +kernel
theorem dX5_append_5 : decode cX5_append 5 = .ok (.iload_n 1, 1) := by decide +kernel
theorem dX5_append_6 : decode cX5_append 6 = .ok (.bipush 33, 2) := by decide +kernel
theorem dX5_append_8 : decode cX5_append 8 = .ok (.bipush 126, 2) := by decide +kernel
theorem dX5_append_10 : decode cX5_append 10 = .ok (.invokestatic 32, 3) := by decide +kernel
theorem dX5_append_13 : decode cX5_append 13 = .ok (.ifCond .ne 9, 3) := by decide +kernel
theorem dX5_append_16 : decode cX5_append 16 = .ok (.aload_n 0, 1) := by decide +kernel
theorem dX5_append_17 : decode cX5_append 17 = .ok (.iconst 1, 1) := by decide +kernel
theorem dX5_append_18 : decode cX5_append 18 = .ok (.invokevirtual 43, 3) := by decide +kernel
theorem dX5_append_21 : decode cX5_append 21 = .ok (.ireturn, 1) := by decide +kernel
theorem dX5_append_22 : decode cX5_append 22 = .ok (.aload_n 0, 1) := by decide +kernel
theorem dX5_append_23 : decode cX5_append 23 = .ok (.getfield 110, 3) := by decide +kernel
theorem dX5_append_26 : decode cX5_append 26 = .ok (.bipush 60, 2) := by decide +kernel
theorem dX5_append_28 : decode cX5_append 28 = .ok (.if_icmp .ne 9, 3) := by decide +kernel
theorem dX5_append_31 : decode cX5_append 31 = .ok (.aload_n 0, 1) := by decide +kernel
theorem dX5_append_32 : decode cX5_append 32 = .ok (.iconst 2, 1) := by decide +kernel
theorem dX5_append_33 : decode cX5_append 33 = .ok (.invokevirtual 43, 3) := by decide +kernel
theorem dX5_append_36 : decode cX5_append 36 = .ok (.ireturn, 1) := by decide +kernel
theorem dX5_append_37 : decode cX5_append 37 = .ok (.aload_n 0, 1) := by decide +kernel
theorem dX5_append_38 : decode cX5_append 38 = .ok (.getfield 19, 3) := by decide +kernel
theorem dX5_append_41 : decode cX5_append 41 = .ok (.aload_n 0, 1) := by decide +kernel
theorem dX5_append_42 : decode cX5_append 42 = .ok (.getfield 110, 3) := by decide +kernel
theorem dX5_append_45 : decode cX5_append 45 = .ok (.iload_n 1, 1) := by decide +kernel
theorem dX5_append_46 : decode cX5_append 46 = .ok (.iastore, 1) := by decide +kernel
theorem dX5_append_47 : decode cX5_append 47 = .ok (.aload_n 0, 1) := by decide +kernel
theorem dX5_append_48 : decode cX5_append 48 = .ok (.dup, 1) := by decide +kernel
theorem dX5_append_49 : decode cX5_append 49 = .ok (.getfield 110, 3) := by decide +kernel
theorem dX5_append_52 : decode cX5_append 52 = .ok (.iconst 1, 1) := by decide +kernel
theorem dX5_append_53 : decode cX5_append 53 = .ok (.iadd, 1) := by decide +kernel
theorem dX5_append_54 : decode cX5_append 54 = .ok (.putfield 110, 3) := by decide +kernel
theorem dX5_append_57 : decode cX5_append 57 = .ok (.aload_n 0, 1) := by decide +kernel
theorem dX5_append_58 : decode cX5_append 58 = .ok (.getfield 110, 3) := by decide +kernel
theorem dX5_append_61 : decode cX5_append 61 = .ok (.ireturn, 1) := by decide +kernel
theorem dX5_clearBuffer_0 : decode cX5_clearBuffer 0 = .ok (.aload_n 0, 1) := by decide +kernel
theorem dX5_clearBuffer_1 : decode cX5_clearBuffer 1 = .ok (.iconst 0, 1) := by decide +kernel
theorem dX5_clearBuffer_2 : decode cX5_clearBuffer 2 = .ok (.putfield 28, 3) := by decide +kernel
theorem dX5_clearBuffer_5 : decode cX5_clearBuffer 5 = .ok (.aload_n 0, 1) := by decide +kernel
theorem dX5_clearBuffer_6 : decode cX5_clearBuffer 6 = .ok (.getfield 110, 3) := by decide +kernel
theorem dX5_clearBuffer_9 : decode cX5_clearBuffer 9 = .ok (.istore_n 1, 1) := by decide +kernel
theorem dX5_clearBuffer_10 : decode cX5_clearBuffer 10 = .ok (.aload_n 0, 1) := by decide +kernel
theorem dX5_clearBuffer_11 : decode cX5_clearBuffer 11 = .ok (.iconst 0, 1) := by decide +kernel
theorem dX5_clearBuffer_12 : decode cX5_clearBuffer 12 = .ok (.putfield 110, 3) := by decide +kernel
theorem dX5_clearBuffer_15 : decode cX5_clearBuffer 15 = .ok (.iload_n 1, 1) := by decide +kernel
theorem dX5_clearBuffer_16 : decode cX5_clearBuffer 16 = .ok (.ireturn, 1) := by decide +kernel
set_option maxRecDepth 20000 in
theorem ggX5_isAt_X5_in : GoodIn wsX5_isAt wsX5_in := goodIn_r _ [7] (by decide +kernel) (by decide +kernel)
set_option maxRecDepth 20000 in
theorem gX5_isAt_X5_in : GoodIn wsX5_isAt (va_wsS RX5 32 yX5_in wsX5_in) := goodIn_app (goodIn_of _ (by decide +kernel)) ggX5_isAt_X5_in
theorem dX5_isAt_0 : decode cX5_isAt 0 = .ok (.aload_n 0, 1) := by decide +kernel
theorem dX5_isAt_1 : decode cX5_isAt 1 = .ok (.getfield 113, 3) := by decide +kernel
theorem dX5_isAt_4 : decode cX5_isAt 4 = .ok (.aload_n 0, 1) := by decide +kernel
theorem dX5_isAt_5 : decode cX5_isAt 5 = .ok (.getfield 110, 3) := by decide +kernel
theorem dX5_isAt_8 : decode cX5_isAt 8 = .ok (.if_icmp .ge 24, 3) := by decide +kernel
theorem dX5_isAt_11 : decode cX5_isAt 11 = .ok (.aload_n 0, 1) := by decide +kernel
theorem dX5_isAt_12 : decode cX5_isAt 12 = .ok (.getfield 19, 3) := by decide +kernel
theorem dX5_isAt_15 : decode cX5_isAt 15 = .ok (.aload_n 0, 1) := by decide +kernel
theorem dX5_isAt_16 : decode cX5_isAt 16 = .ok (.getfield 113, 3) := by decide +kernel
theorem dX5_isAt_19 : decode cX5_isAt 19 = .ok (.iaload, 1) := by decide +kernel
theorem dX5_isAt_20 : decode cX5_isAt 20 = .ok (.iload_n 1, 1) := by decide +kernel
theorem dX5_isAt_21 : decode cX5_isAt 21 = .ok (.iload_n 2, 1) := by decide +kernel
theorem dX5_isAt_22 : decode cX5_isAt 22 = .ok (.invokestatic 32, 3) := by decide +kernel
theorem dX5_isAt_25 : decode cX5_isAt 25 = .ok (.ifCond .eq 7, 3) := by decide +kernel
theorem dX5_isAt_28 : decode cX5_isAt 28 = .ok (.iconst 1, 1) := by decide +kernel
theorem dX5_isAt_29 : decode cX5_isAt 29 = .ok (.goto 4, 3) := by decide +kernel
theorem dX5_isAt_32 : decode cX5_isAt 32 = .ok (.iconst 0, 1) := by decide +kernel
theorem dX5_isAt_33 : decode cX5_isAt 33 = .ok (.ireturn, 1) := by decide +kernel
theorem dX5_stops_0 : decode cX5_stops 0 = .ok (.aload_n 0, 1) := by decide +kernel
theorem dX5_stops_1 : decode cX5_stops 1 = .ok (.aload_n 0, 1) := by decide +kernel
theorem dX5_stops_2 : decode cX5_stops 2 = .ok (.getfield 113, 3) := by decide +kernel
theorem dX5_stops_5 : decode cX5_stops 5 = .ok (.aload_n 0, 1) := by decide +kernel
theorem dX5_stops_6 : decode cX5_stops 6 = .ok (.getfield 110, 3) := by decide +kernel
theorem dX5_stops_9 : decode cX5_stops 9 = .ok (.if_icmp .ge 7, 3) := by decide +kernel
theorem dX5_stops_12 : decode cX5_stops 12 = .ok (.iconst 1, 1) := by decide +kernel
theorem dX5_stops_13 : decode cX5_stops 13 = .ok (.goto 4, 3) := by decide +kernel
theorem dX5_stops_16 : decode cX5_stops 16 = .ok (.iconst 0, 1) := by decide +kernel
theorem dX5_stops_17 : decode cX5_stops 17 = .ok (.putfield 116, 3) := by decide +kernel
theorem dX5_stops_20 : decode cX5_stops 20 = .ok (.iconst 0, 1) := by decide +kernel
theorem dX5_stops_21 : decode cX5_stops 21 = .ok (.ireturn, 1) := by decide +kernel
theorem dX5_kindAt_0 : decode cX5_kindAt 0 = .ok (.aload_n 0, 1) := by decide +kernel
theorem dX5_kindAt_1 : decode cX5_kindAt 1 = .ok (.getfield 113, 3) := by decide +kernel
theorem dX5_kindAt_4 : decode cX5_kindAt 4 = .ok (.aload_n 0, 1) := by decide +kernel
theorem dX5_kindAt_5 : decode cX5_kindAt 5 = .ok (.getfield 110, 3) := by decide +kernel
theorem dX5_kindAt_8 : decode cX5_kindAt 8 = .ok (.if_icmp .ge 15, 3) := by decide +kernel
theorem dX5_kindAt_11 : decode cX5_kindAt 11 = .ok (.aload_n 0, 1) := by decide +kernel
theorem dX5_kindAt_12 : decode cX5_kindAt 12 = .ok (.getfield 19, 3) := by decide +kernel
theorem dX5_kindAt_15 : decode cX5_kindAt 15 = .ok (.aload_n 0, 1) := by decide +kernel
theorem dX5_kindAt_16 : decode cX5_kindAt 16 = .ok (.getfield 113, 3) := by decide +kernel
theorem dX5_kindAt_19 : decode cX5_kindAt 19 = .ok (.iaload, 1) := by decide +kernel
theorem dX5_kindAt_20 : decode cX5_kindAt 20 = .ok (.goto 4, 3) := by decide +kernel
theorem dX5_kindAt_23 : decode cX5_kindAt 23 = .ok (.iconst 0, 1) := by decide +kernel
theorem dX5_kindAt_24 : decode cX5_kindAt 24 = .ok (.istore_n 1, 1) := by decide +kernel
theorem dX5_kindAt_25 : decode cX5_kindAt 25 = .ok (.iload_n 1, 1) := by decide +kernel
theorem dX5_kindAt_26 : decode cX5_kindAt 26 = .ok (.bipush 99, 2) := by decide +kernel
theorem dX5_kindAt_28 : decode cX5_kindAt 28 = .ok (.if_icmp .ne 7, 3) := by decide +kernel
theorem dX5_kindAt_31 : decode cX5_kindAt 31 = .ok (.iconst 0, 1) := by decide +kernel
theorem dX5_kindAt_32 : decode cX5_kindAt 32 = .ok (.goto 34, 3) := by decide +kernel
theorem dX5_kindAt_35 : decode cX5_kindAt 35 = .ok (.iload_n 1, 1) := by decide +kernel
theorem dX5_kindAt_36 : decode cX5_kindAt 36 = .ok (.bipush 104, 2) := by decide +kernel
theorem dX5_kindAt_38 : decode cX5_kindAt 38 = .ok (.if_icmp .ne 7, 3) := by decide +kernel
theorem dX5_kindAt_41 : decode cX5_kindAt 41 = .ok (.iconst 1, 1) := by decide +kernel
theorem dX5_kindAt_42 : decode cX5_kindAt 42 = .ok (.goto 24, 3) := by decide +kernel
theorem dX5_kindAt_45 : decode cX5_kindAt 45 = .ok (.iload_n 1, 1) := by decide +kernel
theorem dX5_kindAt_46 : decode cX5_kindAt 46 = .ok (.bipush 98, 2) := by decide +kernel
theorem dX5_kindAt_48 : decode cX5_kindAt 48 = .ok (.if_icmp .ne 7, 3) := by decide +kernel
theorem dX5_kindAt_51 : decode cX5_kindAt 51 = .ok (.iconst 2, 1) := by decide +kernel
theorem dX5_kindAt_52 : decode cX5_kindAt 52 = .ok (.goto 14, 3) := by decide +kernel
theorem dX5_kindAt_55 : decode cX5_kindAt 55 = .ok (.iload_n 1, 1) := by decide +kernel
theorem dX5_kindAt_56 : decode cX5_kindAt 56 = .ok (.bipush 103, 2) := by decide +kernel
theorem dX5_kindAt_58 : decode cX5_kindAt 58 = .ok (.if_icmp .ne 7, 3) := by decide +kernel
theorem dX5_kindAt_61 : decode cX5_kindAt 61 = .ok (.iconst 3, 1) := by decide +kernel
theorem dX5_kindAt_62 : decode cX5_kindAt 62 = .ok (.goto 4, 3) := by decide +kernel
theorem dX5_kindAt_65 : decode cX5_kindAt 65 = .ok (.iconst (-1), 1) := by decide +kernel
theorem dX5_kindAt_66 : decode cX5_kindAt 66 = .ok (.ireturn, 1) := by decide +kernel
set_option maxRecDepth 20000 in
theorem ggX5_isMask_X5_kindAt : GoodIn wsX5_isMask wsX5_kindAt := goodIn_r _ [8, 3, 9, 10, 16, 17, 18, 19, 20, 21, 22, 23, 24, 25, 26, 27] (by decide +kernel) (by decide +kernel)
set_option maxRecDepth 20000 in
theorem gX5_isMask_X5_kindAt : GoodIn wsX5_isMask (wsV RX5 120 RX5 yX5_kindAt wsX5_kindAt) := goodIn_app (goodIn_of _ (by decide +kernel)) ggX5_isMask_X5_kindAt
set_option maxRecDepth 20000 in
theorem ggX5_isMask_X5_stops : GoodIn wsX5_isMask wsX5_stops := goodIn_r _ [14, 3, 9, 15, 16, 17, 18, 19, 20, 21, 22, 23, 24, 25, 26, 27] (by decide +kernel) (by decide +kernel)
set_option maxRecDepth 20000 in
theorem gX5_isMask_X5_stops : GoodIn wsX5_isMask (wsV RX5 126 RX5 yX5_stops wsX5_stops) := goodIn_app (goodIn_of _ (by decide +kernel)) ggX5_isMask_X5_stops
theorem dX5_isMask_0 : decode cX5_isMask 0 = .ok (.iconst (-1), 1) := by decide +kernel
theorem dX5_isMask_1 : decode cX5_isMask 1 = .ok (.istore_n 1, 1) := by decide +kernel
theorem dX5_isMask_2 : decode cX5_isMask 2 = .ok (.aload_n 0, 1) := by decide +kernel
theorem dX5_isMask_3 : decode cX5_isMask 3 = .ok (.invokevirtual 120, 3) := by decide +kernel
theorem dX5_isMask_6 : decode cX5_isMask 6 = .ok (.iload_n 1, 1) := by decide +kernel
theorem dX5_isMask_7 : decode cX5_isMask 7 = .ok (.if_icmp .le 40, 3) := by decide +kernel
theorem dX5_isMask_10 : decode cX5_isMask 10 = .ok (.aload_n 0, 1) := by decide +kernel
theorem dX5_isMask_11 : decode cX5_isMask 11 = .ok (.invokevirtual 120, 3) := by decide +kernel
theorem dX5_isMask_14 : decode cX5_isMask 14 = .ok (.istore_n 1, 1) := by decide +kernel
theorem dX5_isMask_15 : decode cX5_isMask 15 = .ok (.aload_n 0, 1) := by decide +kernel
theorem dX5_isMask_16 : decode cX5_isMask 16 = .ok (.getfield 22, 3) := by decide +kernel
theorem dX5_isMask_19 : decode cX5_isMask 19 = .ok (.iconst 3, 1) := by decide +kernel
theorem dX5_isMask_20 : decode cX5_isMask 20 = .ok (.aload_n 0, 1) := by decide +kernel
theorem dX5_isMask_21 : decode cX5_isMask 21 = .ok (.getfield 123, 3) := by decide +kernel
theorem dX5_isMask_24 : decode cX5_isMask 24 = .ok (.imul, 1) := by decide +kernel
theorem dX5_isMask_25 : decode cX5_isMask 25 = .ok (.iconst 2, 1) := by decide +kernel
theorem dX5_isMask_26 : decode cX5_isMask 26 = .ok (.iadd, 1) := by decide +kernel
theorem dX5_isMask_27 : decode cX5_isMask 27 = .ok (.dup2, 1) := by decide +kernel
theorem dX5_isMask_28 : decode cX5_isMask 28 = .ok (.iaload, 1) := by decide +kernel
theorem dX5_isMask_29 : decode cX5_isMask 29 = .ok (.iconst 1, 1) := by decide +kernel
theorem dX5_isMask_30 : decode cX5_isMask 30 = .ok (.iload_n 1, 1) := by decide +kernel
theorem dX5_isMask_31 : decode cX5_isMask 31 = .ok (.ishl, 1) := by decide +kernel
theorem dX5_isMask_32 : decode cX5_isMask 32 = .ok (.ior, 1) := by decide +kernel
theorem dX5_isMask_33 : decode cX5_isMask 33 = .ok (.iastore, 1) := by decide +kernel
theorem dX5_isMask_34 : decode cX5_isMask 34 = .ok (.aload_n 0, 1) := by decide +kernel
theorem dX5_isMask_35 : decode cX5_isMask 35 = .ok (.dup, 1) := by decide +kernel
theorem dX5_isMask_36 : decode cX5_isMask 36 = .ok (.getfield 113, 3) := by decide +kernel
theorem dX5_isMask_39 : decode cX5_isMask 39 = .ok (.iconst 1, 1) := by decide +kernel
theorem dX5_isMask_40 : decode cX5_isMask 40 = .ok (.iadd, 1) := by decide +kernel
theorem dX5_isMask_41 : decode cX5_isMask 41 = .ok (.putfield 113, 3) := by decide +kernel
theorem dX5_isMask_44 : decode cX5_isMask 44 = .ok (.goto (-42), 3) := by decide +kernel
theorem dX5_isMask_47 : decode cX5_isMask 47 = .ok (.iload_n 1, 1) := by decide +kernel
theorem dX5_isMask_48 : decode cX5_isMask 48 = .ok (.iconst (-1), 1) := by decide +kernel
theorem dX5_isMask_49 : decode cX5_isMask 49 = .ok (.if_icmp .ne 10, 3) := by decide +kernel
theorem dX5_isMask_52 : decode cX5_isMask 52 = .ok (.aload_n 0, 1) := by decide +kernel
theorem dX5_isMask_53 : decode cX5_isMask 53 = .ok (.invokevirtual 126, 3) := by decide +kernel
theorem dX5_isMask_56 : decode cX5_isMask 56 = .ok (.ifCond .eq 7, 3) := by decide +kernel
theorem dX5_isMask_59 : decode cX5_isMask 59 = .ok (.iconst 1, 1) := by decide +kernel
theorem dX5_isMask_60 : decode cX5_isMask 60 = .ok (.goto 4, 3) := by decide +kernel
theorem dX5_isMask_63 : decode cX5_isMask 63 = .ok (.iconst 0, 1) := by decide +kernel
theorem dX5_isMask_64 : decode cX5_isMask 64 = .ok (.ireturn, 1) := by decide +kernel
set_option maxRecDepth 20000 in
theorem ggX5_isPart_X5_kindAt : GoodIn wsX5_isPart wsX5_kindAt := goodIn_r _ [9, 1, 10, 2, 27, 28, 29, 30, 31, 32, 33, 34, 35, 36, 37, 38] (by decide +kernel) (by decide +kernel)
set_option maxRecDepth 20000 in
theorem gX5_isPart_X5_kindAt : GoodIn wsX5_isPart (wsV RX5 120 RX5 yX5_kindAt wsX5_kindAt) := goodIn_app (goodIn_of _ (by decide +kernel)) ggX5_isPart_X5_kindAt
set_option maxRecDepth 20000 in
theorem ggX5_isPart_X5_stops : GoodIn wsX5_isPart wsX5_stops := goodIn_r _ [14, 1, 10, 15, 27, 28, 29, 30, 31, 32, 33, 34, 35, 36, 37, 38] (by decide +kernel) (by decide +kernel)
set_option maxRecDepth 20000 in
theorem gX5_isPart_X5_stops : GoodIn wsX5_isPart (wsV RX5 126 RX5 yX5_stops wsX5_stops) := goodIn_app (goodIn_of _ (by decide +kernel)) ggX5_isPart_X5_stops
set_option maxRecDepth 20000 in
theorem ggX5_isPart_X5_isAt : GoodIn wsX5_isPart wsX5_isAt := goodIn_r _ [19, 1, 10, 2, 20, 21, 8, 22, 27, 28, 29, 30, 31, 32, 33, 34, 35, 36, 37, 38] (by decide +kernel) (by decide +kernel)
set_option maxRecDepth 20000 in
theorem gX5_isPart_X5_isAt : GoodIn wsX5_isPart (wsV RX5 130 RX5 yX5_isAt wsX5_isAt) := goodIn_app (goodIn_of _ (by decide +kernel)) ggX5_isPart_X5_isAt
set_option maxRecDepth 20000 in
theorem ggX5_isPart_X5_isMask : GoodIn wsX5_isPart wsX5_isMask := goodIn_r _ [26, 3, 4, 1, 5, 6, 7, 8, 9, 10, 2, 11, 12, 13, 14, 15, 27, 28, 29, 30, 31, 32, 33, 34, 35, 36, 37, 38] (by decide +kernel) (by decide +kernel)
set_option maxRecDepth 20000 in
theorem gX5_isPart_X5_isMask : GoodIn wsX5_isPart (wsV RX5 134 RX5 yX5_isMask wsX5_isMask) := goodIn_app (goodIn_of _ (by decide +kernel)) ggX5_isPart_X5_isMask
theorem dX5_isPart_0 : decode cX5_isPart 0 = .ok (.aload_n 0, 1) := by decide +kernel
theorem dX5_isPart_1 : decode cX5_isPart 1 = .ok (.invokevirtual 120, 3) := by decide +kernel
theorem dX5_isPart_4 : decode cX5_isPart 4 = .ok (.istore_n 1, 1) := by decide +kernel
theorem dX5_isPart_5 : decode cX5_isPart 5 = .ok (.iload_n 1, 1) := by decide +kernel
theorem dX5_isPart_6 : decode cX5_isPart 6 = .ok (.iconst (-1), 1) := by decide +kernel
theorem dX5_isPart_7 : decode cX5_isPart 7 = .ok (.if_icmp .ne 8, 3) := by decide +kernel
theorem dX5_isPart_10 : decode cX5_isPart 10 = .ok (.aload_n 0, 1) := by decide +kernel
theorem dX5_isPart_11 : decode cX5_isPart 11 = .ok (.invokevirtual 126, 3) := by decide +kernel
theorem dX5_isPart_14 : decode cX5_isPart 14 = .ok (.ireturn, 1) := by decide +kernel
theorem dX5_isPart_15 : decode cX5_isPart 15 = .ok (.aload_n 0, 1) := by decide +kernel
theorem dX5_isPart_16 : decode cX5_isPart 16 = .ok (.dup, 1) := by decide +kernel
theorem dX5_isPart_17 : decode cX5_isPart 17 = .ok (.getfield 113, 3) := by decide +kernel
theorem dX5_isPart_20 : decode cX5_isPart 20 = .ok (.iconst 1, 1) := by decide +kernel
theorem dX5_isPart_21 : decode cX5_isPart 21 = .ok (.iadd, 1) := by decide +kernel
theorem dX5_isPart_22 : decode cX5_isPart 22 = .ok (.putfield 113, 3) := by decide +kernel
theorem dX5_isPart_25 : decode cX5_isPart 25 = .ok (.aload_n 0, 1) := by decide +kernel
theorem dX5_isPart_26 : decode cX5_isPart 26 = .ok (.bipush 49, 2) := by decide +kernel
theorem dX5_isPart_28 : decode cX5_isPart 28 = .ok (.bipush 57, 2) := by decide +kernel
theorem dX5_isPart_30 : decode cX5_isPart 30 = .ok (.invokevirtual 130, 3) := by decide +kernel
theorem dX5_isPart_33 : decode cX5_isPart 33 = .ok (.ifCond .ne 8, 3) := by decide +kernel
theorem dX5_isPart_36 : decode cX5_isPart 36 = .ok (.aload_n 0, 1) := by decide +kernel
theorem dX5_isPart_37 : decode cX5_isPart 37 = .ok (.invokevirtual 126, 3) := by decide +kernel
theorem dX5_isPart_40 : decode cX5_isPart 40 = .ok (.ireturn, 1) := by decide +kernel
theorem dX5_isPart_41 : decode cX5_isPart 41 = .ok (.bipush 10, 2) := by decide +kernel
theorem dX5_isPart_43 : decode cX5_isPart 43 = .ok (.aload_n 0, 1) := by decide +kernel
theorem dX5_isPart_44 : decode cX5_isPart 44 = .ok (.getfield 19, 3) := by decide +kernel
theorem dX5_isPart_47 : decode cX5_isPart 47 = .ok (.aload_n 0, 1) := by decide +kernel
theorem dX5_isPart_48 : decode cX5_isPart 48 = .ok (.getfield 113, 3) := by decide +kernel
theorem dX5_isPart_51 : decode cX5_isPart 51 = .ok (.iaload, 1) := by decide +kernel
theorem dX5_isPart_52 : decode cX5_isPart 52 = .ok (.bipush 48, 2) := by decide +kernel
theorem dX5_isPart_54 : decode cX5_isPart 54 = .ok (.isub, 1) := by decide +kernel
theorem dX5_isPart_55 : decode cX5_isPart 55 = .ok (.imul, 1) := by decide +kernel
theorem dX5_isPart_56 : decode cX5_isPart 56 = .ok (.istore_n 2, 1) := by decide +kernel
theorem dX5_isPart_57 : decode cX5_isPart 57 = .ok (.aload_n 0, 1) := by decide +kernel
theorem dX5_isPart_58 : decode cX5_isPart 58 = .ok (.dup, 1) := by decide +kernel
theorem dX5_isPart_59 : decode cX5_isPart 59 = .ok (.getfield 113, 3) := by decide +kernel
theorem dX5_isPart_62 : decode cX5_isPart 62 = .ok (.iconst 1, 1) := by decide +kernel
theorem dX5_isPart_63 : decode cX5_isPart 63 = .ok (.iadd, 1) := by decide +kernel
theorem dX5_isPart_64 : decode cX5_isPart 64 = .ok (.putfield 113, 3) := by decide +kernel
theorem dX5_isPart_67 : decode cX5_isPart 67 = .ok (.aload_n 0, 1) := by decide +kernel
theorem dX5_isPart_68 : decode cX5_isPart 68 = .ok (.bipush 48, 2) := by decide +kernel
theorem dX5_isPart_70 : decode cX5_isPart 70 = .ok (.bipush 57, 2) := by decide +kernel
theorem dX5_isPart_72 : decode cX5_isPart 72 = .ok (.invokevirtual 130, 3) := by decide +kernel
theorem dX5_isPart_75 : decode cX5_isPart 75 = .ok (.ifCond .ne 8, 3) := by decide +kernel
theorem dX5_isPart_78 : decode cX5_isPart 78 = .ok (.aload_n 0, 1) := by decide +kernel
theorem dX5_isPart_79 : decode cX5_isPart 79 = .ok (.invokevirtual 126, 3) := by decide +kernel
theorem dX5_isPart_82 : decode cX5_isPart 82 = .ok (.ireturn, 1) := by decide +kernel
theorem dX5_isPart_83 : decode cX5_isPart 83 = .ok (.aload_n 0, 1) := by decide +kernel
theorem dX5_isPart_84 : decode cX5_isPart 84 = .ok (.getfield 22, 3) := by decide +kernel
theorem dX5_isPart_87 : decode cX5_isPart 87 = .ok (.iconst 3, 1) := by decide +kernel
theorem dX5_isPart_88 : decode cX5_isPart 88 = .ok (.aload_n 0, 1) := by decide +kernel
theorem dX5_isPart_89 : decode cX5_isPart 89 = .ok (.getfield 123, 3) := by decide +kernel
theorem dX5_isPart_92 : decode cX5_isPart 92 = .ok (.imul, 1) := by decide +kernel
theorem dX5_isPart_93 : decode cX5_isPart 93 = .ok (.iload_n 1, 1) := by decide +kernel
theorem dX5_isPart_94 : decode cX5_isPart 94 = .ok (.iastore, 1) := by decide +kernel
theorem dX5_isPart_95 : decode cX5_isPart 95 = .ok (.aload_n 0, 1) := by decide +kernel
theorem dX5_isPart_96 : decode cX5_isPart 96 = .ok (.getfield 22, 3) := by decide +kernel
theorem dX5_isPart_99 : decode cX5_isPart 99 = .ok (.iconst 3, 1) := by decide +kernel
theorem dX5_isPart_100 : decode cX5_isPart 100 = .ok (.aload_n 0, 1) := by decide +kernel
theorem dX5_isPart_101 : decode cX5_isPart 101 = .ok (.getfield 123, 3) := by decide +kernel
theorem dX5_isPart_104 : decode cX5_isPart 104 = .ok (.imul, 1) := by decide +kernel
theorem dX5_isPart_105 : decode cX5_isPart 105 = .ok (.iconst 1, 1) := by decide +kernel
theorem dX5_isPart_106 : decode cX5_isPart 106 = .ok (.iadd, 1) := by decide +kernel
theorem dX5_isPart_107 : decode cX5_isPart 107 = .ok (.iload_n 2, 1) := by decide +kernel
theorem dX5_isPart_108 : decode cX5_isPart 108 = .ok (.aload_n 0, 1) := by decide +kernel
theorem dX5_isPart_109 : decode cX5_isPart 109 = .ok (.getfield 19, 3) := by decide +kernel
theorem dX5_isPart_112 : decode cX5_isPart 112 = .ok (.aload_n 0, 1) := by decide +kernel
theorem dX5_isPart_113 : decode cX5_isPart 113 = .ok (.getfield 113, 3) := by decide +kernel
theorem dX5_isPart_116 : decode cX5_isPart 116 = .ok (.iaload, 1) := by decide +kernel
theorem dX5_isPart_117 : decode cX5_isPart 117 = .ok (.iadd, 1) := by decide +kernel
theorem dX5_isPart_118 : decode cX5_isPart 118 = .ok (.bipush 48, 2) := by decide +kernel
theorem dX5_isPart_120 : decode cX5_isPart 120 = .ok (.isub, 1) := by decide +kernel
theorem dX5_isPart_121 : decode cX5_isPart 121 = .ok (.iastore, 1) := by decide +kernel
theorem dX5_isPart_122 : decode cX5_isPart 122 = .ok (.aload_n 0, 1) := by decide +kernel
theorem dX5_isPart_123 : decode cX5_isPart 123 = .ok (.getfield 22, 3) := by decide +kernel
theorem dX5_isPart_126 : decode cX5_isPart 126 = .ok (.iconst 3, 1) := by decide +kernel
theorem dX5_isPart_127 : decode cX5_isPart 127 = .ok (.aload_n 0, 1) := by decide +kernel
theorem dX5_isPart_128 : decode cX5_isPart 128 = .ok (.getfield 123, 3) := by decide +kernel
theorem dX5_isPart_131 : decode cX5_isPart 131 = .ok (.imul, 1) := by decide +kernel
theorem dX5_isPart_132 : decode cX5_isPart 132 = .ok (.iconst 2, 1) := by decide +kernel
theorem dX5_isPart_133 : decode cX5_isPart 133 = .ok (.iadd, 1) := by decide +kernel
theorem dX5_isPart_134 : decode cX5_isPart 134 = .ok (.iconst 0, 1) := by decide +kernel
theorem dX5_isPart_135 : decode cX5_isPart 135 = .ok (.iastore, 1) := by decide +kernel
theorem dX5_isPart_136 : decode cX5_isPart 136 = .ok (.aload_n 0, 1) := by decide +kernel
theorem dX5_isPart_137 : decode cX5_isPart 137 = .ok (.dup, 1) := by decide +kernel
theorem dX5_isPart_138 : decode cX5_isPart 138 = .ok (.getfield 113, 3) := by decide +kernel
theorem dX5_isPart_141 : decode cX5_isPart 141 = .ok (.iconst 1, 1) := by decide +kernel
theorem dX5_isPart_142 : decode cX5_isPart 142 = .ok (.iadd, 1) := by decide +kernel
theorem dX5_isPart_143 : decode cX5_isPart 143 = .ok (.putfield 113, 3) := by decide +kernel
theorem dX5_isPart_146 : decode cX5_isPart 146 = .ok (.iload_n 1, 1) := by decide +kernel
theorem dX5_isPart_147 : decode cX5_isPart 147 = .ok (.iconst 1, 1) := by decide +kernel
theorem dX5_isPart_148 : decode cX5_isPart 148 = .ok (.if_icmp .ne 14, 3) := by decide +kernel
theorem dX5_isPart_151 : decode cX5_isPart 151 = .ok (.aload_n 0, 1) := by decide +kernel
theorem dX5_isPart_152 : decode cX5_isPart 152 = .ok (.bipush 33, 2) := by decide +kernel
theorem dX5_isPart_154 : decode cX5_isPart 154 = .ok (.bipush 33, 2) := by decide +kernel
theorem dX5_isPart_156 : decode cX5_isPart 156 = .ok (.invokevirtual 130, 3) := by decide +kernel
theorem dX5_isPart_159 : decode cX5_isPart 159 = .ok (.ifCond .ne 5, 3) := by decide +kernel
theorem dX5_isPart_162 : decode cX5_isPart 162 = .ok (.iconst 1, 1) := by decide +kernel
theorem dX5_isPart_163 : decode cX5_isPart 163 = .ok (.ireturn, 1) := by decide +kernel
theorem dX5_isPart_164 : decode cX5_isPart 164 = .ok (.aload_n 0, 1) := by decide +kernel
theorem dX5_isPart_165 : decode cX5_isPart 165 = .ok (.dup, 1) := by decide +kernel
theorem dX5_isPart_166 : decode cX5_isPart 166 = .ok (.getfield 113, 3) := by decide +kernel
theorem dX5_isPart_169 : decode cX5_isPart 169 = .ok (.iconst 1, 1) := by decide +kernel
theorem dX5_isPart_170 : decode cX5_isPart 170 = .ok (.iadd, 1) := by decide +kernel
theorem dX5_isPart_171 : decode cX5_isPart 171 = .ok (.putfield 113, 3) := by decide +kernel
theorem dX5_isPart_174 : decode cX5_isPart 174 = .ok (.aload_n 0, 1) := by decide +kernel
theorem dX5_isPart_175 : decode cX5_isPart 175 = .ok (.invokevirtual 134, 3) := by decide +kernel
theorem dX5_isPart_178 : decode cX5_isPart 178 = .ok (.ireturn, 1) := by decide +kernel
set_option maxRecDepth 20000 in
theorem ggX5_isText_X5_isPart : GoodIn wsX5_isText wsX5_isPart := goodIn_r _ [9, 1, 10, 11, 2, 12, 13, 14, 8, 15, 4, 16, 17, 18, 19, 3, 20, 21, 22, 23, 24, 25, 26, 27, 28, 29, 30, 31, 32, 33, 34, 35, 36, 37, 38, 39, 40, 41, 42] (by decide +kernel) (by decide +kernel)
set_option maxRecDepth 20000 in
theorem gX5_isText_X5_isPart : GoodIn wsX5_isText (wsV RX5 137 RX5 yX5_isPart wsX5_isPart) := goodIn_app (goodIn_of _ (by decide +kernel)) ggX5_isText_X5_isPart
set_option maxRecDepth 20000 in
theorem ggX5_isText_X5_isAt : GoodIn wsX5_isText wsX5_isAt := goodIn_r _ [23, 1, 4, 10, 24, 25, 8, 26, 31, 32, 33, 34, 35, 36, 37, 38, 39, 40, 41, 42] (by decide +kernel) (by decide +kernel)
set_option maxRecDepth 20000 in
theorem gX5_isText_X5_isAt : GoodIn wsX5_isText (wsV RX5 130 RX5 yX5_isAt wsX5_isAt) := goodIn_app (goodIn_of _ (by decide +kernel)) ggX5_isText_X5_isAt
theorem dX5_isText_0 : decode cX5_isText 0 = .ok (.aload_n 0, 1) := by decide +kernel
theorem dX5_isText_1 : decode cX5_isText 1 = .ok (.iconst 0, 1) := by decide +kernel
theorem dX5_isText_2 : decode cX5_isText 2 = .ok (.putfield 113, 3) := by decide +kernel
theorem dX5_isText_5 : decode cX5_isText 5 = .ok (.aload_n 0, 1) := by decide +kernel
theorem dX5_isText_6 : decode cX5_isText 6 = .ok (.iconst 0, 1) := by decide +kernel
theorem dX5_isText_7 : decode cX5_isText 7 = .ok (.putfield 123, 3) := by decide +kernel
theorem dX5_isText_10 : decode cX5_isText 10 = .ok (.aload_n 0, 1) := by decide +kernel
theorem dX5_isText_11 : decode cX5_isText 11 = .ok (.iconst 0, 1) := by decide +kernel
theorem dX5_isText_12 : decode cX5_isText 12 = .ok (.putfield 116, 3) := by decide +kernel
theorem dX5_isText_15 : decode cX5_isText 15 = .ok (.iconst 1, 1) := by decide +kernel
theorem dX5_isText_16 : decode cX5_isText 16 = .ok (.istore_n 1, 1) := by decide +kernel
theorem dX5_isText_17 : decode cX5_isText 17 = .ok (.iload_n 1, 1) := by decide +kernel
theorem dX5_isText_18 : decode cX5_isText 18 = .ok (.ifCond .eq 52, 3) := by decide +kernel
theorem dX5_isText_21 : decode cX5_isText 21 = .ok (.aload_n 0, 1) := by decide +kernel
theorem dX5_isText_22 : decode cX5_isText 22 = .ok (.invokevirtual 137, 3) := by decide +kernel
theorem dX5_isText_25 : decode cX5_isText 25 = .ok (.ifCond .ne 5, 3) := by decide +kernel
theorem dX5_isText_28 : decode cX5_isText 28 = .ok (.iconst 0, 1) := by decide +kernel
theorem dX5_isText_29 : decode cX5_isText 29 = .ok (.ireturn, 1) := by decide +kernel
theorem dX5_isText_30 : decode cX5_isText 30 = .ok (.aload_n 0, 1) := by decide +kernel
theorem dX5_isText_31 : decode cX5_isText 31 = .ok (.dup, 1) := by decide +kernel
theorem dX5_isText_32 : decode cX5_isText 32 = .ok (.getfield 123, 3) := by decide +kernel
theorem dX5_isText_35 : decode cX5_isText 35 = .ok (.iconst 1, 1) := by decide +kernel
theorem dX5_isText_36 : decode cX5_isText 36 = .ok (.iadd, 1) := by decide +kernel
theorem dX5_isText_37 : decode cX5_isText 37 = .ok (.putfield 123, 3) := by decide +kernel
theorem dX5_isText_40 : decode cX5_isText 40 = .ok (.aload_n 0, 1) := by decide +kernel
theorem dX5_isText_41 : decode cX5_isText 41 = .ok (.bipush 59, 2) := by decide +kernel
theorem dX5_isText_43 : decode cX5_isText 43 = .ok (.bipush 59, 2) := by decide +kernel
theorem dX5_isText_45 : decode cX5_isText 45 = .ok (.invokevirtual 130, 3) := by decide +kernel
theorem dX5_isText_48 : decode cX5_isText 48 = .ok (.istore_n 1, 1) := by decide +kernel
theorem dX5_isText_49 : decode cX5_isText 49 = .ok (.aload_n 0, 1) := by decide +kernel
theorem dX5_isText_50 : decode cX5_isText 50 = .ok (.dup, 1) := by decide +kernel
theorem dX5_isText_51 : decode cX5_isText 51 = .ok (.getfield 113, 3) := by decide +kernel
theorem dX5_isText_54 : decode cX5_isText 54 = .ok (.iload_n 1, 1) := by decide +kernel
theorem dX5_isText_55 : decode cX5_isText 55 = .ok (.ifCond .eq 7, 3) := by decide +kernel
theorem dX5_isText_58 : decode cX5_isText 58 = .ok (.iconst 1, 1) := by decide +kernel
theorem dX5_isText_59 : decode cX5_isText 59 = .ok (.goto 4, 3) := by decide +kernel
theorem dX5_isText_62 : decode cX5_isText 62 = .ok (.iconst 0, 1) := by decide +kernel
theorem dX5_isText_63 : decode cX5_isText 63 = .ok (.iadd, 1) := by decide +kernel
theorem dX5_isText_64 : decode cX5_isText 64 = .ok (.putfield 113, 3) := by decide +kernel
theorem dX5_isText_67 : decode cX5_isText 67 = .ok (.goto (-50), 3) := by decide +kernel
theorem dX5_isText_70 : decode cX5_isText 70 = .ok (.aload_n 0, 1) := by decide +kernel
theorem dX5_isText_71 : decode cX5_isText 71 = .ok (.aload_n 0, 1) := by decide +kernel
theorem dX5_isText_72 : decode cX5_isText 72 = .ok (.getfield 113, 3) := by decide +kernel
theorem dX5_isText_75 : decode cX5_isText 75 = .ok (.aload_n 0, 1) := by decide +kernel
theorem dX5_isText_76 : decode cX5_isText 76 = .ok (.getfield 110, 3) := by decide +kernel
theorem dX5_isText_79 : decode cX5_isText 79 = .ok (.if_icmp .ge 7, 3) := by decide +kernel
theorem dX5_isText_82 : decode cX5_isText 82 = .ok (.iconst 1, 1) := by decide +kernel
theorem dX5_isText_83 : decode cX5_isText 83 = .ok (.goto 4, 3) := by decide +kernel
theorem dX5_isText_86 : decode cX5_isText 86 = .ok (.iconst 0, 1) := by decide +kernel
theorem dX5_isText_87 : decode cX5_isText 87 = .ok (.putfield 116, 3) := by decide +kernel
theorem dX5_isText_90 : decode cX5_isText 90 = .ok (.aload_n 0, 1) := by decide +kernel
theorem dX5_isText_91 : decode cX5_isText 91 = .ok (.getfield 113, 3) := by decide +kernel
theorem dX5_isText_94 : decode cX5_isText 94 = .ok (.aload_n 0, 1) := by decide +kernel
theorem dX5_isText_95 : decode cX5_isText 95 = .ok (.getfield 110, 3) := by decide +kernel
theorem dX5_isText_98 : decode cX5_isText 98 = .ok (.if_icmp .ne 7, 3) := by decide +kernel
theorem dX5_isText_101 : decode cX5_isText 101 = .ok (.iconst 1, 1) := by decide +kernel
theorem dX5_isText_102 : decode cX5_isText 102 = .ok (.goto 4, 3) := by decide +kernel
theorem dX5_isText_105 : decode cX5_isText 105 = .ok (.iconst 0, 1) := by decide +kernel
theorem dX5_isText_106 : decode cX5_isText 106 = .ok (.ireturn, 1) := by decide +kernel
set_option maxRecDepth 20000 in
theorem ggX5_firstError_X5_isText : GoodIn wsX5_firstError wsX5_isText := goodIn_r _ [9, 3, 10, 2, 4, 11, 12, 13, 8, 14, 15, 16, 17, 18, 19, 20, 21, 22, 23, 24, 25, 26, 27, 28, 29, 30, 31, 32, 33, 34, 35, 36, 37, 38, 39, 40, 41, 42, 43, 44, 45, 46, 47] (by decide +kernel) (by decide +kernel)
set_option maxRecDepth 20000 in
theorem gX5_firstError_X5_isText : GoodIn wsX5_firstError (wsV RX5 140 RX5 yX5_isText wsX5_isText) := goodIn_app (goodIn_of _ (by decide +kernel)) ggX5_firstError_X5_isText
theorem dX5_firstError_0 : decode cX5_firstError 0 = .ok (.aload_n 0, 1) := by decide +kernel
theorem dX5_firstError_1 : decode cX5_firstError 1 = .ok (.iconst 0, 1) := by decide +kernel
theorem dX5_firstError_2 : decode cX5_firstError 2 = .ok (.putfield 28, 3) := by decide +kernel
theorem dX5_firstError_5 : decode cX5_firstError 5 = .ok (.aload_n 0, 1) := by decide +kernel
theorem dX5_firstError_6 : decode cX5_firstError 6 = .ok (.invokevirtual 140, 3) := by decide +kernel
theorem dX5_firstError_9 : decode cX5_firstError 9 = .ok (.istore_n 1, 1) := by decide +kernel
theorem dX5_firstError_10 : decode cX5_firstError 10 = .ok (.iload_n 1, 1) := by decide +kernel
theorem dX5_firstError_11 : decode cX5_firstError 11 = .ok (.ifCond .ne 17, 3) := by decide +kernel
theorem dX5_firstError_14 : decode cX5_firstError 14 = .ok (.aload_n 0, 1) := by decide +kernel
theorem dX5_firstError_15 : decode cX5_firstError 15 = .ok (.getfield 116, 3) := by decide +kernel
theorem dX5_firstError_18 : decode cX5_firstError 18 = .ok (.ifCond .eq 10, 3) := by decide +kernel
theorem dX5_firstError_21 : decode cX5_firstError 21 = .ok (.aload_n 0, 1) := by decide +kernel
theorem dX5_firstError_22 : decode cX5_firstError 22 = .ok (.getfield 113, 3) := by decide +kernel
theorem dX5_firstError_25 : decode cX5_firstError 25 = .ok (.goto 7, 3) := by decide +kernel
theorem dX5_firstError_28 : decode cX5_firstError 28 = .ok (.aload_n 0, 1) := by decide +kernel
theorem dX5_firstError_29 : decode cX5_firstError 29 = .ok (.getfield 110, 3) := by decide +kernel
theorem dX5_firstError_32 : decode cX5_firstError 32 = .ok (.ireturn, 1) := by decide +kernel
set_option maxRecDepth 20000 in
theorem ggX5_putAll_X5_isText : GoodIn wsX5_putAll wsX5_isText := goodIn_r _ [10, 11, 3, 12, 4, 13, 14, 15, 9, 16, 17, 5, 18, 19, 20, 21, 22, 23, 24, 25, 26, 27, 28, 29, 30, 31, 32, 33, 34, 35, 36, 53, 54, 55, 56, 57, 58, 59, 60, 61, 62, 63, 64] (by decide +kernel) (by decide +kernel)
set_option maxRecDepth 20000 in
theorem gX5_putAll_X5_isText : GoodIn wsX5_putAll (wsV RX5 140 RX5 yX5_isText wsX5_isText) := goodIn_app (goodIn_of _ (by decide +kernel)) ggX5_putAll_X5_isText
set_option maxRecDepth 20000 in
theorem ggX5_putAll_X5_fails : GoodIn wsX5_putAll wsX5_fails := goodIn_r _ [40, 1, 53, 54, 55, 56, 57, 58, 59, 60, 61, 62, 63, 64] (by decide +kernel) (by decide +kernel)
set_option maxRecDepth 20000 in
theorem gX5_putAll_X5_fails : GoodIn wsX5_putAll (wsV RX5 43 RX5 yX5_fails wsX5_fails) := goodIn_app (goodIn_of _ (by decide +kernel)) ggX5_putAll_X5_fails
set_option maxRecDepth 20000 in
theorem ggX5_putAll_X5_saves : GoodIn wsX5_putAll wsX5_saves := goodIn_r _ [44, 45, 46, 2, 47, 48, 9, 49, 53, 54, 55, 56, 57, 58, 59, 60, 61, 62, 63, 64] (by decide +kernel) (by decide +kernel)
set_option maxRecDepth 20000 in
theorem gX5_putAll_X5_saves : GoodIn wsX5_putAll (wsV RX5 90 RX5 yX5_saves wsX5_saves) := goodIn_app (goodIn_of _ (by decide +kernel)) ggX5_putAll_X5_saves
set_option maxRecDepth 20000 in
theorem ggX5_putAll_X5_puts : GoodIn wsX5_putAll wsX5_puts := goodIn_r _ [52] (by decide +kernel) (by decide +kernel)
set_option maxRecDepth 20000 in
theorem gX5_putAll_X5_puts : GoodIn wsX5_putAll (va_wsS RX5 72 yX5_puts wsX5_puts) := goodIn_app (goodIn_of _ (by decide +kernel)) ggX5_putAll_X5_puts
theorem dX5_putAll_0 : decode cX5_putAll 0 = .ok (.aload_n 0, 1) := by decide +kernel
theorem dX5_putAll_1 : decode cX5_putAll 1 = .ok (.iconst 0, 1) := by decide +kernel
theorem dX5_putAll_2 : decode cX5_putAll 2 = .ok (.putfield 28, 3) := by decide +kernel
theorem dX5_putAll_5 : decode cX5_putAll 5 = .ok (.aload_n 0, 1) := by decide +kernel
theorem dX5_putAll_6 : decode cX5_putAll 6 = .ok (.invokevirtual 140, 3) := by decide +kernel
theorem dX5_putAll_9 : decode cX5_putAll 9 = .ok (.ifCond .ne 9, 3) := by decide +kernel
theorem dX5_putAll_12 : decode cX5_putAll 12 = .ok (.aload_n 0, 1) := by decide +kernel
theorem dX5_putAll_13 : decode cX5_putAll 13 = .ok (.iconst 1, 1) := by decide +kernel
theorem dX5_putAll_14 : decode cX5_putAll 14 = .ok (.invokevirtual 43, 3) := by decide +kernel
theorem dX5_putAll_17 : decode cX5_putAll 17 = .ok (.ireturn, 1) := by decide +kernel
theorem dX5_putAll_18 : decode cX5_putAll 18 = .ok (.aload_n 0, 1) := by decide +kernel
theorem dX5_putAll_19 : decode cX5_putAll 19 = .ok (.getfield 7, 3) := by decide +kernel
theorem dX5_putAll_22 : decode cX5_putAll 22 = .ok (.iconst 4, 1) := by decide +kernel
theorem dX5_putAll_23 : decode cX5_putAll 23 = .ok (.iaload, 1) := by decide +kernel
theorem dX5_putAll_24 : decode cX5_putAll 24 = .ok (.aload_n 0, 1) := by decide +kernel
theorem dX5_putAll_25 : decode cX5_putAll 25 = .ok (.getfield 123, 3) := by decide +kernel
theorem dX5_putAll_28 : decode cX5_putAll 28 = .ok (.iadd, 1) := by decide +kernel
theorem dX5_putAll_29 : decode cX5_putAll 29 = .ok (.bipush 12, 2) := by decide +kernel
theorem dX5_putAll_31 : decode cX5_putAll 31 = .ok (.if_icmp .le 9, 3) := by decide +kernel
theorem dX5_putAll_34 : decode cX5_putAll 34 = .ok (.aload_n 0, 1) := by decide +kernel
theorem dX5_putAll_35 : decode cX5_putAll 35 = .ok (.iconst 2, 1) := by decide +kernel
theorem dX5_putAll_36 : decode cX5_putAll 36 = .ok (.invokevirtual 43, 3) := by decide +kernel
theorem dX5_putAll_39 : decode cX5_putAll 39 = .ok (.ireturn, 1) := by decide +kernel
theorem dX5_putAll_40 : decode cX5_putAll 40 = .ok (.aload_n 0, 1) := by decide +kernel
theorem dX5_putAll_41 : decode cX5_putAll 41 = .ok (.invokevirtual 90, 3) := by decide +kernel
theorem dX5_putAll_44 : decode cX5_putAll 44 = .ok (.aload_n 0, 1) := by decide +kernel
theorem dX5_putAll_45 : decode cX5_putAll 45 = .ok (.iconst 0, 1) := by decide +kernel
theorem dX5_putAll_46 : decode cX5_putAll 46 = .ok (.putfield 110, 3) := by decide +kernel
theorem dX5_putAll_49 : decode cX5_putAll 49 = .ok (.iconst 0, 1) := by decide +kernel
theorem dX5_putAll_50 : decode cX5_putAll 50 = .ok (.istore_n 1, 1) := by decide +kernel
theorem dX5_putAll_51 : decode cX5_putAll 51 = .ok (.iload_n 1, 1) := by decide +kernel
theorem dX5_putAll_52 : decode cX5_putAll 52 = .ok (.aload_n 0, 1) := by decide +kernel
theorem dX5_putAll_53 : decode cX5_putAll 53 = .ok (.getfield 123, 3) := by decide +kernel
theorem dX5_putAll_56 : decode cX5_putAll 56 = .ok (.if_icmp .ge 51, 3) := by decide +kernel
theorem dX5_putAll_59 : decode cX5_putAll 59 = .ok (.aload_n 0, 1) := by decide +kernel
theorem dX5_putAll_60 : decode cX5_putAll 60 = .ok (.getfield 7, 3) := by decide +kernel
theorem dX5_putAll_63 : decode cX5_putAll 63 = .ok (.aload_n 0, 1) := by decide +kernel
theorem dX5_putAll_64 : decode cX5_putAll 64 = .ok (.getfield 7, 3) := by decide +kernel
theorem dX5_putAll_67 : decode cX5_putAll 67 = .ok (.iconst 4, 1) := by decide +kernel
theorem dX5_putAll_68 : decode cX5_putAll 68 = .ok (.iaload, 1) := by decide +kernel
theorem dX5_putAll_69 : decode cX5_putAll 69 = .ok (.aload_n 0, 1) := by decide +kernel
theorem dX5_putAll_70 : decode cX5_putAll 70 = .ok (.getfield 22, 3) := by decide +kernel
theorem dX5_putAll_73 : decode cX5_putAll 73 = .ok (.iconst 3, 1) := by decide +kernel
theorem dX5_putAll_74 : decode cX5_putAll 74 = .ok (.iload_n 1, 1) := by decide +kernel
theorem dX5_putAll_75 : decode cX5_putAll 75 = .ok (.imul, 1) := by decide +kernel
theorem dX5_putAll_76 : decode cX5_putAll 76 = .ok (.iaload, 1) := by decide +kernel
theorem dX5_putAll_77 : decode cX5_putAll 77 = .ok (.aload_n 0, 1) := by decide +kernel
theorem dX5_putAll_78 : decode cX5_putAll 78 = .ok (.getfield 22, 3) := by decide +kernel
theorem dX5_putAll_81 : decode cX5_putAll 81 = .ok (.iconst 3, 1) := by decide +kernel
theorem dX5_putAll_82 : decode cX5_putAll 82 = .ok (.iload_n 1, 1) := by decide +kernel
theorem dX5_putAll_83 : decode cX5_putAll 83 = .ok (.imul, 1) := by decide +kernel
theorem dX5_putAll_84 : decode cX5_putAll 84 = .ok (.iconst 1, 1) := by decide +kernel
theorem dX5_putAll_85 : decode cX5_putAll 85 = .ok (.iadd, 1) := by decide +kernel
theorem dX5_putAll_86 : decode cX5_putAll 86 = .ok (.iaload, 1) := by decide +kernel
theorem dX5_putAll_87 : decode cX5_putAll 87 = .ok (.aload_n 0, 1) := by decide +kernel
theorem dX5_putAll_88 : decode cX5_putAll 88 = .ok (.getfield 22, 3) := by decide +kernel
theorem dX5_putAll_91 : decode cX5_putAll 91 = .ok (.iconst 3, 1) := by decide +kernel
theorem dX5_putAll_92 : decode cX5_putAll 92 = .ok (.iload_n 1, 1) := by decide +kernel
theorem dX5_putAll_93 : decode cX5_putAll 93 = .ok (.imul, 1) := by decide +kernel
theorem dX5_putAll_94 : decode cX5_putAll 94 = .ok (.iconst 2, 1) := by decide +kernel
theorem dX5_putAll_95 : decode cX5_putAll 95 = .ok (.iadd, 1) := by decide +kernel
theorem dX5_putAll_96 : decode cX5_putAll 96 = .ok (.iaload, 1) := by decide +kernel
theorem dX5_putAll_97 : decode cX5_putAll 97 = .ok (.iconst 0, 1) := by decide +kernel
theorem dX5_putAll_98 : decode cX5_putAll 98 = .ok (.invokestatic 72, 3) := by decide +kernel
theorem dX5_putAll_101 : decode cX5_putAll 101 = .ok (.iinc 1 1, 3) := by decide +kernel
theorem dX5_putAll_104 : decode cX5_putAll 104 = .ok (.goto (-53), 3) := by decide +kernel
theorem dX5_putAll_107 : decode cX5_putAll 107 = .ok (.aload_n 0, 1) := by decide +kernel
theorem dX5_putAll_108 : decode cX5_putAll 108 = .ok (.getfield 7, 3) := by decide +kernel
theorem dX5_putAll_111 : decode cX5_putAll 111 = .ok (.iconst 4, 1) := by decide +kernel
theorem dX5_putAll_112 : decode cX5_putAll 112 = .ok (.iaload, 1) := by decide +kernel
theorem dX5_putAll_113 : decode cX5_putAll 113 = .ok (.ireturn, 1) := by decide +kernel
set_option maxRecDepth 20000 in
theorem ggX5_bridgesOf_X5_isLowered : GoodIn wsX5_bridgesOf wsX5_isLowered := goodIn_r _ [5, 6, 7, 4, 8, 9, 10, 11] (by decide +kernel) (by decide +kernel)
set_option maxRecDepth 20000 in
theorem gX5_bridgesOf_X5_isLowered : GoodIn wsX5_bridgesOf (va_wsS RX5 61 yX5_isLowered wsX5_isLowered) := goodIn_app (goodIn_of _ (by decide +kernel)) ggX5_bridgesOf_X5_isLowered
theorem dX5_bridgesOf_0 : decode cX5_bridgesOf 0 = .ok (.iconst 0, 1) := by decide +kernel
theorem dX5_bridgesOf_1 : decode cX5_bridgesOf 1 = .ok (.istore_n 2, 1) := by decide +kernel
theorem dX5_bridgesOf_2 : decode cX5_bridgesOf 2 = .ok (.iconst 0, 1) := by decide +kernel
theorem dX5_bridgesOf_3 : decode cX5_bridgesOf 3 = .ok (.istore_n 3, 1) := by decide +kernel
theorem dX5_bridgesOf_4 : decode cX5_bridgesOf 4 = .ok (.iload_n 3, 1) := by decide +kernel
theorem dX5_bridgesOf_5 : decode cX5_bridgesOf 5 = .ok (.aload_n 0, 1) := by decide +kernel
theorem dX5_bridgesOf_6 : decode cX5_bridgesOf 6 = .ok (.getfield 7, 3) := by decide +kernel
theorem dX5_bridgesOf_9 : decode cX5_bridgesOf 9 = .ok (.iconst 5, 1) := by decide +kernel
theorem dX5_bridgesOf_10 : decode cX5_bridgesOf 10 = .ok (.iaload, 1) := by decide +kernel
theorem dX5_bridgesOf_11 : decode cX5_bridgesOf 11 = .ok (.if_icmp .ge 29, 3) := by decide +kernel
theorem dX5_bridgesOf_14 : decode cX5_bridgesOf 14 = .ok (.iload_n 2, 1) := by decide +kernel
theorem dX5_bridgesOf_15 : decode cX5_bridgesOf 15 = .ok (.aload_n 0, 1) := by decide +kernel
theorem dX5_bridgesOf_16 : decode cX5_bridgesOf 16 = .ok (.getfield 7, 3) := by decide +kernel
theorem dX5_bridgesOf_19 : decode cX5_bridgesOf 19 = .ok (.iload_n 1, 1) := by decide +kernel
theorem dX5_bridgesOf_20 : decode cX5_bridgesOf 20 = .ok (.iload_n 3, 1) := by decide +kernel
theorem dX5_bridgesOf_21 : decode cX5_bridgesOf 21 = .ok (.invokestatic 61, 3) := by decide +kernel
theorem dX5_bridgesOf_24 : decode cX5_bridgesOf 24 = .ok (.ifCond .eq 7, 3) := by decide +kernel
theorem dX5_bridgesOf_27 : decode cX5_bridgesOf 27 = .ok (.iconst 1, 1) := by decide +kernel
theorem dX5_bridgesOf_28 : decode cX5_bridgesOf 28 = .ok (.goto 4, 3) := by decide +kernel
theorem dX5_bridgesOf_31 : decode cX5_bridgesOf 31 = .ok (.iconst 0, 1) := by decide +kernel
theorem dX5_bridgesOf_32 : decode cX5_bridgesOf 32 = .ok (.iadd, 1) := by decide +kernel
theorem dX5_bridgesOf_33 : decode cX5_bridgesOf 33 = .ok (.istore_n 2, 1) := by decide +kernel
theorem dX5_bridgesOf_34 : decode cX5_bridgesOf 34 = .ok (.iinc 3 1, 3) := by decide +kernel
theorem dX5_bridgesOf_37 : decode cX5_bridgesOf 37 = .ok (.goto (-33), 3) := by decide +kernel
theorem dX5_bridgesOf_40 : decode cX5_bridgesOf 40 = .ok (.iload_n 2, 1) := by decide +kernel
theorem dX5_bridgesOf_41 : decode cX5_bridgesOf 41 = .ok (.ireturn, 1) := by decide +kernel
set_option maxRecDepth 20000 in
theorem ggX5_ofFloat_X5_of : GoodIn wsX5_ofFloat wsX5_of := goodIn_r _ [5] (by decide +kernel) (by decide +kernel)
set_option maxRecDepth 20000 in
theorem gX5_ofFloat_X5_of : GoodIn wsX5_ofFloat (va_wsS RX5 47 yX5_of wsX5_of) := goodIn_app (goodIn_of _ (by decide +kernel)) ggX5_ofFloat_X5_of
set_option maxRecDepth 20000 in
theorem ggX5_ofFloat_X5_high : GoodIn wsX5_ofFloat wsX5_high := goodIn_r _ [8, 2, 3, 4, 5] (by decide +kernel) (by decide +kernel)
set_option maxRecDepth 20000 in
theorem gX5_ofFloat_X5_high : GoodIn wsX5_ofFloat (va_wsS RX5 58 yX5_high wsX5_high) := goodIn_app (goodIn_of _ (by decide +kernel)) ggX5_ofFloat_X5_high
set_option maxRecDepth 20000 in
theorem ggX5_ofFloat_X5_bridgesOf : GoodIn wsX5_ofFloat wsX5_bridgesOf := goodIn_r _ [12, 1, 13, 14, 4, 15, 6, 7, 8, 2, 3, 5, 22, 23, 24, 25, 26, 27, 28, 29, 30, 31, 32, 33] (by decide +kernel) (by decide +kernel)
set_option maxRecDepth 20000 in
theorem gX5_ofFloat_X5_bridgesOf : GoodIn wsX5_ofFloat (wsV RX5 143 RX5 yX5_bridgesOf wsX5_bridgesOf) := goodIn_app (goodIn_of _ (by decide +kernel)) ggX5_ofFloat_X5_bridgesOf
set_option maxRecDepth 20000 in
theorem ggX5_ofFloat_X5_troubles : GoodIn wsX5_ofFloat wsX5_troubles := goodIn_r _ [18, 19, 20, 4, 21, 2, 3, 5] (by decide +kernel) (by decide +kernel)
set_option maxRecDepth 20000 in
theorem gX5_ofFloat_X5_troubles : GoodIn wsX5_ofFloat (va_wsS RX5 54 yX5_troubles wsX5_troubles) := goodIn_app (goodIn_of _ (by decide +kernel)) ggX5_ofFloat_X5_troubles
theorem dX5_ofFloat_0 : decode cX5_ofFloat 0 = .ok (.iload_n 2, 1) := by decide +kernel
theorem dX5_ofFloat_1 : decode cX5_ofFloat 1 = .ok (.iconst 4, 1) := by decide +kernel
theorem dX5_ofFloat_2 : decode cX5_ofFloat 2 = .ok (.if_icmp .ge 15, 3) := by decide +kernel
theorem dX5_ofFloat_5 : decode cX5_ofFloat 5 = .ok (.aload_n 0, 1) := by decide +kernel
theorem dX5_ofFloat_6 : decode cX5_ofFloat 6 = .ok (.getfield 7, 3) := by decide +kernel
theorem dX5_ofFloat_9 : decode cX5_ofFloat 9 = .ok (.iload_n 1, 1) := by decide +kernel
theorem dX5_ofFloat_10 : decode cX5_ofFloat 10 = .ok (.iload_n 2, 1) := by decide +kernel
theorem dX5_ofFloat_11 : decode cX5_ofFloat 11 = .ok (.invokestatic 47, 3) := by decide +kernel
theorem dX5_ofFloat_14 : decode cX5_ofFloat 14 = .ok (.goto 40, 3) := by decide +kernel
theorem dX5_ofFloat_17 : decode cX5_ofFloat 17 = .ok (.iload_n 2, 1) := by decide +kernel
theorem dX5_ofFloat_18 : decode cX5_ofFloat 18 = .ok (.iconst 4, 1) := by decide +kernel
theorem dX5_ofFloat_19 : decode cX5_ofFloat 19 = .ok (.if_icmp .ne 14, 3) := by decide +kernel
theorem dX5_ofFloat_22 : decode cX5_ofFloat 22 = .ok (.aload_n 0, 1) := by decide +kernel
theorem dX5_ofFloat_23 : decode cX5_ofFloat 23 = .ok (.getfield 7, 3) := by decide +kernel
theorem dX5_ofFloat_26 : decode cX5_ofFloat 26 = .ok (.iload_n 1, 1) := by decide +kernel
theorem dX5_ofFloat_27 : decode cX5_ofFloat 27 = .ok (.invokestatic 58, 3) := by decide +kernel
theorem dX5_ofFloat_30 : decode cX5_ofFloat 30 = .ok (.goto 24, 3) := by decide +kernel
theorem dX5_ofFloat_33 : decode cX5_ofFloat 33 = .ok (.iload_n 2, 1) := by decide +kernel
theorem dX5_ofFloat_34 : decode cX5_ofFloat 34 = .ok (.iconst 5, 1) := by decide +kernel
theorem dX5_ofFloat_35 : decode cX5_ofFloat 35 = .ok (.if_icmp .ne 11, 3) := by decide +kernel
theorem dX5_ofFloat_38 : decode cX5_ofFloat 38 = .ok (.aload_n 0, 1) := by decide +kernel
theorem dX5_ofFloat_39 : decode cX5_ofFloat 39 = .ok (.iload_n 1, 1) := by decide +kernel
theorem dX5_ofFloat_40 : decode cX5_ofFloat 40 = .ok (.invokevirtual 143, 3) := by decide +kernel
theorem dX5_ofFloat_43 : decode cX5_ofFloat 43 = .ok (.goto 11, 3) := by decide +kernel
theorem dX5_ofFloat_46 : decode cX5_ofFloat 46 = .ok (.aload_n 0, 1) := by decide +kernel
theorem dX5_ofFloat_47 : decode cX5_ofFloat 47 = .ok (.getfield 7, 3) := by decide +kernel
theorem dX5_ofFloat_50 : decode cX5_ofFloat 50 = .ok (.iload_n 1, 1) := by decide +kernel
theorem dX5_ofFloat_51 : decode cX5_ofFloat 51 = .ok (.invokestatic 54, 3) := by decide +kernel
theorem dX5_ofFloat_54 : decode cX5_ofFloat 54 = .ok (.ireturn, 1) := by decide +kernel
set_option maxRecDepth 20000 in
theorem ggX5_floatAt_X5_isFloat : GoodIn wsX5_floatAt wsX5_isFloat := goodIn_r _ [6, 7, 8, 9, 5, 10, 38, 39, 40, 41, 42, 43, 44, 45, 46, 47, 48, 49] (by decide +kernel) (by decide +kernel)
set_option maxRecDepth 20000 in
theorem gX5_floatAt_X5_isFloat : GoodIn wsX5_floatAt (wsV RX5 93 RX5 yX5_isFloat wsX5_isFloat) := goodIn_app (goodIn_of _ (by decide +kernel)) ggX5_floatAt_X5_isFloat
set_option maxRecDepth 20000 in
theorem ggX5_floatAt_X5_fails : GoodIn wsX5_floatAt wsX5_fails := goodIn_r _ [14, 1, 38, 39, 40, 41, 42, 43, 44, 45, 46, 47, 48, 49] (by decide +kernel) (by decide +kernel)
set_option maxRecDepth 20000 in
theorem gX5_floatAt_X5_fails : GoodIn wsX5_floatAt (wsV RX5 43 RX5 yX5_fails wsX5_fails) := goodIn_app (goodIn_of _ (by decide +kernel)) ggX5_floatAt_X5_fails
set_option maxRecDepth 20000 in
theorem ggX5_floatAt_X5_in : GoodIn wsX5_floatAt wsX5_in := goodIn_r _ [10] (by decide +kernel) (by decide +kernel)
set_option maxRecDepth 20000 in
theorem gX5_floatAt_X5_in : GoodIn wsX5_floatAt (va_wsS RX5 32 yX5_in wsX5_in) := goodIn_app (goodIn_of _ (by decide +kernel)) ggX5_floatAt_X5_in
set_option maxRecDepth 20000 in
theorem ggX5_floatAt_X5_ofFloat : GoodIn wsX5_floatAt wsX5_ofFloat := goodIn_r _ [18, 7, 19, 20, 5, 21, 22, 23, 24, 25, 26, 27, 28, 29, 30, 31, 32, 33, 34, 35, 36, 37, 38, 39, 40, 41, 42, 43, 44, 45, 46, 47, 48, 49] (by decide +kernel) (by decide +kernel)
set_option maxRecDepth 20000 in
theorem gX5_floatAt_X5_ofFloat : GoodIn wsX5_floatAt (wsV RX5 146 RX5 yX5_ofFloat wsX5_ofFloat) := goodIn_app (goodIn_of _ (by decide +kernel)) ggX5_floatAt_X5_ofFloat
theorem dX5_floatAt_0 : decode cX5_floatAt 0 = .ok (.aload_n 0, 1) := by decide +kernel
theorem dX5_floatAt_1 : decode cX5_floatAt 1 = .ok (.iconst 0, 1) := by decide +kernel
theorem dX5_floatAt_2 : decode cX5_floatAt 2 = .ok (.putfield 28, 3) := by decide +kernel
theorem dX5_floatAt_5 : decode cX5_floatAt 5 = .ok (.aload_n 0, 1) := by decide +kernel
theorem dX5_floatAt_6 : decode cX5_floatAt 6 = .ok (.iload_n 1, 1) := by decide +kernel
theorem dX5_floatAt_7 : decode cX5_floatAt 7 = .ok (.invokevirtual 93, 3) := by decide +kernel
theorem dX5_floatAt_10 : decode cX5_floatAt 10 = .ok (.ifCond .ne 9, 3) := by decide +kernel
theorem dX5_floatAt_13 : decode cX5_floatAt 13 = .ok (.aload_n 0, 1) := by decide +kernel
theorem dX5_floatAt_14 : decode cX5_floatAt 14 = .ok (.iconst 1, 1) := by decide +kernel
theorem dX5_floatAt_15 : decode cX5_floatAt 15 = .ok (.invokevirtual 43, 3) := by decide +kernel
theorem dX5_floatAt_18 : decode cX5_floatAt 18 = .ok (.ireturn, 1) := by decide +kernel
theorem dX5_floatAt_19 : decode cX5_floatAt 19 = .ok (.iload_n 2, 1) := by decide +kernel
theorem dX5_floatAt_20 : decode cX5_floatAt 20 = .ok (.iconst 0, 1) := by decide +kernel
theorem dX5_floatAt_21 : decode cX5_floatAt 21 = .ok (.bipush 6, 2) := by decide +kernel
theorem dX5_floatAt_23 : decode cX5_floatAt 23 = .ok (.invokestatic 32, 3) := by decide +kernel
theorem dX5_floatAt_26 : decode cX5_floatAt 26 = .ok (.ifCond .eq 12, 3) := by decide +kernel
theorem dX5_floatAt_29 : decode cX5_floatAt 29 = .ok (.aload_n 0, 1) := by decide +kernel
theorem dX5_floatAt_30 : decode cX5_floatAt 30 = .ok (.iload_n 1, 1) := by decide +kernel
theorem dX5_floatAt_31 : decode cX5_floatAt 31 = .ok (.iload_n 2, 1) := by decide +kernel
theorem dX5_floatAt_32 : decode cX5_floatAt 32 = .ok (.invokevirtual 146, 3) := by decide +kernel
theorem dX5_floatAt_35 : decode cX5_floatAt 35 = .ok (.goto 8, 3) := by decide +kernel
theorem dX5_floatAt_38 : decode cX5_floatAt 38 = .ok (.aload_n 0, 1) := by decide +kernel
theorem dX5_floatAt_39 : decode cX5_floatAt 39 = .ok (.iconst 2, 1) := by decide +kernel
theorem dX5_floatAt_40 : decode cX5_floatAt 40 = .ok (.invokevirtual 43, 3) := by decide +kernel
theorem dX5_floatAt_43 : decode cX5_floatAt 43 = .ok (.ireturn, 1) := by decide +kernel
set_option maxRecDepth 20000 in
theorem ggX5_trouble_X5_isFloat : GoodIn wsX5_trouble wsX5_isFloat := goodIn_r _ [7, 2, 8, 9, 6, 10, 21, 22, 23, 24, 25, 26, 27, 28, 29, 30, 31, 32] (by decide +kernel) (by decide +kernel)
set_option maxRecDepth 20000 in
theorem gX5_trouble_X5_isFloat : GoodIn wsX5_trouble (wsV RX5 93 RX5 yX5_isFloat wsX5_isFloat) := goodIn_app (goodIn_of _ (by decide +kernel)) ggX5_trouble_X5_isFloat
set_option maxRecDepth 20000 in
theorem ggX5_trouble_X5_fails : GoodIn wsX5_trouble wsX5_fails := goodIn_r _ [14, 1, 21, 22, 23, 24, 25, 26, 27, 28, 29, 30, 31, 32] (by decide +kernel) (by decide +kernel)
set_option maxRecDepth 20000 in
theorem gX5_trouble_X5_fails : GoodIn wsX5_trouble (wsV RX5 43 RX5 yX5_fails wsX5_fails) := goodIn_app (goodIn_of _ (by decide +kernel)) ggX5_trouble_X5_fails
set_option maxRecDepth 20000 in
theorem ggX5_trouble_X5_in : GoodIn wsX5_trouble wsX5_in := goodIn_r _ [10] (by decide +kernel) (by decide +kernel)
set_option maxRecDepth 20000 in
theorem gX5_trouble_X5_in : GoodIn wsX5_trouble (va_wsS RX5 32 yX5_in wsX5_in) := goodIn_app (goodIn_of _ (by decide +kernel)) ggX5_trouble_X5_in
set_option maxRecDepth 20000 in
theorem ggX5_trouble_X5_troubled : GoodIn wsX5_trouble wsX5_troubled := goodIn_r _ [17, 18, 19, 6, 20] (by decide +kernel) (by decide +kernel)
set_option maxRecDepth 20000 in
theorem gX5_trouble_X5_troubled : GoodIn wsX5_trouble (va_wsS RX5 51 yX5_troubled wsX5_troubled) := goodIn_app (goodIn_of _ (by decide +kernel)) ggX5_trouble_X5_troubled
theorem dX5_trouble_0 : decode cX5_trouble 0 = .ok (.aload_n 0, 1) := by decide +kernel
theorem dX5_trouble_1 : decode cX5_trouble 1 = .ok (.iconst 0, 1) := by decide +kernel
theorem dX5_trouble_2 : decode cX5_trouble 2 = .ok (.putfield 28, 3) := by decide +kernel
theorem dX5_trouble_5 : decode cX5_trouble 5 = .ok (.aload_n 0, 1) := by decide +kernel
theorem dX5_trouble_6 : decode cX5_trouble 6 = .ok (.iload_n 1, 1) := by decide +kernel
theorem dX5_trouble_7 : decode cX5_trouble 7 = .ok (.invokevirtual 93, 3) := by decide +kernel
theorem dX5_trouble_10 : decode cX5_trouble 10 = .ok (.ifCond .ne 9, 3) := by decide +kernel
theorem dX5_trouble_13 : decode cX5_trouble 13 = .ok (.aload_n 0, 1) := by decide +kernel
theorem dX5_trouble_14 : decode cX5_trouble 14 = .ok (.iconst 1, 1) := by decide +kernel
theorem dX5_trouble_15 : decode cX5_trouble 15 = .ok (.invokevirtual 43, 3) := by decide +kernel
theorem dX5_trouble_18 : decode cX5_trouble 18 = .ok (.ireturn, 1) := by decide +kernel
theorem dX5_trouble_19 : decode cX5_trouble 19 = .ok (.iload_n 2, 1) := by decide +kernel
theorem dX5_trouble_20 : decode cX5_trouble 20 = .ok (.iconst 0, 1) := by decide +kernel
theorem dX5_trouble_21 : decode cX5_trouble 21 = .ok (.iconst 2, 1) := by decide +kernel
theorem dX5_trouble_22 : decode cX5_trouble 22 = .ok (.invokestatic 32, 3) := by decide +kernel
theorem dX5_trouble_25 : decode cX5_trouble 25 = .ok (.ifCond .eq 15, 3) := by decide +kernel
theorem dX5_trouble_28 : decode cX5_trouble 28 = .ok (.aload_n 0, 1) := by decide +kernel
theorem dX5_trouble_29 : decode cX5_trouble 29 = .ok (.getfield 7, 3) := by decide +kernel
theorem dX5_trouble_32 : decode cX5_trouble 32 = .ok (.iload_n 1, 1) := by decide +kernel
theorem dX5_trouble_33 : decode cX5_trouble 33 = .ok (.iload_n 2, 1) := by decide +kernel
theorem dX5_trouble_34 : decode cX5_trouble 34 = .ok (.invokestatic 51, 3) := by decide +kernel
theorem dX5_trouble_37 : decode cX5_trouble 37 = .ok (.goto 8, 3) := by decide +kernel
theorem dX5_trouble_40 : decode cX5_trouble 40 = .ok (.aload_n 0, 1) := by decide +kernel
theorem dX5_trouble_41 : decode cX5_trouble 41 = .ok (.iconst 2, 1) := by decide +kernel
theorem dX5_trouble_42 : decode cX5_trouble 42 = .ok (.invokevirtual 43, 3) := by decide +kernel
theorem dX5_trouble_45 : decode cX5_trouble 45 = .ok (.ireturn, 1) := by decide +kernel
set_option maxRecDepth 20000 in
theorem ggX5_comes_X5_isFloat : GoodIn wsX5_comes wsX5_isFloat := goodIn_r _ [8, 2, 9, 10, 7, 11, 37, 38, 39, 40, 41, 42, 43, 44, 45, 46, 47, 48] (by decide +kernel) (by decide +kernel)
set_option maxRecDepth 20000 in
theorem gX5_comes_X5_isFloat : GoodIn wsX5_comes (wsV RX5 93 RX5 yX5_isFloat wsX5_isFloat) := goodIn_app (goodIn_of _ (by decide +kernel)) ggX5_comes_X5_isFloat
set_option maxRecDepth 20000 in
theorem ggX5_comes_X5_isBridge : GoodIn wsX5_comes wsX5_isBridge := goodIn_r _ [15, 2, 9, 10, 7, 11, 37, 38, 39, 40, 41, 42, 43, 44, 45, 46, 47, 48] (by decide +kernel) (by decide +kernel)
set_option maxRecDepth 20000 in
theorem gX5_comes_X5_isBridge : GoodIn wsX5_comes (wsV RX5 107 RX5 yX5_isBridge wsX5_isBridge) := goodIn_app (goodIn_of _ (by decide +kernel)) ggX5_comes_X5_isBridge
set_option maxRecDepth 20000 in
theorem ggX5_comes_X5_fails : GoodIn wsX5_comes wsX5_fails := goodIn_r _ [19, 1, 37, 38, 39, 40, 41, 42, 43, 44, 45, 46, 47, 48] (by decide +kernel) (by decide +kernel)
set_option maxRecDepth 20000 in
theorem gX5_comes_X5_fails : GoodIn wsX5_comes (wsV RX5 43 RX5 yX5_fails wsX5_fails) := goodIn_app (goodIn_of _ (by decide +kernel)) ggX5_comes_X5_fails
set_option maxRecDepth 20000 in
theorem ggX5_comes_X5_ends : GoodIn wsX5_comes wsX5_ends := goodIn_r _ [23, 24, 25, 26, 7, 27, 3, 28, 29, 30, 31, 32, 33, 34, 35, 36, 37, 38, 39, 40, 41, 42, 43, 44, 45, 46, 47, 48] (by decide +kernel) (by decide +kernel)
set_option maxRecDepth 20000 in
theorem gX5_comes_X5_ends : GoodIn wsX5_comes (wsV RX5 80 RX5 yX5_ends wsX5_ends) := goodIn_app (goodIn_of _ (by decide +kernel)) ggX5_comes_X5_ends
theorem dX5_comes_0 : decode cX5_comes 0 = .ok (.aload_n 0, 1) := by decide +kernel
theorem dX5_comes_1 : decode cX5_comes 1 = .ok (.iconst 0, 1) := by decide +kernel
theorem dX5_comes_2 : decode cX5_comes 2 = .ok (.putfield 28, 3) := by decide +kernel
theorem dX5_comes_5 : decode cX5_comes 5 = .ok (.aload_n 0, 1) := by decide +kernel
theorem dX5_comes_6 : decode cX5_comes 6 = .ok (.iload_n 1, 1) := by decide +kernel
theorem dX5_comes_7 : decode cX5_comes 7 = .ok (.invokevirtual 93, 3) := by decide +kernel
theorem dX5_comes_10 : decode cX5_comes 10 = .ok (.ifCond .eq 16, 3) := by decide +kernel
theorem dX5_comes_13 : decode cX5_comes 13 = .ok (.iload_n 2, 1) := by decide +kernel
theorem dX5_comes_14 : decode cX5_comes 14 = .ok (.iconst (-1), 1) := by decide +kernel
theorem dX5_comes_15 : decode cX5_comes 15 = .ok (.if_icmp .eq 17, 3) := by decide +kernel
theorem dX5_comes_18 : decode cX5_comes 18 = .ok (.aload_n 0, 1) := by decide +kernel
theorem dX5_comes_19 : decode cX5_comes 19 = .ok (.iload_n 2, 1) := by decide +kernel
theorem dX5_comes_20 : decode cX5_comes 20 = .ok (.invokevirtual 107, 3) := by decide +kernel
theorem dX5_comes_23 : decode cX5_comes 23 = .ok (.ifCond .ne 9, 3) := by decide +kernel
theorem dX5_comes_26 : decode cX5_comes 26 = .ok (.aload_n 0, 1) := by decide +kernel
theorem dX5_comes_27 : decode cX5_comes 27 = .ok (.iconst 1, 1) := by decide +kernel
theorem dX5_comes_28 : decode cX5_comes 28 = .ok (.invokevirtual 43, 3) := by decide +kernel
theorem dX5_comes_31 : decode cX5_comes 31 = .ok (.ireturn, 1) := by decide +kernel
theorem dX5_comes_32 : decode cX5_comes 32 = .ok (.aload_n 0, 1) := by decide +kernel
theorem dX5_comes_33 : decode cX5_comes 33 = .ok (.aload_n 0, 1) := by decide +kernel
theorem dX5_comes_34 : decode cX5_comes 34 = .ok (.getfield 7, 3) := by decide +kernel
theorem dX5_comes_37 : decode cX5_comes 37 = .ok (.invokevirtual 80, 3) := by decide +kernel
theorem dX5_comes_40 : decode cX5_comes 40 = .ok (.pop, 1) := by decide +kernel
theorem dX5_comes_41 : decode cX5_comes 41 = .ok (.aload_n 0, 1) := by decide +kernel
theorem dX5_comes_42 : decode cX5_comes 42 = .ok (.getfield 25, 3) := by decide +kernel
theorem dX5_comes_45 : decode cX5_comes 45 = .ok (.iconst 5, 1) := by decide +kernel
theorem dX5_comes_46 : decode cX5_comes 46 = .ok (.iload_n 1, 1) := by decide +kernel
theorem dX5_comes_47 : decode cX5_comes 47 = .ok (.imul, 1) := by decide +kernel
theorem dX5_comes_48 : decode cX5_comes 48 = .ok (.iload_n 2, 1) := by decide +kernel
theorem dX5_comes_49 : decode cX5_comes 49 = .ok (.iconst (-1), 1) := by decide +kernel
theorem dX5_comes_50 : decode cX5_comes 50 = .ok (.if_icmp .ne 12, 3) := by decide +kernel
theorem dX5_comes_53 : decode cX5_comes 53 = .ok (.aload_n 0, 1) := by decide +kernel
theorem dX5_comes_54 : decode cX5_comes 54 = .ok (.getfield 7, 3) := by decide +kernel
theorem dX5_comes_57 : decode cX5_comes 57 = .ok (.iconst 5, 1) := by decide +kernel
theorem dX5_comes_58 : decode cX5_comes 58 = .ok (.iaload, 1) := by decide +kernel
theorem dX5_comes_59 : decode cX5_comes 59 = .ok (.goto 4, 3) := by decide +kernel
theorem dX5_comes_62 : decode cX5_comes 62 = .ok (.iload_n 2, 1) := by decide +kernel
theorem dX5_comes_63 : decode cX5_comes 63 = .ok (.iadd, 1) := by decide +kernel
theorem dX5_comes_64 : decode cX5_comes 64 = .ok (.iaload, 1) := by decide +kernel
theorem dX5_comes_65 : decode cX5_comes 65 = .ok (.ireturn, 1) := by decide +kernel
set_option maxRecDepth 20000 in
theorem ggX5_loweredAt_X5_isLowered : GoodIn wsX5_loweredAt wsX5_isLowered := goodIn_r _ [5, 6, 7, 4, 8, 9, 10, 11] (by decide +kernel) (by decide +kernel)
set_option maxRecDepth 20000 in
theorem gX5_loweredAt_X5_isLowered : GoodIn wsX5_loweredAt (va_wsS RX5 61 yX5_isLowered wsX5_isLowered) := goodIn_app (goodIn_of _ (by decide +kernel)) ggX5_loweredAt_X5_isLowered
theorem dX5_loweredAt_0 : decode cX5_loweredAt 0 = .ok (.iconst 0, 1) := by decide +kernel
theorem dX5_loweredAt_1 : decode cX5_loweredAt 1 = .ok (.istore_n 2, 1) := by decide +kernel
theorem dX5_loweredAt_2 : decode cX5_loweredAt 2 = .ok (.iconst 0, 1) := by decide +kernel
theorem dX5_loweredAt_3 : decode cX5_loweredAt 3 = .ok (.istore_n 3, 1) := by decide +kernel
theorem dX5_loweredAt_4 : decode cX5_loweredAt 4 = .ok (.iload_n 3, 1) := by decide +kernel
theorem dX5_loweredAt_5 : decode cX5_loweredAt 5 = .ok (.aload_n 0, 1) := by decide +kernel
theorem dX5_loweredAt_6 : decode cX5_loweredAt 6 = .ok (.getfield 7, 3) := by decide +kernel
theorem dX5_loweredAt_9 : decode cX5_loweredAt 9 = .ok (.iconst 4, 1) := by decide +kernel
theorem dX5_loweredAt_10 : decode cX5_loweredAt 10 = .ok (.iaload, 1) := by decide +kernel
theorem dX5_loweredAt_11 : decode cX5_loweredAt 11 = .ok (.if_icmp .ge 29, 3) := by decide +kernel
theorem dX5_loweredAt_14 : decode cX5_loweredAt 14 = .ok (.iload_n 2, 1) := by decide +kernel
theorem dX5_loweredAt_15 : decode cX5_loweredAt 15 = .ok (.aload_n 0, 1) := by decide +kernel
theorem dX5_loweredAt_16 : decode cX5_loweredAt 16 = .ok (.getfield 7, 3) := by decide +kernel
theorem dX5_loweredAt_19 : decode cX5_loweredAt 19 = .ok (.iload_n 3, 1) := by decide +kernel
theorem dX5_loweredAt_20 : decode cX5_loweredAt 20 = .ok (.iload_n 1, 1) := by decide +kernel
theorem dX5_loweredAt_21 : decode cX5_loweredAt 21 = .ok (.invokestatic 61, 3) := by decide +kernel
theorem dX5_loweredAt_24 : decode cX5_loweredAt 24 = .ok (.ifCond .eq 7, 3) := by decide +kernel
theorem dX5_loweredAt_27 : decode cX5_loweredAt 27 = .ok (.iconst 1, 1) := by decide +kernel
theorem dX5_loweredAt_28 : decode cX5_loweredAt 28 = .ok (.goto 4, 3) := by decide +kernel
theorem dX5_loweredAt_31 : decode cX5_loweredAt 31 = .ok (.iconst 0, 1) := by decide +kernel
theorem dX5_loweredAt_32 : decode cX5_loweredAt 32 = .ok (.iadd, 1) := by decide +kernel
theorem dX5_loweredAt_33 : decode cX5_loweredAt 33 = .ok (.istore_n 2, 1) := by decide +kernel
theorem dX5_loweredAt_34 : decode cX5_loweredAt 34 = .ok (.iinc 3 1, 3) := by decide +kernel
theorem dX5_loweredAt_37 : decode cX5_loweredAt 37 = .ok (.goto (-33), 3) := by decide +kernel
theorem dX5_loweredAt_40 : decode cX5_loweredAt 40 = .ok (.iload_n 2, 1) := by decide +kernel
theorem dX5_loweredAt_41 : decode cX5_loweredAt 41 = .ok (.ireturn, 1) := by decide +kernel
set_option maxRecDepth 20000 in
theorem ggX5_ofBridge_X5_loweredAt : GoodIn wsX5_ofBridge wsX5_loweredAt := goodIn_r _ [6, 1, 7, 8, 5, 9, 10, 11, 12, 13, 14, 15, 16, 17, 18, 19, 20, 21, 22, 23, 24, 25, 26, 27] (by decide +kernel) (by decide +kernel)
set_option maxRecDepth 20000 in
theorem gX5_ofBridge_X5_loweredAt : GoodIn wsX5_ofBridge (wsV RX5 150 RX5 yX5_loweredAt wsX5_loweredAt) := goodIn_app (goodIn_of _ (by decide +kernel)) ggX5_ofBridge_X5_loweredAt
theorem dX5_ofBridge_0 : decode cX5_ofBridge 0 = .ok (.iload_n 2, 1) := by decide +kernel
theorem dX5_ofBridge_1 : decode cX5_ofBridge 1 = .ok (.iconst 2, 1) := by decide +kernel
theorem dX5_ofBridge_2 : decode cX5_ofBridge 2 = .ok (.if_icmp .ge 19, 3) := by decide +kernel
theorem dX5_ofBridge_5 : decode cX5_ofBridge 5 = .ok (.aload_n 0, 1) := by decide +kernel
theorem dX5_ofBridge_6 : decode cX5_ofBridge 6 = .ok (.getfield 7, 3) := by decide +kernel
theorem dX5_ofBridge_9 : decode cX5_ofBridge 9 = .ok (.bipush 6, 2) := by decide +kernel
theorem dX5_ofBridge_11 : decode cX5_ofBridge 11 = .ok (.iconst 2, 1) := by decide +kernel
theorem dX5_ofBridge_12 : decode cX5_ofBridge 12 = .ok (.iload_n 1, 1) := by decide +kernel
theorem dX5_ofBridge_13 : decode cX5_ofBridge 13 = .ok (.imul, 1) := by decide +kernel
theorem dX5_ofBridge_14 : decode cX5_ofBridge 14 = .ok (.iadd, 1) := by decide +kernel
theorem dX5_ofBridge_15 : decode cX5_ofBridge 15 = .ok (.iload_n 2, 1) := by decide +kernel
theorem dX5_ofBridge_16 : decode cX5_ofBridge 16 = .ok (.iadd, 1) := by decide +kernel
theorem dX5_ofBridge_17 : decode cX5_ofBridge 17 = .ok (.iaload, 1) := by decide +kernel
theorem dX5_ofBridge_18 : decode cX5_ofBridge 18 = .ok (.goto 8, 3) := by decide +kernel
theorem dX5_ofBridge_21 : decode cX5_ofBridge 21 = .ok (.aload_n 0, 1) := by decide +kernel
theorem dX5_ofBridge_22 : decode cX5_ofBridge 22 = .ok (.iload_n 1, 1) := by decide +kernel
theorem dX5_ofBridge_23 : decode cX5_ofBridge 23 = .ok (.invokevirtual 150, 3) := by decide +kernel
theorem dX5_ofBridge_26 : decode cX5_ofBridge 26 = .ok (.ireturn, 1) := by decide +kernel
set_option maxRecDepth 20000 in
theorem ggX5_bridgeOf_X5_isBridge : GoodIn wsX5_bridgeOf wsX5_isBridge := goodIn_r _ [6, 7, 8, 9, 5, 10, 32, 33, 34, 35, 36, 37, 38, 39, 40, 41, 42, 43] (by decide +kernel) (by decide +kernel)
set_option maxRecDepth 20000 in
theorem gX5_bridgeOf_X5_isBridge : GoodIn wsX5_bridgeOf (wsV RX5 107 RX5 yX5_isBridge wsX5_isBridge) := goodIn_app (goodIn_of _ (by decide +kernel)) ggX5_bridgeOf_X5_isBridge
set_option maxRecDepth 20000 in
theorem ggX5_bridgeOf_X5_fails : GoodIn wsX5_bridgeOf wsX5_fails := goodIn_r _ [14, 1, 32, 33, 34, 35, 36, 37, 38, 39, 40, 41, 42, 43] (by decide +kernel) (by decide +kernel)
set_option maxRecDepth 20000 in
theorem gX5_bridgeOf_X5_fails : GoodIn wsX5_bridgeOf (wsV RX5 43 RX5 yX5_fails wsX5_fails) := goodIn_app (goodIn_of _ (by decide +kernel)) ggX5_bridgeOf_X5_fails
set_option maxRecDepth 20000 in
theorem ggX5_bridgeOf_X5_in : GoodIn wsX5_bridgeOf wsX5_in := goodIn_r _ [10] (by decide +kernel) (by decide +kernel)
set_option maxRecDepth 20000 in
theorem gX5_bridgeOf_X5_in : GoodIn wsX5_bridgeOf (va_wsS RX5 32 yX5_in wsX5_in) := goodIn_app (goodIn_of _ (by decide +kernel)) ggX5_bridgeOf_X5_in
set_option maxRecDepth 20000 in
theorem ggX5_bridgeOf_X5_ofBridge : GoodIn wsX5_bridgeOf wsX5_ofBridge := goodIn_r _ [18, 7, 19, 20, 21, 5, 22, 23, 24, 25, 26, 27, 28, 29, 30, 31, 32, 33, 34, 35, 36, 37, 38, 39, 40, 41, 42, 43] (by decide +kernel) (by decide +kernel)
set_option maxRecDepth 20000 in
theorem gX5_bridgeOf_X5_ofBridge : GoodIn wsX5_bridgeOf (wsV RX5 153 RX5 yX5_ofBridge wsX5_ofBridge) := goodIn_app (goodIn_of _ (by decide +kernel)) ggX5_bridgeOf_X5_ofBridge
theorem dX5_bridgeOf_0 : decode cX5_bridgeOf 0 = .ok (.aload_n 0, 1) := by decide +kernel
theorem dX5_bridgeOf_1 : decode cX5_bridgeOf 1 = .ok (.iconst 0, 1) := by decide +kernel
theorem dX5_bridgeOf_2 : decode cX5_bridgeOf 2 = .ok (.putfield 28, 3) := by decide +kernel
theorem dX5_bridgeOf_5 : decode cX5_bridgeOf 5 = .ok (.aload_n 0, 1) := by decide +kernel
theorem dX5_bridgeOf_6 : decode cX5_bridgeOf 6 = .ok (.iload_n 1, 1) := by decide +kernel
theorem dX5_bridgeOf_7 : decode cX5_bridgeOf 7 = .ok (.invokevirtual 107, 3) := by decide +kernel
theorem dX5_bridgeOf_10 : decode cX5_bridgeOf 10 = .ok (.ifCond .ne 9, 3) := by decide +kernel
theorem dX5_bridgeOf_13 : decode cX5_bridgeOf 13 = .ok (.aload_n 0, 1) := by decide +kernel
theorem dX5_bridgeOf_14 : decode cX5_bridgeOf 14 = .ok (.iconst 1, 1) := by decide +kernel
theorem dX5_bridgeOf_15 : decode cX5_bridgeOf 15 = .ok (.invokevirtual 43, 3) := by decide +kernel
theorem dX5_bridgeOf_18 : decode cX5_bridgeOf 18 = .ok (.ireturn, 1) := by decide +kernel
theorem dX5_bridgeOf_19 : decode cX5_bridgeOf 19 = .ok (.iload_n 2, 1) := by decide +kernel
theorem dX5_bridgeOf_20 : decode cX5_bridgeOf 20 = .ok (.iconst 0, 1) := by decide +kernel
theorem dX5_bridgeOf_21 : decode cX5_bridgeOf 21 = .ok (.iconst 2, 1) := by decide +kernel
theorem dX5_bridgeOf_22 : decode cX5_bridgeOf 22 = .ok (.invokestatic 32, 3) := by decide +kernel
theorem dX5_bridgeOf_25 : decode cX5_bridgeOf 25 = .ok (.ifCond .eq 12, 3) := by decide +kernel
theorem dX5_bridgeOf_28 : decode cX5_bridgeOf 28 = .ok (.aload_n 0, 1) := by decide +kernel
theorem dX5_bridgeOf_29 : decode cX5_bridgeOf 29 = .ok (.iload_n 1, 1) := by decide +kernel
theorem dX5_bridgeOf_30 : decode cX5_bridgeOf 30 = .ok (.iload_n 2, 1) := by decide +kernel
theorem dX5_bridgeOf_31 : decode cX5_bridgeOf 31 = .ok (.invokevirtual 153, 3) := by decide +kernel
theorem dX5_bridgeOf_34 : decode cX5_bridgeOf 34 = .ok (.goto 8, 3) := by decide +kernel
theorem dX5_bridgeOf_37 : decode cX5_bridgeOf 37 = .ok (.aload_n 0, 1) := by decide +kernel
theorem dX5_bridgeOf_38 : decode cX5_bridgeOf 38 = .ok (.iconst 2, 1) := by decide +kernel
theorem dX5_bridgeOf_39 : decode cX5_bridgeOf 39 = .ok (.invokevirtual 43, 3) := by decide +kernel
theorem dX5_bridgeOf_42 : decode cX5_bridgeOf 42 = .ok (.ireturn, 1) := by decide +kernel
set_option maxRecDepth 20000 in
theorem ggX5_overFloats_X5_bridgesOf : GoodIn wsX5_overFloats wsX5_bridgesOf := goodIn_r _ [6, 1, 7, 8, 5, 9, 10, 11, 12, 13, 14, 15, 22, 23, 24, 25, 26, 27, 28, 29, 30, 31, 32, 33] (by decide +kernel) (by decide +kernel)
set_option maxRecDepth 20000 in
theorem gX5_overFloats_X5_bridgesOf : GoodIn wsX5_overFloats (wsV RX5 143 RX5 yX5_bridgesOf wsX5_bridgesOf) := goodIn_app (goodIn_of _ (by decide +kernel)) ggX5_overFloats_X5_bridgesOf
set_option maxRecDepth 20000 in
theorem ggX5_overFloats_X5_troubles : GoodIn wsX5_overFloats wsX5_troubles := goodIn_r _ [18, 19, 20, 5, 21, 13, 14, 15] (by decide +kernel) (by decide +kernel)
set_option maxRecDepth 20000 in
theorem gX5_overFloats_X5_troubles : GoodIn wsX5_overFloats (va_wsS RX5 54 yX5_troubles wsX5_troubles) := goodIn_app (goodIn_of _ (by decide +kernel)) ggX5_overFloats_X5_troubles
set_option maxRecDepth 20000 in
theorem ggX5_overFloats_X5_high : GoodIn wsX5_overFloats wsX5_high := goodIn_r _ [12, 13, 14, 5, 15] (by decide +kernel) (by decide +kernel)
set_option maxRecDepth 20000 in
theorem gX5_overFloats_X5_high : GoodIn wsX5_overFloats (va_wsS RX5 58 yX5_high wsX5_high) := goodIn_app (goodIn_of _ (by decide +kernel)) ggX5_overFloats_X5_high
theorem dX5_overFloats_0 : decode cX5_overFloats 0 = .ok (.iconst 0, 1) := by decide +kernel
theorem dX5_overFloats_1 : decode cX5_overFloats 1 = .ok (.istore_n 2, 1) := by decide +kernel
theorem dX5_overFloats_2 : decode cX5_overFloats 2 = .ok (.iconst 0, 1) := by decide +kernel
theorem dX5_overFloats_3 : decode cX5_overFloats 3 = .ok (.istore_n 3, 1) := by decide +kernel
theorem dX5_overFloats_4 : decode cX5_overFloats 4 = .ok (.iload_n 3, 1) := by decide +kernel
theorem dX5_overFloats_5 : decode cX5_overFloats 5 = .ok (.aload_n 0, 1) := by decide +kernel
theorem dX5_overFloats_6 : decode cX5_overFloats 6 = .ok (.getfield 7, 3) := by decide +kernel
theorem dX5_overFloats_9 : decode cX5_overFloats 9 = .ok (.iconst 4, 1) := by decide +kernel
theorem dX5_overFloats_10 : decode cX5_overFloats 10 = .ok (.iaload, 1) := by decide +kernel
theorem dX5_overFloats_11 : decode cX5_overFloats 11 = .ok (.if_icmp .ge 77, 3) := by decide +kernel
theorem dX5_overFloats_14 : decode cX5_overFloats 14 = .ok (.iload_n 2, 1) := by decide +kernel
theorem dX5_overFloats_15 : decode cX5_overFloats 15 = .ok (.iload_n 1, 1) := by decide +kernel
theorem dX5_overFloats_16 : decode cX5_overFloats 16 = .ok (.iconst 4, 1) := by decide +kernel
theorem dX5_overFloats_17 : decode cX5_overFloats 17 = .ok (.if_icmp .ne 11, 3) := by decide +kernel
theorem dX5_overFloats_20 : decode cX5_overFloats 20 = .ok (.aload_n 0, 1) := by decide +kernel
theorem dX5_overFloats_21 : decode cX5_overFloats 21 = .ok (.iload_n 3, 1) := by decide +kernel
theorem dX5_overFloats_22 : decode cX5_overFloats 22 = .ok (.invokevirtual 143, 3) := by decide +kernel
theorem dX5_overFloats_25 : decode cX5_overFloats 25 = .ok (.ifCond .gt 19, 3) := by decide +kernel
theorem dX5_overFloats_28 : decode cX5_overFloats 28 = .ok (.iload_n 1, 1) := by decide +kernel
theorem dX5_overFloats_29 : decode cX5_overFloats 29 = .ok (.iconst 5, 1) := by decide +kernel
theorem dX5_overFloats_30 : decode cX5_overFloats 30 = .ok (.if_icmp .ne 18, 3) := by decide +kernel
theorem dX5_overFloats_33 : decode cX5_overFloats 33 = .ok (.aload_n 0, 1) := by decide +kernel
theorem dX5_overFloats_34 : decode cX5_overFloats 34 = .ok (.getfield 7, 3) := by decide +kernel
theorem dX5_overFloats_37 : decode cX5_overFloats 37 = .ok (.iload_n 3, 1) := by decide +kernel
theorem dX5_overFloats_38 : decode cX5_overFloats 38 = .ok (.invokestatic 54, 3) := by decide +kernel
theorem dX5_overFloats_41 : decode cX5_overFloats 41 = .ok (.ifCond .le 7, 3) := by decide +kernel
theorem dX5_overFloats_44 : decode cX5_overFloats 44 = .ok (.iconst 1, 1) := by decide +kernel
theorem dX5_overFloats_45 : decode cX5_overFloats 45 = .ok (.goto 4, 3) := by decide +kernel
theorem dX5_overFloats_48 : decode cX5_overFloats 48 = .ok (.iconst 0, 1) := by decide +kernel
theorem dX5_overFloats_49 : decode cX5_overFloats 49 = .ok (.iadd, 1) := by decide +kernel
theorem dX5_overFloats_50 : decode cX5_overFloats 50 = .ok (.istore_n 2, 1) := by decide +kernel
theorem dX5_overFloats_51 : decode cX5_overFloats 51 = .ok (.iload_n 1, 1) := by decide +kernel
theorem dX5_overFloats_52 : decode cX5_overFloats 52 = .ok (.bipush 7, 2) := by decide +kernel
theorem dX5_overFloats_54 : decode cX5_overFloats 54 = .ok (.if_icmp .ne 26, 3) := by decide +kernel
theorem dX5_overFloats_57 : decode cX5_overFloats 57 = .ok (.aload_n 0, 1) := by decide +kernel
theorem dX5_overFloats_58 : decode cX5_overFloats 58 = .ok (.getfield 7, 3) := by decide +kernel
theorem dX5_overFloats_61 : decode cX5_overFloats 61 = .ok (.iload_n 3, 1) := by decide +kernel
theorem dX5_overFloats_62 : decode cX5_overFloats 62 = .ok (.invokestatic 58, 3) := by decide +kernel
theorem dX5_overFloats_65 : decode cX5_overFloats 65 = .ok (.iload_n 2, 1) := by decide +kernel
theorem dX5_overFloats_66 : decode cX5_overFloats 66 = .ok (.if_icmp .le 14, 3) := by decide +kernel
theorem dX5_overFloats_69 : decode cX5_overFloats 69 = .ok (.aload_n 0, 1) := by decide +kernel
theorem dX5_overFloats_70 : decode cX5_overFloats 70 = .ok (.getfield 7, 3) := by decide +kernel
theorem dX5_overFloats_73 : decode cX5_overFloats 73 = .ok (.iload_n 3, 1) := by decide +kernel
theorem dX5_overFloats_74 : decode cX5_overFloats 74 = .ok (.invokestatic 58, 3) := by decide +kernel
theorem dX5_overFloats_77 : decode cX5_overFloats 77 = .ok (.goto 4, 3) := by decide +kernel
theorem dX5_overFloats_80 : decode cX5_overFloats 80 = .ok (.iload_n 2, 1) := by decide +kernel
theorem dX5_overFloats_81 : decode cX5_overFloats 81 = .ok (.istore_n 2, 1) := by decide +kernel
theorem dX5_overFloats_82 : decode cX5_overFloats 82 = .ok (.iinc 3 1, 3) := by decide +kernel
theorem dX5_overFloats_85 : decode cX5_overFloats 85 = .ok (.goto (-81), 3) := by decide +kernel
theorem dX5_overFloats_88 : decode cX5_overFloats 88 = .ok (.iload_n 2, 1) := by decide +kernel
theorem dX5_overFloats_89 : decode cX5_overFloats 89 = .ok (.ireturn, 1) := by decide +kernel
set_option maxRecDepth 20000 in
theorem ggX5_counted_X5_allTrouble : GoodIn wsX5_counted wsX5_allTrouble := goodIn_r _ [6, 7, 8, 5, 9, 10, 11, 12, 13, 14, 15] (by decide +kernel) (by decide +kernel)
set_option maxRecDepth 20000 in
theorem gX5_counted_X5_allTrouble : GoodIn wsX5_counted (va_wsS RX5 76 yX5_allTrouble wsX5_allTrouble) := goodIn_app (goodIn_of _ (by decide +kernel)) ggX5_counted_X5_allTrouble
set_option maxRecDepth 20000 in
theorem ggX5_counted_X5_ends : GoodIn wsX5_counted wsX5_ends := goodIn_r _ [19, 20, 21, 22, 5, 23, 24, 25, 26, 27, 28, 29, 30, 13, 14, 15, 39, 40, 41, 42, 43, 44, 45, 46, 47, 48, 49, 50] (by decide +kernel) (by decide +kernel)
set_option maxRecDepth 20000 in
theorem gX5_counted_X5_ends : GoodIn wsX5_counted (wsV RX5 80 RX5 yX5_ends wsX5_ends) := goodIn_app (goodIn_of _ (by decide +kernel)) ggX5_counted_X5_ends
set_option maxRecDepth 20000 in
theorem ggX5_counted_X5_goes : GoodIn wsX5_counted wsX5_goes := goodIn_r _ [23, 24, 25, 26, 5, 27, 28, 29, 30, 13, 14, 15, 39, 40, 41, 42, 43, 44, 45, 46, 47, 48, 49, 50] (by decide +kernel) (by decide +kernel)
set_option maxRecDepth 20000 in
theorem gX5_counted_X5_goes : GoodIn wsX5_counted (wsV RX5 65 RX5 yX5_goes wsX5_goes) := goodIn_app (goodIn_of _ (by decide +kernel)) ggX5_counted_X5_goes
set_option maxRecDepth 20000 in
theorem ggX5_counted_X5_overFloats : GoodIn wsX5_counted wsX5_overFloats := goodIn_r _ [34, 1, 35, 36, 37, 5, 38, 25, 26, 27, 28, 29, 30, 13, 14, 15, 7, 8, 9, 10, 11, 12, 39, 40, 41, 42, 43, 44, 45, 46, 47, 48, 49, 50] (by decide +kernel) (by decide +kernel)
set_option maxRecDepth 20000 in
theorem gX5_counted_X5_overFloats : GoodIn wsX5_counted (wsV RX5 156 RX5 yX5_overFloats wsX5_overFloats) := goodIn_app (goodIn_of _ (by decide +kernel)) ggX5_counted_X5_overFloats
theorem dX5_counted_0 : decode cX5_counted 0 = .ok (.iload_n 1, 1) := by decide +kernel
theorem dX5_counted_1 : decode cX5_counted 1 = .ok (.tableswitch 101 0 8 #[51, 51, 60, 68, 101, 101, 77, 101, 96], 51) := by decide +kernel
theorem dX5_counted_52 : decode cX5_counted 52 = .ok (.aload_n 0, 1) := by decide +kernel
theorem dX5_counted_53 : decode cX5_counted 53 = .ok (.getfield 7, 3) := by decide +kernel
theorem dX5_counted_56 : decode cX5_counted 56 = .ok (.iconst 4, 1) := by decide +kernel
theorem dX5_counted_57 : decode cX5_counted 57 = .ok (.iload_n 1, 1) := by decide +kernel
theorem dX5_counted_58 : decode cX5_counted 58 = .ok (.iadd, 1) := by decide +kernel
theorem dX5_counted_59 : decode cX5_counted 59 = .ok (.iaload, 1) := by decide +kernel
theorem dX5_counted_60 : decode cX5_counted 60 = .ok (.ireturn, 1) := by decide +kernel
theorem dX5_counted_61 : decode cX5_counted 61 = .ok (.aload_n 0, 1) := by decide +kernel
theorem dX5_counted_62 : decode cX5_counted 62 = .ok (.getfield 7, 3) := by decide +kernel
theorem dX5_counted_65 : decode cX5_counted 65 = .ok (.invokestatic 76, 3) := by decide +kernel
theorem dX5_counted_68 : decode cX5_counted 68 = .ok (.ireturn, 1) := by decide +kernel
theorem dX5_counted_69 : decode cX5_counted 69 = .ok (.aload_n 0, 1) := by decide +kernel
theorem dX5_counted_70 : decode cX5_counted 70 = .ok (.aload_n 0, 1) := by decide +kernel
theorem dX5_counted_71 : decode cX5_counted 71 = .ok (.getfield 7, 3) := by decide +kernel
theorem dX5_counted_74 : decode cX5_counted 74 = .ok (.invokevirtual 80, 3) := by decide +kernel
theorem dX5_counted_77 : decode cX5_counted 77 = .ok (.ireturn, 1) := by decide +kernel
theorem dX5_counted_78 : decode cX5_counted 78 = .ok (.aload_n 0, 1) := by decide +kernel
theorem dX5_counted_79 : decode cX5_counted 79 = .ok (.aload_n 0, 1) := by decide +kernel
theorem dX5_counted_80 : decode cX5_counted 80 = .ok (.getfield 7, 3) := by decide +kernel
theorem dX5_counted_83 : decode cX5_counted 83 = .ok (.invokevirtual 80, 3) := by decide +kernel
theorem dX5_counted_86 : decode cX5_counted 86 = .ok (.aload_n 0, 1) := by decide +kernel
theorem dX5_counted_87 : decode cX5_counted 87 = .ok (.aload_n 0, 1) := by decide +kernel
theorem dX5_counted_88 : decode cX5_counted 88 = .ok (.getfield 7, 3) := by decide +kernel
theorem dX5_counted_91 : decode cX5_counted 91 = .ok (.iconst 0, 1) := by decide +kernel
theorem dX5_counted_92 : decode cX5_counted 92 = .ok (.invokevirtual 65, 3) := by decide +kernel
theorem dX5_counted_95 : decode cX5_counted 95 = .ok (.isub, 1) := by decide +kernel
theorem dX5_counted_96 : decode cX5_counted 96 = .ok (.ireturn, 1) := by decide +kernel
theorem dX5_counted_97 : decode cX5_counted 97 = .ok (.aload_n 0, 1) := by decide +kernel
theorem dX5_counted_98 : decode cX5_counted 98 = .ok (.getfield 36, 3) := by decide +kernel
theorem dX5_counted_101 : decode cX5_counted 101 = .ok (.ireturn, 1) := by decide +kernel
theorem dX5_counted_102 : decode cX5_counted 102 = .ok (.aload_n 0, 1) := by decide +kernel
theorem dX5_counted_103 : decode cX5_counted 103 = .ok (.iload_n 1, 1) := by decide +kernel
theorem dX5_counted_104 : decode cX5_counted 104 = .ok (.invokevirtual 156, 3) := by decide +kernel
theorem dX5_counted_107 : decode cX5_counted 107 = .ok (.ireturn, 1) := by decide +kernel
set_option maxRecDepth 20000 in
theorem ggX5_count_X5_in : GoodIn wsX5_count wsX5_in := goodIn_r _ [5] (by decide +kernel) (by decide +kernel)
set_option maxRecDepth 20000 in
theorem gX5_count_X5_in : GoodIn wsX5_count (va_wsS RX5 32 yX5_in wsX5_in) := goodIn_app (goodIn_of _ (by decide +kernel)) ggX5_count_X5_in
set_option maxRecDepth 20000 in
theorem ggX5_count_X5_counted : GoodIn wsX5_count wsX5_counted := goodIn_r _ [9, 10, 11, 12, 13, 4, 14, 15, 16, 17, 18, 19, 20, 21, 22, 23, 24, 25, 26, 27, 28, 29, 30, 31, 32, 33, 34, 35, 36, 37, 38, 39, 40, 41, 42, 43, 44, 45, 46, 51, 52, 53, 54, 55, 56, 57, 58, 59, 60, 61, 62] (by decide +kernel) (by decide +kernel)
set_option maxRecDepth 20000 in
theorem gX5_count_X5_counted : GoodIn wsX5_count (wsV RX5 159 RX5 yX5_counted wsX5_counted) := goodIn_app (goodIn_of _ (by decide +kernel)) ggX5_count_X5_counted
set_option maxRecDepth 20000 in
theorem ggX5_count_X5_fails : GoodIn wsX5_count wsX5_fails := goodIn_r _ [50, 1, 51, 52, 53, 54, 55, 56, 57, 58, 59, 60, 61, 62] (by decide +kernel) (by decide +kernel)
set_option maxRecDepth 20000 in
theorem gX5_count_X5_fails : GoodIn wsX5_count (wsV RX5 43 RX5 yX5_fails wsX5_fails) := goodIn_app (goodIn_of _ (by decide +kernel)) ggX5_count_X5_fails
theorem dX5_count_0 : decode cX5_count 0 = .ok (.aload_n 0, 1) := by decide +kernel
theorem dX5_count_1 : decode cX5_count 1 = .ok (.iconst 0, 1) := by decide +kernel
theorem dX5_count_2 : decode cX5_count 2 = .ok (.putfield 28, 3) := by decide +kernel
theorem dX5_count_5 : decode cX5_count 5 = .ok (.iload_n 1, 1) := by decide +kernel
theorem dX5_count_6 : decode cX5_count 6 = .ok (.iconst 0, 1) := by decide +kernel
theorem dX5_count_7 : decode cX5_count 7 = .ok (.bipush 8, 2) := by decide +kernel
theorem dX5_count_9 : decode cX5_count 9 = .ok (.invokestatic 32, 3) := by decide +kernel
theorem dX5_count_12 : decode cX5_count 12 = .ok (.ifCond .eq 11, 3) := by decide +kernel
theorem dX5_count_15 : decode cX5_count 15 = .ok (.aload_n 0, 1) := by decide +kernel
theorem dX5_count_16 : decode cX5_count 16 = .ok (.iload_n 1, 1) := by decide +kernel
theorem dX5_count_17 : decode cX5_count 17 = .ok (.invokevirtual 159, 3) := by decide +kernel
theorem dX5_count_20 : decode cX5_count 20 = .ok (.goto 8, 3) := by decide +kernel
theorem dX5_count_23 : decode cX5_count 23 = .ok (.aload_n 0, 1) := by decide +kernel
theorem dX5_count_24 : decode cX5_count 24 = .ok (.iconst 1, 1) := by decide +kernel
theorem dX5_count_25 : decode cX5_count 25 = .ok (.invokevirtual 43, 3) := by decide +kernel
theorem dX5_count_28 : decode cX5_count 28 = .ok (.ireturn, 1) := by decide +kernel
set_option maxRecDepth 20000 in
theorem ggX5_setting_X5_in : GoodIn wsX5_setting wsX5_in := goodIn_r _ [6] (by decide +kernel) (by decide +kernel)
set_option maxRecDepth 20000 in
theorem gX5_setting_X5_in : GoodIn wsX5_setting (va_wsS RX5 32 yX5_in wsX5_in) := goodIn_app (goodIn_of _ (by decide +kernel)) ggX5_setting_X5_in
set_option maxRecDepth 20000 in
theorem ggX5_setting_X5_fails : GoodIn wsX5_setting wsX5_fails := goodIn_r _ [10, 1, 11, 12, 13, 14, 15, 16, 17, 18, 19, 20, 21, 22] (by decide +kernel) (by decide +kernel)
set_option maxRecDepth 20000 in
theorem gX5_setting_X5_fails : GoodIn wsX5_setting (wsV RX5 43 RX5 yX5_fails wsX5_fails) := goodIn_app (goodIn_of _ (by decide +kernel)) ggX5_setting_X5_fails
theorem dX5_setting_0 : decode cX5_setting 0 = .ok (.aload_n 0, 1) := by decide +kernel
theorem dX5_setting_1 : decode cX5_setting 1 = .ok (.iconst 0, 1) := by decide +kernel
theorem dX5_setting_2 : decode cX5_setting 2 = .ok (.putfield 28, 3) := by decide +kernel
theorem dX5_setting_5 : decode cX5_setting 5 = .ok (.iload_n 1, 1) := by decide +kernel
theorem dX5_setting_6 : decode cX5_setting 6 = .ok (.iconst 0, 1) := by decide +kernel
theorem dX5_setting_7 : decode cX5_setting 7 = .ok (.iconst 3, 1) := by decide +kernel
theorem dX5_setting_8 : decode cX5_setting 8 = .ok (.invokestatic 32, 3) := by decide +kernel
theorem dX5_setting_11 : decode cX5_setting 11 = .ok (.ifCond .eq 12, 3) := by decide +kernel
theorem dX5_setting_14 : decode cX5_setting 14 = .ok (.aload_n 0, 1) := by decide +kernel
theorem dX5_setting_15 : decode cX5_setting 15 = .ok (.getfield 7, 3) := by decide +kernel
theorem dX5_setting_18 : decode cX5_setting 18 = .ok (.iload_n 1, 1) := by decide +kernel
theorem dX5_setting_19 : decode cX5_setting 19 = .ok (.iaload, 1) := by decide +kernel
theorem dX5_setting_20 : decode cX5_setting 20 = .ok (.goto 8, 3) := by decide +kernel
theorem dX5_setting_23 : decode cX5_setting 23 = .ok (.aload_n 0, 1) := by decide +kernel
theorem dX5_setting_24 : decode cX5_setting 24 = .ok (.iconst 1, 1) := by decide +kernel
theorem dX5_setting_25 : decode cX5_setting 25 = .ok (.invokevirtual 43, 3) := by decide +kernel
theorem dX5_setting_28 : decode cX5_setting 28 = .ok (.ireturn, 1) := by decide +kernel
set_option maxRecDepth 20000 in
theorem ggX5_byMoving_X5_copies : GoodIn wsX5_byMoving wsX5_copies := goodIn_r _ [6] (by decide +kernel) (by decide +kernel)
set_option maxRecDepth 20000 in
theorem gX5_byMoving_X5_copies : GoodIn wsX5_byMoving (va_wsS RX5 39 yX5_copies wsX5_copies) := goodIn_app (goodIn_of _ (by decide +kernel)) ggX5_byMoving_X5_copies
set_option maxRecDepth 20000 in
theorem ggX5_byMoving_X5_moves : GoodIn wsX5_byMoving wsX5_moves := goodIn_r _ [9, 10, 11, 5, 12, 13, 14, 15, 16, 17, 18] (by decide +kernel) (by decide +kernel)
set_option maxRecDepth 20000 in
theorem gX5_byMoving_X5_moves : GoodIn wsX5_byMoving (va_wsS RX5 97 yX5_moves wsX5_moves) := goodIn_app (goodIn_of _ (by decide +kernel)) ggX5_byMoving_X5_moves
set_option maxRecDepth 20000 in
theorem ggX5_byMoving_X5_allTrouble : GoodIn wsX5_byMoving wsX5_allTrouble := goodIn_r _ [21, 22, 23, 5, 24, 25, 26, 27, 10, 11, 12] (by decide +kernel) (by decide +kernel)
set_option maxRecDepth 20000 in
theorem gX5_byMoving_X5_allTrouble : GoodIn wsX5_byMoving (va_wsS RX5 76 yX5_allTrouble wsX5_allTrouble) := goodIn_app (goodIn_of _ (by decide +kernel)) ggX5_byMoving_X5_allTrouble
set_option maxRecDepth 20000 in
theorem ggX5_byMoving_X5_ends : GoodIn wsX5_byMoving wsX5_ends := goodIn_r _ [31, 32, 33, 34, 5, 35, 36, 37, 38, 39, 40, 41, 42, 10, 11, 12, 43, 44, 45, 46, 47, 48, 49, 50, 51, 52, 53, 54] (by decide +kernel) (by decide +kernel)
set_option maxRecDepth 20000 in
theorem gX5_byMoving_X5_ends : GoodIn wsX5_byMoving (wsV RX5 80 RX5 yX5_ends wsX5_ends) := goodIn_app (goodIn_of _ (by decide +kernel)) ggX5_byMoving_X5_ends
theorem dX5_byMoving_0 : decode cX5_byMoving 0 = .ok (.aload_n 0, 1) := by decide +kernel
theorem dX5_byMoving_1 : decode cX5_byMoving 1 = .ok (.getfield 7, 3) := by decide +kernel
theorem dX5_byMoving_4 : decode cX5_byMoving 4 = .ok (.iconst 0, 1) := by decide +kernel
theorem dX5_byMoving_5 : decode cX5_byMoving 5 = .ok (.aload_n 0, 1) := by decide +kernel
theorem dX5_byMoving_6 : decode cX5_byMoving 6 = .ok (.getfield 13, 3) := by decide +kernel
theorem dX5_byMoving_9 : decode cX5_byMoving 9 = .ok (.iconst 0, 1) := by decide +kernel
theorem dX5_byMoving_10 : decode cX5_byMoving 10 = .ok (.invokestatic 39, 3) := by decide +kernel
theorem dX5_byMoving_13 : decode cX5_byMoving 13 = .ok (.aload_n 0, 1) := by decide +kernel
theorem dX5_byMoving_14 : decode cX5_byMoving 14 = .ok (.getfield 13, 3) := by decide +kernel
theorem dX5_byMoving_17 : decode cX5_byMoving 17 = .ok (.iload_n 1, 1) := by decide +kernel
theorem dX5_byMoving_18 : decode cX5_byMoving 18 = .ok (.iload_n 2, 1) := by decide +kernel
theorem dX5_byMoving_19 : decode cX5_byMoving 19 = .ok (.invokestatic 97, 3) := by decide +kernel
theorem dX5_byMoving_22 : decode cX5_byMoving 22 = .ok (.iload_n 3, 1) := by decide +kernel
theorem dX5_byMoving_23 : decode cX5_byMoving 23 = .ok (.ifCond .ne 13, 3) := by decide +kernel
theorem dX5_byMoving_26 : decode cX5_byMoving 26 = .ok (.aload_n 0, 1) := by decide +kernel
theorem dX5_byMoving_27 : decode cX5_byMoving 27 = .ok (.getfield 13, 3) := by decide +kernel
theorem dX5_byMoving_30 : decode cX5_byMoving 30 = .ok (.invokestatic 76, 3) := by decide +kernel
theorem dX5_byMoving_33 : decode cX5_byMoving 33 = .ok (.goto 11, 3) := by decide +kernel
theorem dX5_byMoving_36 : decode cX5_byMoving 36 = .ok (.aload_n 0, 1) := by decide +kernel
theorem dX5_byMoving_37 : decode cX5_byMoving 37 = .ok (.aload_n 0, 1) := by decide +kernel
theorem dX5_byMoving_38 : decode cX5_byMoving 38 = .ok (.getfield 13, 3) := by decide +kernel
theorem dX5_byMoving_41 : decode cX5_byMoving 41 = .ok (.invokevirtual 80, 3) := by decide +kernel
theorem dX5_byMoving_44 : decode cX5_byMoving 44 = .ok (.ireturn, 1) := by decide +kernel
set_option maxRecDepth 20000 in
theorem ggX5_ifMoved_X5_isFloat : GoodIn wsX5_ifMoved wsX5_isFloat := goodIn_r _ [6, 7, 8, 9, 5, 10, 59, 60, 61, 62, 63, 64, 65, 66, 67, 68, 69, 70] (by decide +kernel) (by decide +kernel)
set_option maxRecDepth 20000 in
theorem gX5_ifMoved_X5_isFloat : GoodIn wsX5_ifMoved (wsV RX5 93 RX5 yX5_isFloat wsX5_isFloat) := goodIn_app (goodIn_of _ (by decide +kernel)) ggX5_ifMoved_X5_isFloat
set_option maxRecDepth 20000 in
theorem ggX5_ifMoved_X5_fails : GoodIn wsX5_ifMoved wsX5_fails := goodIn_r _ [14, 1, 59, 60, 61, 62, 63, 64, 65, 66, 67, 68, 69, 70] (by decide +kernel) (by decide +kernel)
set_option maxRecDepth 20000 in
theorem gX5_ifMoved_X5_fails : GoodIn wsX5_ifMoved (wsV RX5 43 RX5 yX5_fails wsX5_fails) := goodIn_app (goodIn_of _ (by decide +kernel)) ggX5_ifMoved_X5_fails
set_option maxRecDepth 20000 in
theorem ggX5_ifMoved_X5_in : GoodIn wsX5_ifMoved wsX5_in := goodIn_r _ [10] (by decide +kernel) (by decide +kernel)
set_option maxRecDepth 20000 in
theorem gX5_ifMoved_X5_in : GoodIn wsX5_ifMoved (va_wsS RX5 32 yX5_in wsX5_in) := goodIn_app (goodIn_of _ (by decide +kernel)) ggX5_ifMoved_X5_in
set_option maxRecDepth 20000 in
theorem ggX5_ifMoved_X5_byMoving : GoodIn wsX5_ifMoved wsX5_byMoving := goodIn_r _ [18, 7, 19, 20, 21, 5, 22, 23, 24, 25, 26, 27, 28, 29, 30, 31, 32, 33, 34, 35, 36, 37, 38, 39, 40, 41, 42, 43, 44, 45, 46, 47, 48, 49, 50, 51, 52, 53, 54, 55, 56, 57, 58, 59, 60, 61, 62, 63, 64, 65, 66, 67, 68, 69, 70] (by decide +kernel) (by decide +kernel)
set_option maxRecDepth 20000 in
theorem gX5_ifMoved_X5_byMoving : GoodIn wsX5_ifMoved (wsV RX5 162 RX5 yX5_byMoving wsX5_byMoving) := goodIn_app (goodIn_of _ (by decide +kernel)) ggX5_ifMoved_X5_byMoving
theorem dX5_ifMoved_0 : decode cX5_ifMoved 0 = .ok (.aload_n 0, 1) := by decide +kernel
theorem dX5_ifMoved_1 : decode cX5_ifMoved 1 = .ok (.iconst 0, 1) := by decide +kernel
theorem dX5_ifMoved_2 : decode cX5_ifMoved 2 = .ok (.putfield 28, 3) := by decide +kernel
theorem dX5_ifMoved_5 : decode cX5_ifMoved 5 = .ok (.aload_n 0, 1) := by decide +kernel
theorem dX5_ifMoved_6 : decode cX5_ifMoved 6 = .ok (.iload_n 1, 1) := by decide +kernel
theorem dX5_ifMoved_7 : decode cX5_ifMoved 7 = .ok (.invokevirtual 93, 3) := by decide +kernel
theorem dX5_ifMoved_10 : decode cX5_ifMoved 10 = .ok (.ifCond .eq 11, 3) := by decide +kernel
theorem dX5_ifMoved_13 : decode cX5_ifMoved 13 = .ok (.aload_n 0, 1) := by decide +kernel
theorem dX5_ifMoved_14 : decode cX5_ifMoved 14 = .ok (.iload_n 2, 1) := by decide +kernel
theorem dX5_ifMoved_15 : decode cX5_ifMoved 15 = .ok (.invokevirtual 93, 3) := by decide +kernel
theorem dX5_ifMoved_18 : decode cX5_ifMoved 18 = .ok (.ifCond .ne 9, 3) := by decide +kernel
theorem dX5_ifMoved_21 : decode cX5_ifMoved 21 = .ok (.aload_n 0, 1) := by decide +kernel
theorem dX5_ifMoved_22 : decode cX5_ifMoved 22 = .ok (.iconst 1, 1) := by decide +kernel
theorem dX5_ifMoved_23 : decode cX5_ifMoved 23 = .ok (.invokevirtual 43, 3) := by decide +kernel
theorem dX5_ifMoved_26 : decode cX5_ifMoved 26 = .ok (.ireturn, 1) := by decide +kernel
theorem dX5_ifMoved_27 : decode cX5_ifMoved 27 = .ok (.iload_n 3, 1) := by decide +kernel
theorem dX5_ifMoved_28 : decode cX5_ifMoved 28 = .ok (.iconst 0, 1) := by decide +kernel
theorem dX5_ifMoved_29 : decode cX5_ifMoved 29 = .ok (.iconst 1, 1) := by decide +kernel
theorem dX5_ifMoved_30 : decode cX5_ifMoved 30 = .ok (.invokestatic 32, 3) := by decide +kernel
theorem dX5_ifMoved_33 : decode cX5_ifMoved 33 = .ok (.ifCond .eq 13, 3) := by decide +kernel
theorem dX5_ifMoved_36 : decode cX5_ifMoved 36 = .ok (.aload_n 0, 1) := by decide +kernel
theorem dX5_ifMoved_37 : decode cX5_ifMoved 37 = .ok (.iload_n 1, 1) := by decide +kernel
theorem dX5_ifMoved_38 : decode cX5_ifMoved 38 = .ok (.iload_n 2, 1) := by decide +kernel
theorem dX5_ifMoved_39 : decode cX5_ifMoved 39 = .ok (.iload_n 3, 1) := by decide +kernel
theorem dX5_ifMoved_40 : decode cX5_ifMoved 40 = .ok (.invokevirtual 162, 3) := by decide +kernel
theorem dX5_ifMoved_43 : decode cX5_ifMoved 43 = .ok (.goto 8, 3) := by decide +kernel
theorem dX5_ifMoved_46 : decode cX5_ifMoved 46 = .ok (.aload_n 0, 1) := by decide +kernel
theorem dX5_ifMoved_47 : decode cX5_ifMoved 47 = .ok (.iconst 2, 1) := by decide +kernel
theorem dX5_ifMoved_48 : decode cX5_ifMoved 48 = .ok (.invokevirtual 43, 3) := by decide +kernel
theorem dX5_ifMoved_51 : decode cX5_ifMoved 51 = .ok (.ireturn, 1) := by decide +kernel
set_option maxRecDepth 20000 in
theorem ggX5_best_X5_byMoving : GoodIn wsX5_best wsX5_byMoving := goodIn_r _ [7, 1, 8, 9, 10, 6, 11, 12, 13, 14, 15, 16, 17, 18, 19, 20, 21, 22, 23, 24, 25, 26, 27, 28, 29, 30, 31, 32, 33, 34, 35, 36, 37, 38, 39, 40, 41, 42, 43, 44, 45, 46, 47, 48, 49, 50, 51, 52, 53, 54, 55, 56, 57, 58, 59] (by decide +kernel) (by decide +kernel)
set_option maxRecDepth 20000 in
theorem gX5_best_X5_byMoving : GoodIn wsX5_best (wsV RX5 162 RX5 yX5_byMoving wsX5_byMoving) := goodIn_app (goodIn_of _ (by decide +kernel)) ggX5_best_X5_byMoving
theorem dX5_best_0 : decode cX5_best 0 = .ok (.iconst (-1), 1) := by decide +kernel
theorem dX5_best_1 : decode cX5_best 1 = .ok (.istore_n 2, 1) := by decide +kernel
theorem dX5_best_2 : decode cX5_best 2 = .ok (.iconst 0, 1) := by decide +kernel
theorem dX5_best_3 : decode cX5_best 3 = .ok (.istore_n 3, 1) := by decide +kernel
theorem dX5_best_4 : decode cX5_best 4 = .ok (.iconst 0, 1) := by decide +kernel
theorem dX5_best_5 : decode cX5_best 5 = .ok (.istore 4, 2) := by decide +kernel
theorem dX5_best_7 : decode cX5_best 7 = .ok (.iload 4, 2) := by decide +kernel
theorem dX5_best_9 : decode cX5_best 9 = .ok (.aload_n 0, 1) := by decide +kernel
theorem dX5_best_10 : decode cX5_best 10 = .ok (.getfield 7, 3) := by decide +kernel
theorem dX5_best_13 : decode cX5_best 13 = .ok (.iconst 4, 1) := by decide +kernel
theorem dX5_best_14 : decode cX5_best 14 = .ok (.iaload, 1) := by decide +kernel
theorem dX5_best_15 : decode cX5_best 15 = .ok (.if_icmp .ge 62, 3) := by decide +kernel
theorem dX5_best_18 : decode cX5_best 18 = .ok (.ldc 166, 2) := by decide +kernel
theorem dX5_best_20 : decode cX5_best 20 = .ok (.aload_n 0, 1) := by decide +kernel
theorem dX5_best_21 : decode cX5_best 21 = .ok (.iload_n 1, 1) := by decide +kernel
theorem dX5_best_22 : decode cX5_best 22 = .ok (.iload 4, 2) := by decide +kernel
theorem dX5_best_24 : decode cX5_best 24 = .ok (.iconst 0, 1) := by decide +kernel
theorem dX5_best_25 : decode cX5_best 25 = .ok (.invokevirtual 162, 3) := by decide +kernel
theorem dX5_best_28 : decode cX5_best 28 = .ok (.imul, 1) := by decide +kernel
theorem dX5_best_29 : decode cX5_best 29 = .ok (.aload_n 0, 1) := by decide +kernel
theorem dX5_best_30 : decode cX5_best 30 = .ok (.iload_n 1, 1) := by decide +kernel
theorem dX5_best_31 : decode cX5_best 31 = .ok (.iload 4, 2) := by decide +kernel
theorem dX5_best_33 : decode cX5_best 33 = .ok (.iconst 1, 1) := by decide +kernel
theorem dX5_best_34 : decode cX5_best 34 = .ok (.invokevirtual 162, 3) := by decide +kernel
theorem dX5_best_37 : decode cX5_best 37 = .ok (.iadd, 1) := by decide +kernel
theorem dX5_best_38 : decode cX5_best 38 = .ok (.istore 5, 2) := by decide +kernel
theorem dX5_best_40 : decode cX5_best 40 = .ok (.iload_n 2, 1) := by decide +kernel
theorem dX5_best_41 : decode cX5_best 41 = .ok (.iconst (-1), 1) := by decide +kernel
theorem dX5_best_42 : decode cX5_best 42 = .ok (.if_icmp .eq 9, 3) := by decide +kernel
theorem dX5_best_45 : decode cX5_best 45 = .ok (.iload 5, 2) := by decide +kernel
theorem dX5_best_47 : decode cX5_best 47 = .ok (.iload_n 3, 1) := by decide +kernel
theorem dX5_best_48 : decode cX5_best 48 = .ok (.if_icmp .ge 8, 3) := by decide +kernel
theorem dX5_best_51 : decode cX5_best 51 = .ok (.iload 4, 2) := by decide +kernel
theorem dX5_best_53 : decode cX5_best 53 = .ok (.goto 4, 3) := by decide +kernel
theorem dX5_best_56 : decode cX5_best 56 = .ok (.iload_n 2, 1) := by decide +kernel
theorem dX5_best_57 : decode cX5_best 57 = .ok (.istore_n 2, 1) := by decide +kernel
theorem dX5_best_58 : decode cX5_best 58 = .ok (.iload_n 2, 1) := by decide +kernel
theorem dX5_best_59 : decode cX5_best 59 = .ok (.iload 4, 2) := by decide +kernel
theorem dX5_best_61 : decode cX5_best 61 = .ok (.if_icmp .ne 8, 3) := by decide +kernel
theorem dX5_best_64 : decode cX5_best 64 = .ok (.iload 5, 2) := by decide +kernel
theorem dX5_best_66 : decode cX5_best 66 = .ok (.goto 4, 3) := by decide +kernel
theorem dX5_best_69 : decode cX5_best 69 = .ok (.iload_n 3, 1) := by decide +kernel
theorem dX5_best_70 : decode cX5_best 70 = .ok (.istore_n 3, 1) := by decide +kernel
theorem dX5_best_71 : decode cX5_best 71 = .ok (.iinc 4 1, 3) := by decide +kernel
theorem dX5_best_74 : decode cX5_best 74 = .ok (.goto (-67), 3) := by decide +kernel
theorem dX5_best_77 : decode cX5_best 77 = .ok (.iload_n 2, 1) := by decide +kernel
theorem dX5_best_78 : decode cX5_best 78 = .ok (.ireturn, 1) := by decide +kernel
set_option maxRecDepth 20000 in
theorem ggX5_bestPlace_X5_isFloat : GoodIn wsX5_bestPlace wsX5_isFloat := goodIn_r _ [6, 7, 8, 9, 5, 10, 64, 65, 66, 67, 68, 69, 70, 71, 72, 73, 74, 75] (by decide +kernel) (by decide +kernel)
set_option maxRecDepth 20000 in
theorem gX5_bestPlace_X5_isFloat : GoodIn wsX5_bestPlace (wsV RX5 93 RX5 yX5_isFloat wsX5_isFloat) := goodIn_app (goodIn_of _ (by decide +kernel)) ggX5_bestPlace_X5_isFloat
set_option maxRecDepth 20000 in
theorem ggX5_bestPlace_X5_best : GoodIn wsX5_bestPlace wsX5_best := goodIn_r _ [14, 7, 15, 16, 17, 18, 5, 19, 20, 21, 22, 23, 24, 25, 26, 27, 28, 29, 30, 31, 32, 33, 34, 35, 36, 37, 38, 39, 40, 41, 42, 43, 44, 45, 46, 47, 48, 49, 50, 51, 52, 53, 54, 55, 56, 57, 58, 59, 64, 65, 66, 67, 68, 69, 70, 71, 72, 73, 74, 75] (by decide +kernel) (by decide +kernel)
set_option maxRecDepth 20000 in
theorem gX5_bestPlace_X5_best : GoodIn wsX5_bestPlace (wsV RX5 167 RX5 yX5_best wsX5_best) := goodIn_app (goodIn_of _ (by decide +kernel)) ggX5_bestPlace_X5_best
set_option maxRecDepth 20000 in
theorem ggX5_bestPlace_X5_fails : GoodIn wsX5_bestPlace wsX5_fails := goodIn_r _ [63, 1, 64, 65, 66, 67, 68, 69, 70, 71, 72, 73, 74, 75] (by decide +kernel) (by decide +kernel)
set_option maxRecDepth 20000 in
theorem gX5_bestPlace_X5_fails : GoodIn wsX5_bestPlace (wsV RX5 43 RX5 yX5_fails wsX5_fails) := goodIn_app (goodIn_of _ (by decide +kernel)) ggX5_bestPlace_X5_fails
theorem dX5_bestPlace_0 : decode cX5_bestPlace 0 = .ok (.aload_n 0, 1) := by decide +kernel
theorem dX5_bestPlace_1 : decode cX5_bestPlace 1 = .ok (.iconst 0, 1) := by decide +kernel
theorem dX5_bestPlace_2 : decode cX5_bestPlace 2 = .ok (.putfield 28, 3) := by decide +kernel
theorem dX5_bestPlace_5 : decode cX5_bestPlace 5 = .ok (.aload_n 0, 1) := by decide +kernel
theorem dX5_bestPlace_6 : decode cX5_bestPlace 6 = .ok (.iload_n 1, 1) := by decide +kernel
theorem dX5_bestPlace_7 : decode cX5_bestPlace 7 = .ok (.invokevirtual 93, 3) := by decide +kernel
theorem dX5_bestPlace_10 : decode cX5_bestPlace 10 = .ok (.ifCond .eq 11, 3) := by decide +kernel
theorem dX5_bestPlace_13 : decode cX5_bestPlace 13 = .ok (.aload_n 0, 1) := by decide +kernel
theorem dX5_bestPlace_14 : decode cX5_bestPlace 14 = .ok (.iload_n 1, 1) := by decide +kernel
theorem dX5_bestPlace_15 : decode cX5_bestPlace 15 = .ok (.invokevirtual 167, 3) := by decide +kernel
theorem dX5_bestPlace_18 : decode cX5_bestPlace 18 = .ok (.goto 8, 3) := by decide +kernel
theorem dX5_bestPlace_21 : decode cX5_bestPlace 21 = .ok (.aload_n 0, 1) := by decide +kernel
theorem dX5_bestPlace_22 : decode cX5_bestPlace 22 = .ok (.iconst 1, 1) := by decide +kernel
theorem dX5_bestPlace_23 : decode cX5_bestPlace 23 = .ok (.invokevirtual 43, 3) := by decide +kernel
theorem dX5_bestPlace_26 : decode cX5_bestPlace 26 = .ok (.ireturn, 1) := by decide +kernel
set_option maxRecDepth 20000 in
theorem ggX5_folding_X5_of : GoodIn wsX5_folding wsX5_of := goodIn_r _ [6] (by decide +kernel) (by decide +kernel)
set_option maxRecDepth 20000 in
theorem gX5_folding_X5_of : GoodIn wsX5_folding (va_wsS RX5 47 yX5_of wsX5_of) := goodIn_app (goodIn_of _ (by decide +kernel)) ggX5_folding_X5_of
set_option maxRecDepth 20000 in
theorem ggX5_folding_X5_copies : GoodIn wsX5_folding wsX5_copies := goodIn_r _ [9] (by decide +kernel) (by decide +kernel)
set_option maxRecDepth 20000 in
theorem gX5_folding_X5_copies : GoodIn wsX5_folding (va_wsS RX5 39 yX5_copies wsX5_copies) := goodIn_app (goodIn_of _ (by decide +kernel)) ggX5_folding_X5_copies
set_option maxRecDepth 20000 in
theorem ggX5_folding_X5_ends : GoodIn wsX5_folding wsX5_ends := goodIn_r _ [13, 14, 15, 16, 5, 17, 18, 19, 20, 21, 22, 23, 24, 3, 4, 6, 25, 26, 27, 28, 29, 30, 31, 32, 33, 34, 35, 36] (by decide +kernel) (by decide +kernel)
set_option maxRecDepth 20000 in
theorem gX5_folding_X5_ends : GoodIn wsX5_folding (wsV RX5 80 RX5 yX5_ends wsX5_ends) := goodIn_app (goodIn_of _ (by decide +kernel)) ggX5_folding_X5_ends
theorem dX5_folding_0 : decode cX5_folding 0 = .ok (.iconst (-1), 1) := by decide +kernel
theorem dX5_folding_1 : decode cX5_folding 1 = .ok (.istore_n 1, 1) := by decide +kernel
theorem dX5_folding_2 : decode cX5_folding 2 = .ok (.iconst 0, 1) := by decide +kernel
theorem dX5_folding_3 : decode cX5_folding 3 = .ok (.istore_n 2, 1) := by decide +kernel
theorem dX5_folding_4 : decode cX5_folding 4 = .ok (.iconst 0, 1) := by decide +kernel
theorem dX5_folding_5 : decode cX5_folding 5 = .ok (.istore_n 3, 1) := by decide +kernel
theorem dX5_folding_6 : decode cX5_folding 6 = .ok (.iload_n 3, 1) := by decide +kernel
theorem dX5_folding_7 : decode cX5_folding 7 = .ok (.aload_n 0, 1) := by decide +kernel
theorem dX5_folding_8 : decode cX5_folding 8 = .ok (.getfield 7, 3) := by decide +kernel
theorem dX5_folding_11 : decode cX5_folding 11 = .ok (.iconst 4, 1) := by decide +kernel
theorem dX5_folding_12 : decode cX5_folding 12 = .ok (.iaload, 1) := by decide +kernel
theorem dX5_folding_13 : decode cX5_folding 13 = .ok (.if_icmp .ge 87, 3) := by decide +kernel
theorem dX5_folding_16 : decode cX5_folding 16 = .ok (.aload_n 0, 1) := by decide +kernel
theorem dX5_folding_17 : decode cX5_folding 17 = .ok (.getfield 7, 3) := by decide +kernel
theorem dX5_folding_20 : decode cX5_folding 20 = .ok (.iload_n 3, 1) := by decide +kernel
theorem dX5_folding_21 : decode cX5_folding 21 = .ok (.iconst 3, 1) := by decide +kernel
theorem dX5_folding_22 : decode cX5_folding 22 = .ok (.invokestatic 47, 3) := by decide +kernel
theorem dX5_folding_25 : decode cX5_folding 25 = .ok (.ifCond .ne 69, 3) := by decide +kernel
theorem dX5_folding_28 : decode cX5_folding 28 = .ok (.aload_n 0, 1) := by decide +kernel
theorem dX5_folding_29 : decode cX5_folding 29 = .ok (.getfield 7, 3) := by decide +kernel
theorem dX5_folding_32 : decode cX5_folding 32 = .ok (.iconst 0, 1) := by decide +kernel
theorem dX5_folding_33 : decode cX5_folding 33 = .ok (.aload_n 0, 1) := by decide +kernel
theorem dX5_folding_34 : decode cX5_folding 34 = .ok (.getfield 13, 3) := by decide +kernel
theorem dX5_folding_37 : decode cX5_folding 37 = .ok (.iconst 0, 1) := by decide +kernel
theorem dX5_folding_38 : decode cX5_folding 38 = .ok (.invokestatic 39, 3) := by decide +kernel
theorem dX5_folding_41 : decode cX5_folding 41 = .ok (.aload_n 0, 1) := by decide +kernel
theorem dX5_folding_42 : decode cX5_folding 42 = .ok (.getfield 13, 3) := by decide +kernel
theorem dX5_folding_45 : decode cX5_folding 45 = .ok (.bipush 14, 2) := by decide +kernel
theorem dX5_folding_47 : decode cX5_folding 47 = .ok (.iconst 4, 1) := by decide +kernel
theorem dX5_folding_48 : decode cX5_folding 48 = .ok (.iload_n 3, 1) := by decide +kernel
theorem dX5_folding_49 : decode cX5_folding 49 = .ok (.imul, 1) := by decide +kernel
theorem dX5_folding_50 : decode cX5_folding 50 = .ok (.iadd, 1) := by decide +kernel
theorem dX5_folding_51 : decode cX5_folding 51 = .ok (.iconst 3, 1) := by decide +kernel
theorem dX5_folding_52 : decode cX5_folding 52 = .ok (.iadd, 1) := by decide +kernel
theorem dX5_folding_53 : decode cX5_folding 53 = .ok (.iconst 1, 1) := by decide +kernel
theorem dX5_folding_54 : decode cX5_folding 54 = .ok (.iastore, 1) := by decide +kernel
theorem dX5_folding_55 : decode cX5_folding 55 = .ok (.aload_n 0, 1) := by decide +kernel
theorem dX5_folding_56 : decode cX5_folding 56 = .ok (.aload_n 0, 1) := by decide +kernel
theorem dX5_folding_57 : decode cX5_folding 57 = .ok (.getfield 13, 3) := by decide +kernel
theorem dX5_folding_60 : decode cX5_folding 60 = .ok (.invokevirtual 80, 3) := by decide +kernel
theorem dX5_folding_63 : decode cX5_folding 63 = .ok (.istore 4, 2) := by decide +kernel
theorem dX5_folding_65 : decode cX5_folding 65 = .ok (.iload_n 1, 1) := by decide +kernel
theorem dX5_folding_66 : decode cX5_folding 66 = .ok (.iconst (-1), 1) := by decide +kernel
theorem dX5_folding_67 : decode cX5_folding 67 = .ok (.if_icmp .eq 9, 3) := by decide +kernel
theorem dX5_folding_70 : decode cX5_folding 70 = .ok (.iload 4, 2) := by decide +kernel
theorem dX5_folding_72 : decode cX5_folding 72 = .ok (.iload_n 2, 1) := by decide +kernel
theorem dX5_folding_73 : decode cX5_folding 73 = .ok (.if_icmp .ge 7, 3) := by decide +kernel
theorem dX5_folding_76 : decode cX5_folding 76 = .ok (.iload_n 3, 1) := by decide +kernel
theorem dX5_folding_77 : decode cX5_folding 77 = .ok (.goto 4, 3) := by decide +kernel
theorem dX5_folding_80 : decode cX5_folding 80 = .ok (.iload_n 1, 1) := by decide +kernel
theorem dX5_folding_81 : decode cX5_folding 81 = .ok (.istore_n 1, 1) := by decide +kernel
theorem dX5_folding_82 : decode cX5_folding 82 = .ok (.iload_n 1, 1) := by decide +kernel
theorem dX5_folding_83 : decode cX5_folding 83 = .ok (.iload_n 3, 1) := by decide +kernel
theorem dX5_folding_84 : decode cX5_folding 84 = .ok (.if_icmp .ne 8, 3) := by decide +kernel
theorem dX5_folding_87 : decode cX5_folding 87 = .ok (.iload 4, 2) := by decide +kernel
theorem dX5_folding_89 : decode cX5_folding 89 = .ok (.goto 4, 3) := by decide +kernel
theorem dX5_folding_92 : decode cX5_folding 92 = .ok (.iload_n 2, 1) := by decide +kernel
theorem dX5_folding_93 : decode cX5_folding 93 = .ok (.istore_n 2, 1) := by decide +kernel
theorem dX5_folding_94 : decode cX5_folding 94 = .ok (.iinc 3 1, 3) := by decide +kernel
theorem dX5_folding_97 : decode cX5_folding 97 = .ok (.goto (-91), 3) := by decide +kernel
theorem dX5_folding_100 : decode cX5_folding 100 = .ok (.iload_n 1, 1) := by decide +kernel
theorem dX5_folding_101 : decode cX5_folding 101 = .ok (.ireturn, 1) := by decide +kernel
set_option maxRecDepth 20000 in
theorem ggX5_bestFold_X5_folding : GoodIn wsX5_bestFold wsX5_folding := goodIn_r _ [6, 7, 8, 9, 10, 5, 11, 12, 13, 14, 15, 16, 17, 18, 19, 20, 21, 22, 23, 24, 25, 26, 27, 28, 29, 30, 31, 32, 33, 34, 35, 36, 37, 38, 39, 40, 41] (by decide +kernel) (by decide +kernel)
set_option maxRecDepth 20000 in
theorem gX5_bestFold_X5_folding : GoodIn wsX5_bestFold (wsV RX5 170 RX5 yX5_folding wsX5_folding) := goodIn_app (goodIn_of _ (by decide +kernel)) ggX5_bestFold_X5_folding
theorem dX5_bestFold_0 : decode cX5_bestFold 0 = .ok (.aload_n 0, 1) := by decide +kernel
theorem dX5_bestFold_1 : decode cX5_bestFold 1 = .ok (.iconst 0, 1) := by decide +kernel
theorem dX5_bestFold_2 : decode cX5_bestFold 2 = .ok (.putfield 28, 3) := by decide +kernel
theorem dX5_bestFold_5 : decode cX5_bestFold 5 = .ok (.aload_n 0, 1) := by decide +kernel
theorem dX5_bestFold_6 : decode cX5_bestFold 6 = .ok (.invokevirtual 170, 3) := by decide +kernel
theorem dX5_bestFold_9 : decode cX5_bestFold 9 = .ok (.ireturn, 1) := by decide +kernel
set_option maxRecDepth 20000 in
theorem ggX5_orders_X5_copies : GoodIn wsX5_orders wsX5_copies := goodIn_r _ [6] (by decide +kernel) (by decide +kernel)
set_option maxRecDepth 20000 in
theorem gX5_orders_X5_copies : GoodIn wsX5_orders (va_wsS RX5 39 yX5_copies wsX5_copies) := goodIn_app (goodIn_of _ (by decide +kernel)) ggX5_orders_X5_copies
set_option maxRecDepth 20000 in
theorem ggX5_orders_X5_moves : GoodIn wsX5_orders wsX5_moves := goodIn_r _ [9, 10, 11, 5, 12, 13, 14, 15, 16, 17, 18] (by decide +kernel) (by decide +kernel)
set_option maxRecDepth 20000 in
theorem gX5_orders_X5_moves : GoodIn wsX5_orders (va_wsS RX5 97 yX5_moves wsX5_moves) := goodIn_app (goodIn_of _ (by decide +kernel)) ggX5_orders_X5_moves
theorem dX5_orders_0 : decode cX5_orders 0 = .ok (.aload_n 0, 1) := by decide +kernel
theorem dX5_orders_1 : decode cX5_orders 1 = .ok (.getfield 7, 3) := by decide +kernel
theorem dX5_orders_4 : decode cX5_orders 4 = .ok (.iconst 0, 1) := by decide +kernel
theorem dX5_orders_5 : decode cX5_orders 5 = .ok (.aload_n 0, 1) := by decide +kernel
theorem dX5_orders_6 : decode cX5_orders 6 = .ok (.getfield 13, 3) := by decide +kernel
theorem dX5_orders_9 : decode cX5_orders 9 = .ok (.iconst 0, 1) := by decide +kernel
theorem dX5_orders_10 : decode cX5_orders 10 = .ok (.invokestatic 39, 3) := by decide +kernel
theorem dX5_orders_13 : decode cX5_orders 13 = .ok (.iload_n 1, 1) := by decide +kernel
theorem dX5_orders_14 : decode cX5_orders 14 = .ok (.istore_n 2, 1) := by decide +kernel
theorem dX5_orders_15 : decode cX5_orders 15 = .ok (.iconst 0, 1) := by decide +kernel
theorem dX5_orders_16 : decode cX5_orders 16 = .ok (.istore_n 3, 1) := by decide +kernel
theorem dX5_orders_17 : decode cX5_orders 17 = .ok (.iload_n 3, 1) := by decide +kernel
theorem dX5_orders_18 : decode cX5_orders 18 = .ok (.aload_n 0, 1) := by decide +kernel
theorem dX5_orders_19 : decode cX5_orders 19 = .ok (.getfield 13, 3) := by decide +kernel
theorem dX5_orders_22 : decode cX5_orders 22 = .ok (.iconst 4, 1) := by decide +kernel
theorem dX5_orders_23 : decode cX5_orders 23 = .ok (.iaload, 1) := by decide +kernel
theorem dX5_orders_24 : decode cX5_orders 24 = .ok (.if_icmp .ge 38, 3) := by decide +kernel
theorem dX5_orders_27 : decode cX5_orders 27 = .ok (.aload_n 0, 1) := by decide +kernel
theorem dX5_orders_28 : decode cX5_orders 28 = .ok (.getfield 13, 3) := by decide +kernel
theorem dX5_orders_31 : decode cX5_orders 31 = .ok (.iconst 4, 1) := by decide +kernel
theorem dX5_orders_32 : decode cX5_orders 32 = .ok (.iaload, 1) := by decide +kernel
theorem dX5_orders_33 : decode cX5_orders 33 = .ok (.iload_n 3, 1) := by decide +kernel
theorem dX5_orders_34 : decode cX5_orders 34 = .ok (.isub, 1) := by decide +kernel
theorem dX5_orders_35 : decode cX5_orders 35 = .ok (.istore 4, 2) := by decide +kernel
theorem dX5_orders_37 : decode cX5_orders 37 = .ok (.aload_n 0, 1) := by decide +kernel
theorem dX5_orders_38 : decode cX5_orders 38 = .ok (.getfield 13, 3) := by decide +kernel
theorem dX5_orders_41 : decode cX5_orders 41 = .ok (.iload_n 3, 1) := by decide +kernel
theorem dX5_orders_42 : decode cX5_orders 42 = .ok (.iload_n 2, 1) := by decide +kernel
theorem dX5_orders_43 : decode cX5_orders 43 = .ok (.iload 4, 2) := by decide +kernel
theorem dX5_orders_45 : decode cX5_orders 45 = .ok (.irem, 1) := by decide +kernel
theorem dX5_orders_46 : decode cX5_orders 46 = .ok (.iadd, 1) := by decide +kernel
theorem dX5_orders_47 : decode cX5_orders 47 = .ok (.iload_n 3, 1) := by decide +kernel
theorem dX5_orders_48 : decode cX5_orders 48 = .ok (.invokestatic 97, 3) := by decide +kernel
theorem dX5_orders_51 : decode cX5_orders 51 = .ok (.iload_n 2, 1) := by decide +kernel
theorem dX5_orders_52 : decode cX5_orders 52 = .ok (.iload 4, 2) := by decide +kernel
theorem dX5_orders_54 : decode cX5_orders 54 = .ok (.idiv, 1) := by decide +kernel
theorem dX5_orders_55 : decode cX5_orders 55 = .ok (.istore_n 2, 1) := by decide +kernel
theorem dX5_orders_56 : decode cX5_orders 56 = .ok (.iinc 3 1, 3) := by decide +kernel
theorem dX5_orders_59 : decode cX5_orders 59 = .ok (.goto (-42), 3) := by decide +kernel
theorem dX5_orders_62 : decode cX5_orders 62 = .ok (.return_, 1) := by decide +kernel
set_option maxRecDepth 20000 in
theorem ggX5_least_X5_allTrouble : GoodIn wsX5_least wsX5_allTrouble := goodIn_r _ [6, 7, 8, 5, 9, 10, 11, 12, 13, 14, 15] (by decide +kernel) (by decide +kernel)
set_option maxRecDepth 20000 in
theorem gX5_least_X5_allTrouble : GoodIn wsX5_least (va_wsS RX5 76 yX5_allTrouble wsX5_allTrouble) := goodIn_app (goodIn_of _ (by decide +kernel)) ggX5_least_X5_allTrouble
set_option maxRecDepth 20000 in
theorem ggX5_least_X5_orders : GoodIn wsX5_least wsX5_orders := goodIn_r _ [19, 1, 2, 20, 21, 5, 22, 23, 24, 25, 13, 14, 15, 26, 27, 28, 29, 30, 31, 32, 33, 34, 35, 36, 37, 38, 39, 40, 41, 42, 43] (by decide +kernel) (by decide +kernel)
set_option maxRecDepth 20000 in
theorem gX5_least_X5_orders : GoodIn wsX5_least (wsV RX5 173 RX5 yX5_orders wsX5_orders) := goodIn_app (goodIn_of _ (by decide +kernel)) ggX5_least_X5_orders
theorem dX5_least_0 : decode cX5_least 0 = .ok (.aload_n 0, 1) := by decide +kernel
theorem dX5_least_1 : decode cX5_least 1 = .ok (.getfield 7, 3) := by decide +kernel
theorem dX5_least_4 : decode cX5_least 4 = .ok (.iconst 4, 1) := by decide +kernel
theorem dX5_least_5 : decode cX5_least 5 = .ok (.iaload, 1) := by decide +kernel
theorem dX5_least_6 : decode cX5_least 6 = .ok (.bipush 6, 2) := by decide +kernel
theorem dX5_least_8 : decode cX5_least 8 = .ok (.if_icmp .le 5, 3) := by decide +kernel
theorem dX5_least_11 : decode cX5_least 11 = .ok (.iconst (-1), 1) := by decide +kernel
theorem dX5_least_12 : decode cX5_least 12 = .ok (.ireturn, 1) := by decide +kernel
theorem dX5_least_13 : decode cX5_least 13 = .ok (.iconst 1, 1) := by decide +kernel
theorem dX5_least_14 : decode cX5_least 14 = .ok (.istore_n 1, 1) := by decide +kernel
theorem dX5_least_15 : decode cX5_least 15 = .ok (.iconst 2, 1) := by decide +kernel
theorem dX5_least_16 : decode cX5_least 16 = .ok (.istore_n 2, 1) := by decide +kernel
theorem dX5_least_17 : decode cX5_least 17 = .ok (.iload_n 2, 1) := by decide +kernel
theorem dX5_least_18 : decode cX5_least 18 = .ok (.aload_n 0, 1) := by decide +kernel
theorem dX5_least_19 : decode cX5_least 19 = .ok (.getfield 7, 3) := by decide +kernel
theorem dX5_least_22 : decode cX5_least 22 = .ok (.iconst 4, 1) := by decide +kernel
theorem dX5_least_23 : decode cX5_least 23 = .ok (.iaload, 1) := by decide +kernel
theorem dX5_least_24 : decode cX5_least 24 = .ok (.if_icmp .gt 13, 3) := by decide +kernel
theorem dX5_least_27 : decode cX5_least 27 = .ok (.iload_n 1, 1) := by decide +kernel
theorem dX5_least_28 : decode cX5_least 28 = .ok (.iload_n 2, 1) := by decide +kernel
theorem dX5_least_29 : decode cX5_least 29 = .ok (.imul, 1) := by decide +kernel
theorem dX5_least_30 : decode cX5_least 30 = .ok (.istore_n 1, 1) := by decide +kernel
theorem dX5_least_31 : decode cX5_least 31 = .ok (.iinc 2 1, 3) := by decide +kernel
theorem dX5_least_34 : decode cX5_least 34 = .ok (.goto (-17), 3) := by decide +kernel
theorem dX5_least_37 : decode cX5_least 37 = .ok (.aload_n 0, 1) := by decide +kernel
theorem dX5_least_38 : decode cX5_least 38 = .ok (.getfield 7, 3) := by decide +kernel
theorem dX5_least_41 : decode cX5_least 41 = .ok (.invokestatic 76, 3) := by decide +kernel
theorem dX5_least_44 : decode cX5_least 44 = .ok (.istore_n 2, 1) := by decide +kernel
theorem dX5_least_45 : decode cX5_least 45 = .ok (.iconst 0, 1) := by decide +kernel
theorem dX5_least_46 : decode cX5_least 46 = .ok (.istore_n 3, 1) := by decide +kernel
theorem dX5_least_47 : decode cX5_least 47 = .ok (.iload_n 3, 1) := by decide +kernel
theorem dX5_least_48 : decode cX5_least 48 = .ok (.iload_n 1, 1) := by decide +kernel
theorem dX5_least_49 : decode cX5_least 49 = .ok (.if_icmp .ge 37, 3) := by decide +kernel
theorem dX5_least_52 : decode cX5_least 52 = .ok (.aload_n 0, 1) := by decide +kernel
theorem dX5_least_53 : decode cX5_least 53 = .ok (.iload_n 3, 1) := by decide +kernel
theorem dX5_least_54 : decode cX5_least 54 = .ok (.invokevirtual 173, 3) := by decide +kernel
theorem dX5_least_57 : decode cX5_least 57 = .ok (.aload_n 0, 1) := by decide +kernel
theorem dX5_least_58 : decode cX5_least 58 = .ok (.getfield 13, 3) := by decide +kernel
theorem dX5_least_61 : decode cX5_least 61 = .ok (.invokestatic 76, 3) := by decide +kernel
theorem dX5_least_64 : decode cX5_least 64 = .ok (.iload_n 2, 1) := by decide +kernel
theorem dX5_least_65 : decode cX5_least 65 = .ok (.if_icmp .ge 13, 3) := by decide +kernel
theorem dX5_least_68 : decode cX5_least 68 = .ok (.aload_n 0, 1) := by decide +kernel
theorem dX5_least_69 : decode cX5_least 69 = .ok (.getfield 13, 3) := by decide +kernel
theorem dX5_least_72 : decode cX5_least 72 = .ok (.invokestatic 76, 3) := by decide +kernel
theorem dX5_least_75 : decode cX5_least 75 = .ok (.goto 4, 3) := by decide +kernel
theorem dX5_least_78 : decode cX5_least 78 = .ok (.iload_n 2, 1) := by decide +kernel
theorem dX5_least_79 : decode cX5_least 79 = .ok (.istore_n 2, 1) := by decide +kernel
theorem dX5_least_80 : decode cX5_least 80 = .ok (.iinc 3 1, 3) := by decide +kernel
theorem dX5_least_83 : decode cX5_least 83 = .ok (.goto (-36), 3) := by decide +kernel
theorem dX5_least_86 : decode cX5_least 86 = .ok (.iload_n 2, 1) := by decide +kernel
theorem dX5_least_87 : decode cX5_least 87 = .ok (.ireturn, 1) := by decide +kernel
set_option maxRecDepth 20000 in
theorem ggX5_leastTrouble_X5_least : GoodIn wsX5_leastTrouble wsX5_least := goodIn_r _ [6, 7, 8, 9, 10, 5, 11, 12, 13, 14, 15, 16, 17, 18, 19, 20, 21, 22, 23, 24, 25, 26, 27, 28, 29, 30, 31, 32, 33, 34, 35, 36, 37, 38, 39, 40, 41, 42, 43, 44, 45, 46, 47, 48] (by decide +kernel) (by decide +kernel)
set_option maxRecDepth 20000 in
theorem gX5_leastTrouble_X5_least : GoodIn wsX5_leastTrouble (wsV RX5 177 RX5 yX5_least wsX5_least) := goodIn_app (goodIn_of _ (by decide +kernel)) ggX5_leastTrouble_X5_least
theorem dX5_leastTrouble_0 : decode cX5_leastTrouble 0 = .ok (.aload_n 0, 1) := by decide +kernel
theorem dX5_leastTrouble_1 : decode cX5_leastTrouble 1 = .ok (.iconst 0, 1) := by decide +kernel
theorem dX5_leastTrouble_2 : decode cX5_leastTrouble 2 = .ok (.putfield 28, 3) := by decide +kernel
theorem dX5_leastTrouble_5 : decode cX5_leastTrouble 5 = .ok (.aload_n 0, 1) := by decide +kernel
theorem dX5_leastTrouble_6 : decode cX5_leastTrouble 6 = .ok (.invokevirtual 177, 3) := by decide +kernel
theorem dX5_leastTrouble_9 : decode cX5_leastTrouble 9 = .ok (.ireturn, 1) := by decide +kernel
set_option maxRecDepth 20000 in
theorem ggX5_smooth_X5_overFloats : GoodIn wsX5_smooth wsX5_overFloats := goodIn_r _ [6, 1, 7, 8, 9, 5, 10, 11, 12, 13, 14, 15, 16, 17, 18, 19, 20, 21, 22, 23, 24, 25, 26, 27, 28, 29, 30, 31, 32, 33, 34, 35, 36, 37] (by decide +kernel) (by decide +kernel)
set_option maxRecDepth 20000 in
theorem gX5_smooth_X5_overFloats : GoodIn wsX5_smooth (wsV RX5 156 RX5 yX5_overFloats wsX5_overFloats) := goodIn_app (goodIn_of _ (by decide +kernel)) ggX5_smooth_X5_overFloats
theorem dX5_smooth_0 : decode cX5_smooth 0 = .ok (.aload_n 0, 1) := by decide +kernel
theorem dX5_smooth_1 : decode cX5_smooth 1 = .ok (.getfield 7, 3) := by decide +kernel
theorem dX5_smooth_4 : decode cX5_smooth 4 = .ok (.iconst 4, 1) := by decide +kernel
theorem dX5_smooth_5 : decode cX5_smooth 5 = .ok (.iaload, 1) := by decide +kernel
theorem dX5_smooth_6 : decode cX5_smooth 6 = .ok (.ifCond .ne 7, 3) := by decide +kernel
theorem dX5_smooth_9 : decode cX5_smooth 9 = .ok (.dconst 1, 1) := by decide +kernel
theorem dX5_smooth_10 : decode cX5_smooth 10 = .ok (.goto 24, 3) := by decide +kernel
theorem dX5_smooth_13 : decode cX5_smooth 13 = .ok (.aload_n 0, 1) := by decide +kernel
theorem dX5_smooth_14 : decode cX5_smooth 14 = .ok (.getfield 7, 3) := by decide +kernel
theorem dX5_smooth_17 : decode cX5_smooth 17 = .ok (.iconst 4, 1) := by decide +kernel
theorem dX5_smooth_18 : decode cX5_smooth 18 = .ok (.iaload, 1) := by decide +kernel
theorem dX5_smooth_19 : decode cX5_smooth 19 = .ok (.aload_n 0, 1) := by decide +kernel
theorem dX5_smooth_20 : decode cX5_smooth 20 = .ok (.iconst 5, 1) := by decide +kernel
theorem dX5_smooth_21 : decode cX5_smooth 21 = .ok (.invokevirtual 156, 3) := by decide +kernel
theorem dX5_smooth_24 : decode cX5_smooth 24 = .ok (.isub, 1) := by decide +kernel
theorem dX5_smooth_25 : decode cX5_smooth 25 = .ok (.i2d, 1) := by decide +kernel
theorem dX5_smooth_26 : decode cX5_smooth 26 = .ok (.aload_n 0, 1) := by decide +kernel
theorem dX5_smooth_27 : decode cX5_smooth 27 = .ok (.getfield 7, 3) := by decide +kernel
theorem dX5_smooth_30 : decode cX5_smooth 30 = .ok (.iconst 4, 1) := by decide +kernel
theorem dX5_smooth_31 : decode cX5_smooth 31 = .ok (.iaload, 1) := by decide +kernel
theorem dX5_smooth_32 : decode cX5_smooth 32 = .ok (.i2d, 1) := by decide +kernel
theorem dX5_smooth_33 : decode cX5_smooth 33 = .ok (.ddiv, 1) := by decide +kernel
theorem dX5_smooth_34 : decode cX5_smooth 34 = .ok (.dreturn, 1) := by decide +kernel
set_option maxRecDepth 20000 in
theorem ggX5_smoothness_X5_smooth : GoodIn wsX5_smoothness wsX5_smooth := goodIn_r _ [6, 7, 8, 9, 10, 5, 11, 12, 13, 14, 15, 16, 17, 18, 19, 20, 21, 22, 23, 24, 25, 26, 27, 28, 29, 30, 31, 32, 33, 34, 35, 36, 37, 38, 39, 40, 41, 42] (by decide +kernel) (by decide +kernel)
set_option maxRecDepth 20000 in
theorem gX5_smoothness_X5_smooth : GoodIn wsX5_smoothness (wsV RX5 180 RX5 yX5_smooth wsX5_smooth) := goodIn_app (goodIn_of _ (by decide +kernel)) ggX5_smoothness_X5_smooth
theorem dX5_smoothness_0 : decode cX5_smoothness 0 = .ok (.aload_n 0, 1) := by decide +kernel
theorem dX5_smoothness_1 : decode cX5_smoothness 1 = .ok (.iconst 0, 1) := by decide +kernel
theorem dX5_smoothness_2 : decode cX5_smoothness 2 = .ok (.putfield 28, 3) := by decide +kernel
theorem dX5_smoothness_5 : decode cX5_smoothness 5 = .ok (.aload_n 0, 1) := by decide +kernel
theorem dX5_smoothness_6 : decode cX5_smoothness 6 = .ok (.invokevirtual 180, 3) := by decide +kernel
theorem dX5_smoothness_9 : decode cX5_smoothness 9 = .ok (.dreturn, 1) := by decide +kernel
set_option maxRecDepth 20000 in
theorem ggX5_digest_X5_counted : GoodIn wsX5_digest wsX5_counted := goodIn_r _ [12, 4, 13, 14, 15, 11, 16, 17, 18, 19, 20, 21, 22, 23, 24, 25, 26, 27, 28, 29, 30, 31, 32, 33, 5, 34, 35, 36, 37, 38, 39, 40, 41, 42, 43, 44, 45, 46, 47, 110, 111, 112, 113, 114, 115, 116, 117, 118, 119, 120, 121] (by decide +kernel) (by decide +kernel)
set_option maxRecDepth 20000 in
theorem gX5_digest_X5_counted : GoodIn wsX5_digest (wsV RX5 159 RX5 yX5_counted wsX5_counted) := goodIn_app (goodIn_of _ (by decide +kernel)) ggX5_digest_X5_counted
set_option maxRecDepth 20000 in
theorem ggX5_digest_X5_ofBridge : GoodIn wsX5_digest wsX5_ofBridge := goodIn_r _ [51, 4, 52, 53, 54, 11, 55, 34, 35, 36, 37, 38, 39, 23, 24, 25, 110, 111, 112, 113, 114, 115, 116, 117, 118, 119, 120, 121] (by decide +kernel) (by decide +kernel)
set_option maxRecDepth 20000 in
theorem gX5_digest_X5_ofBridge : GoodIn wsX5_digest (wsV RX5 153 RX5 yX5_ofBridge wsX5_ofBridge) := goodIn_app (goodIn_of _ (by decide +kernel)) ggX5_digest_X5_ofBridge
set_option maxRecDepth 20000 in
theorem ggX5_digest_X5_ofFloat : GoodIn wsX5_digest wsX5_ofFloat := goodIn_r _ [59, 4, 23, 24, 11, 25, 37, 38, 39, 44, 45, 46, 47, 34, 35, 36, 17, 18, 19, 20, 21, 22, 110, 111, 112, 113, 114, 115, 116, 117, 118, 119, 120, 121] (by decide +kernel) (by decide +kernel)
set_option maxRecDepth 20000 in
theorem gX5_digest_X5_ofFloat : GoodIn wsX5_digest (wsV RX5 146 RX5 yX5_ofFloat wsX5_ofFloat) := goodIn_app (goodIn_of _ (by decide +kernel)) ggX5_digest_X5_ofFloat
set_option maxRecDepth 20000 in
theorem ggX5_digest_X5_troubled : GoodIn wsX5_digest wsX5_troubled := goodIn_r _ [22, 23, 24, 11, 25] (by decide +kernel) (by decide +kernel)
set_option maxRecDepth 20000 in
theorem gX5_digest_X5_troubled : GoodIn wsX5_digest (va_wsS RX5 51 yX5_troubled wsX5_troubled) := goodIn_app (goodIn_of _ (by decide +kernel)) ggX5_digest_X5_troubled
set_option maxRecDepth 20000 in
theorem ggX5_digest_X5_ends : GoodIn wsX5_digest wsX5_ends := goodIn_r _ [29, 30, 31, 32, 11, 33, 5, 34, 35, 36, 37, 38, 39, 23, 24, 25, 110, 111, 112, 113, 114, 115, 116, 117, 118, 119, 120, 121] (by decide +kernel) (by decide +kernel)
set_option maxRecDepth 20000 in
theorem gX5_digest_X5_ends : GoodIn wsX5_digest (wsV RX5 80 RX5 yX5_ends wsX5_ends) := goodIn_app (goodIn_of _ (by decide +kernel)) ggX5_digest_X5_ends
set_option maxRecDepth 20000 in
theorem ggX5_digest_X5_best : GoodIn wsX5_digest wsX5_best := goodIn_r _ [63, 4, 64, 65, 66, 67, 11, 68, 69, 70, 71, 72, 73, 74, 75, 23, 24, 25, 76, 77, 78, 79, 80, 81, 14, 15, 16, 17, 18, 19, 20, 21, 22, 26, 27, 28, 29, 30, 31, 32, 33, 5, 34, 35, 36, 37, 38, 39, 110, 111, 112, 113, 114, 115, 116, 117, 118, 119, 120, 121] (by decide +kernel) (by decide +kernel)
set_option maxRecDepth 20000 in
theorem gX5_digest_X5_best : GoodIn wsX5_digest (wsV RX5 167 RX5 yX5_best wsX5_best) := goodIn_app (goodIn_of _ (by decide +kernel)) ggX5_digest_X5_best
set_option maxRecDepth 20000 in
theorem ggX5_digest_X5_folding : GoodIn wsX5_digest wsX5_folding := goodIn_r _ [85, 4, 69, 23, 24, 11, 25, 70, 71, 72, 26, 27, 28, 29, 30, 31, 32, 33, 5, 34, 35, 36, 37, 38, 39, 110, 111, 112, 113, 114, 115, 116, 117, 118, 119, 120, 121] (by decide +kernel) (by decide +kernel)
set_option maxRecDepth 20000 in
theorem gX5_digest_X5_folding : GoodIn wsX5_digest (wsV RX5 170 RX5 yX5_folding wsX5_folding) := goodIn_app (goodIn_of _ (by decide +kernel)) ggX5_digest_X5_folding
set_option maxRecDepth 20000 in
theorem ggX5_digest_X5_least : GoodIn wsX5_digest wsX5_least := goodIn_r _ [89, 4, 69, 14, 15, 11, 16, 17, 18, 19, 20, 21, 22, 23, 24, 25, 90, 91, 92, 93, 70, 71, 72, 73, 74, 75, 76, 77, 78, 79, 80, 81, 110, 111, 112, 113, 114, 115, 116, 117, 118, 119, 120, 121] (by decide +kernel) (by decide +kernel)
set_option maxRecDepth 20000 in
theorem gX5_digest_X5_least : GoodIn wsX5_digest (wsV RX5 177 RX5 yX5_least wsX5_least) := goodIn_app (goodIn_of _ (by decide +kernel)) ggX5_digest_X5_least
set_option maxRecDepth 20000 in
theorem ggX5_digest_X5_smooth : GoodIn wsX5_digest wsX5_smooth := goodIn_r _ [97, 4, 40, 41, 42, 11, 43, 44, 45, 46, 47, 34, 35, 36, 37, 38, 39, 23, 24, 25, 17, 18, 19, 20, 21, 22, 110, 111, 112, 113, 114, 115, 116, 117, 118, 119, 120, 121] (by decide +kernel) (by decide +kernel)
set_option maxRecDepth 20000 in
theorem gX5_digest_X5_smooth : GoodIn wsX5_digest (wsV RX5 180 RX5 yX5_smooth wsX5_smooth) := goodIn_app (goodIn_of _ (by decide +kernel)) ggX5_digest_X5_smooth
set_option maxRecDepth 20000 in
theorem ggX5_digest_Jxe99ae_doubleToLongBits_ccdee : GoodIn wsX5_digest wsJxe99ae_doubleToLongBits_ccdee := goodIn_r _ [101, 102, 103, 104, 105, 106, 107, 108, 100, 109] (by decide +kernel) (by decide +kernel)
set_option maxRecDepth 20000 in
theorem gX5_digest_Jxe99ae_doubleToLongBits_ccdee : GoodIn wsX5_digest (va_wsS RX5 188 yJxe99ae_doubleToLongBits_ccdee wsJxe99ae_doubleToLongBits_ccdee) := goodIn_app (goodIn_of _ (by decide +kernel)) ggX5_digest_Jxe99ae_doubleToLongBits_ccdee
theorem dX5_digest_0 : decode cX5_digest 0 = .ok (.aload_n 0, 1) := by decide +kernel
theorem dX5_digest_1 : decode cX5_digest 1 = .ok (.iconst 0, 1) := by decide +kernel
theorem dX5_digest_2 : decode cX5_digest 2 = .ok (.putfield 28, 3) := by decide +kernel
theorem dX5_digest_5 : decode cX5_digest 5 = .ok (.ldc2_w 184, 3) := by decide +kernel
theorem dX5_digest_8 : decode cX5_digest 8 = .ok (.lstore_n 1, 1) := by decide +kernel
theorem dX5_digest_9 : decode cX5_digest 9 = .ok (.iconst 0, 1) := by decide +kernel
theorem dX5_digest_10 : decode cX5_digest 10 = .ok (.istore_n 3, 1) := by decide +kernel
theorem dX5_digest_11 : decode cX5_digest 11 = .ok (.iload_n 3, 1) := by decide +kernel
theorem dX5_digest_12 : decode cX5_digest 12 = .ok (.bipush 9, 2) := by decide +kernel
theorem dX5_digest_14 : decode cX5_digest 14 = .ok (.if_icmp .ge 22, 3) := by decide +kernel
theorem dX5_digest_17 : decode cX5_digest 17 = .ok (.ldc2_w 186, 3) := by decide +kernel
theorem dX5_digest_20 : decode cX5_digest 20 = .ok (.lload_n 1, 1) := by decide +kernel
theorem dX5_digest_21 : decode cX5_digest 21 = .ok (.lmul, 1) := by decide +kernel
theorem dX5_digest_22 : decode cX5_digest 22 = .ok (.aload_n 0, 1) := by decide +kernel
theorem dX5_digest_23 : decode cX5_digest 23 = .ok (.iload_n 3, 1) := by decide +kernel
theorem dX5_digest_24 : decode cX5_digest 24 = .ok (.invokevirtual 159, 3) := by decide +kernel
theorem dX5_digest_27 : decode cX5_digest 27 = .ok (.i2l, 1) := by decide +kernel
theorem dX5_digest_28 : decode cX5_digest 28 = .ok (.ladd, 1) := by decide +kernel
theorem dX5_digest_29 : decode cX5_digest 29 = .ok (.lstore_n 1, 1) := by decide +kernel
theorem dX5_digest_30 : decode cX5_digest 30 = .ok (.iinc 3 1, 3) := by decide +kernel
theorem dX5_digest_33 : decode cX5_digest 33 = .ok (.goto (-22), 3) := by decide +kernel
theorem dX5_digest_36 : decode cX5_digest 36 = .ok (.iconst 0, 1) := by decide +kernel
theorem dX5_digest_37 : decode cX5_digest 37 = .ok (.istore_n 3, 1) := by decide +kernel
theorem dX5_digest_38 : decode cX5_digest 38 = .ok (.iload_n 3, 1) := by decide +kernel
theorem dX5_digest_39 : decode cX5_digest 39 = .ok (.iconst 4, 1) := by decide +kernel
theorem dX5_digest_40 : decode cX5_digest 40 = .ok (.if_icmp .ge 23, 3) := by decide +kernel
theorem dX5_digest_43 : decode cX5_digest 43 = .ok (.ldc2_w 186, 3) := by decide +kernel
theorem dX5_digest_46 : decode cX5_digest 46 = .ok (.lload_n 1, 1) := by decide +kernel
theorem dX5_digest_47 : decode cX5_digest 47 = .ok (.lmul, 1) := by decide +kernel
theorem dX5_digest_48 : decode cX5_digest 48 = .ok (.aload_n 0, 1) := by decide +kernel
theorem dX5_digest_49 : decode cX5_digest 49 = .ok (.getfield 7, 3) := by decide +kernel
theorem dX5_digest_52 : decode cX5_digest 52 = .ok (.iload_n 3, 1) := by decide +kernel
theorem dX5_digest_53 : decode cX5_digest 53 = .ok (.iaload, 1) := by decide +kernel
theorem dX5_digest_54 : decode cX5_digest 54 = .ok (.i2l, 1) := by decide +kernel
theorem dX5_digest_55 : decode cX5_digest 55 = .ok (.ladd, 1) := by decide +kernel
theorem dX5_digest_56 : decode cX5_digest 56 = .ok (.lstore_n 1, 1) := by decide +kernel
theorem dX5_digest_57 : decode cX5_digest 57 = .ok (.iinc 3 1, 3) := by decide +kernel
theorem dX5_digest_60 : decode cX5_digest 60 = .ok (.goto (-22), 3) := by decide +kernel
theorem dX5_digest_63 : decode cX5_digest 63 = .ok (.iconst 0, 1) := by decide +kernel
theorem dX5_digest_64 : decode cX5_digest 64 = .ok (.istore_n 3, 1) := by decide +kernel
theorem dX5_digest_65 : decode cX5_digest 65 = .ok (.iload_n 3, 1) := by decide +kernel
theorem dX5_digest_66 : decode cX5_digest 66 = .ok (.aload_n 0, 1) := by decide +kernel
theorem dX5_digest_67 : decode cX5_digest 67 = .ok (.getfield 7, 3) := by decide +kernel
theorem dX5_digest_70 : decode cX5_digest 70 = .ok (.iconst 5, 1) := by decide +kernel
theorem dX5_digest_71 : decode cX5_digest 71 = .ok (.iaload, 1) := by decide +kernel
theorem dX5_digest_72 : decode cX5_digest 72 = .ok (.if_icmp .ge 39, 3) := by decide +kernel
theorem dX5_digest_75 : decode cX5_digest 75 = .ok (.iconst 0, 1) := by decide +kernel
theorem dX5_digest_76 : decode cX5_digest 76 = .ok (.istore 4, 2) := by decide +kernel
theorem dX5_digest_78 : decode cX5_digest 78 = .ok (.iload 4, 2) := by decide +kernel
theorem dX5_digest_80 : decode cX5_digest 80 = .ok (.iconst 3, 1) := by decide +kernel
theorem dX5_digest_81 : decode cX5_digest 81 = .ok (.if_icmp .ge 24, 3) := by decide +kernel
theorem dX5_digest_84 : decode cX5_digest 84 = .ok (.ldc2_w 186, 3) := by decide +kernel
theorem dX5_digest_87 : decode cX5_digest 87 = .ok (.lload_n 1, 1) := by decide +kernel
theorem dX5_digest_88 : decode cX5_digest 88 = .ok (.lmul, 1) := by decide +kernel
theorem dX5_digest_89 : decode cX5_digest 89 = .ok (.aload_n 0, 1) := by decide +kernel
theorem dX5_digest_90 : decode cX5_digest 90 = .ok (.iload_n 3, 1) := by decide +kernel
theorem dX5_digest_91 : decode cX5_digest 91 = .ok (.iload 4, 2) := by decide +kernel
theorem dX5_digest_93 : decode cX5_digest 93 = .ok (.invokevirtual 153, 3) := by decide +kernel
theorem dX5_digest_96 : decode cX5_digest 96 = .ok (.i2l, 1) := by decide +kernel
theorem dX5_digest_97 : decode cX5_digest 97 = .ok (.ladd, 1) := by decide +kernel
theorem dX5_digest_98 : decode cX5_digest 98 = .ok (.lstore_n 1, 1) := by decide +kernel
theorem dX5_digest_99 : decode cX5_digest 99 = .ok (.iinc 4 1, 3) := by decide +kernel
theorem dX5_digest_102 : decode cX5_digest 102 = .ok (.goto (-24), 3) := by decide +kernel
theorem dX5_digest_105 : decode cX5_digest 105 = .ok (.iinc 3 1, 3) := by decide +kernel
theorem dX5_digest_108 : decode cX5_digest 108 = .ok (.goto (-43), 3) := by decide +kernel
theorem dX5_digest_111 : decode cX5_digest 111 = .ok (.iconst 0, 1) := by decide +kernel
theorem dX5_digest_112 : decode cX5_digest 112 = .ok (.istore_n 3, 1) := by decide +kernel
theorem dX5_digest_113 : decode cX5_digest 113 = .ok (.iload_n 3, 1) := by decide +kernel
theorem dX5_digest_114 : decode cX5_digest 114 = .ok (.aload_n 0, 1) := by decide +kernel
theorem dX5_digest_115 : decode cX5_digest 115 = .ok (.getfield 7, 3) := by decide +kernel
theorem dX5_digest_118 : decode cX5_digest 118 = .ok (.iconst 4, 1) := by decide +kernel
theorem dX5_digest_119 : decode cX5_digest 119 = .ok (.iaload, 1) := by decide +kernel
theorem dX5_digest_120 : decode cX5_digest 120 = .ok (.if_icmp .ge 134, 3) := by decide +kernel
theorem dX5_digest_123 : decode cX5_digest 123 = .ok (.iconst 0, 1) := by decide +kernel
theorem dX5_digest_124 : decode cX5_digest 124 = .ok (.istore 4, 2) := by decide +kernel
theorem dX5_digest_126 : decode cX5_digest 126 = .ok (.iload 4, 2) := by decide +kernel
theorem dX5_digest_128 : decode cX5_digest 128 = .ok (.bipush 7, 2) := by decide +kernel
theorem dX5_digest_130 : decode cX5_digest 130 = .ok (.if_icmp .ge 24, 3) := by decide +kernel
theorem dX5_digest_133 : decode cX5_digest 133 = .ok (.ldc2_w 186, 3) := by decide +kernel
theorem dX5_digest_136 : decode cX5_digest 136 = .ok (.lload_n 1, 1) := by decide +kernel
theorem dX5_digest_137 : decode cX5_digest 137 = .ok (.lmul, 1) := by decide +kernel
theorem dX5_digest_138 : decode cX5_digest 138 = .ok (.aload_n 0, 1) := by decide +kernel
theorem dX5_digest_139 : decode cX5_digest 139 = .ok (.iload_n 3, 1) := by decide +kernel
theorem dX5_digest_140 : decode cX5_digest 140 = .ok (.iload 4, 2) := by decide +kernel
theorem dX5_digest_142 : decode cX5_digest 142 = .ok (.invokevirtual 146, 3) := by decide +kernel
theorem dX5_digest_145 : decode cX5_digest 145 = .ok (.i2l, 1) := by decide +kernel
theorem dX5_digest_146 : decode cX5_digest 146 = .ok (.ladd, 1) := by decide +kernel
theorem dX5_digest_147 : decode cX5_digest 147 = .ok (.lstore_n 1, 1) := by decide +kernel
theorem dX5_digest_148 : decode cX5_digest 148 = .ok (.iinc 4 1, 3) := by decide +kernel
theorem dX5_digest_151 : decode cX5_digest 151 = .ok (.goto (-25), 3) := by decide +kernel
theorem dX5_digest_154 : decode cX5_digest 154 = .ok (.iconst 0, 1) := by decide +kernel
theorem dX5_digest_155 : decode cX5_digest 155 = .ok (.istore 4, 2) := by decide +kernel
theorem dX5_digest_157 : decode cX5_digest 157 = .ok (.iload 4, 2) := by decide +kernel
theorem dX5_digest_159 : decode cX5_digest 159 = .ok (.iconst 3, 1) := by decide +kernel
theorem dX5_digest_160 : decode cX5_digest 160 = .ok (.if_icmp .ge 27, 3) := by decide +kernel
theorem dX5_digest_163 : decode cX5_digest 163 = .ok (.ldc2_w 186, 3) := by decide +kernel
theorem dX5_digest_166 : decode cX5_digest 166 = .ok (.lload_n 1, 1) := by decide +kernel
theorem dX5_digest_167 : decode cX5_digest 167 = .ok (.lmul, 1) := by decide +kernel
theorem dX5_digest_168 : decode cX5_digest 168 = .ok (.aload_n 0, 1) := by decide +kernel
theorem dX5_digest_169 : decode cX5_digest 169 = .ok (.getfield 7, 3) := by decide +kernel
theorem dX5_digest_172 : decode cX5_digest 172 = .ok (.iload_n 3, 1) := by decide +kernel
theorem dX5_digest_173 : decode cX5_digest 173 = .ok (.iload 4, 2) := by decide +kernel
theorem dX5_digest_175 : decode cX5_digest 175 = .ok (.invokestatic 51, 3) := by decide +kernel
theorem dX5_digest_178 : decode cX5_digest 178 = .ok (.i2l, 1) := by decide +kernel
theorem dX5_digest_179 : decode cX5_digest 179 = .ok (.ladd, 1) := by decide +kernel
theorem dX5_digest_180 : decode cX5_digest 180 = .ok (.lstore_n 1, 1) := by decide +kernel
theorem dX5_digest_181 : decode cX5_digest 181 = .ok (.iinc 4 1, 3) := by decide +kernel
theorem dX5_digest_184 : decode cX5_digest 184 = .ok (.goto (-27), 3) := by decide +kernel
theorem dX5_digest_187 : decode cX5_digest 187 = .ok (.aload_n 0, 1) := by decide +kernel
theorem dX5_digest_188 : decode cX5_digest 188 = .ok (.aload_n 0, 1) := by decide +kernel
theorem dX5_digest_189 : decode cX5_digest 189 = .ok (.getfield 7, 3) := by decide +kernel
theorem dX5_digest_192 : decode cX5_digest 192 = .ok (.invokevirtual 80, 3) := by decide +kernel
theorem dX5_digest_195 : decode cX5_digest 195 = .ok (.pop, 1) := by decide +kernel
theorem dX5_digest_196 : decode cX5_digest 196 = .ok (.iconst 0, 1) := by decide +kernel
theorem dX5_digest_197 : decode cX5_digest 197 = .ok (.istore 4, 2) := by decide +kernel
theorem dX5_digest_199 : decode cX5_digest 199 = .ok (.iload 4, 2) := by decide +kernel
theorem dX5_digest_201 : decode cX5_digest 201 = .ok (.aload_n 0, 1) := by decide +kernel
theorem dX5_digest_202 : decode cX5_digest 202 = .ok (.getfield 7, 3) := by decide +kernel
theorem dX5_digest_205 : decode cX5_digest 205 = .ok (.iconst 5, 1) := by decide +kernel
theorem dX5_digest_206 : decode cX5_digest 206 = .ok (.iaload, 1) := by decide +kernel
theorem dX5_digest_207 : decode cX5_digest 207 = .ok (.if_icmp .gt 28, 3) := by decide +kernel
theorem dX5_digest_210 : decode cX5_digest 210 = .ok (.ldc2_w 186, 3) := by decide +kernel
theorem dX5_digest_213 : decode cX5_digest 213 = .ok (.lload_n 1, 1) := by decide +kernel
theorem dX5_digest_214 : decode cX5_digest 214 = .ok (.lmul, 1) := by decide +kernel
theorem dX5_digest_215 : decode cX5_digest 215 = .ok (.aload_n 0, 1) := by decide +kernel
theorem dX5_digest_216 : decode cX5_digest 216 = .ok (.getfield 25, 3) := by decide +kernel
theorem dX5_digest_219 : decode cX5_digest 219 = .ok (.iconst 5, 1) := by decide +kernel
theorem dX5_digest_220 : decode cX5_digest 220 = .ok (.iload_n 3, 1) := by decide +kernel
theorem dX5_digest_221 : decode cX5_digest 221 = .ok (.imul, 1) := by decide +kernel
theorem dX5_digest_222 : decode cX5_digest 222 = .ok (.iload 4, 2) := by decide +kernel
theorem dX5_digest_224 : decode cX5_digest 224 = .ok (.iadd, 1) := by decide +kernel
theorem dX5_digest_225 : decode cX5_digest 225 = .ok (.iaload, 1) := by decide +kernel
theorem dX5_digest_226 : decode cX5_digest 226 = .ok (.i2l, 1) := by decide +kernel
theorem dX5_digest_227 : decode cX5_digest 227 = .ok (.ladd, 1) := by decide +kernel
theorem dX5_digest_228 : decode cX5_digest 228 = .ok (.lstore_n 1, 1) := by decide +kernel
theorem dX5_digest_229 : decode cX5_digest 229 = .ok (.iinc 4 1, 3) := by decide +kernel
theorem dX5_digest_232 : decode cX5_digest 232 = .ok (.goto (-33), 3) := by decide +kernel
theorem dX5_digest_235 : decode cX5_digest 235 = .ok (.ldc2_w 186, 3) := by decide +kernel
theorem dX5_digest_238 : decode cX5_digest 238 = .ok (.lload_n 1, 1) := by decide +kernel
theorem dX5_digest_239 : decode cX5_digest 239 = .ok (.lmul, 1) := by decide +kernel
theorem dX5_digest_240 : decode cX5_digest 240 = .ok (.aload_n 0, 1) := by decide +kernel
theorem dX5_digest_241 : decode cX5_digest 241 = .ok (.iload_n 3, 1) := by decide +kernel
theorem dX5_digest_242 : decode cX5_digest 242 = .ok (.invokevirtual 167, 3) := by decide +kernel
theorem dX5_digest_245 : decode cX5_digest 245 = .ok (.i2l, 1) := by decide +kernel
theorem dX5_digest_246 : decode cX5_digest 246 = .ok (.ladd, 1) := by decide +kernel
theorem dX5_digest_247 : decode cX5_digest 247 = .ok (.lstore_n 1, 1) := by decide +kernel
theorem dX5_digest_248 : decode cX5_digest 248 = .ok (.iinc 3 1, 3) := by decide +kernel
theorem dX5_digest_251 : decode cX5_digest 251 = .ok (.goto (-138), 3) := by decide +kernel
theorem dX5_digest_254 : decode cX5_digest 254 = .ok (.ldc2_w 186, 3) := by decide +kernel
theorem dX5_digest_257 : decode cX5_digest 257 = .ok (.ldc2_w 186, 3) := by decide +kernel
theorem dX5_digest_260 : decode cX5_digest 260 = .ok (.lload_n 1, 1) := by decide +kernel
theorem dX5_digest_261 : decode cX5_digest 261 = .ok (.lmul, 1) := by decide +kernel
theorem dX5_digest_262 : decode cX5_digest 262 = .ok (.aload_n 0, 1) := by decide +kernel
theorem dX5_digest_263 : decode cX5_digest 263 = .ok (.invokevirtual 170, 3) := by decide +kernel
theorem dX5_digest_266 : decode cX5_digest 266 = .ok (.i2l, 1) := by decide +kernel
theorem dX5_digest_267 : decode cX5_digest 267 = .ok (.ladd, 1) := by decide +kernel
theorem dX5_digest_268 : decode cX5_digest 268 = .ok (.lmul, 1) := by decide +kernel
theorem dX5_digest_269 : decode cX5_digest 269 = .ok (.aload_n 0, 1) := by decide +kernel
theorem dX5_digest_270 : decode cX5_digest 270 = .ok (.invokevirtual 177, 3) := by decide +kernel
theorem dX5_digest_273 : decode cX5_digest 273 = .ok (.i2l, 1) := by decide +kernel
theorem dX5_digest_274 : decode cX5_digest 274 = .ok (.ladd, 1) := by decide +kernel
theorem dX5_digest_275 : decode cX5_digest 275 = .ok (.lstore_n 1, 1) := by decide +kernel
theorem dX5_digest_276 : decode cX5_digest 276 = .ok (.ldc2_w 186, 3) := by decide +kernel
theorem dX5_digest_279 : decode cX5_digest 279 = .ok (.ldc2_w 186, 3) := by decide +kernel
theorem dX5_digest_282 : decode cX5_digest 282 = .ok (.lload_n 1, 1) := by decide +kernel
theorem dX5_digest_283 : decode cX5_digest 283 = .ok (.lmul, 1) := by decide +kernel
theorem dX5_digest_284 : decode cX5_digest 284 = .ok (.aload_n 0, 1) := by decide +kernel
theorem dX5_digest_285 : decode cX5_digest 285 = .ok (.invokevirtual 180, 3) := by decide +kernel
theorem dX5_digest_288 : decode cX5_digest 288 = .ok (.invokestatic 188, 3) := by decide +kernel
theorem dX5_digest_291 : decode cX5_digest 291 = .ok (.ladd, 1) := by decide +kernel
theorem dX5_digest_292 : decode cX5_digest 292 = .ok (.lmul, 1) := by decide +kernel
theorem dX5_digest_293 : decode cX5_digest 293 = .ok (.aload_n 0, 1) := by decide +kernel
theorem dX5_digest_294 : decode cX5_digest 294 = .ok (.getfield 110, 3) := by decide +kernel
theorem dX5_digest_297 : decode cX5_digest 297 = .ok (.i2l, 1) := by decide +kernel
theorem dX5_digest_298 : decode cX5_digest 298 = .ok (.ladd, 1) := by decide +kernel
theorem dX5_digest_299 : decode cX5_digest 299 = .ok (.lstore_n 1, 1) := by decide +kernel
theorem dX5_digest_300 : decode cX5_digest 300 = .ok (.iconst 0, 1) := by decide +kernel
theorem dX5_digest_301 : decode cX5_digest 301 = .ok (.istore_n 3, 1) := by decide +kernel
theorem dX5_digest_302 : decode cX5_digest 302 = .ok (.iload_n 3, 1) := by decide +kernel
theorem dX5_digest_303 : decode cX5_digest 303 = .ok (.aload_n 0, 1) := by decide +kernel
theorem dX5_digest_304 : decode cX5_digest 304 = .ok (.getfield 110, 3) := by decide +kernel
theorem dX5_digest_307 : decode cX5_digest 307 = .ok (.if_icmp .ge 23, 3) := by decide +kernel
theorem dX5_digest_310 : decode cX5_digest 310 = .ok (.ldc2_w 186, 3) := by decide +kernel
theorem dX5_digest_313 : decode cX5_digest 313 = .ok (.lload_n 1, 1) := by decide +kernel
theorem dX5_digest_314 : decode cX5_digest 314 = .ok (.lmul, 1) := by decide +kernel
theorem dX5_digest_315 : decode cX5_digest 315 = .ok (.aload_n 0, 1) := by decide +kernel
theorem dX5_digest_316 : decode cX5_digest 316 = .ok (.getfield 19, 3) := by decide +kernel
theorem dX5_digest_319 : decode cX5_digest 319 = .ok (.iload_n 3, 1) := by decide +kernel
theorem dX5_digest_320 : decode cX5_digest 320 = .ok (.iaload, 1) := by decide +kernel
theorem dX5_digest_321 : decode cX5_digest 321 = .ok (.i2l, 1) := by decide +kernel
theorem dX5_digest_322 : decode cX5_digest 322 = .ok (.ladd, 1) := by decide +kernel
theorem dX5_digest_323 : decode cX5_digest 323 = .ok (.lstore_n 1, 1) := by decide +kernel
theorem dX5_digest_324 : decode cX5_digest 324 = .ok (.iinc 3 1, 3) := by decide +kernel
theorem dX5_digest_327 : decode cX5_digest 327 = .ok (.goto (-25), 3) := by decide +kernel
theorem dX5_digest_330 : decode cX5_digest 330 = .ok (.lload_n 1, 1) := by decide +kernel
theorem dX5_digest_331 : decode cX5_digest 331 = .ok (.lreturn, 1) := by decide +kernel
theorem dJxe99ae_isNaN_b9ae7_0 : decode cJxe99ae_isNaN_b9ae7 0 = .ok (.dload_n 0, 1) := by decide +kernel
theorem dJxe99ae_isNaN_b9ae7_1 : decode cJxe99ae_isNaN_b9ae7 1 = .ok (.dload_n 0, 1) := by decide +kernel
theorem dJxe99ae_isNaN_b9ae7_2 : decode cJxe99ae_isNaN_b9ae7 2 = .ok (.dcmp .l, 1) := by decide +kernel
theorem dJxe99ae_isNaN_b9ae7_3 : decode cJxe99ae_isNaN_b9ae7 3 = .ok (.ifCond .eq 7, 3) := by decide +kernel
theorem dJxe99ae_isNaN_b9ae7_6 : decode cJxe99ae_isNaN_b9ae7 6 = .ok (.iconst 1, 1) := by decide +kernel
theorem dJxe99ae_isNaN_b9ae7_7 : decode cJxe99ae_isNaN_b9ae7 7 = .ok (.goto 4, 3) := by decide +kernel
theorem dJxe99ae_isNaN_b9ae7_10 : decode cJxe99ae_isNaN_b9ae7 10 = .ok (.iconst 0, 1) := by decide +kernel
theorem dJxe99ae_isNaN_b9ae7_11 : decode cJxe99ae_isNaN_b9ae7 11 = .ok (.ireturn, 1) := by decide +kernel
set_option maxRecDepth 20000 in
theorem ggJxe99ae_doubleToLongBits_ccdee_Jxe99ae_isNaN_b9ae7 : GoodIn wsJxe99ae_doubleToLongBits_ccdee wsJxe99ae_isNaN_b9ae7 := goodIn_r _ [9] (by decide +kernel) (by decide +kernel)
set_option maxRecDepth 20000 in
theorem gJxe99ae_doubleToLongBits_ccdee_Jxe99ae_isNaN_b9ae7 : GoodIn wsJxe99ae_doubleToLongBits_ccdee (va_wsS RJxe99ae 122 yJxe99ae_isNaN_b9ae7 wsJxe99ae_isNaN_b9ae7) := goodIn_app (goodIn_of _ (by decide +kernel)) ggJxe99ae_doubleToLongBits_ccdee_Jxe99ae_isNaN_b9ae7
theorem dJxe99ae_doubleToLongBits_ccdee_0 : decode cJxe99ae_doubleToLongBits_ccdee 0 = .ok (.dload_n 0, 1) := by decide +kernel
theorem dJxe99ae_doubleToLongBits_ccdee_1 : decode cJxe99ae_doubleToLongBits_ccdee 1 = .ok (.invokestatic 122, 3) := by decide +kernel
theorem dJxe99ae_doubleToLongBits_ccdee_4 : decode cJxe99ae_doubleToLongBits_ccdee 4 = .ok (.ifCond .ne 8, 3) := by decide +kernel
theorem dJxe99ae_doubleToLongBits_ccdee_7 : decode cJxe99ae_doubleToLongBits_ccdee 7 = .ok (.dload_n 0, 1) := by decide +kernel
theorem dJxe99ae_doubleToLongBits_ccdee_8 : decode cJxe99ae_doubleToLongBits_ccdee 8 = .ok (.invokestatic 134, 3) := by decide +kernel
theorem dJxe99ae_doubleToLongBits_ccdee_11 : decode cJxe99ae_doubleToLongBits_ccdee 11 = .ok (.lreturn, 1) := by decide +kernel
theorem dJxe99ae_doubleToLongBits_ccdee_12 : decode cJxe99ae_doubleToLongBits_ccdee 12 = .ok (.ldc2_w 137, 3) := by decide +kernel
theorem dJxe99ae_doubleToLongBits_ccdee_15 : decode cJxe99ae_doubleToLongBits_ccdee 15 = .ok (.lreturn, 1) := by decide +kernel
theorem dJ9_max_7cf53_0 : decode cJ9_max_7cf53 0 = .ok (.iload_n 0, 1) := by decide +kernel
theorem dJ9_max_7cf53_1 : decode cJ9_max_7cf53 1 = .ok (.iload_n 1, 1) := by decide +kernel
theorem dJ9_max_7cf53_2 : decode cJ9_max_7cf53 2 = .ok (.if_icmp .lt 7, 3) := by decide +kernel
theorem dJ9_max_7cf53_5 : decode cJ9_max_7cf53 5 = .ok (.iload_n 0, 1) := by decide +kernel
theorem dJ9_max_7cf53_6 : decode cJ9_max_7cf53 6 = .ok (.goto 4, 3) := by decide +kernel
theorem dJ9_max_7cf53_9 : decode cJ9_max_7cf53 9 = .ok (.iload_n 1, 1) := by decide +kernel
theorem dJ9_max_7cf53_10 : decode cJ9_max_7cf53 10 = .ok (.ireturn, 1) := by decide +kernel
