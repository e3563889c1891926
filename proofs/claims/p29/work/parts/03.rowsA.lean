theorem dX0_init_0 : decode cX0_init 0 = .ok (.aload_n 0, 1) := by decide +kernel
theorem dX0_init_1 : decode cX0_init 1 = .ok (.invokespecial 1, 3) := by decide +kernel
theorem dX0_init_4 : decode cX0_init 4 = .ok (.aload_n 0, 1) := by decide +kernel
theorem dX0_init_5 : decode cX0_init 5 = .ok (.iconst 0, 1) := by decide +kernel
theorem dX0_init_6 : decode cX0_init 6 = .ok (.putfield 7, 3) := by decide +kernel
theorem dX0_init_9 : decode cX0_init 9 = .ok (.aload_n 0, 1) := by decide +kernel
theorem dX0_init_10 : decode cX0_init 10 = .ok (.iconst 0, 1) := by decide +kernel
theorem dX0_init_11 : decode cX0_init 11 = .ok (.putfield 13, 3) := by decide +kernel
theorem dX0_init_14 : decode cX0_init 14 = .ok (.return_, 1) := by decide +kernel
set_option maxRecDepth 20000 in
theorem ggX0_startAt_X2_allTrouble : GoodIn wsX0_startAt wsX2_allTrouble := goodIn_r _ [7, 8, 9, 10, 11, 6, 12, 13, 14, 15, 16, 17, 18, 19, 20, 21, 22, 23, 24, 25, 26, 27, 53, 54, 55, 56, 57, 58, 59, 60, 61, 62, 63] (by decide +kernel) (by decide +kernel)
set_option maxRecDepth 20000 in
theorem gX0_startAt_X2_allTrouble : GoodIn wsX0_startAt (wsV RX0 16 RX2 yX2_allTrouble wsX2_allTrouble) := goodIn_app (goodIn_of _ (by decide +kernel)) ggX0_startAt_X2_allTrouble
set_option maxRecDepth 20000 in
theorem ggX0_startAt_X2_end : GoodIn wsX0_startAt wsX2_end := goodIn_r _ [31, 8, 32, 33, 34, 35, 36, 6, 37, 23, 38, 39, 40, 41, 42, 43, 44, 45, 46, 47, 48, 49, 50, 53, 54, 55, 56, 57, 58, 59, 60, 61, 62, 63] (by decide +kernel) (by decide +kernel)
set_option maxRecDepth 20000 in
theorem gX0_startAt_X2_end : GoodIn wsX0_startAt (wsV RX0 22 RX2 yX2_end wsX2_end) := goodIn_app (goodIn_of _ (by decide +kernel)) ggX0_startAt_X2_end
theorem dX0_startAt_0 : decode cX0_startAt 0 = .ok (.aload_n 0, 1) := by decide +kernel
theorem dX0_startAt_1 : decode cX0_startAt 1 = .ok (.aload_n 1, 1) := by decide +kernel
theorem dX0_startAt_2 : decode cX0_startAt 2 = .ok (.invokevirtual 16, 3) := by decide +kernel
theorem dX0_startAt_5 : decode cX0_startAt 5 = .ok (.putfield 7, 3) := by decide +kernel
theorem dX0_startAt_8 : decode cX0_startAt 8 = .ok (.aload_n 0, 1) := by decide +kernel
theorem dX0_startAt_9 : decode cX0_startAt 9 = .ok (.aload_n 1, 1) := by decide +kernel
theorem dX0_startAt_10 : decode cX0_startAt 10 = .ok (.invokevirtual 22, 3) := by decide +kernel
theorem dX0_startAt_13 : decode cX0_startAt 13 = .ok (.putfield 13, 3) := by decide +kernel
theorem dX0_startAt_16 : decode cX0_startAt 16 = .ok (.return_, 1) := by decide +kernel
set_option maxRecDepth 20000 in
theorem ggX0_isBeatenBy_X2_allTrouble : GoodIn wsX0_isBeatenBy wsX2_allTrouble := goodIn_r _ [7, 8, 9, 10, 11, 6, 12, 13, 14, 15, 16, 17, 18, 19, 20, 21, 22, 23, 24, 25, 26, 27, 53, 54, 55, 56, 57, 58, 59, 60, 61, 62, 63] (by decide +kernel) (by decide +kernel)
set_option maxRecDepth 20000 in
theorem gX0_isBeatenBy_X2_allTrouble : GoodIn wsX0_isBeatenBy (wsV RX0 16 RX2 yX2_allTrouble wsX2_allTrouble) := goodIn_app (goodIn_of _ (by decide +kernel)) ggX0_isBeatenBy_X2_allTrouble
set_option maxRecDepth 20000 in
theorem ggX0_isBeatenBy_X2_end : GoodIn wsX0_isBeatenBy wsX2_end := goodIn_r _ [31, 8, 32, 33, 34, 35, 36, 6, 37, 23, 38, 39, 40, 41, 42, 43, 44, 45, 46, 47, 48, 49, 50, 53, 54, 55, 56, 57, 58, 59, 60, 61, 62, 63] (by decide +kernel) (by decide +kernel)
set_option maxRecDepth 20000 in
theorem gX0_isBeatenBy_X2_end : GoodIn wsX0_isBeatenBy (wsV RX0 22 RX2 yX2_end wsX2_end) := goodIn_app (goodIn_of _ (by decide +kernel)) ggX0_isBeatenBy_X2_end
theorem dX0_isBeatenBy_0 : decode cX0_isBeatenBy 0 = .ok (.aload_n 1, 1) := by decide +kernel
theorem dX0_isBeatenBy_1 : decode cX0_isBeatenBy 1 = .ok (.invokevirtual 16, 3) := by decide +kernel
theorem dX0_isBeatenBy_4 : decode cX0_isBeatenBy 4 = .ok (.istore_n 2, 1) := by decide +kernel
theorem dX0_isBeatenBy_5 : decode cX0_isBeatenBy 5 = .ok (.iload_n 2, 1) := by decide +kernel
theorem dX0_isBeatenBy_6 : decode cX0_isBeatenBy 6 = .ok (.aload_n 0, 1) := by decide +kernel
theorem dX0_isBeatenBy_7 : decode cX0_isBeatenBy 7 = .ok (.getfield 7, 3) := by decide +kernel
theorem dX0_isBeatenBy_10 : decode cX0_isBeatenBy 10 = .ok (.if_icmp .le 5, 3) := by decide +kernel
theorem dX0_isBeatenBy_13 : decode cX0_isBeatenBy 13 = .ok (.iconst 0, 1) := by decide +kernel
theorem dX0_isBeatenBy_14 : decode cX0_isBeatenBy 14 = .ok (.ireturn, 1) := by decide +kernel
theorem dX0_isBeatenBy_15 : decode cX0_isBeatenBy 15 = .ok (.aload_n 1, 1) := by decide +kernel
theorem dX0_isBeatenBy_16 : decode cX0_isBeatenBy 16 = .ok (.invokevirtual 22, 3) := by decide +kernel
theorem dX0_isBeatenBy_19 : decode cX0_isBeatenBy 19 = .ok (.istore_n 3, 1) := by decide +kernel
theorem dX0_isBeatenBy_20 : decode cX0_isBeatenBy 20 = .ok (.iload_n 2, 1) := by decide +kernel
theorem dX0_isBeatenBy_21 : decode cX0_isBeatenBy 21 = .ok (.aload_n 0, 1) := by decide +kernel
theorem dX0_isBeatenBy_22 : decode cX0_isBeatenBy 22 = .ok (.getfield 7, 3) := by decide +kernel
theorem dX0_isBeatenBy_25 : decode cX0_isBeatenBy 25 = .ok (.if_icmp .ne 13, 3) := by decide +kernel
theorem dX0_isBeatenBy_28 : decode cX0_isBeatenBy 28 = .ok (.iload_n 3, 1) := by decide +kernel
theorem dX0_isBeatenBy_29 : decode cX0_isBeatenBy 29 = .ok (.aload_n 0, 1) := by decide +kernel
theorem dX0_isBeatenBy_30 : decode cX0_isBeatenBy 30 = .ok (.getfield 13, 3) := by decide +kernel
theorem dX0_isBeatenBy_33 : decode cX0_isBeatenBy 33 = .ok (.if_icmp .lt 5, 3) := by decide +kernel
theorem dX0_isBeatenBy_36 : decode cX0_isBeatenBy 36 = .ok (.iconst 0, 1) := by decide +kernel
theorem dX0_isBeatenBy_37 : decode cX0_isBeatenBy 37 = .ok (.ireturn, 1) := by decide +kernel
theorem dX0_isBeatenBy_38 : decode cX0_isBeatenBy 38 = .ok (.aload_n 0, 1) := by decide +kernel
theorem dX0_isBeatenBy_39 : decode cX0_isBeatenBy 39 = .ok (.iload_n 2, 1) := by decide +kernel
theorem dX0_isBeatenBy_40 : decode cX0_isBeatenBy 40 = .ok (.putfield 7, 3) := by decide +kernel
theorem dX0_isBeatenBy_43 : decode cX0_isBeatenBy 43 = .ok (.aload_n 0, 1) := by decide +kernel
theorem dX0_isBeatenBy_44 : decode cX0_isBeatenBy 44 = .ok (.iload_n 3, 1) := by decide +kernel
theorem dX0_isBeatenBy_45 : decode cX0_isBeatenBy 45 = .ok (.putfield 13, 3) := by decide +kernel
theorem dX0_isBeatenBy_48 : decode cX0_isBeatenBy 48 = .ok (.iconst 1, 1) := by decide +kernel
theorem dX0_isBeatenBy_49 : decode cX0_isBeatenBy 49 = .ok (.ireturn, 1) := by decide +kernel
set_option maxRecDepth 20000 in
theorem ggX1_init_X2_init : GoodIn wsX1_init wsX2_init := goodIn_r _ [10, 11, 2, 3, 12, 13, 14, 15, 16, 17, 18, 19, 20, 21, 22, 23, 24, 27, 28, 29, 30, 31, 32, 33, 34, 35, 36, 37] (by decide +kernel) (by decide +kernel)
set_option maxRecDepth 20000 in
theorem gX1_init_X2_init_n21 : GoodIn wsX1_init (wsX2_init) := ggX1_init_X2_init
theorem dX1_init_0 : decode cX1_init 0 = .ok (.aload_n 0, 1) := by decide +kernel
theorem dX1_init_1 : decode cX1_init 1 = .ok (.invokespecial 3, 3) := by decide +kernel
theorem dX1_init_4 : decode cX1_init 4 = .ok (.aload_n 0, 1) := by decide +kernel
theorem dX1_init_5 : decode cX1_init 5 = .ok (.bipush 6, 2) := by decide +kernel
theorem dX1_init_7 : decode cX1_init 7 = .ok (.anewarray 9, 3) := by decide +kernel
theorem dX1_init_10 : decode cX1_init 10 = .ok (.putfield 11, 3) := by decide +kernel
theorem dX1_init_13 : decode cX1_init 13 = .ok (.aload_n 0, 1) := by decide +kernel
theorem dX1_init_14 : decode cX1_init 14 = .ok (.iconst 0, 1) := by decide +kernel
theorem dX1_init_15 : decode cX1_init 15 = .ok (.putfield 17, 3) := by decide +kernel
theorem dX1_init_18 : decode cX1_init 18 = .ok (.iconst 0, 1) := by decide +kernel
theorem dX1_init_19 : decode cX1_init 19 = .ok (.istore_n 1, 1) := by decide +kernel
theorem dX1_init_20 : decode cX1_init 20 = .ok (.iload_n 1, 1) := by decide +kernel
theorem dX1_init_21 : decode cX1_init 21 = .ok (.bipush 6, 2) := by decide +kernel
theorem dX1_init_23 : decode cX1_init 23 = .ok (.if_icmp .ge 22, 3) := by decide +kernel
theorem dX1_init_26 : decode cX1_init 26 = .ok (.aload_n 0, 1) := by decide +kernel
theorem dX1_init_27 : decode cX1_init 27 = .ok (.getfield 11, 3) := by decide +kernel
theorem dX1_init_30 : decode cX1_init 30 = .ok (.iload_n 1, 1) := by decide +kernel
theorem dX1_init_31 : decode cX1_init 31 = .ok (.new 9, 3) := by decide +kernel
theorem dX1_init_34 : decode cX1_init 34 = .ok (.dup, 1) := by decide +kernel
theorem dX1_init_35 : decode cX1_init 35 = .ok (.invokespecial 21, 3) := by decide +kernel
theorem dX1_init_38 : decode cX1_init 38 = .ok (.aastore, 1) := by decide +kernel
theorem dX1_init_39 : decode cX1_init 39 = .ok (.iinc 1 1, 3) := by decide +kernel
theorem dX1_init_42 : decode cX1_init 42 = .ok (.goto (-22), 3) := by decide +kernel
theorem dX1_init_45 : decode cX1_init 45 = .ok (.return_, 1) := by decide +kernel
set_option maxRecDepth 20000 in
theorem ggX1_save_X1_dropOldest : GoodIn wsX1_save wsX1_dropOldest := goodIn_r _ [7, 2, 1, 22, 23] (by decide +kernel) (by decide +kernel)
set_option maxRecDepth 20000 in
theorem gX1_save_X1_dropOldest : GoodIn wsX1_save (wsV RX1 22 RX1 yX1_dropOldest wsX1_dropOldest) := goodIn_app (goodIn_of _ (by decide +kernel)) ggX1_save_X1_dropOldest
set_option maxRecDepth 20000 in
theorem ggX1_save_X2_copyFrom : GoodIn wsX1_save wsX2_copyFrom := goodIn_r _ [12, 13, 14, 15, 16, 17, 18, 19, 20, 21, 24, 25, 26, 27, 28, 29, 30, 31, 32, 33, 34] (by decide +kernel) (by decide +kernel)
set_option maxRecDepth 20000 in
theorem gX1_save_X2_copyFrom : GoodIn wsX1_save (wsV RX1 25 RX2 yX2_copyFrom wsX2_copyFrom) := goodIn_app (goodIn_of _ (by decide +kernel)) ggX1_save_X2_copyFrom
theorem dX1_save_0 : decode cX1_save 0 = .ok (.aload_n 0, 1) := by decide +kernel
theorem dX1_save_1 : decode cX1_save 1 = .ok (.getfield 17, 3) := by decide +kernel
theorem dX1_save_4 : decode cX1_save 4 = .ok (.bipush 6, 2) := by decide +kernel
theorem dX1_save_6 : decode cX1_save 6 = .ok (.if_icmp .lt 7, 3) := by decide +kernel
theorem dX1_save_9 : decode cX1_save 9 = .ok (.aload_n 0, 1) := by decide +kernel
theorem dX1_save_10 : decode cX1_save 10 = .ok (.invokevirtual 22, 3) := by decide +kernel
theorem dX1_save_13 : decode cX1_save 13 = .ok (.aload_n 0, 1) := by decide +kernel
theorem dX1_save_14 : decode cX1_save 14 = .ok (.getfield 11, 3) := by decide +kernel
theorem dX1_save_17 : decode cX1_save 17 = .ok (.aload_n 0, 1) := by decide +kernel
theorem dX1_save_18 : decode cX1_save 18 = .ok (.getfield 17, 3) := by decide +kernel
theorem dX1_save_21 : decode cX1_save 21 = .ok (.aaload, 1) := by decide +kernel
theorem dX1_save_22 : decode cX1_save 22 = .ok (.aload_n 1, 1) := by decide +kernel
theorem dX1_save_23 : decode cX1_save 23 = .ok (.invokevirtual 25, 3) := by decide +kernel
theorem dX1_save_26 : decode cX1_save 26 = .ok (.aload_n 0, 1) := by decide +kernel
theorem dX1_save_27 : decode cX1_save 27 = .ok (.dup, 1) := by decide +kernel
theorem dX1_save_28 : decode cX1_save 28 = .ok (.getfield 17, 3) := by decide +kernel
theorem dX1_save_31 : decode cX1_save 31 = .ok (.iconst 1, 1) := by decide +kernel
theorem dX1_save_32 : decode cX1_save 32 = .ok (.iadd, 1) := by decide +kernel
theorem dX1_save_33 : decode cX1_save 33 = .ok (.putfield 17, 3) := by decide +kernel
theorem dX1_save_36 : decode cX1_save 36 = .ok (.return_, 1) := by decide +kernel
theorem dX1_dropOldest_0 : decode cX1_dropOldest 0 = .ok (.aload_n 0, 1) := by decide +kernel
theorem dX1_dropOldest_1 : decode cX1_dropOldest 1 = .ok (.getfield 11, 3) := by decide +kernel
theorem dX1_dropOldest_4 : decode cX1_dropOldest 4 = .ok (.iconst 0, 1) := by decide +kernel
theorem dX1_dropOldest_5 : decode cX1_dropOldest 5 = .ok (.aaload, 1) := by decide +kernel
theorem dX1_dropOldest_6 : decode cX1_dropOldest 6 = .ok (.astore_n 1, 1) := by decide +kernel
theorem dX1_dropOldest_7 : decode cX1_dropOldest 7 = .ok (.iconst 1, 1) := by decide +kernel
theorem dX1_dropOldest_8 : decode cX1_dropOldest 8 = .ok (.istore_n 2, 1) := by decide +kernel
theorem dX1_dropOldest_9 : decode cX1_dropOldest 9 = .ok (.iload_n 2, 1) := by decide +kernel
theorem dX1_dropOldest_10 : decode cX1_dropOldest 10 = .ok (.bipush 6, 2) := by decide +kernel
theorem dX1_dropOldest_12 : decode cX1_dropOldest 12 = .ok (.if_icmp .ge 23, 3) := by decide +kernel
theorem dX1_dropOldest_15 : decode cX1_dropOldest 15 = .ok (.aload_n 0, 1) := by decide +kernel
theorem dX1_dropOldest_16 : decode cX1_dropOldest 16 = .ok (.getfield 11, 3) := by decide +kernel
theorem dX1_dropOldest_19 : decode cX1_dropOldest 19 = .ok (.iload_n 2, 1) := by decide +kernel
theorem dX1_dropOldest_20 : decode cX1_dropOldest 20 = .ok (.iconst 1, 1) := by decide +kernel
theorem dX1_dropOldest_21 : decode cX1_dropOldest 21 = .ok (.isub, 1) := by decide +kernel
theorem dX1_dropOldest_22 : decode cX1_dropOldest 22 = .ok (.aload_n 0, 1) := by decide +kernel
theorem dX1_dropOldest_23 : decode cX1_dropOldest 23 = .ok (.getfield 11, 3) := by decide +kernel
theorem dX1_dropOldest_26 : decode cX1_dropOldest 26 = .ok (.iload_n 2, 1) := by decide +kernel
theorem dX1_dropOldest_27 : decode cX1_dropOldest 27 = .ok (.aaload, 1) := by decide +kernel
theorem dX1_dropOldest_28 : decode cX1_dropOldest 28 = .ok (.aastore, 1) := by decide +kernel
theorem dX1_dropOldest_29 : decode cX1_dropOldest 29 = .ok (.iinc 2 1, 3) := by decide +kernel
theorem dX1_dropOldest_32 : decode cX1_dropOldest 32 = .ok (.goto (-23), 3) := by decide +kernel
theorem dX1_dropOldest_35 : decode cX1_dropOldest 35 = .ok (.aload_n 0, 1) := by decide +kernel
theorem dX1_dropOldest_36 : decode cX1_dropOldest 36 = .ok (.getfield 11, 3) := by decide +kernel
theorem dX1_dropOldest_39 : decode cX1_dropOldest 39 = .ok (.iconst 5, 1) := by decide +kernel
theorem dX1_dropOldest_40 : decode cX1_dropOldest 40 = .ok (.aload_n 1, 1) := by decide +kernel
theorem dX1_dropOldest_41 : decode cX1_dropOldest 41 = .ok (.aastore, 1) := by decide +kernel
theorem dX1_dropOldest_42 : decode cX1_dropOldest 42 = .ok (.aload_n 0, 1) := by decide +kernel
theorem dX1_dropOldest_43 : decode cX1_dropOldest 43 = .ok (.dup, 1) := by decide +kernel
theorem dX1_dropOldest_44 : decode cX1_dropOldest 44 = .ok (.getfield 17, 3) := by decide +kernel
theorem dX1_dropOldest_47 : decode cX1_dropOldest 47 = .ok (.iconst 1, 1) := by decide +kernel
theorem dX1_dropOldest_48 : decode cX1_dropOldest 48 = .ok (.isub, 1) := by decide +kernel
theorem dX1_dropOldest_49 : decode cX1_dropOldest 49 = .ok (.putfield 17, 3) := by decide +kernel
theorem dX1_dropOldest_52 : decode cX1_dropOldest 52 = .ok (.return_, 1) := by decide +kernel
set_option maxRecDepth 20000 in
theorem ggX1_restoreLatest_X2_copyFrom : GoodIn wsX1_restoreLatest wsX2_copyFrom := goodIn_r _ [7, 8, 9, 10, 11, 12, 13, 14, 15, 16, 19, 20, 21, 22, 23, 24, 25, 26, 27, 28, 29] (by decide +kernel) (by decide +kernel)
set_option maxRecDepth 20000 in
theorem gX1_restoreLatest_X2_copyFrom : GoodIn wsX1_restoreLatest (wsV RX1 25 RX2 yX2_copyFrom wsX2_copyFrom) := goodIn_app (goodIn_of _ (by decide +kernel)) ggX1_restoreLatest_X2_copyFrom
theorem dX1_restoreLatest_0 : decode cX1_restoreLatest 0 = .ok (.aload_n 0, 1) := by decide +kernel
theorem dX1_restoreLatest_1 : decode cX1_restoreLatest 1 = .ok (.getfield 17, 3) := by decide +kernel
theorem dX1_restoreLatest_4 : decode cX1_restoreLatest 4 = .ok (.ifCond .le 26, 3) := by decide +kernel
theorem dX1_restoreLatest_7 : decode cX1_restoreLatest 7 = .ok (.aload_n 0, 1) := by decide +kernel
theorem dX1_restoreLatest_8 : decode cX1_restoreLatest 8 = .ok (.dup, 1) := by decide +kernel
theorem dX1_restoreLatest_9 : decode cX1_restoreLatest 9 = .ok (.getfield 17, 3) := by decide +kernel
theorem dX1_restoreLatest_12 : decode cX1_restoreLatest 12 = .ok (.iconst 1, 1) := by decide +kernel
theorem dX1_restoreLatest_13 : decode cX1_restoreLatest 13 = .ok (.isub, 1) := by decide +kernel
theorem dX1_restoreLatest_14 : decode cX1_restoreLatest 14 = .ok (.putfield 17, 3) := by decide +kernel
theorem dX1_restoreLatest_17 : decode cX1_restoreLatest 17 = .ok (.aload_n 1, 1) := by decide +kernel
theorem dX1_restoreLatest_18 : decode cX1_restoreLatest 18 = .ok (.aload_n 0, 1) := by decide +kernel
theorem dX1_restoreLatest_19 : decode cX1_restoreLatest 19 = .ok (.getfield 11, 3) := by decide +kernel
theorem dX1_restoreLatest_22 : decode cX1_restoreLatest 22 = .ok (.aload_n 0, 1) := by decide +kernel
theorem dX1_restoreLatest_23 : decode cX1_restoreLatest 23 = .ok (.getfield 17, 3) := by decide +kernel
theorem dX1_restoreLatest_26 : decode cX1_restoreLatest 26 = .ok (.aaload, 1) := by decide +kernel
theorem dX1_restoreLatest_27 : decode cX1_restoreLatest 27 = .ok (.invokevirtual 25, 3) := by decide +kernel
theorem dX1_restoreLatest_30 : decode cX1_restoreLatest 30 = .ok (.return_, 1) := by decide +kernel
theorem dX2_init_0 : decode cX2_init 0 = .ok (.aload_n 0, 1) := by decide +kernel
theorem dX2_init_1 : decode cX2_init 1 = .ok (.invokespecial 3, 3) := by decide +kernel
theorem dX2_init_4 : decode cX2_init 4 = .ok (.aload_n 0, 1) := by decide +kernel
theorem dX2_init_5 : decode cX2_init 5 = .ok (.iconst 0, 1) := by decide +kernel
theorem dX2_init_6 : decode cX2_init 6 = .ok (.putfield 9, 3) := by decide +kernel
theorem dX2_init_9 : decode cX2_init 9 = .ok (.aload_n 0, 1) := by decide +kernel
theorem dX2_init_10 : decode cX2_init 10 = .ok (.bipush 12, 2) := by decide +kernel
theorem dX2_init_12 : decode cX2_init 12 = .ok (.newarray .int, 2) := by decide +kernel
theorem dX2_init_14 : decode cX2_init 14 = .ok (.putfield 15, 3) := by decide +kernel
theorem dX2_init_17 : decode cX2_init 17 = .ok (.aload_n 0, 1) := by decide +kernel
theorem dX2_init_18 : decode cX2_init 18 = .ok (.bipush 12, 2) := by decide +kernel
theorem dX2_init_20 : decode cX2_init 20 = .ok (.newarray .int, 2) := by decide +kernel
theorem dX2_init_22 : decode cX2_init 22 = .ok (.putfield 19, 3) := by decide +kernel
theorem dX2_init_25 : decode cX2_init 25 = .ok (.aload_n 0, 1) := by decide +kernel
theorem dX2_init_26 : decode cX2_init 26 = .ok (.bipush 12, 2) := by decide +kernel
theorem dX2_init_28 : decode cX2_init 28 = .ok (.newarray .int, 2) := by decide +kernel
theorem dX2_init_30 : decode cX2_init 30 = .ok (.putfield 22, 3) := by decide +kernel
theorem dX2_init_33 : decode cX2_init 33 = .ok (.aload_n 0, 1) := by decide +kernel
theorem dX2_init_34 : decode cX2_init 34 = .ok (.bipush 12, 2) := by decide +kernel
theorem dX2_init_36 : decode cX2_init 36 = .ok (.newarray .boolean, 2) := by decide +kernel
theorem dX2_init_38 : decode cX2_init 38 = .ok (.putfield 25, 3) := by decide +kernel
theorem dX2_init_41 : decode cX2_init 41 = .ok (.aload_n 0, 1) := by decide +kernel
theorem dX2_init_42 : decode cX2_init 42 = .ok (.iconst 0, 1) := by decide +kernel
theorem dX2_init_43 : decode cX2_init 43 = .ok (.putfield 29, 3) := by decide +kernel
theorem dX2_init_46 : decode cX2_init 46 = .ok (.aload_n 0, 1) := by decide +kernel
theorem dX2_init_47 : decode cX2_init 47 = .ok (.iconst 4, 1) := by decide +kernel
theorem dX2_init_48 : decode cX2_init 48 = .ok (.newarray .int, 2) := by decide +kernel
theorem dX2_init_50 : decode cX2_init 50 = .ok (.putfield 32, 3) := by decide +kernel
theorem dX2_init_53 : decode cX2_init 53 = .ok (.aload_n 0, 1) := by decide +kernel
theorem dX2_init_54 : decode cX2_init 54 = .ok (.iconst 4, 1) := by decide +kernel
theorem dX2_init_55 : decode cX2_init 55 = .ok (.newarray .int, 2) := by decide +kernel
theorem dX2_init_57 : decode cX2_init 57 = .ok (.putfield 35, 3) := by decide +kernel
theorem dX2_init_60 : decode cX2_init 60 = .ok (.aload_n 0, 1) := by decide +kernel
theorem dX2_init_61 : decode cX2_init 61 = .ok (.iconst 4, 1) := by decide +kernel
theorem dX2_init_62 : decode cX2_init 62 = .ok (.newarray .int, 2) := by decide +kernel
theorem dX2_init_64 : decode cX2_init 64 = .ok (.dup, 1) := by decide +kernel
theorem dX2_init_65 : decode cX2_init 65 = .ok (.iconst 0, 1) := by decide +kernel
theorem dX2_init_66 : decode cX2_init 66 = .ok (.iconst 3, 1) := by decide +kernel
theorem dX2_init_67 : decode cX2_init 67 = .ok (.iastore, 1) := by decide +kernel
theorem dX2_init_68 : decode cX2_init 68 = .ok (.dup, 1) := by decide +kernel
theorem dX2_init_69 : decode cX2_init 69 = .ok (.iconst 1, 1) := by decide +kernel
theorem dX2_init_70 : decode cX2_init 70 = .ok (.iconst 2, 1) := by decide +kernel
theorem dX2_init_71 : decode cX2_init 71 = .ok (.iastore, 1) := by decide +kernel
theorem dX2_init_72 : decode cX2_init 72 = .ok (.dup, 1) := by decide +kernel
theorem dX2_init_73 : decode cX2_init 73 = .ok (.iconst 2, 1) := by decide +kernel
theorem dX2_init_74 : decode cX2_init 74 = .ok (.iconst 2, 1) := by decide +kernel
theorem dX2_init_75 : decode cX2_init 75 = .ok (.iastore, 1) := by decide +kernel
theorem dX2_init_76 : decode cX2_init 76 = .ok (.dup, 1) := by decide +kernel
theorem dX2_init_77 : decode cX2_init 77 = .ok (.iconst 3, 1) := by decide +kernel
theorem dX2_init_78 : decode cX2_init 78 = .ok (.iconst 4, 1) := by decide +kernel
theorem dX2_init_79 : decode cX2_init 79 = .ok (.iastore, 1) := by decide +kernel
theorem dX2_init_80 : decode cX2_init 80 = .ok (.putfield 38, 3) := by decide +kernel
theorem dX2_init_83 : decode cX2_init 83 = .ok (.aload_n 0, 1) := by decide +kernel
theorem dX2_init_84 : decode cX2_init 84 = .ok (.iconst 5, 1) := by decide +kernel
theorem dX2_init_85 : decode cX2_init 85 = .ok (.newarray .int, 2) := by decide +kernel
theorem dX2_init_87 : decode cX2_init 87 = .ok (.putfield 41, 3) := by decide +kernel
theorem dX2_init_90 : decode cX2_init 90 = .ok (.aload_n 0, 1) := by decide +kernel
theorem dX2_init_91 : decode cX2_init 91 = .ok (.iconst 5, 1) := by decide +kernel
theorem dX2_init_92 : decode cX2_init 92 = .ok (.newarray .int, 2) := by decide +kernel
theorem dX2_init_94 : decode cX2_init 94 = .ok (.putfield 44, 3) := by decide +kernel
theorem dX2_init_97 : decode cX2_init 97 = .ok (.return_, 1) := by decide +kernel
theorem dX2_copyFrom_0 : decode cX2_copyFrom 0 = .ok (.aload_n 0, 1) := by decide +kernel
theorem dX2_copyFrom_1 : decode cX2_copyFrom 1 = .ok (.aload_n 1, 1) := by decide +kernel
theorem dX2_copyFrom_2 : decode cX2_copyFrom 2 = .ok (.getfield 9, 3) := by decide +kernel
theorem dX2_copyFrom_5 : decode cX2_copyFrom 5 = .ok (.putfield 9, 3) := by decide +kernel
theorem dX2_copyFrom_8 : decode cX2_copyFrom 8 = .ok (.iconst 0, 1) := by decide +kernel
theorem dX2_copyFrom_9 : decode cX2_copyFrom 9 = .ok (.istore_n 2, 1) := by decide +kernel
theorem dX2_copyFrom_10 : decode cX2_copyFrom 10 = .ok (.iload_n 2, 1) := by decide +kernel
theorem dX2_copyFrom_11 : decode cX2_copyFrom 11 = .ok (.aload_n 0, 1) := by decide +kernel
theorem dX2_copyFrom_12 : decode cX2_copyFrom 12 = .ok (.getfield 9, 3) := by decide +kernel
theorem dX2_copyFrom_15 : decode cX2_copyFrom 15 = .ok (.if_icmp .ge 57, 3) := by decide +kernel
theorem dX2_copyFrom_18 : decode cX2_copyFrom 18 = .ok (.aload_n 0, 1) := by decide +kernel
theorem dX2_copyFrom_19 : decode cX2_copyFrom 19 = .ok (.getfield 15, 3) := by decide +kernel
theorem dX2_copyFrom_22 : decode cX2_copyFrom 22 = .ok (.iload_n 2, 1) := by decide +kernel
theorem dX2_copyFrom_23 : decode cX2_copyFrom 23 = .ok (.aload_n 1, 1) := by decide +kernel
theorem dX2_copyFrom_24 : decode cX2_copyFrom 24 = .ok (.getfield 15, 3) := by decide +kernel
theorem dX2_copyFrom_27 : decode cX2_copyFrom 27 = .ok (.iload_n 2, 1) := by decide +kernel
theorem dX2_copyFrom_28 : decode cX2_copyFrom 28 = .ok (.iaload, 1) := by decide +kernel
theorem dX2_copyFrom_29 : decode cX2_copyFrom 29 = .ok (.iastore, 1) := by decide +kernel
theorem dX2_copyFrom_30 : decode cX2_copyFrom 30 = .ok (.aload_n 0, 1) := by decide +kernel
theorem dX2_copyFrom_31 : decode cX2_copyFrom 31 = .ok (.getfield 19, 3) := by decide +kernel
theorem dX2_copyFrom_34 : decode cX2_copyFrom 34 = .ok (.iload_n 2, 1) := by decide +kernel
theorem dX2_copyFrom_35 : decode cX2_copyFrom 35 = .ok (.aload_n 1, 1) := by decide +kernel
theorem dX2_copyFrom_36 : decode cX2_copyFrom 36 = .ok (.getfield 19, 3) := by decide +kernel
theorem dX2_copyFrom_39 : decode cX2_copyFrom 39 = .ok (.iload_n 2, 1) := by decide +kernel
theorem dX2_copyFrom_40 : decode cX2_copyFrom 40 = .ok (.iaload, 1) := by decide +kernel
theorem dX2_copyFrom_41 : decode cX2_copyFrom 41 = .ok (.iastore, 1) := by decide +kernel
theorem dX2_copyFrom_42 : decode cX2_copyFrom 42 = .ok (.aload_n 0, 1) := by decide +kernel
theorem dX2_copyFrom_43 : decode cX2_copyFrom 43 = .ok (.getfield 22, 3) := by decide +kernel
theorem dX2_copyFrom_46 : decode cX2_copyFrom 46 = .ok (.iload_n 2, 1) := by decide +kernel
theorem dX2_copyFrom_47 : decode cX2_copyFrom 47 = .ok (.aload_n 1, 1) := by decide +kernel
theorem dX2_copyFrom_48 : decode cX2_copyFrom 48 = .ok (.getfield 22, 3) := by decide +kernel
theorem dX2_copyFrom_51 : decode cX2_copyFrom 51 = .ok (.iload_n 2, 1) := by decide +kernel
theorem dX2_copyFrom_52 : decode cX2_copyFrom 52 = .ok (.iaload, 1) := by decide +kernel
theorem dX2_copyFrom_53 : decode cX2_copyFrom 53 = .ok (.iastore, 1) := by decide +kernel
theorem dX2_copyFrom_54 : decode cX2_copyFrom 54 = .ok (.aload_n 0, 1) := by decide +kernel
theorem dX2_copyFrom_55 : decode cX2_copyFrom 55 = .ok (.getfield 25, 3) := by decide +kernel
theorem dX2_copyFrom_58 : decode cX2_copyFrom 58 = .ok (.iload_n 2, 1) := by decide +kernel
theorem dX2_copyFrom_59 : decode cX2_copyFrom 59 = .ok (.aload_n 1, 1) := by decide +kernel
theorem dX2_copyFrom_60 : decode cX2_copyFrom 60 = .ok (.getfield 25, 3) := by decide +kernel
theorem dX2_copyFrom_63 : decode cX2_copyFrom 63 = .ok (.iload_n 2, 1) := by decide +kernel
theorem dX2_copyFrom_64 : decode cX2_copyFrom 64 = .ok (.baload, 1) := by decide +kernel
theorem dX2_copyFrom_65 : decode cX2_copyFrom 65 = .ok (.bastore, 1) := by decide +kernel
theorem dX2_copyFrom_66 : decode cX2_copyFrom 66 = .ok (.iinc 2 1, 3) := by decide +kernel
theorem dX2_copyFrom_69 : decode cX2_copyFrom 69 = .ok (.goto (-59), 3) := by decide +kernel
theorem dX2_copyFrom_72 : decode cX2_copyFrom 72 = .ok (.aload_n 0, 1) := by decide +kernel
theorem dX2_copyFrom_73 : decode cX2_copyFrom 73 = .ok (.aload_n 1, 1) := by decide +kernel
theorem dX2_copyFrom_74 : decode cX2_copyFrom 74 = .ok (.getfield 29, 3) := by decide +kernel
theorem dX2_copyFrom_77 : decode cX2_copyFrom 77 = .ok (.putfield 29, 3) := by decide +kernel
theorem dX2_copyFrom_80 : decode cX2_copyFrom 80 = .ok (.iconst 0, 1) := by decide +kernel
theorem dX2_copyFrom_81 : decode cX2_copyFrom 81 = .ok (.istore_n 2, 1) := by decide +kernel
theorem dX2_copyFrom_82 : decode cX2_copyFrom 82 = .ok (.iload_n 2, 1) := by decide +kernel
theorem dX2_copyFrom_83 : decode cX2_copyFrom 83 = .ok (.aload_n 0, 1) := by decide +kernel
theorem dX2_copyFrom_84 : decode cX2_copyFrom 84 = .ok (.getfield 29, 3) := by decide +kernel
theorem dX2_copyFrom_87 : decode cX2_copyFrom 87 = .ok (.if_icmp .ge 33, 3) := by decide +kernel
theorem dX2_copyFrom_90 : decode cX2_copyFrom 90 = .ok (.aload_n 0, 1) := by decide +kernel
theorem dX2_copyFrom_91 : decode cX2_copyFrom 91 = .ok (.getfield 32, 3) := by decide +kernel
theorem dX2_copyFrom_94 : decode cX2_copyFrom 94 = .ok (.iload_n 2, 1) := by decide +kernel
theorem dX2_copyFrom_95 : decode cX2_copyFrom 95 = .ok (.aload_n 1, 1) := by decide +kernel
theorem dX2_copyFrom_96 : decode cX2_copyFrom 96 = .ok (.getfield 32, 3) := by decide +kernel
theorem dX2_copyFrom_99 : decode cX2_copyFrom 99 = .ok (.iload_n 2, 1) := by decide +kernel
theorem dX2_copyFrom_100 : decode cX2_copyFrom 100 = .ok (.iaload, 1) := by decide +kernel
theorem dX2_copyFrom_101 : decode cX2_copyFrom 101 = .ok (.iastore, 1) := by decide +kernel
theorem dX2_copyFrom_102 : decode cX2_copyFrom 102 = .ok (.aload_n 0, 1) := by decide +kernel
theorem dX2_copyFrom_103 : decode cX2_copyFrom 103 = .ok (.getfield 35, 3) := by decide +kernel
theorem dX2_copyFrom_106 : decode cX2_copyFrom 106 = .ok (.iload_n 2, 1) := by decide +kernel
theorem dX2_copyFrom_107 : decode cX2_copyFrom 107 = .ok (.aload_n 1, 1) := by decide +kernel
theorem dX2_copyFrom_108 : decode cX2_copyFrom 108 = .ok (.getfield 35, 3) := by decide +kernel
theorem dX2_copyFrom_111 : decode cX2_copyFrom 111 = .ok (.iload_n 2, 1) := by decide +kernel
theorem dX2_copyFrom_112 : decode cX2_copyFrom 112 = .ok (.iaload, 1) := by decide +kernel
theorem dX2_copyFrom_113 : decode cX2_copyFrom 113 = .ok (.iastore, 1) := by decide +kernel
theorem dX2_copyFrom_114 : decode cX2_copyFrom 114 = .ok (.iinc 2 1, 3) := by decide +kernel
theorem dX2_copyFrom_117 : decode cX2_copyFrom 117 = .ok (.goto (-35), 3) := by decide +kernel
theorem dX2_copyFrom_120 : decode cX2_copyFrom 120 = .ok (.iconst 0, 1) := by decide +kernel
theorem dX2_copyFrom_121 : decode cX2_copyFrom 121 = .ok (.istore_n 2, 1) := by decide +kernel
theorem dX2_copyFrom_122 : decode cX2_copyFrom 122 = .ok (.iload_n 2, 1) := by decide +kernel
theorem dX2_copyFrom_123 : decode cX2_copyFrom 123 = .ok (.iconst 4, 1) := by decide +kernel
theorem dX2_copyFrom_124 : decode cX2_copyFrom 124 = .ok (.if_icmp .ge 21, 3) := by decide +kernel
theorem dX2_copyFrom_127 : decode cX2_copyFrom 127 = .ok (.aload_n 0, 1) := by decide +kernel
theorem dX2_copyFrom_128 : decode cX2_copyFrom 128 = .ok (.getfield 38, 3) := by decide +kernel
theorem dX2_copyFrom_131 : decode cX2_copyFrom 131 = .ok (.iload_n 2, 1) := by decide +kernel
theorem dX2_copyFrom_132 : decode cX2_copyFrom 132 = .ok (.aload_n 1, 1) := by decide +kernel
theorem dX2_copyFrom_133 : decode cX2_copyFrom 133 = .ok (.getfield 38, 3) := by decide +kernel
theorem dX2_copyFrom_136 : decode cX2_copyFrom 136 = .ok (.iload_n 2, 1) := by decide +kernel
theorem dX2_copyFrom_137 : decode cX2_copyFrom 137 = .ok (.iaload, 1) := by decide +kernel
theorem dX2_copyFrom_138 : decode cX2_copyFrom 138 = .ok (.iastore, 1) := by decide +kernel
theorem dX2_copyFrom_139 : decode cX2_copyFrom 139 = .ok (.iinc 2 1, 3) := by decide +kernel
theorem dX2_copyFrom_142 : decode cX2_copyFrom 142 = .ok (.goto (-20), 3) := by decide +kernel
theorem dX2_copyFrom_145 : decode cX2_copyFrom 145 = .ok (.return_, 1) := by decide +kernel
theorem dX2_addLast_0 : decode cX2_addLast 0 = .ok (.aload_n 0, 1) := by decide +kernel
theorem dX2_addLast_1 : decode cX2_addLast 1 = .ok (.getfield 9, 3) := by decide +kernel
theorem dX2_addLast_4 : decode cX2_addLast 4 = .ok (.bipush 12, 2) := by decide +kernel
theorem dX2_addLast_6 : decode cX2_addLast 6 = .ok (.if_icmp .ge 53, 3) := by decide +kernel
theorem dX2_addLast_9 : decode cX2_addLast 9 = .ok (.aload_n 0, 1) := by decide +kernel
theorem dX2_addLast_10 : decode cX2_addLast 10 = .ok (.getfield 15, 3) := by decide +kernel
theorem dX2_addLast_13 : decode cX2_addLast 13 = .ok (.aload_n 0, 1) := by decide +kernel
theorem dX2_addLast_14 : decode cX2_addLast 14 = .ok (.getfield 9, 3) := by decide +kernel
theorem dX2_addLast_17 : decode cX2_addLast 17 = .ok (.iload_n 1, 1) := by decide +kernel
theorem dX2_addLast_18 : decode cX2_addLast 18 = .ok (.iastore, 1) := by decide +kernel
theorem dX2_addLast_19 : decode cX2_addLast 19 = .ok (.aload_n 0, 1) := by decide +kernel
theorem dX2_addLast_20 : decode cX2_addLast 20 = .ok (.getfield 19, 3) := by decide +kernel
theorem dX2_addLast_23 : decode cX2_addLast 23 = .ok (.aload_n 0, 1) := by decide +kernel
theorem dX2_addLast_24 : decode cX2_addLast 24 = .ok (.getfield 9, 3) := by decide +kernel
theorem dX2_addLast_27 : decode cX2_addLast 27 = .ok (.iload_n 2, 1) := by decide +kernel
theorem dX2_addLast_28 : decode cX2_addLast 28 = .ok (.iastore, 1) := by decide +kernel
theorem dX2_addLast_29 : decode cX2_addLast 29 = .ok (.aload_n 0, 1) := by decide +kernel
theorem dX2_addLast_30 : decode cX2_addLast 30 = .ok (.getfield 22, 3) := by decide +kernel
theorem dX2_addLast_33 : decode cX2_addLast 33 = .ok (.aload_n 0, 1) := by decide +kernel
theorem dX2_addLast_34 : decode cX2_addLast 34 = .ok (.getfield 9, 3) := by decide +kernel
theorem dX2_addLast_37 : decode cX2_addLast 37 = .ok (.iload_n 3, 1) := by decide +kernel
theorem dX2_addLast_38 : decode cX2_addLast 38 = .ok (.iastore, 1) := by decide +kernel
theorem dX2_addLast_39 : decode cX2_addLast 39 = .ok (.aload_n 0, 1) := by decide +kernel
theorem dX2_addLast_40 : decode cX2_addLast 40 = .ok (.getfield 25, 3) := by decide +kernel
theorem dX2_addLast_43 : decode cX2_addLast 43 = .ok (.aload_n 0, 1) := by decide +kernel
theorem dX2_addLast_44 : decode cX2_addLast 44 = .ok (.getfield 9, 3) := by decide +kernel
theorem dX2_addLast_47 : decode cX2_addLast 47 = .ok (.iconst 0, 1) := by decide +kernel
theorem dX2_addLast_48 : decode cX2_addLast 48 = .ok (.bastore, 1) := by decide +kernel
theorem dX2_addLast_49 : decode cX2_addLast 49 = .ok (.aload_n 0, 1) := by decide +kernel
theorem dX2_addLast_50 : decode cX2_addLast 50 = .ok (.dup, 1) := by decide +kernel
theorem dX2_addLast_51 : decode cX2_addLast 51 = .ok (.getfield 9, 3) := by decide +kernel
theorem dX2_addLast_54 : decode cX2_addLast 54 = .ok (.iconst 1, 1) := by decide +kernel
theorem dX2_addLast_55 : decode cX2_addLast 55 = .ok (.iadd, 1) := by decide +kernel
theorem dX2_addLast_56 : decode cX2_addLast 56 = .ok (.putfield 9, 3) := by decide +kernel
theorem dX2_addLast_59 : decode cX2_addLast 59 = .ok (.return_, 1) := by decide +kernel
set_option maxRecDepth 20000 in
theorem ggX2_takeAway_X2_shift : GoodIn wsX2_takeAway wsX2_shift := goodIn_r _ [6, 7, 8, 9, 5, 10, 11, 12, 13, 14, 15, 16, 17, 18, 19, 20, 21, 22, 23, 24, 25] (by decide +kernel) (by decide +kernel)
set_option maxRecDepth 20000 in
theorem gX2_takeAway_X2_shift : GoodIn wsX2_takeAway (wsV RX2 47 RX2 yX2_shift wsX2_shift) := goodIn_app (goodIn_of _ (by decide +kernel)) ggX2_takeAway_X2_shift
theorem dX2_takeAway_0 : decode cX2_takeAway 0 = .ok (.aload_n 0, 1) := by decide +kernel
theorem dX2_takeAway_1 : decode cX2_takeAway 1 = .ok (.iload_n 1, 1) := by decide +kernel
theorem dX2_takeAway_2 : decode cX2_takeAway 2 = .ok (.aload_n 0, 1) := by decide +kernel
theorem dX2_takeAway_3 : decode cX2_takeAway 3 = .ok (.getfield 9, 3) := by decide +kernel
theorem dX2_takeAway_6 : decode cX2_takeAway 6 = .ok (.iconst 1, 1) := by decide +kernel
theorem dX2_takeAway_7 : decode cX2_takeAway 7 = .ok (.isub, 1) := by decide +kernel
theorem dX2_takeAway_8 : decode cX2_takeAway 8 = .ok (.invokevirtual 47, 3) := by decide +kernel
theorem dX2_takeAway_11 : decode cX2_takeAway 11 = .ok (.aload_n 0, 1) := by decide +kernel
theorem dX2_takeAway_12 : decode cX2_takeAway 12 = .ok (.dup, 1) := by decide +kernel
theorem dX2_takeAway_13 : decode cX2_takeAway 13 = .ok (.getfield 9, 3) := by decide +kernel
theorem dX2_takeAway_16 : decode cX2_takeAway 16 = .ok (.iconst 1, 1) := by decide +kernel
theorem dX2_takeAway_17 : decode cX2_takeAway 17 = .ok (.isub, 1) := by decide +kernel
theorem dX2_takeAway_18 : decode cX2_takeAway 18 = .ok (.putfield 9, 3) := by decide +kernel
theorem dX2_takeAway_21 : decode cX2_takeAway 21 = .ok (.return_, 1) := by decide +kernel
set_option maxRecDepth 20000 in
theorem ggX2_shift_X2_swap : GoodIn wsX2_shift wsX2_swap := goodIn_r _ [5, 6, 7, 8, 9, 10, 11, 12, 13, 14, 15, 16, 17, 18, 19, 20] (by decide +kernel) (by decide +kernel)
set_option maxRecDepth 20000 in
theorem gX2_shift_X2_swap : GoodIn wsX2_shift (wsV RX2 51 RX2 yX2_swap wsX2_swap) := goodIn_app (goodIn_of _ (by decide +kernel)) ggX2_shift_X2_swap
theorem dX2_shift_0 : decode cX2_shift 0 = .ok (.iload_n 1, 1) := by decide +kernel
theorem dX2_shift_1 : decode cX2_shift 1 = .ok (.istore_n 3, 1) := by decide +kernel
theorem dX2_shift_2 : decode cX2_shift 2 = .ok (.iload_n 3, 1) := by decide +kernel
theorem dX2_shift_3 : decode cX2_shift 3 = .ok (.iload_n 2, 1) := by decide +kernel
theorem dX2_shift_4 : decode cX2_shift 4 = .ok (.if_icmp .ge 17, 3) := by decide +kernel
theorem dX2_shift_7 : decode cX2_shift 7 = .ok (.aload_n 0, 1) := by decide +kernel
theorem dX2_shift_8 : decode cX2_shift 8 = .ok (.iload_n 3, 1) := by decide +kernel
theorem dX2_shift_9 : decode cX2_shift 9 = .ok (.iload_n 3, 1) := by decide +kernel
theorem dX2_shift_10 : decode cX2_shift 10 = .ok (.iconst 1, 1) := by decide +kernel
theorem dX2_shift_11 : decode cX2_shift 11 = .ok (.iadd, 1) := by decide +kernel
theorem dX2_shift_12 : decode cX2_shift 12 = .ok (.invokevirtual 51, 3) := by decide +kernel
theorem dX2_shift_15 : decode cX2_shift 15 = .ok (.iinc 3 1, 3) := by decide +kernel
theorem dX2_shift_18 : decode cX2_shift 18 = .ok (.goto (-16), 3) := by decide +kernel
theorem dX2_shift_21 : decode cX2_shift 21 = .ok (.iload_n 1, 1) := by decide +kernel
theorem dX2_shift_22 : decode cX2_shift 22 = .ok (.istore_n 3, 1) := by decide +kernel
theorem dX2_shift_23 : decode cX2_shift 23 = .ok (.iload_n 3, 1) := by decide +kernel
theorem dX2_shift_24 : decode cX2_shift 24 = .ok (.iload_n 2, 1) := by decide +kernel
theorem dX2_shift_25 : decode cX2_shift 25 = .ok (.if_icmp .le 17, 3) := by decide +kernel
theorem dX2_shift_28 : decode cX2_shift 28 = .ok (.aload_n 0, 1) := by decide +kernel
theorem dX2_shift_29 : decode cX2_shift 29 = .ok (.iload_n 3, 1) := by decide +kernel
theorem dX2_shift_30 : decode cX2_shift 30 = .ok (.iload_n 3, 1) := by decide +kernel
theorem dX2_shift_31 : decode cX2_shift 31 = .ok (.iconst 1, 1) := by decide +kernel
theorem dX2_shift_32 : decode cX2_shift 32 = .ok (.isub, 1) := by decide +kernel
theorem dX2_shift_33 : decode cX2_shift 33 = .ok (.invokevirtual 51, 3) := by decide +kernel
theorem dX2_shift_36 : decode cX2_shift 36 = .ok (.iinc 3 (-1), 3) := by decide +kernel
theorem dX2_shift_39 : decode cX2_shift 39 = .ok (.goto (-16), 3) := by decide +kernel
theorem dX2_shift_42 : decode cX2_shift 42 = .ok (.return_, 1) := by decide +kernel
theorem dX2_swap_0 : decode cX2_swap 0 = .ok (.aload_n 0, 1) := by decide +kernel
theorem dX2_swap_1 : decode cX2_swap 1 = .ok (.getfield 15, 3) := by decide +kernel
theorem dX2_swap_4 : decode cX2_swap 4 = .ok (.iload_n 1, 1) := by decide +kernel
theorem dX2_swap_5 : decode cX2_swap 5 = .ok (.iaload, 1) := by decide +kernel
theorem dX2_swap_6 : decode cX2_swap 6 = .ok (.istore_n 3, 1) := by decide +kernel
theorem dX2_swap_7 : decode cX2_swap 7 = .ok (.aload_n 0, 1) := by decide +kernel
theorem dX2_swap_8 : decode cX2_swap 8 = .ok (.getfield 15, 3) := by decide +kernel
theorem dX2_swap_11 : decode cX2_swap 11 = .ok (.iload_n 1, 1) := by decide +kernel
theorem dX2_swap_12 : decode cX2_swap 12 = .ok (.aload_n 0, 1) := by decide +kernel
theorem dX2_swap_13 : decode cX2_swap 13 = .ok (.getfield 15, 3) := by decide +kernel
theorem dX2_swap_16 : decode cX2_swap 16 = .ok (.iload_n 2, 1) := by decide +kernel
theorem dX2_swap_17 : decode cX2_swap 17 = .ok (.iaload, 1) := by decide +kernel
theorem dX2_swap_18 : decode cX2_swap 18 = .ok (.iastore, 1) := by decide +kernel
theorem dX2_swap_19 : decode cX2_swap 19 = .ok (.aload_n 0, 1) := by decide +kernel
theorem dX2_swap_20 : decode cX2_swap 20 = .ok (.getfield 15, 3) := by decide +kernel
theorem dX2_swap_23 : decode cX2_swap 23 = .ok (.iload_n 2, 1) := by decide +kernel
theorem dX2_swap_24 : decode cX2_swap 24 = .ok (.iload_n 3, 1) := by decide +kernel
theorem dX2_swap_25 : decode cX2_swap 25 = .ok (.iastore, 1) := by decide +kernel
theorem dX2_swap_26 : decode cX2_swap 26 = .ok (.aload_n 0, 1) := by decide +kernel
theorem dX2_swap_27 : decode cX2_swap 27 = .ok (.getfield 19, 3) := by decide +kernel
theorem dX2_swap_30 : decode cX2_swap 30 = .ok (.iload_n 1, 1) := by decide +kernel
theorem dX2_swap_31 : decode cX2_swap 31 = .ok (.iaload, 1) := by decide +kernel
theorem dX2_swap_32 : decode cX2_swap 32 = .ok (.istore 4, 2) := by decide +kernel
theorem dX2_swap_34 : decode cX2_swap 34 = .ok (.aload_n 0, 1) := by decide +kernel
theorem dX2_swap_35 : decode cX2_swap 35 = .ok (.getfield 19, 3) := by decide +kernel
theorem dX2_swap_38 : decode cX2_swap 38 = .ok (.iload_n 1, 1) := by decide +kernel
theorem dX2_swap_39 : decode cX2_swap 39 = .ok (.aload_n 0, 1) := by decide +kernel
theorem dX2_swap_40 : decode cX2_swap 40 = .ok (.getfield 19, 3) := by decide +kernel
theorem dX2_swap_43 : decode cX2_swap 43 = .ok (.iload_n 2, 1) := by decide +kernel
theorem dX2_swap_44 : decode cX2_swap 44 = .ok (.iaload, 1) := by decide +kernel
theorem dX2_swap_45 : decode cX2_swap 45 = .ok (.iastore, 1) := by decide +kernel
theorem dX2_swap_46 : decode cX2_swap 46 = .ok (.aload_n 0, 1) := by decide +kernel
theorem dX2_swap_47 : decode cX2_swap 47 = .ok (.getfield 19, 3) := by decide +kernel
theorem dX2_swap_50 : decode cX2_swap 50 = .ok (.iload_n 2, 1) := by decide +kernel
theorem dX2_swap_51 : decode cX2_swap 51 = .ok (.iload 4, 2) := by decide +kernel
theorem dX2_swap_53 : decode cX2_swap 53 = .ok (.iastore, 1) := by decide +kernel
theorem dX2_swap_54 : decode cX2_swap 54 = .ok (.aload_n 0, 1) := by decide +kernel
theorem dX2_swap_55 : decode cX2_swap 55 = .ok (.getfield 22, 3) := by decide +kernel
theorem dX2_swap_58 : decode cX2_swap 58 = .ok (.iload_n 1, 1) := by decide +kernel
theorem dX2_swap_59 : decode cX2_swap 59 = .ok (.iaload, 1) := by decide +kernel
theorem dX2_swap_60 : decode cX2_swap 60 = .ok (.istore 5, 2) := by decide +kernel
theorem dX2_swap_62 : decode cX2_swap 62 = .ok (.aload_n 0, 1) := by decide +kernel
theorem dX2_swap_63 : decode cX2_swap 63 = .ok (.getfield 22, 3) := by decide +kernel
theorem dX2_swap_66 : decode cX2_swap 66 = .ok (.iload_n 1, 1) := by decide +kernel
theorem dX2_swap_67 : decode cX2_swap 67 = .ok (.aload_n 0, 1) := by decide +kernel
theorem dX2_swap_68 : decode cX2_swap 68 = .ok (.getfield 22, 3) := by decide +kernel
theorem dX2_swap_71 : decode cX2_swap 71 = .ok (.iload_n 2, 1) := by decide +kernel
theorem dX2_swap_72 : decode cX2_swap 72 = .ok (.iaload, 1) := by decide +kernel
theorem dX2_swap_73 : decode cX2_swap 73 = .ok (.iastore, 1) := by decide +kernel
theorem dX2_swap_74 : decode cX2_swap 74 = .ok (.aload_n 0, 1) := by decide +kernel
theorem dX2_swap_75 : decode cX2_swap 75 = .ok (.getfield 22, 3) := by decide +kernel
theorem dX2_swap_78 : decode cX2_swap 78 = .ok (.iload_n 2, 1) := by decide +kernel
theorem dX2_swap_79 : decode cX2_swap 79 = .ok (.iload 5, 2) := by decide +kernel
theorem dX2_swap_81 : decode cX2_swap 81 = .ok (.iastore, 1) := by decide +kernel
theorem dX2_swap_82 : decode cX2_swap 82 = .ok (.aload_n 0, 1) := by decide +kernel
theorem dX2_swap_83 : decode cX2_swap 83 = .ok (.getfield 25, 3) := by decide +kernel
theorem dX2_swap_86 : decode cX2_swap 86 = .ok (.iload_n 1, 1) := by decide +kernel
theorem dX2_swap_87 : decode cX2_swap 87 = .ok (.baload, 1) := by decide +kernel
theorem dX2_swap_88 : decode cX2_swap 88 = .ok (.istore 6, 2) := by decide +kernel
theorem dX2_swap_90 : decode cX2_swap 90 = .ok (.aload_n 0, 1) := by decide +kernel
theorem dX2_swap_91 : decode cX2_swap 91 = .ok (.getfield 25, 3) := by decide +kernel
theorem dX2_swap_94 : decode cX2_swap 94 = .ok (.iload_n 1, 1) := by decide +kernel
theorem dX2_swap_95 : decode cX2_swap 95 = .ok (.aload_n 0, 1) := by decide +kernel
theorem dX2_swap_96 : decode cX2_swap 96 = .ok (.getfield 25, 3) := by decide +kernel
theorem dX2_swap_99 : decode cX2_swap 99 = .ok (.iload_n 2, 1) := by decide +kernel
theorem dX2_swap_100 : decode cX2_swap 100 = .ok (.baload, 1) := by decide +kernel
theorem dX2_swap_101 : decode cX2_swap 101 = .ok (.bastore, 1) := by decide +kernel
theorem dX2_swap_102 : decode cX2_swap 102 = .ok (.aload_n 0, 1) := by decide +kernel
theorem dX2_swap_103 : decode cX2_swap 103 = .ok (.getfield 25, 3) := by decide +kernel
theorem dX2_swap_106 : decode cX2_swap 106 = .ok (.iload_n 2, 1) := by decide +kernel
theorem dX2_swap_107 : decode cX2_swap 107 = .ok (.iload 6, 2) := by decide +kernel
theorem dX2_swap_109 : decode cX2_swap 109 = .ok (.bastore, 1) := by decide +kernel
theorem dX2_swap_110 : decode cX2_swap 110 = .ok (.return_, 1) := by decide +kernel
set_option maxRecDepth 20000 in
theorem ggX2_floatProperty_X2_countedHeight : GoodIn wsX2_floatProperty wsX2_countedHeight := goodIn_r _ [9, 4, 2, 37, 38, 39, 40, 41, 42, 43, 44, 45, 46, 47] (by decide +kernel) (by decide +kernel)
set_option maxRecDepth 20000 in
theorem gX2_floatProperty_X2_countedHeight : GoodIn wsX2_floatProperty (wsV RX2 54 RX2 yX2_countedHeight wsX2_countedHeight) := goodIn_app (goodIn_of _ (by decide +kernel)) ggX2_floatProperty_X2_countedHeight
set_option maxRecDepth 20000 in
theorem ggX2_floatProperty_X2_bridgesThatLower : GoodIn wsX2_floatProperty wsX2_bridgesThatLower := goodIn_r _ [13, 14, 15, 16, 17, 8, 18, 19, 5, 6, 7, 9, 4, 2, 37, 38, 39, 40, 41, 42, 43, 44, 45, 46, 47] (by decide +kernel) (by decide +kernel)
set_option maxRecDepth 20000 in
theorem gX2_floatProperty_X2_bridgesThatLower : GoodIn wsX2_floatProperty (wsV RX2 58 RX2 yX2_bridgesThatLower wsX2_bridgesThatLower) := goodIn_app (goodIn_of _ (by decide +kernel)) ggX2_floatProperty_X2_bridgesThatLower
set_option maxRecDepth 20000 in
theorem ggX2_floatProperty_X2_troubleAt : GoodIn wsX2_floatProperty wsX2_troubleAt := goodIn_r _ [23, 24, 25, 26, 8, 27, 3, 1, 28, 29, 30, 31, 32, 33, 34, 35, 36, 37, 38, 39, 40, 41, 42, 43, 44, 45, 46, 47] (by decide +kernel) (by decide +kernel)
set_option maxRecDepth 20000 in
theorem gX2_floatProperty_X2_troubleAt : GoodIn wsX2_floatProperty (wsV RX2 61 RX2 yX2_troubleAt wsX2_troubleAt) := goodIn_app (goodIn_of _ (by decide +kernel)) ggX2_floatProperty_X2_troubleAt
theorem dX2_floatProperty_0 : decode cX2_floatProperty 0 = .ok (.iload_n 2, 1) := by decide +kernel
theorem dX2_floatProperty_1 : decode cX2_floatProperty 1 = .ok (.tableswitch 87 0 5 #[39, 46, 53, 60, 75, 81], 39) := by decide +kernel
theorem dX2_floatProperty_40 : decode cX2_floatProperty 40 = .ok (.aload_n 0, 1) := by decide +kernel
theorem dX2_floatProperty_41 : decode cX2_floatProperty 41 = .ok (.getfield 15, 3) := by decide +kernel
theorem dX2_floatProperty_44 : decode cX2_floatProperty 44 = .ok (.iload_n 1, 1) := by decide +kernel
theorem dX2_floatProperty_45 : decode cX2_floatProperty 45 = .ok (.iaload, 1) := by decide +kernel
theorem dX2_floatProperty_46 : decode cX2_floatProperty 46 = .ok (.ireturn, 1) := by decide +kernel
theorem dX2_floatProperty_47 : decode cX2_floatProperty 47 = .ok (.aload_n 0, 1) := by decide +kernel
theorem dX2_floatProperty_48 : decode cX2_floatProperty 48 = .ok (.getfield 19, 3) := by decide +kernel
theorem dX2_floatProperty_51 : decode cX2_floatProperty 51 = .ok (.iload_n 1, 1) := by decide +kernel
theorem dX2_floatProperty_52 : decode cX2_floatProperty 52 = .ok (.iaload, 1) := by decide +kernel
theorem dX2_floatProperty_53 : decode cX2_floatProperty 53 = .ok (.ireturn, 1) := by decide +kernel
theorem dX2_floatProperty_54 : decode cX2_floatProperty 54 = .ok (.aload_n 0, 1) := by decide +kernel
theorem dX2_floatProperty_55 : decode cX2_floatProperty 55 = .ok (.getfield 22, 3) := by decide +kernel
theorem dX2_floatProperty_58 : decode cX2_floatProperty 58 = .ok (.iload_n 1, 1) := by decide +kernel
theorem dX2_floatProperty_59 : decode cX2_floatProperty 59 = .ok (.iaload, 1) := by decide +kernel
theorem dX2_floatProperty_60 : decode cX2_floatProperty 60 = .ok (.ireturn, 1) := by decide +kernel
theorem dX2_floatProperty_61 : decode cX2_floatProperty 61 = .ok (.aload_n 0, 1) := by decide +kernel
theorem dX2_floatProperty_62 : decode cX2_floatProperty 62 = .ok (.getfield 25, 3) := by decide +kernel
theorem dX2_floatProperty_65 : decode cX2_floatProperty 65 = .ok (.iload_n 1, 1) := by decide +kernel
theorem dX2_floatProperty_66 : decode cX2_floatProperty 66 = .ok (.baload, 1) := by decide +kernel
theorem dX2_floatProperty_67 : decode cX2_floatProperty 67 = .ok (.ifCond .eq 7, 3) := by decide +kernel
theorem dX2_floatProperty_70 : decode cX2_floatProperty 70 = .ok (.iconst 1, 1) := by decide +kernel
theorem dX2_floatProperty_71 : decode cX2_floatProperty 71 = .ok (.goto 4, 3) := by decide +kernel
theorem dX2_floatProperty_74 : decode cX2_floatProperty 74 = .ok (.iconst 0, 1) := by decide +kernel
theorem dX2_floatProperty_75 : decode cX2_floatProperty 75 = .ok (.ireturn, 1) := by decide +kernel
theorem dX2_floatProperty_76 : decode cX2_floatProperty 76 = .ok (.aload_n 0, 1) := by decide +kernel
theorem dX2_floatProperty_77 : decode cX2_floatProperty 77 = .ok (.iload_n 1, 1) := by decide +kernel
theorem dX2_floatProperty_78 : decode cX2_floatProperty 78 = .ok (.invokevirtual 54, 3) := by decide +kernel
theorem dX2_floatProperty_81 : decode cX2_floatProperty 81 = .ok (.ireturn, 1) := by decide +kernel
theorem dX2_floatProperty_82 : decode cX2_floatProperty 82 = .ok (.aload_n 0, 1) := by decide +kernel
theorem dX2_floatProperty_83 : decode cX2_floatProperty 83 = .ok (.iload_n 1, 1) := by decide +kernel
theorem dX2_floatProperty_84 : decode cX2_floatProperty 84 = .ok (.invokevirtual 58, 3) := by decide +kernel
theorem dX2_floatProperty_87 : decode cX2_floatProperty 87 = .ok (.ireturn, 1) := by decide +kernel
theorem dX2_floatProperty_88 : decode cX2_floatProperty 88 = .ok (.aload_n 0, 1) := by decide +kernel
theorem dX2_floatProperty_89 : decode cX2_floatProperty 89 = .ok (.iload_n 1, 1) := by decide +kernel
theorem dX2_floatProperty_90 : decode cX2_floatProperty 90 = .ok (.invokevirtual 61, 3) := by decide +kernel
theorem dX2_floatProperty_93 : decode cX2_floatProperty 93 = .ok (.ireturn, 1) := by decide +kernel
theorem dX2_countedHeight_0 : decode cX2_countedHeight 0 = .ok (.aload_n 0, 1) := by decide +kernel
theorem dX2_countedHeight_1 : decode cX2_countedHeight 1 = .ok (.getfield 25, 3) := by decide +kernel
theorem dX2_countedHeight_4 : decode cX2_countedHeight 4 = .ok (.iload_n 1, 1) := by decide +kernel
theorem dX2_countedHeight_5 : decode cX2_countedHeight 5 = .ok (.baload, 1) := by decide +kernel
theorem dX2_countedHeight_6 : decode cX2_countedHeight 6 = .ok (.ifCond .eq 15, 3) := by decide +kernel
theorem dX2_countedHeight_9 : decode cX2_countedHeight 9 = .ok (.aload_n 0, 1) := by decide +kernel
theorem dX2_countedHeight_10 : decode cX2_countedHeight 10 = .ok (.getfield 19, 3) := by decide +kernel
theorem dX2_countedHeight_13 : decode cX2_countedHeight 13 = .ok (.iload_n 1, 1) := by decide +kernel
theorem dX2_countedHeight_14 : decode cX2_countedHeight 14 = .ok (.iaload, 1) := by decide +kernel
theorem dX2_countedHeight_15 : decode cX2_countedHeight 15 = .ok (.bipush 20, 2) := by decide +kernel
theorem dX2_countedHeight_17 : decode cX2_countedHeight 17 = .ok (.isub, 1) := by decide +kernel
theorem dX2_countedHeight_18 : decode cX2_countedHeight 18 = .ok (.goto 9, 3) := by decide +kernel
theorem dX2_countedHeight_21 : decode cX2_countedHeight 21 = .ok (.aload_n 0, 1) := by decide +kernel
theorem dX2_countedHeight_22 : decode cX2_countedHeight 22 = .ok (.getfield 19, 3) := by decide +kernel
theorem dX2_countedHeight_25 : decode cX2_countedHeight 25 = .ok (.iload_n 1, 1) := by decide +kernel
theorem dX2_countedHeight_26 : decode cX2_countedHeight 26 = .ok (.iaload, 1) := by decide +kernel
theorem dX2_countedHeight_27 : decode cX2_countedHeight 27 = .ok (.istore_n 2, 1) := by decide +kernel
theorem dX2_countedHeight_28 : decode cX2_countedHeight 28 = .ok (.iload_n 2, 1) := by decide +kernel
theorem dX2_countedHeight_29 : decode cX2_countedHeight 29 = .ok (.bipush 10, 2) := by decide +kernel
theorem dX2_countedHeight_31 : decode cX2_countedHeight 31 = .ok (.if_icmp .ge 8, 3) := by decide +kernel
theorem dX2_countedHeight_34 : decode cX2_countedHeight 34 = .ok (.bipush 10, 2) := by decide +kernel
theorem dX2_countedHeight_36 : decode cX2_countedHeight 36 = .ok (.goto 4, 3) := by decide +kernel
theorem dX2_countedHeight_39 : decode cX2_countedHeight 39 = .ok (.iload_n 2, 1) := by decide +kernel
theorem dX2_countedHeight_40 : decode cX2_countedHeight 40 = .ok (.ireturn, 1) := by decide +kernel
set_option maxRecDepth 20000 in
theorem ggX2_greatestHeight_X2_countedHeight : GoodIn wsX2_greatestHeight wsX2_countedHeight := goodIn_r _ [10, 11, 12, 13, 14, 15, 16, 17, 18, 19, 20, 21, 22, 23] (by decide +kernel) (by decide +kernel)
set_option maxRecDepth 20000 in
theorem gX2_greatestHeight_X2_countedHeight : GoodIn wsX2_greatestHeight (wsV RX2 54 RX2 yX2_countedHeight wsX2_countedHeight) := goodIn_app (goodIn_of _ (by decide +kernel)) ggX2_greatestHeight_X2_countedHeight
theorem dX2_greatestHeight_0 : decode cX2_greatestHeight 0 = .ok (.iconst 0, 1) := by decide +kernel
theorem dX2_greatestHeight_1 : decode cX2_greatestHeight 1 = .ok (.istore_n 1, 1) := by decide +kernel
theorem dX2_greatestHeight_2 : decode cX2_greatestHeight 2 = .ok (.iconst 0, 1) := by decide +kernel
theorem dX2_greatestHeight_3 : decode cX2_greatestHeight 3 = .ok (.istore_n 2, 1) := by decide +kernel
theorem dX2_greatestHeight_4 : decode cX2_greatestHeight 4 = .ok (.iload_n 2, 1) := by decide +kernel
theorem dX2_greatestHeight_5 : decode cX2_greatestHeight 5 = .ok (.aload_n 0, 1) := by decide +kernel
theorem dX2_greatestHeight_6 : decode cX2_greatestHeight 6 = .ok (.getfield 9, 3) := by decide +kernel
theorem dX2_greatestHeight_9 : decode cX2_greatestHeight 9 = .ok (.if_icmp .ge 19, 3) := by decide +kernel
theorem dX2_greatestHeight_12 : decode cX2_greatestHeight 12 = .ok (.iload_n 1, 1) := by decide +kernel
theorem dX2_greatestHeight_13 : decode cX2_greatestHeight 13 = .ok (.aload_n 0, 1) := by decide +kernel
theorem dX2_greatestHeight_14 : decode cX2_greatestHeight 14 = .ok (.iload_n 2, 1) := by decide +kernel
theorem dX2_greatestHeight_15 : decode cX2_greatestHeight 15 = .ok (.invokevirtual 54, 3) := by decide +kernel
theorem dX2_greatestHeight_18 : decode cX2_greatestHeight 18 = .ok (.invokestatic 64, 3) := by decide +kernel
theorem dX2_greatestHeight_21 : decode cX2_greatestHeight 21 = .ok (.istore_n 1, 1) := by decide +kernel
theorem dX2_greatestHeight_22 : decode cX2_greatestHeight 22 = .ok (.iinc 2 1, 3) := by decide +kernel
theorem dX2_greatestHeight_25 : decode cX2_greatestHeight 25 = .ok (.goto (-21), 3) := by decide +kernel
theorem dX2_greatestHeight_28 : decode cX2_greatestHeight 28 = .ok (.iload_n 1, 1) := by decide +kernel
theorem dX2_greatestHeight_29 : decode cX2_greatestHeight 29 = .ok (.ireturn, 1) := by decide +kernel
set_option maxRecDepth 20000 in
theorem ggX2_allTrouble_X2_troubleAt : GoodIn wsX2_allTrouble wsX2_troubleAt := goodIn_r _ [6, 7, 8, 9, 5, 10, 11, 12, 13, 14, 15, 16, 17, 18, 19, 20, 21, 22, 23, 24, 25, 26, 27, 28, 29, 30, 31, 32] (by decide +kernel) (by decide +kernel)
set_option maxRecDepth 20000 in
theorem gX2_allTrouble_X2_troubleAt : GoodIn wsX2_allTrouble (wsV RX2 61 RX2 yX2_troubleAt wsX2_troubleAt) := goodIn_app (goodIn_of _ (by decide +kernel)) ggX2_allTrouble_X2_troubleAt
theorem dX2_allTrouble_0 : decode cX2_allTrouble 0 = .ok (.iconst 0, 1) := by decide +kernel
theorem dX2_allTrouble_1 : decode cX2_allTrouble 1 = .ok (.istore_n 1, 1) := by decide +kernel
theorem dX2_allTrouble_2 : decode cX2_allTrouble 2 = .ok (.iconst 0, 1) := by decide +kernel
theorem dX2_allTrouble_3 : decode cX2_allTrouble 3 = .ok (.istore_n 2, 1) := by decide +kernel
theorem dX2_allTrouble_4 : decode cX2_allTrouble 4 = .ok (.iload_n 2, 1) := by decide +kernel
theorem dX2_allTrouble_5 : decode cX2_allTrouble 5 = .ok (.aload_n 0, 1) := by decide +kernel
theorem dX2_allTrouble_6 : decode cX2_allTrouble 6 = .ok (.getfield 9, 3) := by decide +kernel
theorem dX2_allTrouble_9 : decode cX2_allTrouble 9 = .ok (.if_icmp .ge 17, 3) := by decide +kernel
theorem dX2_allTrouble_12 : decode cX2_allTrouble 12 = .ok (.iload_n 1, 1) := by decide +kernel
theorem dX2_allTrouble_13 : decode cX2_allTrouble 13 = .ok (.aload_n 0, 1) := by decide +kernel
theorem dX2_allTrouble_14 : decode cX2_allTrouble 14 = .ok (.iload_n 2, 1) := by decide +kernel
theorem dX2_allTrouble_15 : decode cX2_allTrouble 15 = .ok (.invokevirtual 61, 3) := by decide +kernel
theorem dX2_allTrouble_18 : decode cX2_allTrouble 18 = .ok (.iadd, 1) := by decide +kernel
theorem dX2_allTrouble_19 : decode cX2_allTrouble 19 = .ok (.istore_n 1, 1) := by decide +kernel
theorem dX2_allTrouble_20 : decode cX2_allTrouble 20 = .ok (.iinc 2 1, 3) := by decide +kernel
theorem dX2_allTrouble_23 : decode cX2_allTrouble 23 = .ok (.goto (-19), 3) := by decide +kernel
theorem dX2_allTrouble_26 : decode cX2_allTrouble 26 = .ok (.iload_n 1, 1) := by decide +kernel
theorem dX2_allTrouble_27 : decode cX2_allTrouble 27 = .ok (.ireturn, 1) := by decide +kernel
set_option maxRecDepth 20000 in
theorem ggX2_troubledFloats_X2_troubleAt : GoodIn wsX2_troubledFloats wsX2_troubleAt := goodIn_r _ [6, 7, 8, 9, 5, 10, 11, 12, 13, 14, 15, 16, 17, 18, 19, 20, 21, 22, 23, 24, 25, 26, 27, 28, 29, 30, 31, 32] (by decide +kernel) (by decide +kernel)
set_option maxRecDepth 20000 in
theorem gX2_troubledFloats_X2_troubleAt : GoodIn wsX2_troubledFloats (wsV RX2 61 RX2 yX2_troubleAt wsX2_troubleAt) := goodIn_app (goodIn_of _ (by decide +kernel)) ggX2_troubledFloats_X2_troubleAt
theorem dX2_troubledFloats_0 : decode cX2_troubledFloats 0 = .ok (.iconst 0, 1) := by decide +kernel
theorem dX2_troubledFloats_1 : decode cX2_troubledFloats 1 = .ok (.istore_n 1, 1) := by decide +kernel
theorem dX2_troubledFloats_2 : decode cX2_troubledFloats 2 = .ok (.iconst 0, 1) := by decide +kernel
theorem dX2_troubledFloats_3 : decode cX2_troubledFloats 3 = .ok (.istore_n 2, 1) := by decide +kernel
theorem dX2_troubledFloats_4 : decode cX2_troubledFloats 4 = .ok (.iload_n 2, 1) := by decide +kernel
theorem dX2_troubledFloats_5 : decode cX2_troubledFloats 5 = .ok (.aload_n 0, 1) := by decide +kernel
theorem dX2_troubledFloats_6 : decode cX2_troubledFloats 6 = .ok (.getfield 9, 3) := by decide +kernel
theorem dX2_troubledFloats_9 : decode cX2_troubledFloats 9 = .ok (.if_icmp .ge 20, 3) := by decide +kernel
theorem dX2_troubledFloats_12 : decode cX2_troubledFloats 12 = .ok (.aload_n 0, 1) := by decide +kernel
theorem dX2_troubledFloats_13 : decode cX2_troubledFloats 13 = .ok (.iload_n 2, 1) := by decide +kernel
theorem dX2_troubledFloats_14 : decode cX2_troubledFloats 14 = .ok (.invokevirtual 61, 3) := by decide +kernel
theorem dX2_troubledFloats_17 : decode cX2_troubledFloats 17 = .ok (.ifCond .le 6, 3) := by decide +kernel
theorem dX2_troubledFloats_20 : decode cX2_troubledFloats 20 = .ok (.iinc 1 1, 3) := by decide +kernel
theorem dX2_troubledFloats_23 : decode cX2_troubledFloats 23 = .ok (.iinc 2 1, 3) := by decide +kernel
theorem dX2_troubledFloats_26 : decode cX2_troubledFloats 26 = .ok (.goto (-22), 3) := by decide +kernel
theorem dX2_troubledFloats_29 : decode cX2_troubledFloats 29 = .ok (.iload_n 1, 1) := by decide +kernel
theorem dX2_troubledFloats_30 : decode cX2_troubledFloats 30 = .ok (.ireturn, 1) := by decide +kernel
set_option maxRecDepth 20000 in
theorem ggX2_troubleAt_X2_shying : GoodIn wsX2_troubleAt wsX2_shying := goodIn_r _ [5, 6, 7, 17, 18, 19, 20, 21, 22, 23, 24, 25, 26, 27] (by decide +kernel) (by decide +kernel)
set_option maxRecDepth 20000 in
theorem gX2_troubleAt_X2_shying : GoodIn wsX2_troubleAt (wsV RX2 70 RX2 yX2_shying wsX2_shying) := goodIn_app (goodIn_of _ (by decide +kernel)) ggX2_troubleAt_X2_shying
set_option maxRecDepth 20000 in
theorem ggX2_troubleAt_X2_hearing : GoodIn wsX2_troubleAt wsX2_hearing := goodIn_r _ [11, 7, 12, 17, 18, 19, 20, 21, 22, 23, 24, 25, 26, 27] (by decide +kernel) (by decide +kernel)
set_option maxRecDepth 20000 in
theorem gX2_troubleAt_X2_hearing : GoodIn wsX2_troubleAt (wsV RX2 73 RX2 yX2_hearing wsX2_hearing) := goodIn_app (goodIn_of _ (by decide +kernel)) ggX2_troubleAt_X2_hearing
set_option maxRecDepth 20000 in
theorem ggX2_troubleAt_X2_meeting : GoodIn wsX2_troubleAt wsX2_meeting := goodIn_r _ [16, 7, 17, 18, 19, 20, 21, 22, 23, 24, 25, 26, 27] (by decide +kernel) (by decide +kernel)
set_option maxRecDepth 20000 in
theorem gX2_troubleAt_X2_meeting : GoodIn wsX2_troubleAt (wsV RX2 76 RX2 yX2_meeting wsX2_meeting) := goodIn_app (goodIn_of _ (by decide +kernel)) ggX2_troubleAt_X2_meeting
theorem dX2_troubleAt_0 : decode cX2_troubleAt 0 = .ok (.aload_n 0, 1) := by decide +kernel
theorem dX2_troubleAt_1 : decode cX2_troubleAt 1 = .ok (.iload_n 1, 1) := by decide +kernel
theorem dX2_troubleAt_2 : decode cX2_troubleAt 2 = .ok (.invokevirtual 70, 3) := by decide +kernel
theorem dX2_troubleAt_5 : decode cX2_troubleAt 5 = .ok (.aload_n 0, 1) := by decide +kernel
theorem dX2_troubleAt_6 : decode cX2_troubleAt 6 = .ok (.iload_n 1, 1) := by decide +kernel
theorem dX2_troubleAt_7 : decode cX2_troubleAt 7 = .ok (.invokevirtual 73, 3) := by decide +kernel
theorem dX2_troubleAt_10 : decode cX2_troubleAt 10 = .ok (.iadd, 1) := by decide +kernel
theorem dX2_troubleAt_11 : decode cX2_troubleAt 11 = .ok (.aload_n 0, 1) := by decide +kernel
theorem dX2_troubleAt_12 : decode cX2_troubleAt 12 = .ok (.iload_n 1, 1) := by decide +kernel
theorem dX2_troubleAt_13 : decode cX2_troubleAt 13 = .ok (.invokevirtual 76, 3) := by decide +kernel
theorem dX2_troubleAt_16 : decode cX2_troubleAt 16 = .ok (.iadd, 1) := by decide +kernel
theorem dX2_troubleAt_17 : decode cX2_troubleAt 17 = .ok (.ireturn, 1) := by decide +kernel
set_option maxRecDepth 20000 in
theorem ggX2_troubleBy_X2_shying : GoodIn wsX2_troubleBy wsX2_shying := goodIn_r _ [5, 6, 7, 17, 18, 19, 20, 21, 22, 23, 24, 25, 26, 27] (by decide +kernel) (by decide +kernel)
set_option maxRecDepth 20000 in
theorem gX2_troubleBy_X2_shying : GoodIn wsX2_troubleBy (wsV RX2 70 RX2 yX2_shying wsX2_shying) := goodIn_app (goodIn_of _ (by decide +kernel)) ggX2_troubleBy_X2_shying
set_option maxRecDepth 20000 in
theorem ggX2_troubleBy_X2_hearing : GoodIn wsX2_troubleBy wsX2_hearing := goodIn_r _ [11, 7, 12, 17, 18, 19, 20, 21, 22, 23, 24, 25, 26, 27] (by decide +kernel) (by decide +kernel)
set_option maxRecDepth 20000 in
theorem gX2_troubleBy_X2_hearing : GoodIn wsX2_troubleBy (wsV RX2 73 RX2 yX2_hearing wsX2_hearing) := goodIn_app (goodIn_of _ (by decide +kernel)) ggX2_troubleBy_X2_hearing
set_option maxRecDepth 20000 in
theorem ggX2_troubleBy_X2_meeting : GoodIn wsX2_troubleBy wsX2_meeting := goodIn_r _ [16, 7, 17, 18, 19, 20, 21, 22, 23, 24, 25, 26, 27] (by decide +kernel) (by decide +kernel)
set_option maxRecDepth 20000 in
theorem gX2_troubleBy_X2_meeting : GoodIn wsX2_troubleBy (wsV RX2 76 RX2 yX2_meeting wsX2_meeting) := goodIn_app (goodIn_of _ (by decide +kernel)) ggX2_troubleBy_X2_meeting
theorem dX2_troubleBy_0 : decode cX2_troubleBy 0 = .ok (.iload_n 2, 1) := by decide +kernel
theorem dX2_troubleBy_1 : decode cX2_troubleBy 1 = .ok (.lookupswitch 39 #[(0, 27), (1, 33)], 27) := by decide +kernel
theorem dX2_troubleBy_28 : decode cX2_troubleBy 28 = .ok (.aload_n 0, 1) := by decide +kernel
theorem dX2_troubleBy_29 : decode cX2_troubleBy 29 = .ok (.iload_n 1, 1) := by decide +kernel
theorem dX2_troubleBy_30 : decode cX2_troubleBy 30 = .ok (.invokevirtual 70, 3) := by decide +kernel
theorem dX2_troubleBy_33 : decode cX2_troubleBy 33 = .ok (.ireturn, 1) := by decide +kernel
theorem dX2_troubleBy_34 : decode cX2_troubleBy 34 = .ok (.aload_n 0, 1) := by decide +kernel
theorem dX2_troubleBy_35 : decode cX2_troubleBy 35 = .ok (.iload_n 1, 1) := by decide +kernel
theorem dX2_troubleBy_36 : decode cX2_troubleBy 36 = .ok (.invokevirtual 73, 3) := by decide +kernel
theorem dX2_troubleBy_39 : decode cX2_troubleBy 39 = .ok (.ireturn, 1) := by decide +kernel
theorem dX2_troubleBy_40 : decode cX2_troubleBy 40 = .ok (.aload_n 0, 1) := by decide +kernel
theorem dX2_troubleBy_41 : decode cX2_troubleBy 41 = .ok (.iload_n 1, 1) := by decide +kernel
theorem dX2_troubleBy_42 : decode cX2_troubleBy 42 = .ok (.invokevirtual 76, 3) := by decide +kernel
theorem dX2_troubleBy_45 : decode cX2_troubleBy 45 = .ok (.ireturn, 1) := by decide +kernel
theorem dX2_shying_0 : decode cX2_shying 0 = .ok (.iconst 0, 1) := by decide +kernel
theorem dX2_shying_1 : decode cX2_shying 1 = .ok (.istore_n 2, 1) := by decide +kernel
theorem dX2_shying_2 : decode cX2_shying 2 = .ok (.iload_n 1, 1) := by decide +kernel
theorem dX2_shying_3 : decode cX2_shying 3 = .ok (.iconst 1, 1) := by decide +kernel
theorem dX2_shying_4 : decode cX2_shying 4 = .ok (.if_icmp .lt 27, 3) := by decide +kernel
theorem dX2_shying_7 : decode cX2_shying 7 = .ok (.aload_n 0, 1) := by decide +kernel
theorem dX2_shying_8 : decode cX2_shying 8 = .ok (.getfield 22, 3) := by decide +kernel
theorem dX2_shying_11 : decode cX2_shying 11 = .ok (.iload_n 1, 1) := by decide +kernel
theorem dX2_shying_12 : decode cX2_shying 12 = .ok (.iaload, 1) := by decide +kernel
theorem dX2_shying_13 : decode cX2_shying 13 = .ok (.aload_n 0, 1) := by decide +kernel
theorem dX2_shying_14 : decode cX2_shying 14 = .ok (.getfield 15, 3) := by decide +kernel
theorem dX2_shying_17 : decode cX2_shying 17 = .ok (.iload_n 1, 1) := by decide +kernel
theorem dX2_shying_18 : decode cX2_shying 18 = .ok (.iconst 1, 1) := by decide +kernel
theorem dX2_shying_19 : decode cX2_shying 19 = .ok (.isub, 1) := by decide +kernel
theorem dX2_shying_20 : decode cX2_shying 20 = .ok (.iaload, 1) := by decide +kernel
theorem dX2_shying_21 : decode cX2_shying 21 = .ok (.ishr, 1) := by decide +kernel
theorem dX2_shying_22 : decode cX2_shying 22 = .ok (.iconst 1, 1) := by decide +kernel
theorem dX2_shying_23 : decode cX2_shying 23 = .ok (.iand, 1) := by decide +kernel
theorem dX2_shying_24 : decode cX2_shying 24 = .ok (.iconst 1, 1) := by decide +kernel
theorem dX2_shying_25 : decode cX2_shying 25 = .ok (.if_icmp .ne 6, 3) := by decide +kernel
theorem dX2_shying_28 : decode cX2_shying 28 = .ok (.iinc 2 3, 3) := by decide +kernel
theorem dX2_shying_31 : decode cX2_shying 31 = .ok (.iload_n 1, 1) := by decide +kernel
theorem dX2_shying_32 : decode cX2_shying 32 = .ok (.iconst 2, 1) := by decide +kernel
theorem dX2_shying_33 : decode cX2_shying 33 = .ok (.if_icmp .lt 27, 3) := by decide +kernel
theorem dX2_shying_36 : decode cX2_shying 36 = .ok (.aload_n 0, 1) := by decide +kernel
theorem dX2_shying_37 : decode cX2_shying 37 = .ok (.getfield 22, 3) := by decide +kernel
theorem dX2_shying_40 : decode cX2_shying 40 = .ok (.iload_n 1, 1) := by decide +kernel
theorem dX2_shying_41 : decode cX2_shying 41 = .ok (.iaload, 1) := by decide +kernel
theorem dX2_shying_42 : decode cX2_shying 42 = .ok (.aload_n 0, 1) := by decide +kernel
theorem dX2_shying_43 : decode cX2_shying 43 = .ok (.getfield 15, 3) := by decide +kernel
theorem dX2_shying_46 : decode cX2_shying 46 = .ok (.iload_n 1, 1) := by decide +kernel
theorem dX2_shying_47 : decode cX2_shying 47 = .ok (.iconst 2, 1) := by decide +kernel
theorem dX2_shying_48 : decode cX2_shying 48 = .ok (.isub, 1) := by decide +kernel
theorem dX2_shying_49 : decode cX2_shying 49 = .ok (.iaload, 1) := by decide +kernel
theorem dX2_shying_50 : decode cX2_shying 50 = .ok (.ishr, 1) := by decide +kernel
theorem dX2_shying_51 : decode cX2_shying 51 = .ok (.iconst 1, 1) := by decide +kernel
theorem dX2_shying_52 : decode cX2_shying 52 = .ok (.iand, 1) := by decide +kernel
theorem dX2_shying_53 : decode cX2_shying 53 = .ok (.iconst 1, 1) := by decide +kernel
theorem dX2_shying_54 : decode cX2_shying 54 = .ok (.if_icmp .ne 6, 3) := by decide +kernel
theorem dX2_shying_57 : decode cX2_shying 57 = .ok (.iinc 2 1, 3) := by decide +kernel
theorem dX2_shying_60 : decode cX2_shying 60 = .ok (.iload_n 2, 1) := by decide +kernel
theorem dX2_shying_61 : decode cX2_shying 61 = .ok (.ireturn, 1) := by decide +kernel
theorem dX2_hearing_0 : decode cX2_hearing 0 = .ok (.iconst 0, 1) := by decide +kernel
theorem dX2_hearing_1 : decode cX2_hearing 1 = .ok (.istore_n 2, 1) := by decide +kernel
theorem dX2_hearing_2 : decode cX2_hearing 2 = .ok (.aload_n 0, 1) := by decide +kernel
theorem dX2_hearing_3 : decode cX2_hearing 3 = .ok (.getfield 15, 3) := by decide +kernel
theorem dX2_hearing_6 : decode cX2_hearing 6 = .ok (.iload_n 1, 1) := by decide +kernel
theorem dX2_hearing_7 : decode cX2_hearing 7 = .ok (.iaload, 1) := by decide +kernel
theorem dX2_hearing_8 : decode cX2_hearing 8 = .ok (.iconst 2, 1) := by decide +kernel
theorem dX2_hearing_9 : decode cX2_hearing 9 = .ok (.if_icmp .ne 41, 3) := by decide +kernel
theorem dX2_hearing_12 : decode cX2_hearing 12 = .ok (.iconst 1, 1) := by decide +kernel
theorem dX2_hearing_13 : decode cX2_hearing 13 = .ok (.istore_n 3, 1) := by decide +kernel
theorem dX2_hearing_14 : decode cX2_hearing 14 = .ok (.iload_n 3, 1) := by decide +kernel
theorem dX2_hearing_15 : decode cX2_hearing 15 = .ok (.aload_n 0, 1) := by decide +kernel
theorem dX2_hearing_16 : decode cX2_hearing 16 = .ok (.getfield 38, 3) := by decide +kernel
theorem dX2_hearing_19 : decode cX2_hearing 19 = .ok (.iconst 0, 1) := by decide +kernel
theorem dX2_hearing_20 : decode cX2_hearing 20 = .ok (.iaload, 1) := by decide +kernel
theorem dX2_hearing_21 : decode cX2_hearing 21 = .ok (.if_icmp .ge 29, 3) := by decide +kernel
theorem dX2_hearing_24 : decode cX2_hearing 24 = .ok (.iload_n 3, 1) := by decide +kernel
theorem dX2_hearing_25 : decode cX2_hearing 25 = .ok (.iload_n 1, 1) := by decide +kernel
theorem dX2_hearing_26 : decode cX2_hearing 26 = .ok (.if_icmp .gt 24, 3) := by decide +kernel
theorem dX2_hearing_29 : decode cX2_hearing 29 = .ok (.aload_n 0, 1) := by decide +kernel
theorem dX2_hearing_30 : decode cX2_hearing 30 = .ok (.getfield 15, 3) := by decide +kernel
theorem dX2_hearing_33 : decode cX2_hearing 33 = .ok (.iload_n 1, 1) := by decide +kernel
theorem dX2_hearing_34 : decode cX2_hearing 34 = .ok (.iload_n 3, 1) := by decide +kernel
theorem dX2_hearing_35 : decode cX2_hearing 35 = .ok (.isub, 1) := by decide +kernel
theorem dX2_hearing_36 : decode cX2_hearing 36 = .ok (.iaload, 1) := by decide +kernel
theorem dX2_hearing_37 : decode cX2_hearing 37 = .ok (.iconst 2, 1) := by decide +kernel
theorem dX2_hearing_38 : decode cX2_hearing 38 = .ok (.if_icmp .ne 6, 3) := by decide +kernel
theorem dX2_hearing_41 : decode cX2_hearing 41 = .ok (.iinc 2 1, 3) := by decide +kernel
theorem dX2_hearing_44 : decode cX2_hearing 44 = .ok (.iinc 3 1, 3) := by decide +kernel
theorem dX2_hearing_47 : decode cX2_hearing 47 = .ok (.goto (-33), 3) := by decide +kernel
theorem dX2_hearing_50 : decode cX2_hearing 50 = .ok (.iload_n 2, 1) := by decide +kernel
theorem dX2_hearing_51 : decode cX2_hearing 51 = .ok (.ireturn, 1) := by decide +kernel
theorem dX2_meeting_0 : decode cX2_meeting 0 = .ok (.iload_n 1, 1) := by decide +kernel
theorem dX2_meeting_1 : decode cX2_meeting 1 = .ok (.iconst 1, 1) := by decide +kernel
theorem dX2_meeting_2 : decode cX2_meeting 2 = .ok (.if_icmp .lt 29, 3) := by decide +kernel
theorem dX2_meeting_5 : decode cX2_meeting 5 = .ok (.aload_n 0, 1) := by decide +kernel
theorem dX2_meeting_6 : decode cX2_meeting 6 = .ok (.getfield 15, 3) := by decide +kernel
theorem dX2_meeting_9 : decode cX2_meeting 9 = .ok (.iload_n 1, 1) := by decide +kernel
theorem dX2_meeting_10 : decode cX2_meeting 10 = .ok (.iaload, 1) := by decide +kernel
theorem dX2_meeting_11 : decode cX2_meeting 11 = .ok (.iconst 3, 1) := by decide +kernel
theorem dX2_meeting_12 : decode cX2_meeting 12 = .ok (.if_icmp .ne 19, 3) := by decide +kernel
theorem dX2_meeting_15 : decode cX2_meeting 15 = .ok (.aload_n 0, 1) := by decide +kernel
theorem dX2_meeting_16 : decode cX2_meeting 16 = .ok (.getfield 15, 3) := by decide +kernel
theorem dX2_meeting_19 : decode cX2_meeting 19 = .ok (.iload_n 1, 1) := by decide +kernel
theorem dX2_meeting_20 : decode cX2_meeting 20 = .ok (.iconst 1, 1) := by decide +kernel
theorem dX2_meeting_21 : decode cX2_meeting 21 = .ok (.isub, 1) := by decide +kernel
theorem dX2_meeting_22 : decode cX2_meeting 22 = .ok (.iaload, 1) := by decide +kernel
theorem dX2_meeting_23 : decode cX2_meeting 23 = .ok (.iconst 3, 1) := by decide +kernel
theorem dX2_meeting_24 : decode cX2_meeting 24 = .ok (.if_icmp .ne 7, 3) := by decide +kernel
theorem dX2_meeting_27 : decode cX2_meeting 27 = .ok (.iconst 2, 1) := by decide +kernel
theorem dX2_meeting_28 : decode cX2_meeting 28 = .ok (.goto 4, 3) := by decide +kernel
theorem dX2_meeting_31 : decode cX2_meeting 31 = .ok (.iconst 0, 1) := by decide +kernel
theorem dX2_meeting_32 : decode cX2_meeting 32 = .ok (.ireturn, 1) := by decide +kernel
theorem dX2_hasBridgeAt_0 : decode cX2_hasBridgeAt 0 = .ok (.iconst 0, 1) := by decide +kernel
theorem dX2_hasBridgeAt_1 : decode cX2_hasBridgeAt 1 = .ok (.istore_n 2, 1) := by decide +kernel
theorem dX2_hasBridgeAt_2 : decode cX2_hasBridgeAt 2 = .ok (.iload_n 2, 1) := by decide +kernel
theorem dX2_hasBridgeAt_3 : decode cX2_hasBridgeAt 3 = .ok (.aload_n 0, 1) := by decide +kernel
theorem dX2_hasBridgeAt_4 : decode cX2_hasBridgeAt 4 = .ok (.getfield 29, 3) := by decide +kernel
theorem dX2_hasBridgeAt_7 : decode cX2_hasBridgeAt 7 = .ok (.if_icmp .ge 21, 3) := by decide +kernel
theorem dX2_hasBridgeAt_10 : decode cX2_hasBridgeAt 10 = .ok (.aload_n 0, 1) := by decide +kernel
theorem dX2_hasBridgeAt_11 : decode cX2_hasBridgeAt 11 = .ok (.getfield 32, 3) := by decide +kernel
theorem dX2_hasBridgeAt_14 : decode cX2_hasBridgeAt 14 = .ok (.iload_n 2, 1) := by decide +kernel
theorem dX2_hasBridgeAt_15 : decode cX2_hasBridgeAt 15 = .ok (.iaload, 1) := by decide +kernel
theorem dX2_hasBridgeAt_16 : decode cX2_hasBridgeAt 16 = .ok (.iload_n 1, 1) := by decide +kernel
theorem dX2_hasBridgeAt_17 : decode cX2_hasBridgeAt 17 = .ok (.if_icmp .ne 5, 3) := by decide +kernel
theorem dX2_hasBridgeAt_20 : decode cX2_hasBridgeAt 20 = .ok (.iconst 1, 1) := by decide +kernel
theorem dX2_hasBridgeAt_21 : decode cX2_hasBridgeAt 21 = .ok (.ireturn, 1) := by decide +kernel
theorem dX2_hasBridgeAt_22 : decode cX2_hasBridgeAt 22 = .ok (.iinc 2 1, 3) := by decide +kernel
theorem dX2_hasBridgeAt_25 : decode cX2_hasBridgeAt 25 = .ok (.goto (-23), 3) := by decide +kernel
theorem dX2_hasBridgeAt_28 : decode cX2_hasBridgeAt 28 = .ok (.iconst 0, 1) := by decide +kernel
theorem dX2_hasBridgeAt_29 : decode cX2_hasBridgeAt 29 = .ok (.ireturn, 1) := by decide +kernel
theorem dX2_build_0 : decode cX2_build 0 = .ok (.aload_n 0, 1) := by decide +kernel
theorem dX2_build_1 : decode cX2_build 1 = .ok (.getfield 29, 3) := by decide +kernel
theorem dX2_build_4 : decode cX2_build 4 = .ok (.iconst 4, 1) := by decide +kernel
theorem dX2_build_5 : decode cX2_build 5 = .ok (.if_icmp .lt 5, 3) := by decide +kernel
theorem dX2_build_8 : decode cX2_build 8 = .ok (.iconst (-1), 1) := by decide +kernel
theorem dX2_build_9 : decode cX2_build 9 = .ok (.ireturn, 1) := by decide +kernel
theorem dX2_build_10 : decode cX2_build 10 = .ok (.aload_n 0, 1) := by decide +kernel
theorem dX2_build_11 : decode cX2_build 11 = .ok (.getfield 29, 3) := by decide +kernel
theorem dX2_build_14 : decode cX2_build 14 = .ok (.istore_n 3, 1) := by decide +kernel
theorem dX2_build_15 : decode cX2_build 15 = .ok (.iload_n 3, 1) := by decide +kernel
theorem dX2_build_16 : decode cX2_build 16 = .ok (.ifCond .le 49, 3) := by decide +kernel
theorem dX2_build_19 : decode cX2_build 19 = .ok (.aload_n 0, 1) := by decide +kernel
theorem dX2_build_20 : decode cX2_build 20 = .ok (.getfield 32, 3) := by decide +kernel
theorem dX2_build_23 : decode cX2_build 23 = .ok (.iload_n 3, 1) := by decide +kernel
theorem dX2_build_24 : decode cX2_build 24 = .ok (.iconst 1, 1) := by decide +kernel
theorem dX2_build_25 : decode cX2_build 25 = .ok (.isub, 1) := by decide +kernel
theorem dX2_build_26 : decode cX2_build 26 = .ok (.iaload, 1) := by decide +kernel
theorem dX2_build_27 : decode cX2_build 27 = .ok (.iload_n 1, 1) := by decide +kernel
theorem dX2_build_28 : decode cX2_build 28 = .ok (.if_icmp .le 37, 3) := by decide +kernel
theorem dX2_build_31 : decode cX2_build 31 = .ok (.aload_n 0, 1) := by decide +kernel
theorem dX2_build_32 : decode cX2_build 32 = .ok (.getfield 32, 3) := by decide +kernel
theorem dX2_build_35 : decode cX2_build 35 = .ok (.iload_n 3, 1) := by decide +kernel
theorem dX2_build_36 : decode cX2_build 36 = .ok (.aload_n 0, 1) := by decide +kernel
theorem dX2_build_37 : decode cX2_build 37 = .ok (.getfield 32, 3) := by decide +kernel
theorem dX2_build_40 : decode cX2_build 40 = .ok (.iload_n 3, 1) := by decide +kernel
theorem dX2_build_41 : decode cX2_build 41 = .ok (.iconst 1, 1) := by decide +kernel
theorem dX2_build_42 : decode cX2_build 42 = .ok (.isub, 1) := by decide +kernel
theorem dX2_build_43 : decode cX2_build 43 = .ok (.iaload, 1) := by decide +kernel
theorem dX2_build_44 : decode cX2_build 44 = .ok (.iastore, 1) := by decide +kernel
theorem dX2_build_45 : decode cX2_build 45 = .ok (.aload_n 0, 1) := by decide +kernel
theorem dX2_build_46 : decode cX2_build 46 = .ok (.getfield 35, 3) := by decide +kernel
theorem dX2_build_49 : decode cX2_build 49 = .ok (.iload_n 3, 1) := by decide +kernel
theorem dX2_build_50 : decode cX2_build 50 = .ok (.aload_n 0, 1) := by decide +kernel
theorem dX2_build_51 : decode cX2_build 51 = .ok (.getfield 35, 3) := by decide +kernel
theorem dX2_build_54 : decode cX2_build 54 = .ok (.iload_n 3, 1) := by decide +kernel
theorem dX2_build_55 : decode cX2_build 55 = .ok (.iconst 1, 1) := by decide +kernel
theorem dX2_build_56 : decode cX2_build 56 = .ok (.isub, 1) := by decide +kernel
theorem dX2_build_57 : decode cX2_build 57 = .ok (.iaload, 1) := by decide +kernel
theorem dX2_build_58 : decode cX2_build 58 = .ok (.iastore, 1) := by decide +kernel
theorem dX2_build_59 : decode cX2_build 59 = .ok (.iinc 3 (-1), 3) := by decide +kernel
theorem dX2_build_62 : decode cX2_build 62 = .ok (.goto (-47), 3) := by decide +kernel
theorem dX2_build_65 : decode cX2_build 65 = .ok (.aload_n 0, 1) := by decide +kernel
theorem dX2_build_66 : decode cX2_build 66 = .ok (.getfield 32, 3) := by decide +kernel
theorem dX2_build_69 : decode cX2_build 69 = .ok (.iload_n 3, 1) := by decide +kernel
theorem dX2_build_70 : decode cX2_build 70 = .ok (.iload_n 1, 1) := by decide +kernel
theorem dX2_build_71 : decode cX2_build 71 = .ok (.iastore, 1) := by decide +kernel
theorem dX2_build_72 : decode cX2_build 72 = .ok (.aload_n 0, 1) := by decide +kernel
theorem dX2_build_73 : decode cX2_build 73 = .ok (.getfield 35, 3) := by decide +kernel
theorem dX2_build_76 : decode cX2_build 76 = .ok (.iload_n 3, 1) := by decide +kernel
theorem dX2_build_77 : decode cX2_build 77 = .ok (.iload_n 2, 1) := by decide +kernel
theorem dX2_build_78 : decode cX2_build 78 = .ok (.iastore, 1) := by decide +kernel
theorem dX2_build_79 : decode cX2_build 79 = .ok (.aload_n 0, 1) := by decide +kernel
theorem dX2_build_80 : decode cX2_build 80 = .ok (.dup, 1) := by decide +kernel
theorem dX2_build_81 : decode cX2_build 81 = .ok (.getfield 29, 3) := by decide +kernel
theorem dX2_build_84 : decode cX2_build 84 = .ok (.iconst 1, 1) := by decide +kernel
theorem dX2_build_85 : decode cX2_build 85 = .ok (.iadd, 1) := by decide +kernel
theorem dX2_build_86 : decode cX2_build 86 = .ok (.putfield 29, 3) := by decide +kernel
theorem dX2_build_89 : decode cX2_build 89 = .ok (.iload_n 3, 1) := by decide +kernel
theorem dX2_build_90 : decode cX2_build 90 = .ok (.ireturn, 1) := by decide +kernel
theorem dX2_pullDown_0 : decode cX2_pullDown 0 = .ok (.iload_n 1, 1) := by decide +kernel
theorem dX2_pullDown_1 : decode cX2_pullDown 1 = .ok (.iconst 1, 1) := by decide +kernel
theorem dX2_pullDown_2 : decode cX2_pullDown 2 = .ok (.iadd, 1) := by decide +kernel
theorem dX2_pullDown_3 : decode cX2_pullDown 3 = .ok (.istore_n 2, 1) := by decide +kernel
theorem dX2_pullDown_4 : decode cX2_pullDown 4 = .ok (.iload_n 2, 1) := by decide +kernel
theorem dX2_pullDown_5 : decode cX2_pullDown 5 = .ok (.aload_n 0, 1) := by decide +kernel
theorem dX2_pullDown_6 : decode cX2_pullDown 6 = .ok (.getfield 29, 3) := by decide +kernel
theorem dX2_pullDown_9 : decode cX2_pullDown 9 = .ok (.if_icmp .ge 37, 3) := by decide +kernel
theorem dX2_pullDown_12 : decode cX2_pullDown 12 = .ok (.aload_n 0, 1) := by decide +kernel
theorem dX2_pullDown_13 : decode cX2_pullDown 13 = .ok (.getfield 32, 3) := by decide +kernel
theorem dX2_pullDown_16 : decode cX2_pullDown 16 = .ok (.iload_n 2, 1) := by decide +kernel
theorem dX2_pullDown_17 : decode cX2_pullDown 17 = .ok (.iconst 1, 1) := by decide +kernel
theorem dX2_pullDown_18 : decode cX2_pullDown 18 = .ok (.isub, 1) := by decide +kernel
theorem dX2_pullDown_19 : decode cX2_pullDown 19 = .ok (.aload_n 0, 1) := by decide +kernel
theorem dX2_pullDown_20 : decode cX2_pullDown 20 = .ok (.getfield 32, 3) := by decide +kernel
theorem dX2_pullDown_23 : decode cX2_pullDown 23 = .ok (.iload_n 2, 1) := by decide +kernel
theorem dX2_pullDown_24 : decode cX2_pullDown 24 = .ok (.iaload, 1) := by decide +kernel
theorem dX2_pullDown_25 : decode cX2_pullDown 25 = .ok (.iastore, 1) := by decide +kernel
theorem dX2_pullDown_26 : decode cX2_pullDown 26 = .ok (.aload_n 0, 1) := by decide +kernel
theorem dX2_pullDown_27 : decode cX2_pullDown 27 = .ok (.getfield 35, 3) := by decide +kernel
theorem dX2_pullDown_30 : decode cX2_pullDown 30 = .ok (.iload_n 2, 1) := by decide +kernel
theorem dX2_pullDown_31 : decode cX2_pullDown 31 = .ok (.iconst 1, 1) := by decide +kernel
theorem dX2_pullDown_32 : decode cX2_pullDown 32 = .ok (.isub, 1) := by decide +kernel
theorem dX2_pullDown_33 : decode cX2_pullDown 33 = .ok (.aload_n 0, 1) := by decide +kernel
theorem dX2_pullDown_34 : decode cX2_pullDown 34 = .ok (.getfield 35, 3) := by decide +kernel
theorem dX2_pullDown_37 : decode cX2_pullDown 37 = .ok (.iload_n 2, 1) := by decide +kernel
theorem dX2_pullDown_38 : decode cX2_pullDown 38 = .ok (.iaload, 1) := by decide +kernel
theorem dX2_pullDown_39 : decode cX2_pullDown 39 = .ok (.iastore, 1) := by decide +kernel
theorem dX2_pullDown_40 : decode cX2_pullDown 40 = .ok (.iinc 2 1, 3) := by decide +kernel
theorem dX2_pullDown_43 : decode cX2_pullDown 43 = .ok (.goto (-39), 3) := by decide +kernel
theorem dX2_pullDown_46 : decode cX2_pullDown 46 = .ok (.aload_n 0, 1) := by decide +kernel
theorem dX2_pullDown_47 : decode cX2_pullDown 47 = .ok (.dup, 1) := by decide +kernel
theorem dX2_pullDown_48 : decode cX2_pullDown 48 = .ok (.getfield 29, 3) := by decide +kernel
theorem dX2_pullDown_51 : decode cX2_pullDown 51 = .ok (.iconst 1, 1) := by decide +kernel
theorem dX2_pullDown_52 : decode cX2_pullDown 52 = .ok (.isub, 1) := by decide +kernel
theorem dX2_pullDown_53 : decode cX2_pullDown 53 = .ok (.putfield 29, 3) := by decide +kernel
theorem dX2_pullDown_56 : decode cX2_pullDown 56 = .ok (.return_, 1) := by decide +kernel
set_option maxRecDepth 20000 in
theorem ggX2_bridgeProperty_X2_floatsLoweredAt : GoodIn wsX2_bridgeProperty wsX2_floatsLoweredAt := goodIn_r _ [7, 8, 9, 10, 11, 6, 12, 2, 13, 14, 15, 16, 17, 18, 19, 20, 21, 22, 23, 24, 25, 26, 27, 28, 29] (by decide +kernel) (by decide +kernel)
set_option maxRecDepth 20000 in
theorem gX2_bridgeProperty_X2_floatsLoweredAt : GoodIn wsX2_bridgeProperty (wsV RX2 79 RX2 yX2_floatsLoweredAt wsX2_floatsLoweredAt) := goodIn_app (goodIn_of _ (by decide +kernel)) ggX2_bridgeProperty_X2_floatsLoweredAt
theorem dX2_bridgeProperty_0 : decode cX2_bridgeProperty 0 = .ok (.iload_n 2, 1) := by decide +kernel
theorem dX2_bridgeProperty_1 : decode cX2_bridgeProperty 1 = .ok (.lookupswitch 41 #[(0, 27), (1, 34)], 27) := by decide +kernel
theorem dX2_bridgeProperty_28 : decode cX2_bridgeProperty 28 = .ok (.aload_n 0, 1) := by decide +kernel
theorem dX2_bridgeProperty_29 : decode cX2_bridgeProperty 29 = .ok (.getfield 32, 3) := by decide +kernel
theorem dX2_bridgeProperty_32 : decode cX2_bridgeProperty 32 = .ok (.iload_n 1, 1) := by decide +kernel
theorem dX2_bridgeProperty_33 : decode cX2_bridgeProperty 33 = .ok (.iaload, 1) := by decide +kernel
theorem dX2_bridgeProperty_34 : decode cX2_bridgeProperty 34 = .ok (.ireturn, 1) := by decide +kernel
theorem dX2_bridgeProperty_35 : decode cX2_bridgeProperty 35 = .ok (.aload_n 0, 1) := by decide +kernel
theorem dX2_bridgeProperty_36 : decode cX2_bridgeProperty 36 = .ok (.getfield 35, 3) := by decide +kernel
theorem dX2_bridgeProperty_39 : decode cX2_bridgeProperty 39 = .ok (.iload_n 1, 1) := by decide +kernel
theorem dX2_bridgeProperty_40 : decode cX2_bridgeProperty 40 = .ok (.iaload, 1) := by decide +kernel
theorem dX2_bridgeProperty_41 : decode cX2_bridgeProperty 41 = .ok (.ireturn, 1) := by decide +kernel
theorem dX2_bridgeProperty_42 : decode cX2_bridgeProperty 42 = .ok (.aload_n 0, 1) := by decide +kernel
theorem dX2_bridgeProperty_43 : decode cX2_bridgeProperty 43 = .ok (.iload_n 1, 1) := by decide +kernel
theorem dX2_bridgeProperty_44 : decode cX2_bridgeProperty 44 = .ok (.invokevirtual 79, 3) := by decide +kernel
theorem dX2_bridgeProperty_47 : decode cX2_bridgeProperty 47 = .ok (.ireturn, 1) := by decide +kernel
set_option maxRecDepth 20000 in
theorem ggX2_isLowered_X2_countedHeight : GoodIn wsX2_isLowered wsX2_countedHeight := goodIn_r _ [6, 7, 8, 9, 10, 11, 12, 13, 14, 15, 16, 17, 18, 19] (by decide +kernel) (by decide +kernel)
set_option maxRecDepth 20000 in
theorem gX2_isLowered_X2_countedHeight : GoodIn wsX2_isLowered (wsV RX2 54 RX2 yX2_countedHeight wsX2_countedHeight) := goodIn_app (goodIn_of _ (by decide +kernel)) ggX2_isLowered_X2_countedHeight
theorem dX2_isLowered_0 : decode cX2_isLowered 0 = .ok (.aload_n 0, 1) := by decide +kernel
theorem dX2_isLowered_1 : decode cX2_isLowered 1 = .ok (.iload_n 1, 1) := by decide +kernel
theorem dX2_isLowered_2 : decode cX2_isLowered 2 = .ok (.invokevirtual 54, 3) := by decide +kernel
theorem dX2_isLowered_5 : decode cX2_isLowered 5 = .ok (.aload_n 0, 1) := by decide +kernel
theorem dX2_isLowered_6 : decode cX2_isLowered 6 = .ok (.getfield 35, 3) := by decide +kernel
theorem dX2_isLowered_9 : decode cX2_isLowered 9 = .ok (.iload_n 2, 1) := by decide +kernel
theorem dX2_isLowered_10 : decode cX2_isLowered 10 = .ok (.iaload, 1) := by decide +kernel
theorem dX2_isLowered_11 : decode cX2_isLowered 11 = .ok (.if_icmp .le 7, 3) := by decide +kernel
theorem dX2_isLowered_14 : decode cX2_isLowered 14 = .ok (.iconst 1, 1) := by decide +kernel
theorem dX2_isLowered_15 : decode cX2_isLowered 15 = .ok (.goto 4, 3) := by decide +kernel
theorem dX2_isLowered_18 : decode cX2_isLowered 18 = .ok (.iconst 0, 1) := by decide +kernel
theorem dX2_isLowered_19 : decode cX2_isLowered 19 = .ok (.ireturn, 1) := by decide +kernel
set_option maxRecDepth 20000 in
theorem ggX2_bridgesThatLower_X2_isLowered : GoodIn wsX2_bridgesThatLower wsX2_isLowered := goodIn_r _ [6, 7, 8, 9, 10, 5, 11, 12, 13, 14, 15, 16, 17, 18, 19, 20, 21, 22, 23, 24] (by decide +kernel) (by decide +kernel)
set_option maxRecDepth 20000 in
theorem gX2_bridgesThatLower_X2_isLowered : GoodIn wsX2_bridgesThatLower (wsV RX2 82 RX2 yX2_isLowered wsX2_isLowered) := goodIn_app (goodIn_of _ (by decide +kernel)) ggX2_bridgesThatLower_X2_isLowered
theorem dX2_bridgesThatLower_0 : decode cX2_bridgesThatLower 0 = .ok (.iconst 0, 1) := by decide +kernel
theorem dX2_bridgesThatLower_1 : decode cX2_bridgesThatLower 1 = .ok (.istore_n 2, 1) := by decide +kernel
theorem dX2_bridgesThatLower_2 : decode cX2_bridgesThatLower 2 = .ok (.iconst 0, 1) := by decide +kernel
theorem dX2_bridgesThatLower_3 : decode cX2_bridgesThatLower 3 = .ok (.istore_n 3, 1) := by decide +kernel
theorem dX2_bridgesThatLower_4 : decode cX2_bridgesThatLower 4 = .ok (.iload_n 3, 1) := by decide +kernel
theorem dX2_bridgesThatLower_5 : decode cX2_bridgesThatLower 5 = .ok (.aload_n 0, 1) := by decide +kernel
theorem dX2_bridgesThatLower_6 : decode cX2_bridgesThatLower 6 = .ok (.getfield 29, 3) := by decide +kernel
theorem dX2_bridgesThatLower_9 : decode cX2_bridgesThatLower 9 = .ok (.if_icmp .ge 21, 3) := by decide +kernel
theorem dX2_bridgesThatLower_12 : decode cX2_bridgesThatLower 12 = .ok (.aload_n 0, 1) := by decide +kernel
theorem dX2_bridgesThatLower_13 : decode cX2_bridgesThatLower 13 = .ok (.iload_n 1, 1) := by decide +kernel
theorem dX2_bridgesThatLower_14 : decode cX2_bridgesThatLower 14 = .ok (.iload_n 3, 1) := by decide +kernel
theorem dX2_bridgesThatLower_15 : decode cX2_bridgesThatLower 15 = .ok (.invokevirtual 82, 3) := by decide +kernel
theorem dX2_bridgesThatLower_18 : decode cX2_bridgesThatLower 18 = .ok (.ifCond .eq 6, 3) := by decide +kernel
theorem dX2_bridgesThatLower_21 : decode cX2_bridgesThatLower 21 = .ok (.iinc 2 1, 3) := by decide +kernel
theorem dX2_bridgesThatLower_24 : decode cX2_bridgesThatLower 24 = .ok (.iinc 3 1, 3) := by decide +kernel
theorem dX2_bridgesThatLower_27 : decode cX2_bridgesThatLower 27 = .ok (.goto (-23), 3) := by decide +kernel
theorem dX2_bridgesThatLower_30 : decode cX2_bridgesThatLower 30 = .ok (.iload_n 2, 1) := by decide +kernel
theorem dX2_bridgesThatLower_31 : decode cX2_bridgesThatLower 31 = .ok (.ireturn, 1) := by decide +kernel
set_option maxRecDepth 20000 in
theorem ggX2_floatsLoweredAt_X2_isLowered : GoodIn wsX2_floatsLoweredAt wsX2_isLowered := goodIn_r _ [6, 7, 8, 9, 10, 5, 11, 12, 13, 14, 15, 16, 17, 18, 19, 20, 21, 22, 23, 24] (by decide +kernel) (by decide +kernel)
set_option maxRecDepth 20000 in
theorem gX2_floatsLoweredAt_X2_isLowered : GoodIn wsX2_floatsLoweredAt (wsV RX2 82 RX2 yX2_isLowered wsX2_isLowered) := goodIn_app (goodIn_of _ (by decide +kernel)) ggX2_floatsLoweredAt_X2_isLowered
theorem dX2_floatsLoweredAt_0 : decode cX2_floatsLoweredAt 0 = .ok (.iconst 0, 1) := by decide +kernel
theorem dX2_floatsLoweredAt_1 : decode cX2_floatsLoweredAt 1 = .ok (.istore_n 2, 1) := by decide +kernel
theorem dX2_floatsLoweredAt_2 : decode cX2_floatsLoweredAt 2 = .ok (.iconst 0, 1) := by decide +kernel
theorem dX2_floatsLoweredAt_3 : decode cX2_floatsLoweredAt 3 = .ok (.istore_n 3, 1) := by decide +kernel
theorem dX2_floatsLoweredAt_4 : decode cX2_floatsLoweredAt 4 = .ok (.iload_n 3, 1) := by decide +kernel
theorem dX2_floatsLoweredAt_5 : decode cX2_floatsLoweredAt 5 = .ok (.aload_n 0, 1) := by decide +kernel
theorem dX2_floatsLoweredAt_6 : decode cX2_floatsLoweredAt 6 = .ok (.getfield 9, 3) := by decide +kernel
theorem dX2_floatsLoweredAt_9 : decode cX2_floatsLoweredAt 9 = .ok (.if_icmp .ge 21, 3) := by decide +kernel
theorem dX2_floatsLoweredAt_12 : decode cX2_floatsLoweredAt 12 = .ok (.aload_n 0, 1) := by decide +kernel
theorem dX2_floatsLoweredAt_13 : decode cX2_floatsLoweredAt 13 = .ok (.iload_n 3, 1) := by decide +kernel
theorem dX2_floatsLoweredAt_14 : decode cX2_floatsLoweredAt 14 = .ok (.iload_n 1, 1) := by decide +kernel
theorem dX2_floatsLoweredAt_15 : decode cX2_floatsLoweredAt 15 = .ok (.invokevirtual 82, 3) := by decide +kernel
theorem dX2_floatsLoweredAt_18 : decode cX2_floatsLoweredAt 18 = .ok (.ifCond .eq 6, 3) := by decide +kernel
theorem dX2_floatsLoweredAt_21 : decode cX2_floatsLoweredAt 21 = .ok (.iinc 2 1, 3) := by decide +kernel
theorem dX2_floatsLoweredAt_24 : decode cX2_floatsLoweredAt 24 = .ok (.iinc 3 1, 3) := by decide +kernel
theorem dX2_floatsLoweredAt_27 : decode cX2_floatsLoweredAt 27 = .ok (.goto (-23), 3) := by decide +kernel
theorem dX2_floatsLoweredAt_30 : decode cX2_floatsLoweredAt 30 = .ok (.iload_n 2, 1) := by decide +kernel
theorem dX2_floatsLoweredAt_31 : decode cX2_floatsLoweredAt 31 = .ok (.ireturn, 1) := by decide +kernel
set_option maxRecDepth 20000 in
theorem ggX2_loweredFloats_X2_bridgesThatLower : GoodIn wsX2_loweredFloats wsX2_bridgesThatLower := goodIn_r _ [6, 7, 8, 9, 10, 5, 11, 12, 13, 14, 15, 16, 17, 18, 19, 20, 21, 22, 23, 24, 25, 26, 27, 28, 29] (by decide +kernel) (by decide +kernel)
set_option maxRecDepth 20000 in
theorem gX2_loweredFloats_X2_bridgesThatLower : GoodIn wsX2_loweredFloats (wsV RX2 58 RX2 yX2_bridgesThatLower wsX2_bridgesThatLower) := goodIn_app (goodIn_of _ (by decide +kernel)) ggX2_loweredFloats_X2_bridgesThatLower
theorem dX2_loweredFloats_0 : decode cX2_loweredFloats 0 = .ok (.iconst 0, 1) := by decide +kernel
theorem dX2_loweredFloats_1 : decode cX2_loweredFloats 1 = .ok (.istore_n 1, 1) := by decide +kernel
theorem dX2_loweredFloats_2 : decode cX2_loweredFloats 2 = .ok (.iconst 0, 1) := by decide +kernel
theorem dX2_loweredFloats_3 : decode cX2_loweredFloats 3 = .ok (.istore_n 2, 1) := by decide +kernel
theorem dX2_loweredFloats_4 : decode cX2_loweredFloats 4 = .ok (.iload_n 2, 1) := by decide +kernel
theorem dX2_loweredFloats_5 : decode cX2_loweredFloats 5 = .ok (.aload_n 0, 1) := by decide +kernel
theorem dX2_loweredFloats_6 : decode cX2_loweredFloats 6 = .ok (.getfield 9, 3) := by decide +kernel
theorem dX2_loweredFloats_9 : decode cX2_loweredFloats 9 = .ok (.if_icmp .ge 20, 3) := by decide +kernel
theorem dX2_loweredFloats_12 : decode cX2_loweredFloats 12 = .ok (.aload_n 0, 1) := by decide +kernel
theorem dX2_loweredFloats_13 : decode cX2_loweredFloats 13 = .ok (.iload_n 2, 1) := by decide +kernel
theorem dX2_loweredFloats_14 : decode cX2_loweredFloats 14 = .ok (.invokevirtual 58, 3) := by decide +kernel
theorem dX2_loweredFloats_17 : decode cX2_loweredFloats 17 = .ok (.ifCond .le 6, 3) := by decide +kernel
theorem dX2_loweredFloats_20 : decode cX2_loweredFloats 20 = .ok (.iinc 1 1, 3) := by decide +kernel
theorem dX2_loweredFloats_23 : decode cX2_loweredFloats 23 = .ok (.iinc 2 1, 3) := by decide +kernel
theorem dX2_loweredFloats_26 : decode cX2_loweredFloats 26 = .ok (.goto (-22), 3) := by decide +kernel
theorem dX2_loweredFloats_29 : decode cX2_loweredFloats 29 = .ok (.iload_n 1, 1) := by decide +kernel
theorem dX2_loweredFloats_30 : decode cX2_loweredFloats 30 = .ok (.ireturn, 1) := by decide +kernel
set_option maxRecDepth 20000 in
theorem ggX2_travel_X2_countedHeight : GoodIn wsX2_travel wsX2_countedHeight := goodIn_r _ [15, 16, 17, 18, 19, 20, 21, 22, 23, 24, 25, 26, 27, 28] (by decide +kernel) (by decide +kernel)
set_option maxRecDepth 20000 in
theorem gX2_travel_X2_countedHeight : GoodIn wsX2_travel (wsV RX2 54 RX2 yX2_countedHeight wsX2_countedHeight) := goodIn_app (goodIn_of _ (by decide +kernel)) ggX2_travel_X2_countedHeight
theorem dX2_travel_0 : decode cX2_travel 0 = .ok (.iconst 0, 1) := by decide +kernel
theorem dX2_travel_1 : decode cX2_travel 1 = .ok (.istore_n 2, 1) := by decide +kernel
theorem dX2_travel_2 : decode cX2_travel 2 = .ok (.iload_n 2, 1) := by decide +kernel
theorem dX2_travel_3 : decode cX2_travel 3 = .ok (.iload_n 1, 1) := by decide +kernel
theorem dX2_travel_4 : decode cX2_travel 4 = .ok (.if_icmp .gt 164, 3) := by decide +kernel
theorem dX2_travel_7 : decode cX2_travel 7 = .ok (.aload_n 0, 1) := by decide +kernel
theorem dX2_travel_8 : decode cX2_travel 8 = .ok (.iload_n 2, 1) := by decide +kernel
theorem dX2_travel_9 : decode cX2_travel 9 = .ok (.invokevirtual 54, 3) := by decide +kernel
theorem dX2_travel_12 : decode cX2_travel 12 = .ok (.istore_n 3, 1) := by decide +kernel
theorem dX2_travel_13 : decode cX2_travel 13 = .ok (.iload_n 2, 1) := by decide +kernel
theorem dX2_travel_14 : decode cX2_travel 14 = .ok (.aload_n 0, 1) := by decide +kernel
theorem dX2_travel_15 : decode cX2_travel 15 = .ok (.getfield 38, 3) := by decide +kernel
theorem dX2_travel_18 : decode cX2_travel 18 = .ok (.iconst 1, 1) := by decide +kernel
theorem dX2_travel_19 : decode cX2_travel 19 = .ok (.iaload, 1) := by decide +kernel
theorem dX2_travel_20 : decode cX2_travel 20 = .ok (.imul, 1) := by decide +kernel
theorem dX2_travel_21 : decode cX2_travel 21 = .ok (.istore 4, 2) := by decide +kernel
theorem dX2_travel_23 : decode cX2_travel 23 = .ok (.iconst 0, 1) := by decide +kernel
theorem dX2_travel_24 : decode cX2_travel 24 = .ok (.istore 5, 2) := by decide +kernel
theorem dX2_travel_26 : decode cX2_travel 26 = .ok (.iconst 0, 1) := by decide +kernel
theorem dX2_travel_27 : decode cX2_travel 27 = .ok (.istore 6, 2) := by decide +kernel
theorem dX2_travel_29 : decode cX2_travel 29 = .ok (.iload 6, 2) := by decide +kernel
theorem dX2_travel_31 : decode cX2_travel 31 = .ok (.aload_n 0, 1) := by decide +kernel
theorem dX2_travel_32 : decode cX2_travel 32 = .ok (.getfield 29, 3) := by decide +kernel
theorem dX2_travel_35 : decode cX2_travel 35 = .ok (.if_icmp .gt 127, 3) := by decide +kernel
theorem dX2_travel_38 : decode cX2_travel 38 = .ok (.iload 6, 2) := by decide +kernel
theorem dX2_travel_40 : decode cX2_travel 40 = .ok (.aload_n 0, 1) := by decide +kernel
theorem dX2_travel_41 : decode cX2_travel 41 = .ok (.getfield 29, 3) := by decide +kernel
theorem dX2_travel_44 : decode cX2_travel 44 = .ok (.if_icmp .ge 13, 3) := by decide +kernel
theorem dX2_travel_47 : decode cX2_travel 47 = .ok (.aload_n 0, 1) := by decide +kernel
theorem dX2_travel_48 : decode cX2_travel 48 = .ok (.getfield 32, 3) := by decide +kernel
theorem dX2_travel_51 : decode cX2_travel 51 = .ok (.iload 6, 2) := by decide +kernel
theorem dX2_travel_53 : decode cX2_travel 53 = .ok (.iaload, 1) := by decide +kernel
theorem dX2_travel_54 : decode cX2_travel 54 = .ok (.goto 5, 3) := by decide +kernel
theorem dX2_travel_57 : decode cX2_travel 57 = .ok (.bipush 60, 2) := by decide +kernel
theorem dX2_travel_59 : decode cX2_travel 59 = .ok (.istore 7, 2) := by decide +kernel
theorem dX2_travel_61 : decode cX2_travel 61 = .ok (.iload 4, 2) := by decide +kernel
theorem dX2_travel_63 : decode cX2_travel 63 = .ok (.iload 7, 2) := by decide +kernel
theorem dX2_travel_65 : decode cX2_travel 65 = .ok (.iload 5, 2) := by decide +kernel
theorem dX2_travel_67 : decode cX2_travel 67 = .ok (.isub, 1) := by decide +kernel
theorem dX2_travel_68 : decode cX2_travel 68 = .ok (.aload_n 0, 1) := by decide +kernel
theorem dX2_travel_69 : decode cX2_travel 69 = .ok (.getfield 38, 3) := by decide +kernel
theorem dX2_travel_72 : decode cX2_travel 72 = .ok (.iconst 2, 1) := by decide +kernel
theorem dX2_travel_73 : decode cX2_travel 73 = .ok (.iaload, 1) := by decide +kernel
theorem dX2_travel_74 : decode cX2_travel 74 = .ok (.imul, 1) := by decide +kernel
theorem dX2_travel_75 : decode cX2_travel 75 = .ok (.iadd, 1) := by decide +kernel
theorem dX2_travel_76 : decode cX2_travel 76 = .ok (.istore 4, 2) := by decide +kernel
theorem dX2_travel_78 : decode cX2_travel 78 = .ok (.iload_n 2, 1) := by decide +kernel
theorem dX2_travel_79 : decode cX2_travel 79 = .ok (.ifCond .le 24, 3) := by decide +kernel
theorem dX2_travel_82 : decode cX2_travel 82 = .ok (.iload 4, 2) := by decide +kernel
theorem dX2_travel_84 : decode cX2_travel 84 = .ok (.aload_n 0, 1) := by decide +kernel
theorem dX2_travel_85 : decode cX2_travel 85 = .ok (.getfield 44, 3) := by decide +kernel
theorem dX2_travel_88 : decode cX2_travel 88 = .ok (.iload 6, 2) := by decide +kernel
theorem dX2_travel_90 : decode cX2_travel 90 = .ok (.iaload, 1) := by decide +kernel
theorem dX2_travel_91 : decode cX2_travel 91 = .ok (.aload_n 0, 1) := by decide +kernel
theorem dX2_travel_92 : decode cX2_travel 92 = .ok (.getfield 38, 3) := by decide +kernel
theorem dX2_travel_95 : decode cX2_travel 95 = .ok (.iconst 1, 1) := by decide +kernel
theorem dX2_travel_96 : decode cX2_travel 96 = .ok (.iaload, 1) := by decide +kernel
theorem dX2_travel_97 : decode cX2_travel 97 = .ok (.iadd, 1) := by decide +kernel
theorem dX2_travel_98 : decode cX2_travel 98 = .ok (.invokestatic 64, 3) := by decide +kernel
theorem dX2_travel_101 : decode cX2_travel 101 = .ok (.istore 4, 2) := by decide +kernel
theorem dX2_travel_103 : decode cX2_travel 103 = .ok (.aload_n 0, 1) := by decide +kernel
theorem dX2_travel_104 : decode cX2_travel 104 = .ok (.getfield 41, 3) := by decide +kernel
theorem dX2_travel_107 : decode cX2_travel 107 = .ok (.iload 6, 2) := by decide +kernel
theorem dX2_travel_109 : decode cX2_travel 109 = .ok (.iload 4, 2) := by decide +kernel
theorem dX2_travel_111 : decode cX2_travel 111 = .ok (.iastore, 1) := by decide +kernel
theorem dX2_travel_112 : decode cX2_travel 112 = .ok (.iload 6, 2) := by decide +kernel
theorem dX2_travel_114 : decode cX2_travel 114 = .ok (.aload_n 0, 1) := by decide +kernel
theorem dX2_travel_115 : decode cX2_travel 115 = .ok (.getfield 29, 3) := by decide +kernel
theorem dX2_travel_118 : decode cX2_travel 118 = .ok (.if_icmp .ge 25, 3) := by decide +kernel
theorem dX2_travel_121 : decode cX2_travel 121 = .ok (.iload_n 3, 1) := by decide +kernel
theorem dX2_travel_122 : decode cX2_travel 122 = .ok (.aload_n 0, 1) := by decide +kernel
theorem dX2_travel_123 : decode cX2_travel 123 = .ok (.getfield 35, 3) := by decide +kernel
theorem dX2_travel_126 : decode cX2_travel 126 = .ok (.iload 6, 2) := by decide +kernel
theorem dX2_travel_128 : decode cX2_travel 128 = .ok (.iaload, 1) := by decide +kernel
theorem dX2_travel_129 : decode cX2_travel 129 = .ok (.if_icmp .le 14, 3) := by decide +kernel
theorem dX2_travel_132 : decode cX2_travel 132 = .ok (.iload 4, 2) := by decide +kernel
theorem dX2_travel_134 : decode cX2_travel 134 = .ok (.aload_n 0, 1) := by decide +kernel
theorem dX2_travel_135 : decode cX2_travel 135 = .ok (.getfield 38, 3) := by decide +kernel
theorem dX2_travel_138 : decode cX2_travel 138 = .ok (.iconst 3, 1) := by decide +kernel
theorem dX2_travel_139 : decode cX2_travel 139 = .ok (.iaload, 1) := by decide +kernel
theorem dX2_travel_140 : decode cX2_travel 140 = .ok (.iadd, 1) := by decide +kernel
theorem dX2_travel_141 : decode cX2_travel 141 = .ok (.istore 4, 2) := by decide +kernel
theorem dX2_travel_143 : decode cX2_travel 143 = .ok (.aload_n 0, 1) := by decide +kernel
theorem dX2_travel_144 : decode cX2_travel 144 = .ok (.getfield 44, 3) := by decide +kernel
theorem dX2_travel_147 : decode cX2_travel 147 = .ok (.iload 6, 2) := by decide +kernel
theorem dX2_travel_149 : decode cX2_travel 149 = .ok (.iload 4, 2) := by decide +kernel
theorem dX2_travel_151 : decode cX2_travel 151 = .ok (.iastore, 1) := by decide +kernel
theorem dX2_travel_152 : decode cX2_travel 152 = .ok (.iload 7, 2) := by decide +kernel
theorem dX2_travel_154 : decode cX2_travel 154 = .ok (.istore 5, 2) := by decide +kernel
theorem dX2_travel_156 : decode cX2_travel 156 = .ok (.iinc 6 1, 3) := by decide +kernel
theorem dX2_travel_159 : decode cX2_travel 159 = .ok (.goto (-130), 3) := by decide +kernel
theorem dX2_travel_162 : decode cX2_travel 162 = .ok (.iinc 2 1, 3) := by decide +kernel
theorem dX2_travel_165 : decode cX2_travel 165 = .ok (.goto (-163), 3) := by decide +kernel
theorem dX2_travel_168 : decode cX2_travel 168 = .ok (.return_, 1) := by decide +kernel
set_option maxRecDepth 20000 in
theorem ggX2_end_X2_travel : GoodIn wsX2_end wsX2_travel := goodIn_r _ [8, 9, 3, 10, 11, 12, 13, 14, 15, 2, 16, 17, 18, 19, 7, 20, 21, 22, 23, 24, 25, 26, 27, 28, 29, 30, 31, 32, 33] (by decide +kernel) (by decide +kernel)
set_option maxRecDepth 20000 in
theorem gX2_end_X2_travel : GoodIn wsX2_end (wsV RX2 86 RX2 yX2_travel wsX2_travel) := goodIn_app (goodIn_of _ (by decide +kernel)) ggX2_end_X2_travel
theorem dX2_end_0 : decode cX2_end 0 = .ok (.aload_n 0, 1) := by decide +kernel
theorem dX2_end_1 : decode cX2_end 1 = .ok (.getfield 9, 3) := by decide +kernel
theorem dX2_end_4 : decode cX2_end 4 = .ok (.ifCond .gt 5, 3) := by decide +kernel
theorem dX2_end_7 : decode cX2_end 7 = .ok (.iconst 0, 1) := by decide +kernel
theorem dX2_end_8 : decode cX2_end 8 = .ok (.ireturn, 1) := by decide +kernel
theorem dX2_end_9 : decode cX2_end 9 = .ok (.aload_n 0, 1) := by decide +kernel
theorem dX2_end_10 : decode cX2_end 10 = .ok (.aload_n 0, 1) := by decide +kernel
theorem dX2_end_11 : decode cX2_end 11 = .ok (.getfield 9, 3) := by decide +kernel
theorem dX2_end_14 : decode cX2_end 14 = .ok (.iconst 1, 1) := by decide +kernel
theorem dX2_end_15 : decode cX2_end 15 = .ok (.isub, 1) := by decide +kernel
theorem dX2_end_16 : decode cX2_end 16 = .ok (.invokevirtual 86, 3) := by decide +kernel
theorem dX2_end_19 : decode cX2_end 19 = .ok (.aload_n 0, 1) := by decide +kernel
theorem dX2_end_20 : decode cX2_end 20 = .ok (.getfield 41, 3) := by decide +kernel
theorem dX2_end_23 : decode cX2_end 23 = .ok (.aload_n 0, 1) := by decide +kernel
theorem dX2_end_24 : decode cX2_end 24 = .ok (.getfield 29, 3) := by decide +kernel
theorem dX2_end_27 : decode cX2_end 27 = .ok (.iaload, 1) := by decide +kernel
theorem dX2_end_28 : decode cX2_end 28 = .ok (.ireturn, 1) := by decide +kernel
set_option maxRecDepth 20000 in
theorem ggX2_waiting_X2_end : GoodIn wsX2_waiting wsX2_end := goodIn_r _ [7, 1, 8, 9, 10, 11, 12, 6, 13, 2, 14, 15, 16, 17, 18, 19, 20, 21, 22, 23, 24, 25, 26, 27, 28, 29, 30, 31, 32, 33, 34, 35, 36, 37] (by decide +kernel) (by decide +kernel)
set_option maxRecDepth 20000 in
theorem gX2_waiting_X2_end : GoodIn wsX2_waiting (wsV RX2 90 RX2 yX2_end wsX2_end) := goodIn_app (goodIn_of _ (by decide +kernel)) ggX2_waiting_X2_end
theorem dX2_waiting_0 : decode cX2_waiting 0 = .ok (.aload_n 0, 1) := by decide +kernel
theorem dX2_waiting_1 : decode cX2_waiting 1 = .ok (.getfield 9, 3) := by decide +kernel
theorem dX2_waiting_4 : decode cX2_waiting 4 = .ok (.ifCond .gt 5, 3) := by decide +kernel
theorem dX2_waiting_7 : decode cX2_waiting 7 = .ok (.iconst 0, 1) := by decide +kernel
theorem dX2_waiting_8 : decode cX2_waiting 8 = .ok (.ireturn, 1) := by decide +kernel
theorem dX2_waiting_9 : decode cX2_waiting 9 = .ok (.aload_n 0, 1) := by decide +kernel
theorem dX2_waiting_10 : decode cX2_waiting 10 = .ok (.invokevirtual 90, 3) := by decide +kernel
theorem dX2_waiting_13 : decode cX2_waiting 13 = .ok (.aload_n 0, 1) := by decide +kernel
theorem dX2_waiting_14 : decode cX2_waiting 14 = .ok (.getfield 9, 3) := by decide +kernel
theorem dX2_waiting_17 : decode cX2_waiting 17 = .ok (.iconst 1, 1) := by decide +kernel
theorem dX2_waiting_18 : decode cX2_waiting 18 = .ok (.isub, 1) := by decide +kernel
theorem dX2_waiting_19 : decode cX2_waiting 19 = .ok (.aload_n 0, 1) := by decide +kernel
theorem dX2_waiting_20 : decode cX2_waiting 20 = .ok (.getfield 38, 3) := by decide +kernel
theorem dX2_waiting_23 : decode cX2_waiting 23 = .ok (.iconst 1, 1) := by decide +kernel
theorem dX2_waiting_24 : decode cX2_waiting 24 = .ok (.iaload, 1) := by decide +kernel
theorem dX2_waiting_25 : decode cX2_waiting 25 = .ok (.imul, 1) := by decide +kernel
theorem dX2_waiting_26 : decode cX2_waiting 26 = .ok (.isub, 1) := by decide +kernel
theorem dX2_waiting_27 : decode cX2_waiting 27 = .ok (.bipush 60, 2) := by decide +kernel
theorem dX2_waiting_29 : decode cX2_waiting 29 = .ok (.aload_n 0, 1) := by decide +kernel
theorem dX2_waiting_30 : decode cX2_waiting 30 = .ok (.getfield 38, 3) := by decide +kernel
theorem dX2_waiting_33 : decode cX2_waiting 33 = .ok (.iconst 2, 1) := by decide +kernel
theorem dX2_waiting_34 : decode cX2_waiting 34 = .ok (.iaload, 1) := by decide +kernel
theorem dX2_waiting_35 : decode cX2_waiting 35 = .ok (.imul, 1) := by decide +kernel
theorem dX2_waiting_36 : decode cX2_waiting 36 = .ok (.isub, 1) := by decide +kernel
theorem dX2_waiting_37 : decode cX2_waiting 37 = .ok (.ireturn, 1) := by decide +kernel
theorem dX3_init_0 : decode cX3_init 0 = .ok (.aload_n 0, 1) := by decide +kernel
theorem dX3_init_1 : decode cX3_init 1 = .ok (.invokespecial 3, 3) := by decide +kernel
theorem dX3_init_4 : decode cX3_init 4 = .ok (.aload_n 0, 1) := by decide +kernel
theorem dX3_init_5 : decode cX3_init 5 = .ok (.iconst 0, 1) := by decide +kernel
theorem dX3_init_6 : decode cX3_init 6 = .ok (.putfield 9, 3) := by decide +kernel
theorem dX3_init_9 : decode cX3_init 9 = .ok (.aload_n 0, 1) := by decide +kernel
theorem dX3_init_10 : decode cX3_init 10 = .ok (.iconst 0, 1) := by decide +kernel
theorem dX3_init_11 : decode cX3_init 11 = .ok (.putfield 15, 3) := by decide +kernel
theorem dX3_init_14 : decode cX3_init 14 = .ok (.aload_n 0, 1) := by decide +kernel
theorem dX3_init_15 : decode cX3_init 15 = .ok (.iconst 0, 1) := by decide +kernel
theorem dX3_init_16 : decode cX3_init 16 = .ok (.putfield 18, 3) := by decide +kernel
theorem dX3_init_19 : decode cX3_init 19 = .ok (.aload_n 0, 1) := by decide +kernel
theorem dX3_init_20 : decode cX3_init 20 = .ok (.iconst 0, 1) := by decide +kernel
theorem dX3_init_21 : decode cX3_init 21 = .ok (.putfield 21, 3) := by decide +kernel
theorem dX3_init_24 : decode cX3_init 24 = .ok (.return_, 1) := by decide +kernel
