theorem dX0_init_0 : decode cX0_init 0 = .ok (.aload_n 0, 1) := by decide +kernel
theorem dX0_init_1 : decode cX0_init 1 = .ok (.invokespecial 1, 3) := by decide +kernel
theorem dX0_init_4 : decode cX0_init 4 = .ok (.aload_n 0, 1) := by decide +kernel
theorem dX0_init_5 : decode cX0_init 5 = .ok (.iload_n 1, 1) := by decide +kernel
theorem dX0_init_6 : decode cX0_init 6 = .ok (.putfield 7, 3) := by decide +kernel
theorem dX0_init_9 : decode cX0_init 9 = .ok (.aload_n 0, 1) := by decide +kernel
theorem dX0_init_10 : decode cX0_init 10 = .ok (.iload_n 2, 1) := by decide +kernel
theorem dX0_init_11 : decode cX0_init 11 = .ok (.putfield 13, 3) := by decide +kernel
theorem dX0_init_14 : decode cX0_init 14 = .ok (.aload_n 0, 1) := by decide +kernel
theorem dX0_init_15 : decode cX0_init 15 = .ok (.aload_n 3, 1) := by decide +kernel
theorem dX0_init_16 : decode cX0_init 16 = .ok (.putfield 16, 3) := by decide +kernel
theorem dX0_init_19 : decode cX0_init 19 = .ok (.aload_n 0, 1) := by decide +kernel
theorem dX0_init_20 : decode cX0_init 20 = .ok (.aload 4, 2) := by decide +kernel
theorem dX0_init_22 : decode cX0_init 22 = .ok (.putfield 20, 3) := by decide +kernel
theorem dX0_init_25 : decode cX0_init 25 = .ok (.return_, 1) := by decide +kernel
set_option maxRecDepth 20000 in
theorem ggX1_init_X3_init : GoodIn wsX1_init wsX3_init := goodIn_r _ [10, 11, 12, 13] (by decide +kernel) (by decide +kernel)
set_option maxRecDepth 20000 in
theorem gX1_init_X3_init_n1 : GoodIn wsX1_init (wsX3_init) := ggX1_init_X3_init
set_option maxRecDepth 20000 in
theorem ggX1_init_X10_init : GoodIn wsX1_init wsX10_init := goodIn_r _ [15, 16, 12, 13, 17, 18, 19, 20] (by decide +kernel) (by decide +kernel)
set_option maxRecDepth 20000 in
theorem gX1_init_X10_init_n9 : GoodIn wsX1_init (wsX10_init) := ggX1_init_X10_init
theorem dX1_init_0 : decode cX1_init 0 = .ok (.aload_n 0, 1) := by decide +kernel
theorem dX1_init_1 : decode cX1_init 1 = .ok (.invokespecial 1, 3) := by decide +kernel
theorem dX1_init_4 : decode cX1_init 4 = .ok (.aload_n 0, 1) := by decide +kernel
theorem dX1_init_5 : decode cX1_init 5 = .ok (.new 7, 3) := by decide +kernel
theorem dX1_init_8 : decode cX1_init 8 = .ok (.dup, 1) := by decide +kernel
theorem dX1_init_9 : decode cX1_init 9 = .ok (.invokespecial 9, 3) := by decide +kernel
theorem dX1_init_12 : decode cX1_init 12 = .ok (.putfield 10, 3) := by decide +kernel
theorem dX1_init_15 : decode cX1_init 15 = .ok (.aload_n 0, 1) := by decide +kernel
theorem dX1_init_16 : decode cX1_init 16 = .ok (.iload_n 1, 1) := by decide +kernel
theorem dX1_init_17 : decode cX1_init 17 = .ok (.putfield 16, 3) := by decide +kernel
theorem dX1_init_20 : decode cX1_init 20 = .ok (.aload_n 0, 1) := by decide +kernel
theorem dX1_init_21 : decode cX1_init 21 = .ok (.aload_n 2, 1) := by decide +kernel
theorem dX1_init_22 : decode cX1_init 22 = .ok (.putfield 20, 3) := by decide +kernel
theorem dX1_init_25 : decode cX1_init 25 = .ok (.aload_n 0, 1) := by decide +kernel
theorem dX1_init_26 : decode cX1_init 26 = .ok (.aload_n 3, 1) := by decide +kernel
theorem dX1_init_27 : decode cX1_init 27 = .ok (.putfield 24, 3) := by decide +kernel
theorem dX1_init_30 : decode cX1_init 30 = .ok (.return_, 1) := by decide +kernel
set_option maxRecDepth 20000 in
theorem ggX1_find_X2_find : GoodIn wsX1_find wsX2_find := goodIn_r _ [9, 10, 11, 12, 13, 14, 15, 16, 17, 18, 19, 20, 21, 22, 23, 24, 25, 26, 27, 28, 29, 30, 31, 32, 33, 34, 35, 36, 37, 74, 75, 76, 77, 78, 79, 80, 81] (by decide +kernel) (by decide +kernel)
set_option maxRecDepth 20000 in
theorem gX1_find_X2_find : GoodIn wsX1_find (wsV RX1 27 RX2 yX2_find wsX2_find) := goodIn_app (goodIn_of _ (by decide +kernel)) ggX1_find_X2_find
set_option maxRecDepth 20000 in
theorem ggX1_find_X11_combine : GoodIn wsX1_find wsX11_combine := goodIn_r _ [40, 41, 42, 43, 21, 44, 23, 24, 45, 46, 47, 48, 49, 50, 51, 52, 53, 54, 55, 56, 57, 58, 59, 60, 61, 62, 39, 63, 64, 65, 66, 67, 68, 69, 19, 20, 22, 25, 26, 27, 80, 81] (by decide +kernel) (by decide +kernel)
set_option maxRecDepth 20000 in
theorem gX1_find_X11_combine_n33 : GoodIn wsX1_find (wsX11_combine) := ggX1_find_X11_combine
theorem dX1_find_0 : decode cX1_find 0 = .ok (.aload_n 0, 1) := by decide +kernel
theorem dX1_find_1 : decode cX1_find 1 = .ok (.getfield 20, 3) := by decide +kernel
theorem dX1_find_4 : decode cX1_find 4 = .ok (.aload_n 1, 1) := by decide +kernel
theorem dX1_find_5 : decode cX1_find 5 = .ok (.aload_n 2, 1) := by decide +kernel
theorem dX1_find_6 : decode cX1_find 6 = .ok (.invokevirtual 27, 3) := by decide +kernel
theorem dX1_find_9 : decode cX1_find 9 = .ok (.aload_n 0, 1) := by decide +kernel
theorem dX1_find_10 : decode cX1_find 10 = .ok (.getfield 24, 3) := by decide +kernel
theorem dX1_find_13 : decode cX1_find 13 = .ok (.aload_n 1, 1) := by decide +kernel
theorem dX1_find_14 : decode cX1_find 14 = .ok (.aload_n 0, 1) := by decide +kernel
theorem dX1_find_15 : decode cX1_find 15 = .ok (.getfield 10, 3) := by decide +kernel
theorem dX1_find_18 : decode cX1_find 18 = .ok (.invokevirtual 27, 3) := by decide +kernel
theorem dX1_find_21 : decode cX1_find 21 = .ok (.iadd, 1) := by decide +kernel
theorem dX1_find_22 : decode cX1_find 22 = .ok (.istore_n 3, 1) := by decide +kernel
theorem dX1_find_23 : decode cX1_find 23 = .ok (.iload_n 3, 1) := by decide +kernel
theorem dX1_find_24 : decode cX1_find 24 = .ok (.aload_n 0, 1) := by decide +kernel
theorem dX1_find_25 : decode cX1_find 25 = .ok (.getfield 16, 3) := by decide +kernel
theorem dX1_find_28 : decode cX1_find 28 = .ok (.aload_n 2, 1) := by decide +kernel
theorem dX1_find_29 : decode cX1_find 29 = .ok (.aload_n 0, 1) := by decide +kernel
theorem dX1_find_30 : decode cX1_find 30 = .ok (.getfield 10, 3) := by decide +kernel
theorem dX1_find_33 : decode cX1_find 33 = .ok (.invokestatic 33, 3) := by decide +kernel
theorem dX1_find_36 : decode cX1_find 36 = .ok (.iadd, 1) := by decide +kernel
theorem dX1_find_37 : decode cX1_find 37 = .ok (.ireturn, 1) := by decide +kernel
set_option maxRecDepth 20000 in
theorem ggX2_init_X3_init : GoodIn wsX2_init wsX3_init := goodIn_r _ [4, 5, 6, 7] (by decide +kernel) (by decide +kernel)
set_option maxRecDepth 20000 in
theorem gX2_init_X3_init_n1 : GoodIn wsX2_init (wsX3_init) := ggX2_init_X3_init
theorem dX2_init_0 : decode cX2_init 0 = .ok (.aload_n 0, 1) := by decide +kernel
theorem dX2_init_1 : decode cX2_init 1 = .ok (.invokespecial 1, 3) := by decide +kernel
theorem dX2_init_4 : decode cX2_init 4 = .ok (.aload_n 0, 1) := by decide +kernel
theorem dX2_init_5 : decode cX2_init 5 = .ok (.iload_n 1, 1) := by decide +kernel
theorem dX2_init_6 : decode cX2_init 6 = .ok (.putfield 7, 3) := by decide +kernel
theorem dX2_init_9 : decode cX2_init 9 = .ok (.return_, 1) := by decide +kernel
set_option maxRecDepth 20000 in
theorem ggX2_find_X4_load : GoodIn wsX2_find wsX4_load := goodIn_r _ [6, 7, 8, 9, 10, 11, 12, 13, 14, 15, 16, 17, 18, 19, 20, 21, 5, 22, 23, 24, 25, 26, 27, 28, 30, 31, 32, 33, 34, 35, 36] (by decide +kernel) (by decide +kernel)
set_option maxRecDepth 20000 in
theorem gX2_find_X4_load : GoodIn wsX2_find (wsV RX2 13 RX4 yX4_load wsX4_load) := goodIn_app (goodIn_of _ (by decide +kernel)) ggX2_find_X4_load
theorem dX2_find_0 : decode cX2_find 0 = .ok (.aload_n 1, 1) := by decide +kernel
theorem dX2_find_1 : decode cX2_find 1 = .ok (.aload_n 0, 1) := by decide +kernel
theorem dX2_find_2 : decode cX2_find 2 = .ok (.getfield 7, 3) := by decide +kernel
theorem dX2_find_5 : decode cX2_find 5 = .ok (.aload_n 2, 1) := by decide +kernel
theorem dX2_find_6 : decode cX2_find 6 = .ok (.invokevirtual 13, 3) := by decide +kernel
theorem dX2_find_9 : decode cX2_find 9 = .ok (.iconst 0, 1) := by decide +kernel
theorem dX2_find_10 : decode cX2_find 10 = .ok (.ireturn, 1) := by decide +kernel
theorem dX3_init_0 : decode cX3_init 0 = .ok (.aload_n 0, 1) := by decide +kernel
theorem dX3_init_1 : decode cX3_init 1 = .ok (.invokespecial 1, 3) := by decide +kernel
theorem dX3_init_4 : decode cX3_init 4 = .ok (.return_, 1) := by decide +kernel
set_option maxRecDepth 20000 in
theorem ggX4_init_X10_init : GoodIn wsX4_init wsX10_init := goodIn_r _ [11, 12, 2, 3, 13, 14, 15, 16] (by decide +kernel) (by decide +kernel)
set_option maxRecDepth 20000 in
theorem gX4_init_X10_init_n11 : GoodIn wsX4_init (wsX10_init) := ggX4_init_X10_init
theorem dX4_init_0 : decode cX4_init 0 = .ok (.aload_n 0, 1) := by decide +kernel
theorem dX4_init_1 : decode cX4_init 1 = .ok (.invokespecial 3, 3) := by decide +kernel
theorem dX4_init_4 : decode cX4_init 4 = .ok (.aload_n 0, 1) := by decide +kernel
theorem dX4_init_5 : decode cX4_init 5 = .ok (.new 9, 3) := by decide +kernel
theorem dX4_init_8 : decode cX4_init 8 = .ok (.dup, 1) := by decide +kernel
theorem dX4_init_9 : decode cX4_init 9 = .ok (.invokespecial 11, 3) := by decide +kernel
theorem dX4_init_12 : decode cX4_init 12 = .ok (.putfield 12, 3) := by decide +kernel
theorem dX4_init_15 : decode cX4_init 15 = .ok (.aload_n 0, 1) := by decide +kernel
theorem dX4_init_16 : decode cX4_init 16 = .ok (.bipush 12, 2) := by decide +kernel
theorem dX4_init_18 : decode cX4_init 18 = .ok (.anewarray 9, 3) := by decide +kernel
theorem dX4_init_21 : decode cX4_init 21 = .ok (.putfield 18, 3) := by decide +kernel
theorem dX4_init_24 : decode cX4_init 24 = .ok (.aload_n 0, 1) := by decide +kernel
theorem dX4_init_25 : decode cX4_init 25 = .ok (.bipush 32, 2) := by decide +kernel
theorem dX4_init_27 : decode cX4_init 27 = .ok (.putfield 22, 3) := by decide +kernel
theorem dX4_init_30 : decode cX4_init 30 = .ok (.iconst 0, 1) := by decide +kernel
theorem dX4_init_31 : decode cX4_init 31 = .ok (.istore_n 1, 1) := by decide +kernel
theorem dX4_init_32 : decode cX4_init 32 = .ok (.iload_n 1, 1) := by decide +kernel
theorem dX4_init_33 : decode cX4_init 33 = .ok (.aload_n 0, 1) := by decide +kernel
theorem dX4_init_34 : decode cX4_init 34 = .ok (.getfield 18, 3) := by decide +kernel
theorem dX4_init_37 : decode cX4_init 37 = .ok (.arraylength, 1) := by decide +kernel
theorem dX4_init_38 : decode cX4_init 38 = .ok (.if_icmp .ge 22, 3) := by decide +kernel
theorem dX4_init_41 : decode cX4_init 41 = .ok (.aload_n 0, 1) := by decide +kernel
theorem dX4_init_42 : decode cX4_init 42 = .ok (.getfield 18, 3) := by decide +kernel
theorem dX4_init_45 : decode cX4_init 45 = .ok (.iload_n 1, 1) := by decide +kernel
theorem dX4_init_46 : decode cX4_init 46 = .ok (.new 9, 3) := by decide +kernel
theorem dX4_init_49 : decode cX4_init 49 = .ok (.dup, 1) := by decide +kernel
theorem dX4_init_50 : decode cX4_init 50 = .ok (.invokespecial 11, 3) := by decide +kernel
theorem dX4_init_53 : decode cX4_init 53 = .ok (.aastore, 1) := by decide +kernel
theorem dX4_init_54 : decode cX4_init 54 = .ok (.iinc 1 1, 3) := by decide +kernel
theorem dX4_init_57 : decode cX4_init 57 = .ok (.goto (-25), 3) := by decide +kernel
theorem dX4_init_60 : decode cX4_init 60 = .ok (.return_, 1) := by decide +kernel
theorem dX4_get_0 : decode cX4_get 0 = .ok (.iload_n 1, 1) := by decide +kernel
theorem dX4_get_1 : decode cX4_get 1 = .ok (.iconst 1, 1) := by decide +kernel
theorem dX4_get_2 : decode cX4_get 2 = .ok (.if_icmp .lt 23, 3) := by decide +kernel
theorem dX4_get_5 : decode cX4_get 5 = .ok (.iload_n 1, 1) := by decide +kernel
theorem dX4_get_6 : decode cX4_get 6 = .ok (.aload_n 0, 1) := by decide +kernel
theorem dX4_get_7 : decode cX4_get 7 = .ok (.getfield 18, 3) := by decide +kernel
theorem dX4_get_10 : decode cX4_get 10 = .ok (.arraylength, 1) := by decide +kernel
theorem dX4_get_11 : decode cX4_get 11 = .ok (.if_icmp .gt 14, 3) := by decide +kernel
theorem dX4_get_14 : decode cX4_get 14 = .ok (.aload_n 0, 1) := by decide +kernel
theorem dX4_get_15 : decode cX4_get 15 = .ok (.getfield 18, 3) := by decide +kernel
theorem dX4_get_18 : decode cX4_get 18 = .ok (.iload_n 1, 1) := by decide +kernel
theorem dX4_get_19 : decode cX4_get 19 = .ok (.iconst 1, 1) := by decide +kernel
theorem dX4_get_20 : decode cX4_get 20 = .ok (.isub, 1) := by decide +kernel
theorem dX4_get_21 : decode cX4_get 21 = .ok (.aaload, 1) := by decide +kernel
theorem dX4_get_22 : decode cX4_get 22 = .ok (.goto 7, 3) := by decide +kernel
theorem dX4_get_25 : decode cX4_get 25 = .ok (.aload_n 0, 1) := by decide +kernel
theorem dX4_get_26 : decode cX4_get 26 = .ok (.getfield 12, 3) := by decide +kernel
theorem dX4_get_29 : decode cX4_get 29 = .ok (.areturn, 1) := by decide +kernel
set_option maxRecDepth 20000 in
theorem ggX4_set_X4_get : GoodIn wsX4_set wsX4_get := goodIn_r _ [10, 11, 12, 46, 47, 48, 49, 50] (by decide +kernel) (by decide +kernel)
set_option maxRecDepth 20000 in
theorem gX4_set_X4_get : GoodIn wsX4_set (wsV RX4 26 RX4 yX4_get wsX4_get) := goodIn_app (goodIn_of _ (by decide +kernel)) ggX4_set_X4_get
set_option maxRecDepth 20000 in
theorem ggX4_set_X10_copy : GoodIn wsX4_set wsX10_copy := goodIn_r _ [17, 18, 19, 51, 52] (by decide +kernel) (by decide +kernel)
set_option maxRecDepth 20000 in
theorem gX4_set_X10_copy : GoodIn wsX4_set (wsV RX4 30 RX10 yX10_copy wsX10_copy) := goodIn_app (goodIn_of _ (by decide +kernel)) ggX4_set_X10_copy
set_option maxRecDepth 20000 in
theorem ggX4_set_X4_join : GoodIn wsX4_set wsX4_join := goodIn_r _ [23, 12, 24, 25, 26, 27, 16, 28, 18, 29, 30, 31, 32, 19, 6, 7, 8, 9, 10, 11, 33, 34, 35, 36, 37, 46, 47, 48, 49, 50, 51, 52] (by decide +kernel) (by decide +kernel)
set_option maxRecDepth 20000 in
theorem gX4_set_X4_join : GoodIn wsX4_set (wsV RX4 44 RX4 yX4_join wsX4_join) := goodIn_app (goodIn_of _ (by decide +kernel)) ggX4_set_X4_join
set_option maxRecDepth 20000 in
theorem ggX4_set_X4_cut : GoodIn wsX4_set wsX4_cut := goodIn_r _ [41, 11, 12, 1, 24, 25, 26, 27, 16, 28, 18, 42, 43, 44, 45, 19, 6, 7, 8, 9, 10, 29, 30, 31, 32, 46, 47, 48, 49, 50, 51, 52] (by decide +kernel) (by decide +kernel)
set_option maxRecDepth 20000 in
theorem gX4_set_X4_cut : GoodIn wsX4_set (wsV RX4 48 RX4 yX4_cut wsX4_cut) := goodIn_app (goodIn_of _ (by decide +kernel)) ggX4_set_X4_cut
theorem dX4_set_0 : decode cX4_set 0 = .ok (.aload_n 0, 1) := by decide +kernel
theorem dX4_set_1 : decode cX4_set 1 = .ok (.iload_n 1, 1) := by decide +kernel
theorem dX4_set_2 : decode cX4_set 2 = .ok (.invokevirtual 26, 3) := by decide +kernel
theorem dX4_set_5 : decode cX4_set 5 = .ok (.aload_n 2, 1) := by decide +kernel
theorem dX4_set_6 : decode cX4_set 6 = .ok (.invokevirtual 30, 3) := by decide +kernel
theorem dX4_set_9 : decode cX4_set 9 = .ok (.iload_n 1, 1) := by decide +kernel
theorem dX4_set_10 : decode cX4_set 10 = .ok (.ifCond .le 15, 3) := by decide +kernel
theorem dX4_set_13 : decode cX4_set 13 = .ok (.aload_n 0, 1) := by decide +kernel
theorem dX4_set_14 : decode cX4_set 14 = .ok (.aload_n 0, 1) := by decide +kernel
theorem dX4_set_15 : decode cX4_set 15 = .ok (.getfield 34, 3) := by decide +kernel
theorem dX4_set_18 : decode cX4_set 18 = .ok (.iload_n 1, 1) := by decide +kernel
theorem dX4_set_19 : decode cX4_set 19 = .ok (.invokestatic 38, 3) := by decide +kernel
theorem dX4_set_22 : decode cX4_set 22 = .ok (.invokevirtual 44, 3) := by decide +kernel
theorem dX4_set_25 : decode cX4_set 25 = .ok (.aload_n 0, 1) := by decide +kernel
theorem dX4_set_26 : decode cX4_set 26 = .ok (.invokevirtual 48, 3) := by decide +kernel
theorem dX4_set_29 : decode cX4_set 29 = .ok (.return_, 1) := by decide +kernel
set_option maxRecDepth 20000 in
theorem ggX4_join_X10_clear : GoodIn wsX4_join wsX10_clear := goodIn_r _ [7, 8, 30, 31] (by decide +kernel) (by decide +kernel)
set_option maxRecDepth 20000 in
theorem gX4_join_X10_clear : GoodIn wsX4_join (wsV RX4 51 RX10 yX10_clear wsX10_clear) := goodIn_app (goodIn_of _ (by decide +kernel)) ggX4_join_X10_clear
set_option maxRecDepth 20000 in
theorem ggX4_join_X10_put : GoodIn wsX4_join wsX10_put := goodIn_r _ [12, 8, 13, 30, 31] (by decide +kernel) (by decide +kernel)
set_option maxRecDepth 20000 in
theorem gX4_join_X10_put : GoodIn wsX4_join (wsV RX4 54 RX10 yX10_put wsX10_put) := goodIn_app (goodIn_of _ (by decide +kernel)) ggX4_join_X10_put
set_option maxRecDepth 20000 in
theorem ggX4_join_X4_get : GoodIn wsX4_join wsX4_get := goodIn_r _ [18, 19, 1, 25, 26, 27, 28, 29] (by decide +kernel) (by decide +kernel)
set_option maxRecDepth 20000 in
theorem gX4_join_X4_get : GoodIn wsX4_join (wsV RX4 26 RX4 yX4_get wsX4_get) := goodIn_app (goodIn_of _ (by decide +kernel)) ggX4_join_X4_get
set_option maxRecDepth 20000 in
theorem ggX4_join_X10_add : GoodIn wsX4_join wsX10_add := goodIn_r _ [23, 8, 13, 24, 10, 11, 6, 12, 30, 31] (by decide +kernel) (by decide +kernel)
set_option maxRecDepth 20000 in
theorem gX4_join_X10_add : GoodIn wsX4_join (wsV RX4 58 RX10 yX10_add wsX10_add) := goodIn_app (goodIn_of _ (by decide +kernel)) ggX4_join_X10_add
theorem dX4_join_0 : decode cX4_join 0 = .ok (.aload_n 0, 1) := by decide +kernel
theorem dX4_join_1 : decode cX4_join 1 = .ok (.getfield 12, 3) := by decide +kernel
theorem dX4_join_4 : decode cX4_join 4 = .ok (.invokevirtual 51, 3) := by decide +kernel
theorem dX4_join_7 : decode cX4_join 7 = .ok (.iconst 1, 1) := by decide +kernel
theorem dX4_join_8 : decode cX4_join 8 = .ok (.istore_n 2, 1) := by decide +kernel
theorem dX4_join_9 : decode cX4_join 9 = .ok (.iload_n 2, 1) := by decide +kernel
theorem dX4_join_10 : decode cX4_join 10 = .ok (.iload_n 1, 1) := by decide +kernel
theorem dX4_join_11 : decode cX4_join 11 = .ok (.if_icmp .gt 37, 3) := by decide +kernel
theorem dX4_join_14 : decode cX4_join 14 = .ok (.iload_n 2, 1) := by decide +kernel
theorem dX4_join_15 : decode cX4_join 15 = .ok (.iconst 1, 1) := by decide +kernel
theorem dX4_join_16 : decode cX4_join 16 = .ok (.if_icmp .le 14, 3) := by decide +kernel
theorem dX4_join_19 : decode cX4_join 19 = .ok (.aload_n 0, 1) := by decide +kernel
theorem dX4_join_20 : decode cX4_join 20 = .ok (.getfield 12, 3) := by decide +kernel
theorem dX4_join_23 : decode cX4_join 23 = .ok (.aload_n 0, 1) := by decide +kernel
theorem dX4_join_24 : decode cX4_join 24 = .ok (.getfield 22, 3) := by decide +kernel
theorem dX4_join_27 : decode cX4_join 27 = .ok (.invokevirtual 54, 3) := by decide +kernel
theorem dX4_join_30 : decode cX4_join 30 = .ok (.aload_n 0, 1) := by decide +kernel
theorem dX4_join_31 : decode cX4_join 31 = .ok (.getfield 12, 3) := by decide +kernel
theorem dX4_join_34 : decode cX4_join 34 = .ok (.aload_n 0, 1) := by decide +kernel
theorem dX4_join_35 : decode cX4_join 35 = .ok (.iload_n 2, 1) := by decide +kernel
theorem dX4_join_36 : decode cX4_join 36 = .ok (.invokevirtual 26, 3) := by decide +kernel
theorem dX4_join_39 : decode cX4_join 39 = .ok (.invokevirtual 58, 3) := by decide +kernel
theorem dX4_join_42 : decode cX4_join 42 = .ok (.iinc 2 1, 3) := by decide +kernel
theorem dX4_join_45 : decode cX4_join 45 = .ok (.goto (-36), 3) := by decide +kernel
theorem dX4_join_48 : decode cX4_join 48 = .ok (.return_, 1) := by decide +kernel
set_option maxRecDepth 20000 in
theorem ggX4_cut_X10_clear : GoodIn wsX4_cut wsX10_clear := goodIn_r _ [9, 10, 30, 31] (by decide +kernel) (by decide +kernel)
set_option maxRecDepth 20000 in
theorem gX4_cut_X10_clear : GoodIn wsX4_cut (wsV RX4 51 RX10 yX10_clear wsX10_clear) := goodIn_app (goodIn_of _ (by decide +kernel)) ggX4_cut_X10_clear
set_option maxRecDepth 20000 in
theorem ggX4_cut_X10_at : GoodIn wsX4_cut wsX10_at := goodIn_r _ [14, 10, 15, 30, 31] (by decide +kernel) (by decide +kernel)
set_option maxRecDepth 20000 in
theorem gX4_cut_X10_at : GoodIn wsX4_cut (wsV RX4 64 RX10 yX10_at wsX10_at) := goodIn_app (goodIn_of _ (by decide +kernel)) ggX4_cut_X10_at
set_option maxRecDepth 20000 in
theorem ggX4_cut_X4_get : GoodIn wsX4_cut wsX4_get := goodIn_r _ [20, 1, 2, 25, 26, 27, 28, 29] (by decide +kernel) (by decide +kernel)
set_option maxRecDepth 20000 in
theorem gX4_cut_X4_get : GoodIn wsX4_cut (wsV RX4 26 RX4 yX4_get wsX4_get) := goodIn_app (goodIn_of _ (by decide +kernel)) ggX4_cut_X4_get
set_option maxRecDepth 20000 in
theorem ggX4_cut_X10_put : GoodIn wsX4_cut wsX10_put := goodIn_r _ [24, 10, 15, 30, 31] (by decide +kernel) (by decide +kernel)
set_option maxRecDepth 20000 in
theorem gX4_cut_X10_put : GoodIn wsX4_cut (wsV RX4 54 RX10 yX10_put wsX10_put) := goodIn_app (goodIn_of _ (by decide +kernel)) ggX4_cut_X10_put
theorem dX4_cut_0 : decode cX4_cut 0 = .ok (.iconst 0, 1) := by decide +kernel
theorem dX4_cut_1 : decode cX4_cut 1 = .ok (.istore_n 1, 1) := by decide +kernel
theorem dX4_cut_2 : decode cX4_cut 2 = .ok (.iload_n 1, 1) := by decide +kernel
theorem dX4_cut_3 : decode cX4_cut 3 = .ok (.aload_n 0, 1) := by decide +kernel
theorem dX4_cut_4 : decode cX4_cut 4 = .ok (.getfield 18, 3) := by decide +kernel
theorem dX4_cut_7 : decode cX4_cut 7 = .ok (.arraylength, 1) := by decide +kernel
theorem dX4_cut_8 : decode cX4_cut 8 = .ok (.if_icmp .ge 18, 3) := by decide +kernel
theorem dX4_cut_11 : decode cX4_cut 11 = .ok (.aload_n 0, 1) := by decide +kernel
theorem dX4_cut_12 : decode cX4_cut 12 = .ok (.getfield 18, 3) := by decide +kernel
theorem dX4_cut_15 : decode cX4_cut 15 = .ok (.iload_n 1, 1) := by decide +kernel
theorem dX4_cut_16 : decode cX4_cut 16 = .ok (.aaload, 1) := by decide +kernel
theorem dX4_cut_17 : decode cX4_cut 17 = .ok (.invokevirtual 51, 3) := by decide +kernel
theorem dX4_cut_20 : decode cX4_cut 20 = .ok (.iinc 1 1, 3) := by decide +kernel
theorem dX4_cut_23 : decode cX4_cut 23 = .ok (.goto (-21), 3) := by decide +kernel
theorem dX4_cut_26 : decode cX4_cut 26 = .ok (.aload_n 0, 1) := by decide +kernel
theorem dX4_cut_27 : decode cX4_cut 27 = .ok (.aload_n 0, 1) := by decide +kernel
theorem dX4_cut_28 : decode cX4_cut 28 = .ok (.getfield 12, 3) := by decide +kernel
theorem dX4_cut_31 : decode cX4_cut 31 = .ok (.getfield 61, 3) := by decide +kernel
theorem dX4_cut_34 : decode cX4_cut 34 = .ok (.ifCond .le 7, 3) := by decide +kernel
theorem dX4_cut_37 : decode cX4_cut 37 = .ok (.iconst 1, 1) := by decide +kernel
theorem dX4_cut_38 : decode cX4_cut 38 = .ok (.goto 4, 3) := by decide +kernel
theorem dX4_cut_41 : decode cX4_cut 41 = .ok (.iconst 0, 1) := by decide +kernel
theorem dX4_cut_42 : decode cX4_cut 42 = .ok (.putfield 34, 3) := by decide +kernel
theorem dX4_cut_45 : decode cX4_cut 45 = .ok (.iconst 0, 1) := by decide +kernel
theorem dX4_cut_46 : decode cX4_cut 46 = .ok (.istore_n 1, 1) := by decide +kernel
theorem dX4_cut_47 : decode cX4_cut 47 = .ok (.iload_n 1, 1) := by decide +kernel
theorem dX4_cut_48 : decode cX4_cut 48 = .ok (.aload_n 0, 1) := by decide +kernel
theorem dX4_cut_49 : decode cX4_cut 49 = .ok (.getfield 12, 3) := by decide +kernel
theorem dX4_cut_52 : decode cX4_cut 52 = .ok (.getfield 61, 3) := by decide +kernel
theorem dX4_cut_55 : decode cX4_cut 55 = .ok (.if_icmp .ge 60, 3) := by decide +kernel
theorem dX4_cut_58 : decode cX4_cut 58 = .ok (.aload_n 0, 1) := by decide +kernel
theorem dX4_cut_59 : decode cX4_cut 59 = .ok (.getfield 12, 3) := by decide +kernel
theorem dX4_cut_62 : decode cX4_cut 62 = .ok (.iload_n 1, 1) := by decide +kernel
theorem dX4_cut_63 : decode cX4_cut 63 = .ok (.invokevirtual 64, 3) := by decide +kernel
theorem dX4_cut_66 : decode cX4_cut 66 = .ok (.istore_n 2, 1) := by decide +kernel
theorem dX4_cut_67 : decode cX4_cut 67 = .ok (.iload_n 2, 1) := by decide +kernel
theorem dX4_cut_68 : decode cX4_cut 68 = .ok (.aload_n 0, 1) := by decide +kernel
theorem dX4_cut_69 : decode cX4_cut 69 = .ok (.getfield 22, 3) := by decide +kernel
theorem dX4_cut_72 : decode cX4_cut 72 = .ok (.if_icmp .ne 25, 3) := by decide +kernel
theorem dX4_cut_75 : decode cX4_cut 75 = .ok (.aload_n 0, 1) := by decide +kernel
theorem dX4_cut_76 : decode cX4_cut 76 = .ok (.getfield 34, 3) := by decide +kernel
theorem dX4_cut_79 : decode cX4_cut 79 = .ok (.bipush 12, 2) := by decide +kernel
theorem dX4_cut_81 : decode cX4_cut 81 = .ok (.if_icmp .ge 16, 3) := by decide +kernel
theorem dX4_cut_84 : decode cX4_cut 84 = .ok (.aload_n 0, 1) := by decide +kernel
theorem dX4_cut_85 : decode cX4_cut 85 = .ok (.dup, 1) := by decide +kernel
theorem dX4_cut_86 : decode cX4_cut 86 = .ok (.getfield 34, 3) := by decide +kernel
theorem dX4_cut_89 : decode cX4_cut 89 = .ok (.iconst 1, 1) := by decide +kernel
theorem dX4_cut_90 : decode cX4_cut 90 = .ok (.iadd, 1) := by decide +kernel
theorem dX4_cut_91 : decode cX4_cut 91 = .ok (.putfield 34, 3) := by decide +kernel
theorem dX4_cut_94 : decode cX4_cut 94 = .ok (.goto 15, 3) := by decide +kernel
theorem dX4_cut_97 : decode cX4_cut 97 = .ok (.aload_n 0, 1) := by decide +kernel
theorem dX4_cut_98 : decode cX4_cut 98 = .ok (.aload_n 0, 1) := by decide +kernel
theorem dX4_cut_99 : decode cX4_cut 99 = .ok (.getfield 34, 3) := by decide +kernel
theorem dX4_cut_102 : decode cX4_cut 102 = .ok (.invokevirtual 26, 3) := by decide +kernel
theorem dX4_cut_105 : decode cX4_cut 105 = .ok (.iload_n 2, 1) := by decide +kernel
theorem dX4_cut_106 : decode cX4_cut 106 = .ok (.invokevirtual 54, 3) := by decide +kernel
theorem dX4_cut_109 : decode cX4_cut 109 = .ok (.iinc 1 1, 3) := by decide +kernel
theorem dX4_cut_112 : decode cX4_cut 112 = .ok (.goto (-65), 3) := by decide +kernel
theorem dX4_cut_115 : decode cX4_cut 115 = .ok (.return_, 1) := by decide +kernel
set_option maxRecDepth 20000 in
theorem ggX4_load_X10_write : GoodIn wsX4_load wsX10_write := goodIn_r _ [7, 8, 9, 10, 11, 12, 29, 30] (by decide +kernel) (by decide +kernel)
set_option maxRecDepth 20000 in
theorem gX4_load_X10_write : GoodIn wsX4_load (wsV RX4 68 RX10 yX10_write wsX10_write) := goodIn_app (goodIn_of _ (by decide +kernel)) ggX4_load_X10_write
set_option maxRecDepth 20000 in
theorem ggX4_load_X4_get : GoodIn wsX4_load wsX4_get := goodIn_r _ [17, 18, 19, 24, 25, 26, 27, 28] (by decide +kernel) (by decide +kernel)
set_option maxRecDepth 20000 in
theorem gX4_load_X4_get : GoodIn wsX4_load (wsV RX4 26 RX4 yX4_get wsX4_get) := goodIn_app (goodIn_of _ (by decide +kernel)) ggX4_load_X4_get
set_option maxRecDepth 20000 in
theorem ggX4_load_X10_copy : GoodIn wsX4_load wsX10_copy := goodIn_r _ [23, 8, 9, 29, 30] (by decide +kernel) (by decide +kernel)
set_option maxRecDepth 20000 in
theorem gX4_load_X10_copy : GoodIn wsX4_load (wsV RX4 30 RX10 yX10_copy wsX10_copy) := goodIn_app (goodIn_of _ (by decide +kernel)) ggX4_load_X10_copy
theorem dX4_load_0 : decode cX4_load 0 = .ok (.iload_n 1, 1) := by decide +kernel
theorem dX4_load_1 : decode cX4_load 1 = .ok (.ifCond .lt 11, 3) := by decide +kernel
theorem dX4_load_4 : decode cX4_load 4 = .ok (.aload_n 2, 1) := by decide +kernel
theorem dX4_load_5 : decode cX4_load 5 = .ok (.iload_n 1, 1) := by decide +kernel
theorem dX4_load_6 : decode cX4_load 6 = .ok (.invokevirtual 68, 3) := by decide +kernel
theorem dX4_load_9 : decode cX4_load 9 = .ok (.goto 48, 3) := by decide +kernel
theorem dX4_load_12 : decode cX4_load 12 = .ok (.iload_n 1, 1) := by decide +kernel
theorem dX4_load_13 : decode cX4_load 13 = .ok (.bipush (-20), 2) := by decide +kernel
theorem dX4_load_15 : decode cX4_load 15 = .ok (.if_icmp .ne 14, 3) := by decide +kernel
theorem dX4_load_18 : decode cX4_load 18 = .ok (.aload_n 2, 1) := by decide +kernel
theorem dX4_load_19 : decode cX4_load 19 = .ok (.aload_n 0, 1) := by decide +kernel
theorem dX4_load_20 : decode cX4_load 20 = .ok (.getfield 34, 3) := by decide +kernel
theorem dX4_load_23 : decode cX4_load 23 = .ok (.invokevirtual 68, 3) := by decide +kernel
theorem dX4_load_26 : decode cX4_load 26 = .ok (.goto 31, 3) := by decide +kernel
theorem dX4_load_29 : decode cX4_load 29 = .ok (.iload_n 1, 1) := by decide +kernel
theorem dX4_load_30 : decode cX4_load 30 = .ok (.bipush (-21), 2) := by decide +kernel
theorem dX4_load_32 : decode cX4_load 32 = .ok (.if_icmp .ne 14, 3) := by decide +kernel
theorem dX4_load_35 : decode cX4_load 35 = .ok (.aload_n 2, 1) := by decide +kernel
theorem dX4_load_36 : decode cX4_load 36 = .ok (.aload_n 0, 1) := by decide +kernel
theorem dX4_load_37 : decode cX4_load 37 = .ok (.getfield 71, 3) := by decide +kernel
theorem dX4_load_40 : decode cX4_load 40 = .ok (.invokevirtual 68, 3) := by decide +kernel
theorem dX4_load_43 : decode cX4_load 43 = .ok (.goto 14, 3) := by decide +kernel
theorem dX4_load_46 : decode cX4_load 46 = .ok (.aload_n 2, 1) := by decide +kernel
theorem dX4_load_47 : decode cX4_load 47 = .ok (.aload_n 0, 1) := by decide +kernel
theorem dX4_load_48 : decode cX4_load 48 = .ok (.iconst (-1), 1) := by decide +kernel
theorem dX4_load_49 : decode cX4_load 49 = .ok (.iload_n 1, 1) := by decide +kernel
theorem dX4_load_50 : decode cX4_load 50 = .ok (.isub, 1) := by decide +kernel
theorem dX4_load_51 : decode cX4_load 51 = .ok (.invokevirtual 26, 3) := by decide +kernel
theorem dX4_load_54 : decode cX4_load 54 = .ok (.invokevirtual 30, 3) := by decide +kernel
theorem dX4_load_57 : decode cX4_load 57 = .ok (.return_, 1) := by decide +kernel
set_option maxRecDepth 20000 in
theorem ggX5_init_X10_init : GoodIn wsX5_init wsX10_init := goodIn_r _ [9, 10, 2, 3, 11, 12, 16, 17] (by decide +kernel) (by decide +kernel)
set_option maxRecDepth 20000 in
theorem gX5_init_X10_init_n17 : GoodIn wsX5_init (wsX10_init) := ggX5_init_X10_init
theorem dX5_init_0 : decode cX5_init 0 = .ok (.aload_n 0, 1) := by decide +kernel
theorem dX5_init_1 : decode cX5_init 1 = .ok (.invokespecial 3, 3) := by decide +kernel
theorem dX5_init_4 : decode cX5_init 4 = .ok (.aload_n 0, 1) := by decide +kernel
theorem dX5_init_5 : decode cX5_init 5 = .ok (.bipush 40, 2) := by decide +kernel
theorem dX5_init_7 : decode cX5_init 7 = .ok (.anewarray 9, 3) := by decide +kernel
theorem dX5_init_10 : decode cX5_init 10 = .ok (.putfield 11, 3) := by decide +kernel
theorem dX5_init_13 : decode cX5_init 13 = .ok (.iconst 0, 1) := by decide +kernel
theorem dX5_init_14 : decode cX5_init 14 = .ok (.istore_n 1, 1) := by decide +kernel
theorem dX5_init_15 : decode cX5_init 15 = .ok (.iload_n 1, 1) := by decide +kernel
theorem dX5_init_16 : decode cX5_init 16 = .ok (.aload_n 0, 1) := by decide +kernel
theorem dX5_init_17 : decode cX5_init 17 = .ok (.getfield 11, 3) := by decide +kernel
theorem dX5_init_20 : decode cX5_init 20 = .ok (.arraylength, 1) := by decide +kernel
theorem dX5_init_21 : decode cX5_init 21 = .ok (.if_icmp .ge 22, 3) := by decide +kernel
theorem dX5_init_24 : decode cX5_init 24 = .ok (.aload_n 0, 1) := by decide +kernel
theorem dX5_init_25 : decode cX5_init 25 = .ok (.getfield 11, 3) := by decide +kernel
theorem dX5_init_28 : decode cX5_init 28 = .ok (.iload_n 1, 1) := by decide +kernel
theorem dX5_init_29 : decode cX5_init 29 = .ok (.new 9, 3) := by decide +kernel
theorem dX5_init_32 : decode cX5_init 32 = .ok (.dup, 1) := by decide +kernel
theorem dX5_init_33 : decode cX5_init 33 = .ok (.invokespecial 17, 3) := by decide +kernel
theorem dX5_init_36 : decode cX5_init 36 = .ok (.aastore, 1) := by decide +kernel
theorem dX5_init_37 : decode cX5_init 37 = .ok (.iinc 1 1, 3) := by decide +kernel
theorem dX5_init_40 : decode cX5_init 40 = .ok (.goto (-25), 3) := by decide +kernel
theorem dX5_init_43 : decode cX5_init 43 = .ok (.return_, 1) := by decide +kernel
theorem dX5_get_0 : decode cX5_get 0 = .ok (.aload_n 0, 1) := by decide +kernel
theorem dX5_get_1 : decode cX5_get 1 = .ok (.getfield 18, 3) := by decide +kernel
theorem dX5_get_4 : decode cX5_get 4 = .ok (.iload_n 1, 1) := by decide +kernel
theorem dX5_get_5 : decode cX5_get 5 = .ok (.iadd, 1) := by decide +kernel
theorem dX5_get_6 : decode cX5_get 6 = .ok (.bipush 40, 2) := by decide +kernel
theorem dX5_get_8 : decode cX5_get 8 = .ok (.irem, 1) := by decide +kernel
theorem dX5_get_9 : decode cX5_get 9 = .ok (.istore_n 2, 1) := by decide +kernel
theorem dX5_get_10 : decode cX5_get 10 = .ok (.aload_n 0, 1) := by decide +kernel
theorem dX5_get_11 : decode cX5_get 11 = .ok (.getfield 11, 3) := by decide +kernel
theorem dX5_get_14 : decode cX5_get 14 = .ok (.iload_n 2, 1) := by decide +kernel
theorem dX5_get_15 : decode cX5_get 15 = .ok (.ifCond .lt 7, 3) := by decide +kernel
theorem dX5_get_18 : decode cX5_get 18 = .ok (.iload_n 2, 1) := by decide +kernel
theorem dX5_get_19 : decode cX5_get 19 = .ok (.goto 4, 3) := by decide +kernel
theorem dX5_get_22 : decode cX5_get 22 = .ok (.iconst 0, 1) := by decide +kernel
theorem dX5_get_23 : decode cX5_get 23 = .ok (.aaload, 1) := by decide +kernel
theorem dX5_get_24 : decode cX5_get 24 = .ok (.areturn, 1) := by decide +kernel
set_option maxRecDepth 20000 in
theorem ggX5_print_X5_get : GoodIn wsX5_print wsX5_get := goodIn_r _ [8, 3, 2, 16, 17, 18] (by decide +kernel) (by decide +kernel)
set_option maxRecDepth 20000 in
theorem gX5_print_X5_get : GoodIn wsX5_print (wsV RX5 25 RX5 yX5_get wsX5_get) := goodIn_app (goodIn_of _ (by decide +kernel)) ggX5_print_X5_get
set_option maxRecDepth 20000 in
theorem ggX5_print_X10_copy : GoodIn wsX5_print wsX10_copy := goodIn_r _ [13, 14, 15, 19, 20] (by decide +kernel) (by decide +kernel)
set_option maxRecDepth 20000 in
theorem gX5_print_X10_copy : GoodIn wsX5_print (wsV RX5 29 RX10 yX10_copy wsX10_copy) := goodIn_app (goodIn_of _ (by decide +kernel)) ggX5_print_X10_copy
theorem dX5_print_0 : decode cX5_print 0 = .ok (.aload_n 0, 1) := by decide +kernel
theorem dX5_print_1 : decode cX5_print 1 = .ok (.getfield 22, 3) := by decide +kernel
theorem dX5_print_4 : decode cX5_print 4 = .ok (.aload_n 0, 1) := by decide +kernel
theorem dX5_print_5 : decode cX5_print 5 = .ok (.getfield 11, 3) := by decide +kernel
theorem dX5_print_8 : decode cX5_print 8 = .ok (.arraylength, 1) := by decide +kernel
theorem dX5_print_9 : decode cX5_print 9 = .ok (.if_icmp .ge 16, 3) := by decide +kernel
theorem dX5_print_12 : decode cX5_print 12 = .ok (.aload_n 0, 1) := by decide +kernel
theorem dX5_print_13 : decode cX5_print 13 = .ok (.dup, 1) := by decide +kernel
theorem dX5_print_14 : decode cX5_print 14 = .ok (.getfield 22, 3) := by decide +kernel
theorem dX5_print_17 : decode cX5_print 17 = .ok (.iconst 1, 1) := by decide +kernel
theorem dX5_print_18 : decode cX5_print 18 = .ok (.iadd, 1) := by decide +kernel
theorem dX5_print_19 : decode cX5_print 19 = .ok (.putfield 22, 3) := by decide +kernel
theorem dX5_print_22 : decode cX5_print 22 = .ok (.goto 16, 3) := by decide +kernel
theorem dX5_print_25 : decode cX5_print 25 = .ok (.aload_n 0, 1) := by decide +kernel
theorem dX5_print_26 : decode cX5_print 26 = .ok (.aload_n 0, 1) := by decide +kernel
theorem dX5_print_27 : decode cX5_print 27 = .ok (.getfield 18, 3) := by decide +kernel
theorem dX5_print_30 : decode cX5_print 30 = .ok (.iconst 1, 1) := by decide +kernel
theorem dX5_print_31 : decode cX5_print 31 = .ok (.iadd, 1) := by decide +kernel
theorem dX5_print_32 : decode cX5_print 32 = .ok (.bipush 40, 2) := by decide +kernel
theorem dX5_print_34 : decode cX5_print 34 = .ok (.irem, 1) := by decide +kernel
theorem dX5_print_35 : decode cX5_print 35 = .ok (.putfield 18, 3) := by decide +kernel
theorem dX5_print_38 : decode cX5_print 38 = .ok (.aload_n 0, 1) := by decide +kernel
theorem dX5_print_39 : decode cX5_print 39 = .ok (.aload_n 0, 1) := by decide +kernel
theorem dX5_print_40 : decode cX5_print 40 = .ok (.getfield 22, 3) := by decide +kernel
theorem dX5_print_43 : decode cX5_print 43 = .ok (.iconst 1, 1) := by decide +kernel
theorem dX5_print_44 : decode cX5_print 44 = .ok (.isub, 1) := by decide +kernel
theorem dX5_print_45 : decode cX5_print 45 = .ok (.invokevirtual 25, 3) := by decide +kernel
theorem dX5_print_48 : decode cX5_print 48 = .ok (.aload_n 1, 1) := by decide +kernel
theorem dX5_print_49 : decode cX5_print 49 = .ok (.invokevirtual 29, 3) := by decide +kernel
theorem dX5_print_52 : decode cX5_print 52 = .ok (.return_, 1) := by decide +kernel
set_option maxRecDepth 20000 in
theorem ggX6_init_X10_init : GoodIn wsX6_init wsX10_init := goodIn_r _ [9, 10, 2, 3, 11, 12, 13, 14] (by decide +kernel) (by decide +kernel)
set_option maxRecDepth 20000 in
theorem gX6_init_X10_init_n9 : GoodIn wsX6_init (wsX10_init) := ggX6_init_X10_init
theorem dX6_init_0 : decode cX6_init 0 = .ok (.aload_n 0, 1) := by decide +kernel
theorem dX6_init_1 : decode cX6_init 1 = .ok (.invokespecial 1, 3) := by decide +kernel
theorem dX6_init_4 : decode cX6_init 4 = .ok (.aload_n 0, 1) := by decide +kernel
theorem dX6_init_5 : decode cX6_init 5 = .ok (.new 7, 3) := by decide +kernel
theorem dX6_init_8 : decode cX6_init 8 = .ok (.dup, 1) := by decide +kernel
theorem dX6_init_9 : decode cX6_init 9 = .ok (.invokespecial 9, 3) := by decide +kernel
theorem dX6_init_12 : decode cX6_init 12 = .ok (.putfield 10, 3) := by decide +kernel
theorem dX6_init_15 : decode cX6_init 15 = .ok (.return_, 1) := by decide +kernel
set_option maxRecDepth 20000 in
theorem ggX7_init_Jx4a65c_init_da8c8 : GoodIn wsX7_init wsJx4a65c_init_da8c8 := goodIn_r _ [13, 14, 15, 16, 17, 18, 19, 20, 21, 22, 23, 24, 25, 2, 3, 26, 27, 28] (by decide +kernel) (by decide +kernel)
set_option maxRecDepth 20000 in
theorem gX7_init_Jx4a65c_init_da8c8 : GoodIn wsX7_init (wsJx4a65c_init_da8c8) := ggX7_init_Jx4a65c_init_da8c8
theorem dX7_init_0 : decode cX7_init 0 = .ok (.aload_n 0, 1) := by decide +kernel
theorem dX7_init_1 : decode cX7_init 1 = .ok (.invokespecial 3, 3) := by decide +kernel
theorem dX7_init_4 : decode cX7_init 4 = .ok (.aload_n 0, 1) := by decide +kernel
theorem dX7_init_5 : decode cX7_init 5 = .ok (.new 9, 3) := by decide +kernel
theorem dX7_init_8 : decode cX7_init 8 = .ok (.dup, 1) := by decide +kernel
theorem dX7_init_9 : decode cX7_init 9 = .ok (.invokespecial 11, 3) := by decide +kernel
theorem dX7_init_12 : decode cX7_init 12 = .ok (.putfield 12, 3) := by decide +kernel
theorem dX7_init_15 : decode cX7_init 15 = .ok (.aload_n 0, 1) := by decide +kernel
theorem dX7_init_16 : decode cX7_init 16 = .ok (.iload_n 1, 1) := by decide +kernel
theorem dX7_init_17 : decode cX7_init 17 = .ok (.putfield 18, 3) := by decide +kernel
theorem dX7_init_20 : decode cX7_init 20 = .ok (.aload_n 0, 1) := by decide +kernel
theorem dX7_init_21 : decode cX7_init 21 = .ok (.iload_n 2, 1) := by decide +kernel
theorem dX7_init_22 : decode cX7_init 22 = .ok (.putfield 22, 3) := by decide +kernel
theorem dX7_init_25 : decode cX7_init 25 = .ok (.aload_n 0, 1) := by decide +kernel
theorem dX7_init_26 : decode cX7_init 26 = .ok (.iload_n 3, 1) := by decide +kernel
theorem dX7_init_27 : decode cX7_init 27 = .ok (.putfield 25, 3) := by decide +kernel
theorem dX7_init_30 : decode cX7_init 30 = .ok (.return_, 1) := by decide +kernel
set_option maxRecDepth 20000 in
theorem ggX7_isTrue_X4_get : GoodIn wsX7_isTrue wsX4_get := goodIn_r _ [8, 9, 10, 56, 57, 58, 59, 60] (by decide +kernel) (by decide +kernel)
set_option maxRecDepth 20000 in
theorem gX7_isTrue_X4_get : GoodIn wsX7_isTrue (wsV RX7 28 RX4 yX4_get wsX4_get) := goodIn_app (goodIn_of _ (by decide +kernel)) ggX7_isTrue_X4_get
set_option maxRecDepth 20000 in
theorem ggX7_isTrue_X10_isSameAs : GoodIn wsX7_isTrue wsX10_isSameAs := goodIn_r _ [15, 16, 17, 18, 14, 19, 20, 21, 22, 23, 24, 25, 26, 27, 28, 29, 30, 31, 32, 33, 61, 62] (by decide +kernel) (by decide +kernel)
set_option maxRecDepth 20000 in
theorem gX7_isTrue_X10_isSameAs : GoodIn wsX7_isTrue (wsV RX7 34 RX10 yX10_isSameAs wsX10_isSameAs) := goodIn_app (goodIn_of _ (by decide +kernel)) ggX7_isTrue_X10_isSameAs
set_option maxRecDepth 20000 in
theorem ggX7_isTrue_X10_isLessThan : GoodIn wsX7_isTrue wsX10_isLessThan := goodIn_r _ [37, 20, 25, 16, 17, 18, 14, 19, 21, 22, 23, 24, 26, 27, 28, 29, 30, 31, 32, 33, 38, 39, 40, 41, 42, 43, 44, 61, 62] (by decide +kernel) (by decide +kernel)
set_option maxRecDepth 20000 in
theorem gX7_isTrue_X10_isLessThan : GoodIn wsX7_isTrue (wsV RX7 40 RX10 yX10_isLessThan wsX10_isLessThan) := goodIn_app (goodIn_of _ (by decide +kernel)) ggX7_isTrue_X10_isLessThan
set_option maxRecDepth 20000 in
theorem ggX7_isTrue_X7_isInRange : GoodIn wsX7_isTrue wsX7_isInRange := goodIn_r _ [49, 50, 2, 3, 11, 12, 13, 14, 15, 16, 17, 18, 19, 20, 21, 22, 23, 24, 25, 26, 27, 28, 29, 30, 31, 32, 33, 51, 52, 53, 54, 55, 61, 62] (by decide +kernel) (by decide +kernel)
set_option maxRecDepth 20000 in
theorem gX7_isTrue_X7_isInRange : GoodIn wsX7_isTrue (wsV RX7 44 RX7 yX7_isInRange wsX7_isInRange) := goodIn_app (goodIn_of _ (by decide +kernel)) ggX7_isTrue_X7_isInRange
theorem dX7_isTrue_0 : decode cX7_isTrue 0 = .ok (.aload_n 0, 1) := by decide +kernel
theorem dX7_isTrue_1 : decode cX7_isTrue 1 = .ok (.getfield 18, 3) := by decide +kernel
theorem dX7_isTrue_4 : decode cX7_isTrue 4 = .ok (.tableswitch 74 1 3 #[28, 44, 64], 28) := by decide +kernel
theorem dX7_isTrue_32 : decode cX7_isTrue 32 = .ok (.aload_n 1, 1) := by decide +kernel
theorem dX7_isTrue_33 : decode cX7_isTrue 33 = .ok (.aload_n 0, 1) := by decide +kernel
theorem dX7_isTrue_34 : decode cX7_isTrue 34 = .ok (.getfield 22, 3) := by decide +kernel
theorem dX7_isTrue_37 : decode cX7_isTrue 37 = .ok (.invokevirtual 28, 3) := by decide +kernel
theorem dX7_isTrue_40 : decode cX7_isTrue 40 = .ok (.aload_n 0, 1) := by decide +kernel
theorem dX7_isTrue_41 : decode cX7_isTrue 41 = .ok (.getfield 25, 3) := by decide +kernel
theorem dX7_isTrue_44 : decode cX7_isTrue 44 = .ok (.invokevirtual 34, 3) := by decide +kernel
theorem dX7_isTrue_47 : decode cX7_isTrue 47 = .ok (.ireturn, 1) := by decide +kernel
theorem dX7_isTrue_48 : decode cX7_isTrue 48 = .ok (.aload_n 1, 1) := by decide +kernel
theorem dX7_isTrue_49 : decode cX7_isTrue 49 = .ok (.aload_n 0, 1) := by decide +kernel
theorem dX7_isTrue_50 : decode cX7_isTrue 50 = .ok (.getfield 22, 3) := by decide +kernel
theorem dX7_isTrue_53 : decode cX7_isTrue 53 = .ok (.invokevirtual 28, 3) := by decide +kernel
theorem dX7_isTrue_56 : decode cX7_isTrue 56 = .ok (.aload_n 1, 1) := by decide +kernel
theorem dX7_isTrue_57 : decode cX7_isTrue 57 = .ok (.aload_n 0, 1) := by decide +kernel
theorem dX7_isTrue_58 : decode cX7_isTrue 58 = .ok (.getfield 25, 3) := by decide +kernel
theorem dX7_isTrue_61 : decode cX7_isTrue 61 = .ok (.invokevirtual 28, 3) := by decide +kernel
theorem dX7_isTrue_64 : decode cX7_isTrue 64 = .ok (.invokevirtual 40, 3) := by decide +kernel
theorem dX7_isTrue_67 : decode cX7_isTrue 67 = .ok (.ireturn, 1) := by decide +kernel
theorem dX7_isTrue_68 : decode cX7_isTrue 68 = .ok (.aload_n 0, 1) := by decide +kernel
theorem dX7_isTrue_69 : decode cX7_isTrue 69 = .ok (.aload_n 1, 1) := by decide +kernel
theorem dX7_isTrue_70 : decode cX7_isTrue 70 = .ok (.iconst 1, 1) := by decide +kernel
theorem dX7_isTrue_71 : decode cX7_isTrue 71 = .ok (.invokevirtual 28, 3) := by decide +kernel
theorem dX7_isTrue_74 : decode cX7_isTrue 74 = .ok (.invokevirtual 44, 3) := by decide +kernel
theorem dX7_isTrue_77 : decode cX7_isTrue 77 = .ok (.ireturn, 1) := by decide +kernel
theorem dX7_isTrue_78 : decode cX7_isTrue 78 = .ok (.iconst 1, 1) := by decide +kernel
theorem dX7_isTrue_79 : decode cX7_isTrue 79 = .ok (.ireturn, 1) := by decide +kernel
set_option maxRecDepth 20000 in
theorem ggX7_isInRange_X10_isSameAs : GoodIn wsX7_isInRange wsX10_isSameAs := goodIn_r _ [8, 9, 10, 11, 7, 12, 13, 14, 15, 16, 17, 18, 19, 20, 21, 22, 23, 24, 25, 26, 32, 33] (by decide +kernel) (by decide +kernel)
set_option maxRecDepth 20000 in
theorem gX7_isInRange_X10_isSameAs : GoodIn wsX7_isInRange (wsV RX7 34 RX10 yX10_isSameAs wsX10_isSameAs) := goodIn_app (goodIn_of _ (by decide +kernel)) ggX7_isInRange_X10_isSameAs
theorem dX7_isInRange_0 : decode cX7_isInRange 0 = .ok (.aload_n 0, 1) := by decide +kernel
theorem dX7_isInRange_1 : decode cX7_isInRange 1 = .ok (.getfield 47, 3) := by decide +kernel
theorem dX7_isInRange_4 : decode cX7_isInRange 4 = .ok (.ifCond .ne 16, 3) := by decide +kernel
theorem dX7_isInRange_7 : decode cX7_isInRange 7 = .ok (.aload_n 1, 1) := by decide +kernel
theorem dX7_isInRange_8 : decode cX7_isInRange 8 = .ok (.aload_n 0, 1) := by decide +kernel
theorem dX7_isInRange_9 : decode cX7_isInRange 9 = .ok (.getfield 22, 3) := by decide +kernel
theorem dX7_isInRange_12 : decode cX7_isInRange 12 = .ok (.invokevirtual 34, 3) := by decide +kernel
theorem dX7_isInRange_15 : decode cX7_isInRange 15 = .ok (.ifCond .ne 5, 3) := by decide +kernel
theorem dX7_isInRange_18 : decode cX7_isInRange 18 = .ok (.iconst 0, 1) := by decide +kernel
theorem dX7_isInRange_19 : decode cX7_isInRange 19 = .ok (.ireturn, 1) := by decide +kernel
theorem dX7_isInRange_20 : decode cX7_isInRange 20 = .ok (.aload_n 0, 1) := by decide +kernel
theorem dX7_isInRange_21 : decode cX7_isInRange 21 = .ok (.aload_n 1, 1) := by decide +kernel
theorem dX7_isInRange_22 : decode cX7_isInRange 22 = .ok (.aload_n 0, 1) := by decide +kernel
theorem dX7_isInRange_23 : decode cX7_isInRange 23 = .ok (.getfield 25, 3) := by decide +kernel
theorem dX7_isInRange_26 : decode cX7_isInRange 26 = .ok (.invokevirtual 34, 3) := by decide +kernel
theorem dX7_isInRange_29 : decode cX7_isInRange 29 = .ok (.ifCond .ne 7, 3) := by decide +kernel
theorem dX7_isInRange_32 : decode cX7_isInRange 32 = .ok (.iconst 1, 1) := by decide +kernel
theorem dX7_isInRange_33 : decode cX7_isInRange 33 = .ok (.goto 4, 3) := by decide +kernel
theorem dX7_isInRange_36 : decode cX7_isInRange 36 = .ok (.iconst 0, 1) := by decide +kernel
theorem dX7_isInRange_37 : decode cX7_isInRange 37 = .ok (.putfield 47, 3) := by decide +kernel
theorem dX7_isInRange_40 : decode cX7_isInRange 40 = .ok (.iconst 1, 1) := by decide +kernel
theorem dX7_isInRange_41 : decode cX7_isInRange 41 = .ok (.ireturn, 1) := by decide +kernel
set_option maxRecDepth 20000 in
theorem ggX8_init_X10_init : GoodIn wsX8_init wsX10_init := goodIn_r _ [9, 10, 2, 3, 11, 12, 14, 15] (by decide +kernel) (by decide +kernel)
set_option maxRecDepth 20000 in
theorem gX8_init_X10_init_n17 : GoodIn wsX8_init (wsX10_init) := ggX8_init_X10_init
theorem dX8_init_0 : decode cX8_init 0 = .ok (.aload_n 0, 1) := by decide +kernel
theorem dX8_init_1 : decode cX8_init 1 = .ok (.invokespecial 3, 3) := by decide +kernel
theorem dX8_init_4 : decode cX8_init 4 = .ok (.aload_n 0, 1) := by decide +kernel
theorem dX8_init_5 : decode cX8_init 5 = .ok (.iconst 2, 1) := by decide +kernel
theorem dX8_init_6 : decode cX8_init 6 = .ok (.anewarray 11, 3) := by decide +kernel
theorem dX8_init_9 : decode cX8_init 9 = .ok (.putfield 13, 3) := by decide +kernel
theorem dX8_init_12 : decode cX8_init 12 = .ok (.iconst 0, 1) := by decide +kernel
theorem dX8_init_13 : decode cX8_init 13 = .ok (.istore_n 1, 1) := by decide +kernel
theorem dX8_init_14 : decode cX8_init 14 = .ok (.iload_n 1, 1) := by decide +kernel
theorem dX8_init_15 : decode cX8_init 15 = .ok (.aload_n 0, 1) := by decide +kernel
theorem dX8_init_16 : decode cX8_init 16 = .ok (.getfield 13, 3) := by decide +kernel
theorem dX8_init_19 : decode cX8_init 19 = .ok (.arraylength, 1) := by decide +kernel
theorem dX8_init_20 : decode cX8_init 20 = .ok (.if_icmp .ge 22, 3) := by decide +kernel
theorem dX8_init_23 : decode cX8_init 23 = .ok (.aload_n 0, 1) := by decide +kernel
theorem dX8_init_24 : decode cX8_init 24 = .ok (.getfield 13, 3) := by decide +kernel
theorem dX8_init_27 : decode cX8_init 27 = .ok (.iload_n 1, 1) := by decide +kernel
theorem dX8_init_28 : decode cX8_init 28 = .ok (.new 11, 3) := by decide +kernel
theorem dX8_init_31 : decode cX8_init 31 = .ok (.dup, 1) := by decide +kernel
theorem dX8_init_32 : decode cX8_init 32 = .ok (.invokespecial 17, 3) := by decide +kernel
theorem dX8_init_35 : decode cX8_init 35 = .ok (.aastore, 1) := by decide +kernel
theorem dX8_init_36 : decode cX8_init 36 = .ok (.iinc 1 1, 3) := by decide +kernel
theorem dX8_init_39 : decode cX8_init 39 = .ok (.goto (-25), 3) := by decide +kernel
theorem dX8_init_42 : decode cX8_init 42 = .ok (.return_, 1) := by decide +kernel
set_option maxRecDepth 20000 in
theorem ggX8_run_X4_load : GoodIn wsX8_run wsX4_load := goodIn_r _ [6, 7, 8, 9, 10, 11, 12, 13, 14, 15, 16, 17, 18, 19, 20, 21, 5, 22, 23, 24, 25, 26, 27, 28, 63, 64, 65, 66, 67, 68, 69] (by decide +kernel) (by decide +kernel)
set_option maxRecDepth 20000 in
theorem gX8_run_X4_load : GoodIn wsX8_run (wsV RX8 18 RX4 yX4_load wsX4_load) := goodIn_app (goodIn_of _ (by decide +kernel)) ggX8_run_X4_load
set_option maxRecDepth 20000 in
theorem ggX8_run_X11_combine : GoodIn wsX8_run wsX11_combine := goodIn_r _ [31, 32, 33, 34, 12, 35, 14, 15, 36, 37, 38, 39, 40, 41, 42, 43, 44, 45, 46, 47, 48, 49, 50, 51, 52, 53, 30, 54, 55, 56, 57, 58, 59, 60, 10, 11, 13, 16, 17, 18, 68, 69] (by decide +kernel) (by decide +kernel)
set_option maxRecDepth 20000 in
theorem gX8_run_X11_combine_n24 : GoodIn wsX8_run (wsX11_combine) := ggX8_run_X11_combine
set_option maxRecDepth 20000 in
theorem ggX8_run_X10_copy : GoodIn wsX8_run wsX10_copy := goodIn_r _ [28, 14, 15, 68, 69] (by decide +kernel) (by decide +kernel)
set_option maxRecDepth 20000 in
theorem gX8_run_X10_copy : GoodIn wsX8_run (wsV RX8 28 RX10 yX10_copy wsX10_copy) := goodIn_app (goodIn_of _ (by decide +kernel)) ggX8_run_X10_copy
theorem dX8_run_0 : decode cX8_run 0 = .ok (.iconst 0, 1) := by decide +kernel
theorem dX8_run_1 : decode cX8_run 1 = .ok (.istore 4, 2) := by decide +kernel
theorem dX8_run_3 : decode cX8_run 3 = .ok (.iconst 0, 1) := by decide +kernel
theorem dX8_run_4 : decode cX8_run 4 = .ok (.istore 5, 2) := by decide +kernel
theorem dX8_run_6 : decode cX8_run 6 = .ok (.iconst 0, 1) := by decide +kernel
theorem dX8_run_7 : decode cX8_run 7 = .ok (.istore 6, 2) := by decide +kernel
theorem dX8_run_9 : decode cX8_run 9 = .ok (.iload 6, 2) := by decide +kernel
theorem dX8_run_11 : decode cX8_run 11 = .ok (.iconst 1, 1) := by decide +kernel
theorem dX8_run_12 : decode cX8_run 12 = .ok (.iadd, 1) := by decide +kernel
theorem dX8_run_13 : decode cX8_run 13 = .ok (.aload_n 1, 1) := by decide +kernel
theorem dX8_run_14 : decode cX8_run 14 = .ok (.arraylength, 1) := by decide +kernel
theorem dX8_run_15 : decode cX8_run 15 = .ok (.if_icmp .ge 95, 3) := by decide +kernel
theorem dX8_run_18 : decode cX8_run 18 = .ok (.aload_n 1, 1) := by decide +kernel
theorem dX8_run_19 : decode cX8_run 19 = .ok (.iload 6, 2) := by decide +kernel
theorem dX8_run_21 : decode cX8_run 21 = .ok (.iaload, 1) := by decide +kernel
theorem dX8_run_22 : decode cX8_run 22 = .ok (.ifCond .ne 36, 3) := by decide +kernel
theorem dX8_run_25 : decode cX8_run 25 = .ok (.iload 4, 2) := by decide +kernel
theorem dX8_run_27 : decode cX8_run 27 = .ok (.aload_n 0, 1) := by decide +kernel
theorem dX8_run_28 : decode cX8_run 28 = .ok (.getfield 13, 3) := by decide +kernel
theorem dX8_run_31 : decode cX8_run 31 = .ok (.arraylength, 1) := by decide +kernel
theorem dX8_run_32 : decode cX8_run 32 = .ok (.if_icmp .ge 26, 3) := by decide +kernel
theorem dX8_run_35 : decode cX8_run 35 = .ok (.aload_n 2, 1) := by decide +kernel
theorem dX8_run_36 : decode cX8_run 36 = .ok (.aload_n 1, 1) := by decide +kernel
theorem dX8_run_37 : decode cX8_run 37 = .ok (.iload 6, 2) := by decide +kernel
theorem dX8_run_39 : decode cX8_run 39 = .ok (.iconst 1, 1) := by decide +kernel
theorem dX8_run_40 : decode cX8_run 40 = .ok (.iadd, 1) := by decide +kernel
theorem dX8_run_41 : decode cX8_run 41 = .ok (.iaload, 1) := by decide +kernel
theorem dX8_run_42 : decode cX8_run 42 = .ok (.aload_n 0, 1) := by decide +kernel
theorem dX8_run_43 : decode cX8_run 43 = .ok (.getfield 13, 3) := by decide +kernel
theorem dX8_run_46 : decode cX8_run 46 = .ok (.iload 4, 2) := by decide +kernel
theorem dX8_run_48 : decode cX8_run 48 = .ok (.aaload, 1) := by decide +kernel
theorem dX8_run_49 : decode cX8_run 49 = .ok (.invokevirtual 18, 3) := by decide +kernel
theorem dX8_run_52 : decode cX8_run 52 = .ok (.iinc 4 1, 3) := by decide +kernel
theorem dX8_run_55 : decode cX8_run 55 = .ok (.goto 49, 3) := by decide +kernel
theorem dX8_run_58 : decode cX8_run 58 = .ok (.aload_n 1, 1) := by decide +kernel
theorem dX8_run_59 : decode cX8_run 59 = .ok (.iload 6, 2) := by decide +kernel
theorem dX8_run_61 : decode cX8_run 61 = .ok (.iaload, 1) := by decide +kernel
theorem dX8_run_62 : decode cX8_run 62 = .ok (.ifCond .eq 42, 3) := by decide +kernel
theorem dX8_run_65 : decode cX8_run 65 = .ok (.iload 4, 2) := by decide +kernel
theorem dX8_run_67 : decode cX8_run 67 = .ok (.iconst 2, 1) := by decide +kernel
theorem dX8_run_68 : decode cX8_run 68 = .ok (.if_icmp .lt 36, 3) := by decide +kernel
theorem dX8_run_71 : decode cX8_run 71 = .ok (.iload 5, 2) := by decide +kernel
theorem dX8_run_73 : decode cX8_run 73 = .ok (.aload_n 1, 1) := by decide +kernel
theorem dX8_run_74 : decode cX8_run 74 = .ok (.iload 6, 2) := by decide +kernel
theorem dX8_run_76 : decode cX8_run 76 = .ok (.iaload, 1) := by decide +kernel
theorem dX8_run_77 : decode cX8_run 77 = .ok (.aload_n 0, 1) := by decide +kernel
theorem dX8_run_78 : decode cX8_run 78 = .ok (.getfield 13, 3) := by decide +kernel
theorem dX8_run_81 : decode cX8_run 81 = .ok (.iload 4, 2) := by decide +kernel
theorem dX8_run_83 : decode cX8_run 83 = .ok (.iconst 2, 1) := by decide +kernel
theorem dX8_run_84 : decode cX8_run 84 = .ok (.isub, 1) := by decide +kernel
theorem dX8_run_85 : decode cX8_run 85 = .ok (.aaload, 1) := by decide +kernel
theorem dX8_run_86 : decode cX8_run 86 = .ok (.aload_n 0, 1) := by decide +kernel
theorem dX8_run_87 : decode cX8_run 87 = .ok (.getfield 13, 3) := by decide +kernel
theorem dX8_run_90 : decode cX8_run 90 = .ok (.iload 4, 2) := by decide +kernel
theorem dX8_run_92 : decode cX8_run 92 = .ok (.iconst 1, 1) := by decide +kernel
theorem dX8_run_93 : decode cX8_run 93 = .ok (.isub, 1) := by decide +kernel
theorem dX8_run_94 : decode cX8_run 94 = .ok (.aaload, 1) := by decide +kernel
theorem dX8_run_95 : decode cX8_run 95 = .ok (.invokestatic 24, 3) := by decide +kernel
theorem dX8_run_98 : decode cX8_run 98 = .ok (.iadd, 1) := by decide +kernel
theorem dX8_run_99 : decode cX8_run 99 = .ok (.istore 5, 2) := by decide +kernel
theorem dX8_run_101 : decode cX8_run 101 = .ok (.iinc 4 (-1), 3) := by decide +kernel
theorem dX8_run_104 : decode cX8_run 104 = .ok (.iinc 6 2, 3) := by decide +kernel
theorem dX8_run_107 : decode cX8_run 107 = .ok (.goto (-98), 3) := by decide +kernel
theorem dX8_run_110 : decode cX8_run 110 = .ok (.iload 4, 2) := by decide +kernel
theorem dX8_run_112 : decode cX8_run 112 = .ok (.ifCond .le 16, 3) := by decide +kernel
theorem dX8_run_115 : decode cX8_run 115 = .ok (.aload_n 3, 1) := by decide +kernel
theorem dX8_run_116 : decode cX8_run 116 = .ok (.aload_n 0, 1) := by decide +kernel
theorem dX8_run_117 : decode cX8_run 117 = .ok (.getfield 13, 3) := by decide +kernel
theorem dX8_run_120 : decode cX8_run 120 = .ok (.iload 4, 2) := by decide +kernel
theorem dX8_run_122 : decode cX8_run 122 = .ok (.iconst 1, 1) := by decide +kernel
theorem dX8_run_123 : decode cX8_run 123 = .ok (.isub, 1) := by decide +kernel
theorem dX8_run_124 : decode cX8_run 124 = .ok (.aaload, 1) := by decide +kernel
theorem dX8_run_125 : decode cX8_run 125 = .ok (.invokevirtual 28, 3) := by decide +kernel
theorem dX8_run_128 : decode cX8_run 128 = .ok (.iload 5, 2) := by decide +kernel
theorem dX8_run_130 : decode cX8_run 130 = .ok (.ireturn, 1) := by decide +kernel
set_option maxRecDepth 20000 in
theorem ggX9_init_X6_init : GoodIn wsX9_init wsX6_init := goodIn_r _ [9, 10, 2, 3, 11, 12, 13, 14, 15, 16, 17, 18, 19, 24, 25, 22, 23] (by decide +kernel) (by decide +kernel)
set_option maxRecDepth 20000 in
theorem gX9_init_X6_init_n17 : GoodIn wsX9_init (wsX6_init) := ggX9_init_X6_init
theorem dX9_init_0 : decode cX9_init 0 = .ok (.aload_n 0, 1) := by decide +kernel
theorem dX9_init_1 : decode cX9_init 1 = .ok (.invokespecial 3, 3) := by decide +kernel
theorem dX9_init_4 : decode cX9_init 4 = .ok (.aload_n 0, 1) := by decide +kernel
theorem dX9_init_5 : decode cX9_init 5 = .ok (.bipush 20, 2) := by decide +kernel
theorem dX9_init_7 : decode cX9_init 7 = .ok (.anewarray 9, 3) := by decide +kernel
theorem dX9_init_10 : decode cX9_init 10 = .ok (.putfield 11, 3) := by decide +kernel
theorem dX9_init_13 : decode cX9_init 13 = .ok (.iconst 0, 1) := by decide +kernel
theorem dX9_init_14 : decode cX9_init 14 = .ok (.istore_n 1, 1) := by decide +kernel
theorem dX9_init_15 : decode cX9_init 15 = .ok (.iload_n 1, 1) := by decide +kernel
theorem dX9_init_16 : decode cX9_init 16 = .ok (.aload_n 0, 1) := by decide +kernel
theorem dX9_init_17 : decode cX9_init 17 = .ok (.getfield 11, 3) := by decide +kernel
theorem dX9_init_20 : decode cX9_init 20 = .ok (.arraylength, 1) := by decide +kernel
theorem dX9_init_21 : decode cX9_init 21 = .ok (.if_icmp .ge 22, 3) := by decide +kernel
theorem dX9_init_24 : decode cX9_init 24 = .ok (.aload_n 0, 1) := by decide +kernel
theorem dX9_init_25 : decode cX9_init 25 = .ok (.getfield 11, 3) := by decide +kernel
theorem dX9_init_28 : decode cX9_init 28 = .ok (.iload_n 1, 1) := by decide +kernel
theorem dX9_init_29 : decode cX9_init 29 = .ok (.new 9, 3) := by decide +kernel
theorem dX9_init_32 : decode cX9_init 32 = .ok (.dup, 1) := by decide +kernel
theorem dX9_init_33 : decode cX9_init 33 = .ok (.invokespecial 17, 3) := by decide +kernel
theorem dX9_init_36 : decode cX9_init 36 = .ok (.aastore, 1) := by decide +kernel
theorem dX9_init_37 : decode cX9_init 37 = .ok (.iinc 1 1, 3) := by decide +kernel
theorem dX9_init_40 : decode cX9_init 40 = .ok (.goto (-25), 3) := by decide +kernel
theorem dX9_init_43 : decode cX9_init 43 = .ok (.return_, 1) := by decide +kernel
theorem dX9_get_0 : decode cX9_get 0 = .ok (.aload_n 0, 1) := by decide +kernel
theorem dX9_get_1 : decode cX9_get 1 = .ok (.getfield 11, 3) := by decide +kernel
theorem dX9_get_4 : decode cX9_get 4 = .ok (.iload_n 1, 1) := by decide +kernel
theorem dX9_get_5 : decode cX9_get 5 = .ok (.ifCond .lt 16, 3) := by decide +kernel
theorem dX9_get_8 : decode cX9_get 8 = .ok (.iload_n 1, 1) := by decide +kernel
theorem dX9_get_9 : decode cX9_get 9 = .ok (.aload_n 0, 1) := by decide +kernel
theorem dX9_get_10 : decode cX9_get 10 = .ok (.getfield 11, 3) := by decide +kernel
theorem dX9_get_13 : decode cX9_get 13 = .ok (.arraylength, 1) := by decide +kernel
theorem dX9_get_14 : decode cX9_get 14 = .ok (.if_icmp .ge 7, 3) := by decide +kernel
theorem dX9_get_17 : decode cX9_get 17 = .ok (.iload_n 1, 1) := by decide +kernel
