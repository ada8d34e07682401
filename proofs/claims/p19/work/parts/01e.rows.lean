theorem dX9_get_18 : decode cX9_get 18 = .ok (.goto 4, 3) := by decide +kernel
theorem dX9_get_21 : decode cX9_get 21 = .ok (.iconst 0, 1) := by decide +kernel
theorem dX9_get_22 : decode cX9_get 22 = .ok (.aaload, 1) := by decide +kernel
theorem dX9_get_23 : decode cX9_get 23 = .ok (.areturn, 1) := by decide +kernel
set_option maxRecDepth 20000 in
theorem ggX9_find_X9_get : GoodIn wsX9_find wsX9_get := goodIn_r _ [6, 7, 19, 20] (by decide +kernel) (by decide +kernel)
set_option maxRecDepth 20000 in
theorem gX9_find_X9_get : GoodIn wsX9_find (wsV RX9 22 RX9 yX9_get wsX9_get) := goodIn_app (goodIn_of _ (by decide +kernel)) ggX9_find_X9_get
set_option maxRecDepth 20000 in
theorem ggX9_find_X10_hasSignsOf : GoodIn wsX9_find wsX10_hasSignsOf := goodIn_r _ [12, 13, 14, 15, 16, 11, 17, 18, 23, 24] (by decide +kernel) (by decide +kernel)
set_option maxRecDepth 20000 in
theorem gX9_find_X10_hasSignsOf : GoodIn wsX9_find (wsV RX9 30 RX10 yX10_hasSignsOf wsX10_hasSignsOf) := goodIn_app (goodIn_of _ (by decide +kernel)) ggX9_find_X10_hasSignsOf
theorem dX9_find_0 : decode cX9_find 0 = .ok (.iconst 0, 1) := by decide +kernel
theorem dX9_find_1 : decode cX9_find 1 = .ok (.istore_n 2, 1) := by decide +kernel
theorem dX9_find_2 : decode cX9_find 2 = .ok (.iload_n 2, 1) := by decide +kernel
theorem dX9_find_3 : decode cX9_find 3 = .ok (.aload_n 0, 1) := by decide +kernel
theorem dX9_find_4 : decode cX9_find 4 = .ok (.getfield 18, 3) := by decide +kernel
theorem dX9_find_7 : decode cX9_find 7 = .ok (.if_icmp .ge 24, 3) := by decide +kernel
theorem dX9_find_10 : decode cX9_find 10 = .ok (.aload_n 0, 1) := by decide +kernel
theorem dX9_find_11 : decode cX9_find 11 = .ok (.iload_n 2, 1) := by decide +kernel
theorem dX9_find_12 : decode cX9_find 12 = .ok (.invokevirtual 22, 3) := by decide +kernel
theorem dX9_find_15 : decode cX9_find 15 = .ok (.getfield 26, 3) := by decide +kernel
theorem dX9_find_18 : decode cX9_find 18 = .ok (.aload_n 1, 1) := by decide +kernel
theorem dX9_find_19 : decode cX9_find 19 = .ok (.invokevirtual 30, 3) := by decide +kernel
theorem dX9_find_22 : decode cX9_find 22 = .ok (.ifCond .ne 9, 3) := by decide +kernel
theorem dX9_find_25 : decode cX9_find 25 = .ok (.iinc 2 1, 3) := by decide +kernel
theorem dX9_find_28 : decode cX9_find 28 = .ok (.goto (-26), 3) := by decide +kernel
theorem dX9_find_31 : decode cX9_find 31 = .ok (.iload_n 2, 1) := by decide +kernel
theorem dX9_find_32 : decode cX9_find 32 = .ok (.ireturn, 1) := by decide +kernel
set_option maxRecDepth 20000 in
theorem ggX9_grow_X9_find : GoodIn wsX9_grow wsX9_find := goodIn_r _ [7, 2, 8, 9, 10, 6, 11, 1, 12, 13, 14, 15, 16, 17, 18, 19, 20, 21, 22, 32, 33, 34, 35, 36, 37] (by decide +kernel) (by decide +kernel)
set_option maxRecDepth 20000 in
theorem gX9_grow_X9_find : GoodIn wsX9_grow (wsV RX9 36 RX9 yX9_find wsX9_find) := goodIn_app (goodIn_of _ (by decide +kernel)) ggX9_grow_X9_find
set_option maxRecDepth 20000 in
theorem ggX9_grow_X9_get : GoodIn wsX9_grow wsX9_get := goodIn_r _ [11, 1, 32, 33] (by decide +kernel) (by decide +kernel)
set_option maxRecDepth 20000 in
theorem gX9_grow_X9_get : GoodIn wsX9_grow (wsV RX9 22 RX9 yX9_get wsX9_get) := goodIn_app (goodIn_of _ (by decide +kernel)) ggX9_grow_X9_get
set_option maxRecDepth 20000 in
theorem ggX9_grow_X10_copy : GoodIn wsX9_grow wsX10_copy := goodIn_r _ [26, 17, 22, 36, 37] (by decide +kernel) (by decide +kernel)
set_option maxRecDepth 20000 in
theorem gX9_grow_X10_copy : GoodIn wsX9_grow (wsV RX9 40 RX10 yX10_copy wsX10_copy) := goodIn_app (goodIn_of _ (by decide +kernel)) ggX9_grow_X10_copy
set_option maxRecDepth 20000 in
theorem ggX9_grow_X11_isInt : GoodIn wsX9_grow wsX11_isInt := goodIn_r _ [29, 30, 31] (by decide +kernel) (by decide +kernel)
set_option maxRecDepth 20000 in
theorem gX9_grow_X11_isInt_n47 : GoodIn wsX9_grow (wsX11_isInt) := ggX9_grow_X11_isInt
theorem dX9_grow_0 : decode cX9_grow 0 = .ok (.aload_n 0, 1) := by decide +kernel
theorem dX9_grow_1 : decode cX9_grow 1 = .ok (.aload_n 1, 1) := by decide +kernel
theorem dX9_grow_2 : decode cX9_grow 2 = .ok (.invokevirtual 36, 3) := by decide +kernel
theorem dX9_grow_5 : decode cX9_grow 5 = .ok (.istore_n 3, 1) := by decide +kernel
theorem dX9_grow_6 : decode cX9_grow 6 = .ok (.iload_n 3, 1) := by decide +kernel
theorem dX9_grow_7 : decode cX9_grow 7 = .ok (.aload_n 0, 1) := by decide +kernel
theorem dX9_grow_8 : decode cX9_grow 8 = .ok (.getfield 11, 3) := by decide +kernel
theorem dX9_grow_11 : decode cX9_grow 11 = .ok (.arraylength, 1) := by decide +kernel
theorem dX9_grow_12 : decode cX9_grow 12 = .ok (.if_icmp .lt 5, 3) := by decide +kernel
theorem dX9_grow_15 : decode cX9_grow 15 = .ok (.iconst 0, 1) := by decide +kernel
theorem dX9_grow_16 : decode cX9_grow 16 = .ok (.ireturn, 1) := by decide +kernel
theorem dX9_grow_17 : decode cX9_grow 17 = .ok (.aload_n 0, 1) := by decide +kernel
theorem dX9_grow_18 : decode cX9_grow 18 = .ok (.iload_n 3, 1) := by decide +kernel
theorem dX9_grow_19 : decode cX9_grow 19 = .ok (.invokevirtual 22, 3) := by decide +kernel
theorem dX9_grow_22 : decode cX9_grow 22 = .ok (.astore 4, 2) := by decide +kernel
theorem dX9_grow_24 : decode cX9_grow 24 = .ok (.iload_n 3, 1) := by decide +kernel
theorem dX9_grow_25 : decode cX9_grow 25 = .ok (.aload_n 0, 1) := by decide +kernel
theorem dX9_grow_26 : decode cX9_grow 26 = .ok (.getfield 18, 3) := by decide +kernel
theorem dX9_grow_29 : decode cX9_grow 29 = .ok (.if_icmp .ne 28, 3) := by decide +kernel
theorem dX9_grow_32 : decode cX9_grow 32 = .ok (.aload 4, 2) := by decide +kernel
theorem dX9_grow_34 : decode cX9_grow 34 = .ok (.getfield 26, 3) := by decide +kernel
theorem dX9_grow_37 : decode cX9_grow 37 = .ok (.aload_n 1, 1) := by decide +kernel
theorem dX9_grow_38 : decode cX9_grow 38 = .ok (.invokevirtual 40, 3) := by decide +kernel
theorem dX9_grow_41 : decode cX9_grow 41 = .ok (.aload 4, 2) := by decide +kernel
theorem dX9_grow_43 : decode cX9_grow 43 = .ok (.iconst 0, 1) := by decide +kernel
theorem dX9_grow_44 : decode cX9_grow 44 = .ok (.putfield 44, 3) := by decide +kernel
theorem dX9_grow_47 : decode cX9_grow 47 = .ok (.aload_n 0, 1) := by decide +kernel
theorem dX9_grow_48 : decode cX9_grow 48 = .ok (.dup, 1) := by decide +kernel
theorem dX9_grow_49 : decode cX9_grow 49 = .ok (.getfield 18, 3) := by decide +kernel
theorem dX9_grow_52 : decode cX9_grow 52 = .ok (.iconst 1, 1) := by decide +kernel
theorem dX9_grow_53 : decode cX9_grow 53 = .ok (.iadd, 1) := by decide +kernel
theorem dX9_grow_54 : decode cX9_grow 54 = .ok (.putfield 18, 3) := by decide +kernel
theorem dX9_grow_57 : decode cX9_grow 57 = .ok (.aload 4, 2) := by decide +kernel
theorem dX9_grow_59 : decode cX9_grow 59 = .ok (.getfield 44, 3) := by decide +kernel
theorem dX9_grow_62 : decode cX9_grow 62 = .ok (.i2l, 1) := by decide +kernel
theorem dX9_grow_63 : decode cX9_grow 63 = .ok (.iload_n 2, 1) := by decide +kernel
theorem dX9_grow_64 : decode cX9_grow 64 = .ok (.i2l, 1) := by decide +kernel
theorem dX9_grow_65 : decode cX9_grow 65 = .ok (.ladd, 1) := by decide +kernel
theorem dX9_grow_66 : decode cX9_grow 66 = .ok (.lstore 5, 2) := by decide +kernel
theorem dX9_grow_68 : decode cX9_grow 68 = .ok (.lload 5, 2) := by decide +kernel
theorem dX9_grow_70 : decode cX9_grow 70 = .ok (.invokestatic 47, 3) := by decide +kernel
theorem dX9_grow_73 : decode cX9_grow 73 = .ok (.istore 7, 2) := by decide +kernel
theorem dX9_grow_75 : decode cX9_grow 75 = .ok (.aload 4, 2) := by decide +kernel
theorem dX9_grow_77 : decode cX9_grow 77 = .ok (.iload 7, 2) := by decide +kernel
theorem dX9_grow_79 : decode cX9_grow 79 = .ok (.ifCond .eq 9, 3) := by decide +kernel
theorem dX9_grow_82 : decode cX9_grow 82 = .ok (.lload 5, 2) := by decide +kernel
theorem dX9_grow_84 : decode cX9_grow 84 = .ok (.l2i, 1) := by decide +kernel
theorem dX9_grow_85 : decode cX9_grow 85 = .ok (.goto 4, 3) := by decide +kernel
theorem dX9_grow_88 : decode cX9_grow 88 = .ok (.iconst 0, 1) := by decide +kernel
theorem dX9_grow_89 : decode cX9_grow 89 = .ok (.putfield 44, 3) := by decide +kernel
theorem dX9_grow_92 : decode cX9_grow 92 = .ok (.iload 7, 2) := by decide +kernel
theorem dX9_grow_94 : decode cX9_grow 94 = .ok (.ifCond .eq 7, 3) := by decide +kernel
theorem dX9_grow_97 : decode cX9_grow 97 = .ok (.iconst 0, 1) := by decide +kernel
theorem dX9_grow_98 : decode cX9_grow 98 = .ok (.goto 4, 3) := by decide +kernel
theorem dX9_grow_101 : decode cX9_grow 101 = .ok (.iconst 1, 1) := by decide +kernel
theorem dX9_grow_102 : decode cX9_grow 102 = .ok (.ireturn, 1) := by decide +kernel
set_option maxRecDepth 20000 in
theorem ggX9_drop_X9_find : GoodIn wsX9_drop wsX9_find := goodIn_r _ [7, 1, 8, 9, 10, 6, 11, 2, 12, 13, 14, 15, 16, 17, 18, 19, 20, 21, 22, 23, 24, 25, 26, 27, 28] (by decide +kernel) (by decide +kernel)
set_option maxRecDepth 20000 in
theorem gX9_drop_X9_find : GoodIn wsX9_drop (wsV RX9 36 RX9 yX9_find wsX9_find) := goodIn_app (goodIn_of _ (by decide +kernel)) ggX9_drop_X9_find
set_option maxRecDepth 20000 in
theorem ggX9_drop_X9_get : GoodIn wsX9_drop wsX9_get := goodIn_r _ [11, 2, 23, 24] (by decide +kernel) (by decide +kernel)
set_option maxRecDepth 20000 in
theorem gX9_drop_X9_get : GoodIn wsX9_drop (wsV RX9 22 RX9 yX9_get wsX9_get) := goodIn_app (goodIn_of _ (by decide +kernel)) ggX9_drop_X9_get
theorem dX9_drop_0 : decode cX9_drop 0 = .ok (.aload_n 0, 1) := by decide +kernel
theorem dX9_drop_1 : decode cX9_drop 1 = .ok (.aload_n 1, 1) := by decide +kernel
theorem dX9_drop_2 : decode cX9_drop 2 = .ok (.invokevirtual 36, 3) := by decide +kernel
theorem dX9_drop_5 : decode cX9_drop 5 = .ok (.istore_n 2, 1) := by decide +kernel
theorem dX9_drop_6 : decode cX9_drop 6 = .ok (.iload_n 2, 1) := by decide +kernel
theorem dX9_drop_7 : decode cX9_drop 7 = .ok (.aload_n 0, 1) := by decide +kernel
theorem dX9_drop_8 : decode cX9_drop 8 = .ok (.getfield 18, 3) := by decide +kernel
theorem dX9_drop_11 : decode cX9_drop 11 = .ok (.if_icmp .lt 4, 3) := by decide +kernel
theorem dX9_drop_14 : decode cX9_drop 14 = .ok (.return_, 1) := by decide +kernel
theorem dX9_drop_15 : decode cX9_drop 15 = .ok (.aload_n 0, 1) := by decide +kernel
theorem dX9_drop_16 : decode cX9_drop 16 = .ok (.iload_n 2, 1) := by decide +kernel
theorem dX9_drop_17 : decode cX9_drop 17 = .ok (.invokevirtual 22, 3) := by decide +kernel
theorem dX9_drop_20 : decode cX9_drop 20 = .ok (.astore_n 3, 1) := by decide +kernel
theorem dX9_drop_21 : decode cX9_drop 21 = .ok (.aload_n 0, 1) := by decide +kernel
theorem dX9_drop_22 : decode cX9_drop 22 = .ok (.dup, 1) := by decide +kernel
theorem dX9_drop_23 : decode cX9_drop 23 = .ok (.getfield 18, 3) := by decide +kernel
theorem dX9_drop_26 : decode cX9_drop 26 = .ok (.iconst 1, 1) := by decide +kernel
theorem dX9_drop_27 : decode cX9_drop 27 = .ok (.isub, 1) := by decide +kernel
theorem dX9_drop_28 : decode cX9_drop 28 = .ok (.putfield 18, 3) := by decide +kernel
theorem dX9_drop_31 : decode cX9_drop 31 = .ok (.iload_n 2, 1) := by decide +kernel
theorem dX9_drop_32 : decode cX9_drop 32 = .ok (.istore 4, 2) := by decide +kernel
theorem dX9_drop_34 : decode cX9_drop 34 = .ok (.iload 4, 2) := by decide +kernel
theorem dX9_drop_36 : decode cX9_drop 36 = .ok (.aload_n 0, 1) := by decide +kernel
theorem dX9_drop_37 : decode cX9_drop 37 = .ok (.getfield 18, 3) := by decide +kernel
theorem dX9_drop_40 : decode cX9_drop 40 = .ok (.if_icmp .ge 37, 3) := by decide +kernel
theorem dX9_drop_43 : decode cX9_drop 43 = .ok (.iload 4, 2) := by decide +kernel
theorem dX9_drop_45 : decode cX9_drop 45 = .ok (.iconst 1, 1) := by decide +kernel
theorem dX9_drop_46 : decode cX9_drop 46 = .ok (.iadd, 1) := by decide +kernel
theorem dX9_drop_47 : decode cX9_drop 47 = .ok (.aload_n 0, 1) := by decide +kernel
theorem dX9_drop_48 : decode cX9_drop 48 = .ok (.getfield 11, 3) := by decide +kernel
theorem dX9_drop_51 : decode cX9_drop 51 = .ok (.arraylength, 1) := by decide +kernel
theorem dX9_drop_52 : decode cX9_drop 52 = .ok (.if_icmp .ge 25, 3) := by decide +kernel
theorem dX9_drop_55 : decode cX9_drop 55 = .ok (.aload_n 0, 1) := by decide +kernel
theorem dX9_drop_56 : decode cX9_drop 56 = .ok (.getfield 11, 3) := by decide +kernel
theorem dX9_drop_59 : decode cX9_drop 59 = .ok (.iload 4, 2) := by decide +kernel
theorem dX9_drop_61 : decode cX9_drop 61 = .ok (.aload_n 0, 1) := by decide +kernel
theorem dX9_drop_62 : decode cX9_drop 62 = .ok (.getfield 11, 3) := by decide +kernel
theorem dX9_drop_65 : decode cX9_drop 65 = .ok (.iload 4, 2) := by decide +kernel
theorem dX9_drop_67 : decode cX9_drop 67 = .ok (.iconst 1, 1) := by decide +kernel
theorem dX9_drop_68 : decode cX9_drop 68 = .ok (.iadd, 1) := by decide +kernel
theorem dX9_drop_69 : decode cX9_drop 69 = .ok (.aaload, 1) := by decide +kernel
theorem dX9_drop_70 : decode cX9_drop 70 = .ok (.aastore, 1) := by decide +kernel
theorem dX9_drop_71 : decode cX9_drop 71 = .ok (.iinc 4 1, 3) := by decide +kernel
theorem dX9_drop_74 : decode cX9_drop 74 = .ok (.goto (-40), 3) := by decide +kernel
theorem dX9_drop_77 : decode cX9_drop 77 = .ok (.aload_n 0, 1) := by decide +kernel
theorem dX9_drop_78 : decode cX9_drop 78 = .ok (.getfield 18, 3) := by decide +kernel
theorem dX9_drop_81 : decode cX9_drop 81 = .ok (.ifCond .lt 25, 3) := by decide +kernel
theorem dX9_drop_84 : decode cX9_drop 84 = .ok (.aload_n 0, 1) := by decide +kernel
theorem dX9_drop_85 : decode cX9_drop 85 = .ok (.getfield 18, 3) := by decide +kernel
theorem dX9_drop_88 : decode cX9_drop 88 = .ok (.aload_n 0, 1) := by decide +kernel
theorem dX9_drop_89 : decode cX9_drop 89 = .ok (.getfield 11, 3) := by decide +kernel
theorem dX9_drop_92 : decode cX9_drop 92 = .ok (.arraylength, 1) := by decide +kernel
theorem dX9_drop_93 : decode cX9_drop 93 = .ok (.if_icmp .ge 13, 3) := by decide +kernel
theorem dX9_drop_96 : decode cX9_drop 96 = .ok (.aload_n 0, 1) := by decide +kernel
theorem dX9_drop_97 : decode cX9_drop 97 = .ok (.getfield 11, 3) := by decide +kernel
theorem dX9_drop_100 : decode cX9_drop 100 = .ok (.aload_n 0, 1) := by decide +kernel
theorem dX9_drop_101 : decode cX9_drop 101 = .ok (.getfield 18, 3) := by decide +kernel
theorem dX9_drop_104 : decode cX9_drop 104 = .ok (.aload_n 3, 1) := by decide +kernel
theorem dX9_drop_105 : decode cX9_drop 105 = .ok (.aastore, 1) := by decide +kernel
theorem dX9_drop_106 : decode cX9_drop 106 = .ok (.return_, 1) := by decide +kernel
theorem dX10_init_0 : decode cX10_init 0 = .ok (.aload_n 0, 1) := by decide +kernel
theorem dX10_init_1 : decode cX10_init 1 = .ok (.invokespecial 3, 3) := by decide +kernel
theorem dX10_init_4 : decode cX10_init 4 = .ok (.aload_n 0, 1) := by decide +kernel
theorem dX10_init_5 : decode cX10_init 5 = .ok (.bipush 60, 2) := by decide +kernel
theorem dX10_init_7 : decode cX10_init 7 = .ok (.newarray .char, 2) := by decide +kernel
theorem dX10_init_9 : decode cX10_init 9 = .ok (.putfield 9, 3) := by decide +kernel
theorem dX10_init_12 : decode cX10_init 12 = .ok (.return_, 1) := by decide +kernel
theorem dX10_clear_0 : decode cX10_clear 0 = .ok (.aload_n 0, 1) := by decide +kernel
theorem dX10_clear_1 : decode cX10_clear 1 = .ok (.iconst 0, 1) := by decide +kernel
theorem dX10_clear_2 : decode cX10_clear 2 = .ok (.putfield 15, 3) := by decide +kernel
theorem dX10_clear_5 : decode cX10_clear 5 = .ok (.return_, 1) := by decide +kernel
theorem dX10_at_0 : decode cX10_at 0 = .ok (.iload_n 1, 1) := by decide +kernel
theorem dX10_at_1 : decode cX10_at 1 = .ok (.ifCond .lt 20, 3) := by decide +kernel
theorem dX10_at_4 : decode cX10_at 4 = .ok (.iload_n 1, 1) := by decide +kernel
theorem dX10_at_5 : decode cX10_at 5 = .ok (.aload_n 0, 1) := by decide +kernel
theorem dX10_at_6 : decode cX10_at 6 = .ok (.getfield 15, 3) := by decide +kernel
theorem dX10_at_9 : decode cX10_at 9 = .ok (.if_icmp .ge 12, 3) := by decide +kernel
theorem dX10_at_12 : decode cX10_at 12 = .ok (.aload_n 0, 1) := by decide +kernel
theorem dX10_at_13 : decode cX10_at 13 = .ok (.getfield 9, 3) := by decide +kernel
theorem dX10_at_16 : decode cX10_at 16 = .ok (.iload_n 1, 1) := by decide +kernel
theorem dX10_at_17 : decode cX10_at 17 = .ok (.caload, 1) := by decide +kernel
theorem dX10_at_18 : decode cX10_at 18 = .ok (.goto 5, 3) := by decide +kernel
theorem dX10_at_21 : decode cX10_at 21 = .ok (.bipush 32, 2) := by decide +kernel
theorem dX10_at_23 : decode cX10_at 23 = .ok (.ireturn, 1) := by decide +kernel
theorem dX10_put_0 : decode cX10_put 0 = .ok (.aload_n 0, 1) := by decide +kernel
theorem dX10_put_1 : decode cX10_put 1 = .ok (.getfield 15, 3) := by decide +kernel
theorem dX10_put_4 : decode cX10_put 4 = .ok (.aload_n 0, 1) := by decide +kernel
theorem dX10_put_5 : decode cX10_put 5 = .ok (.getfield 9, 3) := by decide +kernel
theorem dX10_put_8 : decode cX10_put 8 = .ok (.arraylength, 1) := by decide +kernel
theorem dX10_put_9 : decode cX10_put 9 = .ok (.if_icmp .ge 23, 3) := by decide +kernel
theorem dX10_put_12 : decode cX10_put 12 = .ok (.aload_n 0, 1) := by decide +kernel
theorem dX10_put_13 : decode cX10_put 13 = .ok (.getfield 9, 3) := by decide +kernel
theorem dX10_put_16 : decode cX10_put 16 = .ok (.aload_n 0, 1) := by decide +kernel
theorem dX10_put_17 : decode cX10_put 17 = .ok (.getfield 15, 3) := by decide +kernel
theorem dX10_put_20 : decode cX10_put 20 = .ok (.iload_n 1, 1) := by decide +kernel
theorem dX10_put_21 : decode cX10_put 21 = .ok (.castore, 1) := by decide +kernel
theorem dX10_put_22 : decode cX10_put 22 = .ok (.aload_n 0, 1) := by decide +kernel
theorem dX10_put_23 : decode cX10_put 23 = .ok (.dup, 1) := by decide +kernel
theorem dX10_put_24 : decode cX10_put 24 = .ok (.getfield 15, 3) := by decide +kernel
theorem dX10_put_27 : decode cX10_put 27 = .ok (.iconst 1, 1) := by decide +kernel
theorem dX10_put_28 : decode cX10_put 28 = .ok (.iadd, 1) := by decide +kernel
theorem dX10_put_29 : decode cX10_put 29 = .ok (.putfield 15, 3) := by decide +kernel
theorem dX10_put_32 : decode cX10_put 32 = .ok (.return_, 1) := by decide +kernel
set_option maxRecDepth 20000 in
theorem ggX10_add_X10_put : GoodIn wsX10_add wsX10_put := goodIn_r _ [7, 1, 2, 8, 9] (by decide +kernel) (by decide +kernel)
set_option maxRecDepth 20000 in
theorem gX10_add_X10_put : GoodIn wsX10_add (wsV RX10 19 RX10 yX10_put wsX10_put) := goodIn_app (goodIn_of _ (by decide +kernel)) ggX10_add_X10_put
theorem dX10_add_0 : decode cX10_add 0 = .ok (.aload_n 1, 1) := by decide +kernel
theorem dX10_add_1 : decode cX10_add 1 = .ok (.getfield 15, 3) := by decide +kernel
theorem dX10_add_4 : decode cX10_add 4 = .ok (.istore_n 2, 1) := by decide +kernel
theorem dX10_add_5 : decode cX10_add 5 = .ok (.iconst 0, 1) := by decide +kernel
theorem dX10_add_6 : decode cX10_add 6 = .ok (.istore_n 3, 1) := by decide +kernel
theorem dX10_add_7 : decode cX10_add 7 = .ok (.iload_n 3, 1) := by decide +kernel
theorem dX10_add_8 : decode cX10_add 8 = .ok (.iload_n 2, 1) := by decide +kernel
theorem dX10_add_9 : decode cX10_add 9 = .ok (.if_icmp .ge 19, 3) := by decide +kernel
theorem dX10_add_12 : decode cX10_add 12 = .ok (.aload_n 0, 1) := by decide +kernel
theorem dX10_add_13 : decode cX10_add 13 = .ok (.aload_n 1, 1) := by decide +kernel
theorem dX10_add_14 : decode cX10_add 14 = .ok (.getfield 9, 3) := by decide +kernel
theorem dX10_add_17 : decode cX10_add 17 = .ok (.iload_n 3, 1) := by decide +kernel
theorem dX10_add_18 : decode cX10_add 18 = .ok (.caload, 1) := by decide +kernel
theorem dX10_add_19 : decode cX10_add 19 = .ok (.invokevirtual 19, 3) := by decide +kernel
theorem dX10_add_22 : decode cX10_add 22 = .ok (.iinc 3 1, 3) := by decide +kernel
theorem dX10_add_25 : decode cX10_add 25 = .ok (.goto (-18), 3) := by decide +kernel
theorem dX10_add_28 : decode cX10_add 28 = .ok (.return_, 1) := by decide +kernel
theorem dX10_copy_0 : decode cX10_copy 0 = .ok (.aload_n 0, 1) := by decide +kernel
theorem dX10_copy_1 : decode cX10_copy 1 = .ok (.aload_n 1, 1) := by decide +kernel
theorem dX10_copy_2 : decode cX10_copy 2 = .ok (.getfield 15, 3) := by decide +kernel
theorem dX10_copy_5 : decode cX10_copy 5 = .ok (.putfield 15, 3) := by decide +kernel
theorem dX10_copy_8 : decode cX10_copy 8 = .ok (.iconst 0, 1) := by decide +kernel
theorem dX10_copy_9 : decode cX10_copy 9 = .ok (.istore_n 2, 1) := by decide +kernel
theorem dX10_copy_10 : decode cX10_copy 10 = .ok (.iload_n 2, 1) := by decide +kernel
theorem dX10_copy_11 : decode cX10_copy 11 = .ok (.aload_n 0, 1) := by decide +kernel
theorem dX10_copy_12 : decode cX10_copy 12 = .ok (.getfield 15, 3) := by decide +kernel
theorem dX10_copy_15 : decode cX10_copy 15 = .ok (.if_icmp .ge 21, 3) := by decide +kernel
theorem dX10_copy_18 : decode cX10_copy 18 = .ok (.aload_n 0, 1) := by decide +kernel
theorem dX10_copy_19 : decode cX10_copy 19 = .ok (.getfield 9, 3) := by decide +kernel
theorem dX10_copy_22 : decode cX10_copy 22 = .ok (.iload_n 2, 1) := by decide +kernel
theorem dX10_copy_23 : decode cX10_copy 23 = .ok (.aload_n 1, 1) := by decide +kernel
theorem dX10_copy_24 : decode cX10_copy 24 = .ok (.getfield 9, 3) := by decide +kernel
theorem dX10_copy_27 : decode cX10_copy 27 = .ok (.iload_n 2, 1) := by decide +kernel
theorem dX10_copy_28 : decode cX10_copy 28 = .ok (.caload, 1) := by decide +kernel
theorem dX10_copy_29 : decode cX10_copy 29 = .ok (.castore, 1) := by decide +kernel
theorem dX10_copy_30 : decode cX10_copy 30 = .ok (.iinc 2 1, 3) := by decide +kernel
theorem dX10_copy_33 : decode cX10_copy 33 = .ok (.goto (-23), 3) := by decide +kernel
theorem dX10_copy_36 : decode cX10_copy 36 = .ok (.return_, 1) := by decide +kernel
theorem dX10_write_0 : decode cX10_write 0 = .ok (.iload_n 1, 1) := by decide +kernel
theorem dX10_write_1 : decode cX10_write 1 = .ok (.i2l, 1) := by decide +kernel
theorem dX10_write_2 : decode cX10_write 2 = .ok (.lstore_n 2, 1) := by decide +kernel
theorem dX10_write_3 : decode cX10_write 3 = .ok (.aload_n 0, 1) := by decide +kernel
theorem dX10_write_4 : decode cX10_write 4 = .ok (.iconst 0, 1) := by decide +kernel
theorem dX10_write_5 : decode cX10_write 5 = .ok (.putfield 15, 3) := by decide +kernel
theorem dX10_write_8 : decode cX10_write 8 = .ok (.lload_n 2, 1) := by decide +kernel
theorem dX10_write_9 : decode cX10_write 9 = .ok (.lconst 0, 1) := by decide +kernel
theorem dX10_write_10 : decode cX10_write 10 = .ok (.lcmp, 1) := by decide +kernel
theorem dX10_write_11 : decode cX10_write 11 = .ok (.ifCond .ge 19, 3) := by decide +kernel
theorem dX10_write_14 : decode cX10_write 14 = .ok (.lload_n 2, 1) := by decide +kernel
theorem dX10_write_15 : decode cX10_write 15 = .ok (.lneg, 1) := by decide +kernel
theorem dX10_write_16 : decode cX10_write 16 = .ok (.lstore_n 2, 1) := by decide +kernel
theorem dX10_write_17 : decode cX10_write 17 = .ok (.aload_n 0, 1) := by decide +kernel
theorem dX10_write_18 : decode cX10_write 18 = .ok (.getfield 9, 3) := by decide +kernel
theorem dX10_write_21 : decode cX10_write 21 = .ok (.iconst 0, 1) := by decide +kernel
theorem dX10_write_22 : decode cX10_write 22 = .ok (.bipush 45, 2) := by decide +kernel
theorem dX10_write_24 : decode cX10_write 24 = .ok (.castore, 1) := by decide +kernel
theorem dX10_write_25 : decode cX10_write 25 = .ok (.aload_n 0, 1) := by decide +kernel
theorem dX10_write_26 : decode cX10_write 26 = .ok (.iconst 1, 1) := by decide +kernel
theorem dX10_write_27 : decode cX10_write 27 = .ok (.putfield 15, 3) := by decide +kernel
theorem dX10_write_30 : decode cX10_write 30 = .ok (.ldc2_w 23, 3) := by decide +kernel
theorem dX10_write_33 : decode cX10_write 33 = .ok (.lstore 4, 2) := by decide +kernel
theorem dX10_write_35 : decode cX10_write 35 = .ok (.lload 4, 2) := by decide +kernel
theorem dX10_write_37 : decode cX10_write 37 = .ok (.lconst 0, 1) := by decide +kernel
theorem dX10_write_38 : decode cX10_write 38 = .ok (.lcmp, 1) := by decide +kernel
theorem dX10_write_39 : decode cX10_write 39 = .ok (.ifCond .le 73, 3) := by decide +kernel
theorem dX10_write_42 : decode cX10_write 42 = .ok (.lload_n 2, 1) := by decide +kernel
theorem dX10_write_43 : decode cX10_write 43 = .ok (.lload 4, 2) := by decide +kernel
theorem dX10_write_45 : decode cX10_write 45 = .ok (.lcmp, 1) := by decide +kernel
theorem dX10_write_46 : decode cX10_write 46 = .ok (.ifCond .ge 10, 3) := by decide +kernel
theorem dX10_write_49 : decode cX10_write 49 = .ok (.lload 4, 2) := by decide +kernel
theorem dX10_write_51 : decode cX10_write 51 = .ok (.lconst 1, 1) := by decide +kernel
theorem dX10_write_52 : decode cX10_write 52 = .ok (.lcmp, 1) := by decide +kernel
theorem dX10_write_53 : decode cX10_write 53 = .ok (.ifCond .ne 48, 3) := by decide +kernel
theorem dX10_write_56 : decode cX10_write 56 = .ok (.aload_n 0, 1) := by decide +kernel
theorem dX10_write_57 : decode cX10_write 57 = .ok (.getfield 15, 3) := by decide +kernel
theorem dX10_write_60 : decode cX10_write 60 = .ok (.aload_n 0, 1) := by decide +kernel
theorem dX10_write_61 : decode cX10_write 61 = .ok (.getfield 9, 3) := by decide +kernel
theorem dX10_write_64 : decode cX10_write 64 = .ok (.arraylength, 1) := by decide +kernel
theorem dX10_write_65 : decode cX10_write 65 = .ok (.if_icmp .ge 36, 3) := by decide +kernel
theorem dX10_write_68 : decode cX10_write 68 = .ok (.aload_n 0, 1) := by decide +kernel
theorem dX10_write_69 : decode cX10_write 69 = .ok (.getfield 9, 3) := by decide +kernel
theorem dX10_write_72 : decode cX10_write 72 = .ok (.aload_n 0, 1) := by decide +kernel
theorem dX10_write_73 : decode cX10_write 73 = .ok (.getfield 15, 3) := by decide +kernel
theorem dX10_write_76 : decode cX10_write 76 = .ok (.ldc2_w 25, 3) := by decide +kernel
theorem dX10_write_79 : decode cX10_write 79 = .ok (.lload_n 2, 1) := by decide +kernel
theorem dX10_write_80 : decode cX10_write 80 = .ok (.lload 4, 2) := by decide +kernel
theorem dX10_write_82 : decode cX10_write 82 = .ok (.ldiv, 1) := by decide +kernel
theorem dX10_write_83 : decode cX10_write 83 = .ok (.ldc2_w 27, 3) := by decide +kernel
theorem dX10_write_86 : decode cX10_write 86 = .ok (.lrem, 1) := by decide +kernel
theorem dX10_write_87 : decode cX10_write 87 = .ok (.ladd, 1) := by decide +kernel
theorem dX10_write_88 : decode cX10_write 88 = .ok (.l2i, 1) := by decide +kernel
theorem dX10_write_89 : decode cX10_write 89 = .ok (.i2c, 1) := by decide +kernel
theorem dX10_write_90 : decode cX10_write 90 = .ok (.castore, 1) := by decide +kernel
theorem dX10_write_91 : decode cX10_write 91 = .ok (.aload_n 0, 1) := by decide +kernel
theorem dX10_write_92 : decode cX10_write 92 = .ok (.dup, 1) := by decide +kernel
theorem dX10_write_93 : decode cX10_write 93 = .ok (.getfield 15, 3) := by decide +kernel
theorem dX10_write_96 : decode cX10_write 96 = .ok (.iconst 1, 1) := by decide +kernel
theorem dX10_write_97 : decode cX10_write 97 = .ok (.iadd, 1) := by decide +kernel
theorem dX10_write_98 : decode cX10_write 98 = .ok (.putfield 15, 3) := by decide +kernel
theorem dX10_write_101 : decode cX10_write 101 = .ok (.lload 4, 2) := by decide +kernel
theorem dX10_write_103 : decode cX10_write 103 = .ok (.ldc2_w 27, 3) := by decide +kernel
theorem dX10_write_106 : decode cX10_write 106 = .ok (.ldiv, 1) := by decide +kernel
theorem dX10_write_107 : decode cX10_write 107 = .ok (.lstore 4, 2) := by decide +kernel
theorem dX10_write_109 : decode cX10_write 109 = .ok (.goto (-74), 3) := by decide +kernel
theorem dX10_write_112 : decode cX10_write 112 = .ok (.return_, 1) := by decide +kernel
theorem dX10_numberLength_0 : decode cX10_numberLength 0 = .ok (.aload_n 0, 1) := by decide +kernel
theorem dX10_numberLength_1 : decode cX10_numberLength 1 = .ok (.getfield 15, 3) := by decide +kernel
theorem dX10_numberLength_4 : decode cX10_numberLength 4 = .ok (.ifCond .le 18, 3) := by decide +kernel
theorem dX10_numberLength_7 : decode cX10_numberLength 7 = .ok (.aload_n 0, 1) := by decide +kernel
theorem dX10_numberLength_8 : decode cX10_numberLength 8 = .ok (.getfield 9, 3) := by decide +kernel
theorem dX10_numberLength_11 : decode cX10_numberLength 11 = .ok (.iconst 0, 1) := by decide +kernel
theorem dX10_numberLength_12 : decode cX10_numberLength 12 = .ok (.caload, 1) := by decide +kernel
theorem dX10_numberLength_13 : decode cX10_numberLength 13 = .ok (.bipush 45, 2) := by decide +kernel
theorem dX10_numberLength_15 : decode cX10_numberLength 15 = .ok (.if_icmp .ne 7, 3) := by decide +kernel
theorem dX10_numberLength_18 : decode cX10_numberLength 18 = .ok (.iconst 1, 1) := by decide +kernel
theorem dX10_numberLength_19 : decode cX10_numberLength 19 = .ok (.goto 4, 3) := by decide +kernel
theorem dX10_numberLength_22 : decode cX10_numberLength 22 = .ok (.iconst 0, 1) := by decide +kernel
theorem dX10_numberLength_23 : decode cX10_numberLength 23 = .ok (.istore_n 1, 1) := by decide +kernel
theorem dX10_numberLength_24 : decode cX10_numberLength 24 = .ok (.iload_n 1, 1) := by decide +kernel
theorem dX10_numberLength_25 : decode cX10_numberLength 25 = .ok (.istore_n 2, 1) := by decide +kernel
theorem dX10_numberLength_26 : decode cX10_numberLength 26 = .ok (.iload_n 2, 1) := by decide +kernel
theorem dX10_numberLength_27 : decode cX10_numberLength 27 = .ok (.aload_n 0, 1) := by decide +kernel
theorem dX10_numberLength_28 : decode cX10_numberLength 28 = .ok (.getfield 15, 3) := by decide +kernel
theorem dX10_numberLength_31 : decode cX10_numberLength 31 = .ok (.if_icmp .ge 39, 3) := by decide +kernel
theorem dX10_numberLength_34 : decode cX10_numberLength 34 = .ok (.iload_n 2, 1) := by decide +kernel
theorem dX10_numberLength_35 : decode cX10_numberLength 35 = .ok (.iload_n 1, 1) := by decide +kernel
theorem dX10_numberLength_36 : decode cX10_numberLength 36 = .ok (.bipush 9, 2) := by decide +kernel
theorem dX10_numberLength_38 : decode cX10_numberLength 38 = .ok (.iadd, 1) := by decide +kernel
theorem dX10_numberLength_39 : decode cX10_numberLength 39 = .ok (.if_icmp .ge 31, 3) := by decide +kernel
theorem dX10_numberLength_42 : decode cX10_numberLength 42 = .ok (.aload_n 0, 1) := by decide +kernel
theorem dX10_numberLength_43 : decode cX10_numberLength 43 = .ok (.getfield 9, 3) := by decide +kernel
theorem dX10_numberLength_46 : decode cX10_numberLength 46 = .ok (.iload_n 2, 1) := by decide +kernel
theorem dX10_numberLength_47 : decode cX10_numberLength 47 = .ok (.caload, 1) := by decide +kernel
theorem dX10_numberLength_48 : decode cX10_numberLength 48 = .ok (.bipush 48, 2) := by decide +kernel
theorem dX10_numberLength_50 : decode cX10_numberLength 50 = .ok (.if_icmp .lt 20, 3) := by decide +kernel
theorem dX10_numberLength_53 : decode cX10_numberLength 53 = .ok (.aload_n 0, 1) := by decide +kernel
theorem dX10_numberLength_54 : decode cX10_numberLength 54 = .ok (.getfield 9, 3) := by decide +kernel
theorem dX10_numberLength_57 : decode cX10_numberLength 57 = .ok (.iload_n 2, 1) := by decide +kernel
theorem dX10_numberLength_58 : decode cX10_numberLength 58 = .ok (.caload, 1) := by decide +kernel
theorem dX10_numberLength_59 : decode cX10_numberLength 59 = .ok (.bipush 57, 2) := by decide +kernel
theorem dX10_numberLength_61 : decode cX10_numberLength 61 = .ok (.if_icmp .gt 9, 3) := by decide +kernel
theorem dX10_numberLength_64 : decode cX10_numberLength 64 = .ok (.iinc 2 1, 3) := by decide +kernel
theorem dX10_numberLength_67 : decode cX10_numberLength 67 = .ok (.goto (-41), 3) := by decide +kernel
theorem dX10_numberLength_70 : decode cX10_numberLength 70 = .ok (.iload_n 2, 1) := by decide +kernel
theorem dX10_numberLength_71 : decode cX10_numberLength 71 = .ok (.iload_n 1, 1) := by decide +kernel
theorem dX10_numberLength_72 : decode cX10_numberLength 72 = .ok (.if_icmp .le 7, 3) := by decide +kernel
theorem dX10_numberLength_75 : decode cX10_numberLength 75 = .ok (.iload_n 2, 1) := by decide +kernel
theorem dX10_numberLength_76 : decode cX10_numberLength 76 = .ok (.goto 4, 3) := by decide +kernel
theorem dX10_numberLength_79 : decode cX10_numberLength 79 = .ok (.iconst 0, 1) := by decide +kernel
theorem dX10_numberLength_80 : decode cX10_numberLength 80 = .ok (.ireturn, 1) := by decide +kernel
set_option maxRecDepth 20000 in
theorem ggX10_asNumber_X10_numberLength : GoodIn wsX10_asNumber wsX10_numberLength := goodIn_r _ [6, 7, 1, 12, 13] (by decide +kernel) (by decide +kernel)
set_option maxRecDepth 20000 in
theorem gX10_asNumber_X10_numberLength : GoodIn wsX10_asNumber (wsV RX10 29 RX10 yX10_numberLength wsX10_numberLength) := goodIn_app (goodIn_of _ (by decide +kernel)) ggX10_asNumber_X10_numberLength
set_option maxRecDepth 20000 in
theorem ggX10_asNumber_X10_at : GoodIn wsX10_asNumber wsX10_at := goodIn_r _ [11, 7, 1, 12, 13] (by decide +kernel) (by decide +kernel)
set_option maxRecDepth 20000 in
theorem gX10_asNumber_X10_at : GoodIn wsX10_asNumber (wsV RX10 33 RX10 yX10_at wsX10_at) := goodIn_app (goodIn_of _ (by decide +kernel)) ggX10_asNumber_X10_at
theorem dX10_asNumber_0 : decode cX10_asNumber 0 = .ok (.aload_n 0, 1) := by decide +kernel
theorem dX10_asNumber_1 : decode cX10_asNumber 1 = .ok (.invokevirtual 29, 3) := by decide +kernel
theorem dX10_asNumber_4 : decode cX10_asNumber 4 = .ok (.istore_n 1, 1) := by decide +kernel
theorem dX10_asNumber_5 : decode cX10_asNumber 5 = .ok (.aload_n 0, 1) := by decide +kernel
theorem dX10_asNumber_6 : decode cX10_asNumber 6 = .ok (.iconst 0, 1) := by decide +kernel
theorem dX10_asNumber_7 : decode cX10_asNumber 7 = .ok (.invokevirtual 33, 3) := by decide +kernel
theorem dX10_asNumber_10 : decode cX10_asNumber 10 = .ok (.bipush 45, 2) := by decide +kernel
theorem dX10_asNumber_12 : decode cX10_asNumber 12 = .ok (.if_icmp .ne 7, 3) := by decide +kernel
theorem dX10_asNumber_15 : decode cX10_asNumber 15 = .ok (.iconst 1, 1) := by decide +kernel
theorem dX10_asNumber_16 : decode cX10_asNumber 16 = .ok (.goto 4, 3) := by decide +kernel
theorem dX10_asNumber_19 : decode cX10_asNumber 19 = .ok (.iconst 0, 1) := by decide +kernel
theorem dX10_asNumber_20 : decode cX10_asNumber 20 = .ok (.istore_n 2, 1) := by decide +kernel
theorem dX10_asNumber_21 : decode cX10_asNumber 21 = .ok (.iconst 0, 1) := by decide +kernel
theorem dX10_asNumber_22 : decode cX10_asNumber 22 = .ok (.istore_n 3, 1) := by decide +kernel
theorem dX10_asNumber_23 : decode cX10_asNumber 23 = .ok (.iload_n 2, 1) := by decide +kernel
theorem dX10_asNumber_24 : decode cX10_asNumber 24 = .ok (.ifCond .eq 7, 3) := by decide +kernel
theorem dX10_asNumber_27 : decode cX10_asNumber 27 = .ok (.iconst 1, 1) := by decide +kernel
theorem dX10_asNumber_28 : decode cX10_asNumber 28 = .ok (.goto 4, 3) := by decide +kernel
theorem dX10_asNumber_31 : decode cX10_asNumber 31 = .ok (.iconst 0, 1) := by decide +kernel
theorem dX10_asNumber_32 : decode cX10_asNumber 32 = .ok (.istore 4, 2) := by decide +kernel
theorem dX10_asNumber_34 : decode cX10_asNumber 34 = .ok (.iload 4, 2) := by decide +kernel
theorem dX10_asNumber_36 : decode cX10_asNumber 36 = .ok (.iload_n 1, 1) := by decide +kernel
theorem dX10_asNumber_37 : decode cX10_asNumber 37 = .ok (.if_icmp .ge 25, 3) := by decide +kernel
theorem dX10_asNumber_40 : decode cX10_asNumber 40 = .ok (.iload_n 3, 1) := by decide +kernel
theorem dX10_asNumber_41 : decode cX10_asNumber 41 = .ok (.bipush 10, 2) := by decide +kernel
theorem dX10_asNumber_43 : decode cX10_asNumber 43 = .ok (.imul, 1) := by decide +kernel
theorem dX10_asNumber_44 : decode cX10_asNumber 44 = .ok (.aload_n 0, 1) := by decide +kernel
theorem dX10_asNumber_45 : decode cX10_asNumber 45 = .ok (.getfield 9, 3) := by decide +kernel
theorem dX10_asNumber_48 : decode cX10_asNumber 48 = .ok (.iload 4, 2) := by decide +kernel
theorem dX10_asNumber_50 : decode cX10_asNumber 50 = .ok (.caload, 1) := by decide +kernel
theorem dX10_asNumber_51 : decode cX10_asNumber 51 = .ok (.bipush 48, 2) := by decide +kernel
theorem dX10_asNumber_53 : decode cX10_asNumber 53 = .ok (.isub, 1) := by decide +kernel
theorem dX10_asNumber_54 : decode cX10_asNumber 54 = .ok (.iadd, 1) := by decide +kernel
theorem dX10_asNumber_55 : decode cX10_asNumber 55 = .ok (.istore_n 3, 1) := by decide +kernel
theorem dX10_asNumber_56 : decode cX10_asNumber 56 = .ok (.iinc 4 1, 3) := by decide +kernel
theorem dX10_asNumber_59 : decode cX10_asNumber 59 = .ok (.goto (-25), 3) := by decide +kernel
theorem dX10_asNumber_62 : decode cX10_asNumber 62 = .ok (.iload_n 2, 1) := by decide +kernel
theorem dX10_asNumber_63 : decode cX10_asNumber 63 = .ok (.ifCond .eq 8, 3) := by decide +kernel
theorem dX10_asNumber_66 : decode cX10_asNumber 66 = .ok (.iload_n 3, 1) := by decide +kernel
theorem dX10_asNumber_67 : decode cX10_asNumber 67 = .ok (.ineg, 1) := by decide +kernel
theorem dX10_asNumber_68 : decode cX10_asNumber 68 = .ok (.goto 4, 3) := by decide +kernel
theorem dX10_asNumber_71 : decode cX10_asNumber 71 = .ok (.iload_n 3, 1) := by decide +kernel
theorem dX10_asNumber_72 : decode cX10_asNumber 72 = .ok (.ireturn, 1) := by decide +kernel
set_option maxRecDepth 20000 in
theorem ggX10_isNumeric_X10_numberLength : GoodIn wsX10_isNumeric wsX10_numberLength := goodIn_r _ [6, 1, 7, 8, 9] (by decide +kernel) (by decide +kernel)
set_option maxRecDepth 20000 in
theorem gX10_isNumeric_X10_numberLength : GoodIn wsX10_isNumeric (wsV RX10 29 RX10 yX10_numberLength wsX10_numberLength) := goodIn_app (goodIn_of _ (by decide +kernel)) ggX10_isNumeric_X10_numberLength
theorem dX10_isNumeric_0 : decode cX10_isNumeric 0 = .ok (.aload_n 0, 1) := by decide +kernel
theorem dX10_isNumeric_1 : decode cX10_isNumeric 1 = .ok (.getfield 15, 3) := by decide +kernel
theorem dX10_isNumeric_4 : decode cX10_isNumeric 4 = .ok (.ifCond .le 18, 3) := by decide +kernel
theorem dX10_isNumeric_7 : decode cX10_isNumeric 7 = .ok (.aload_n 0, 1) := by decide +kernel
theorem dX10_isNumeric_8 : decode cX10_isNumeric 8 = .ok (.invokevirtual 29, 3) := by decide +kernel
theorem dX10_isNumeric_11 : decode cX10_isNumeric 11 = .ok (.aload_n 0, 1) := by decide +kernel
theorem dX10_isNumeric_12 : decode cX10_isNumeric 12 = .ok (.getfield 15, 3) := by decide +kernel
theorem dX10_isNumeric_15 : decode cX10_isNumeric 15 = .ok (.if_icmp .ne 7, 3) := by decide +kernel
theorem dX10_isNumeric_18 : decode cX10_isNumeric 18 = .ok (.iconst 1, 1) := by decide +kernel
theorem dX10_isNumeric_19 : decode cX10_isNumeric 19 = .ok (.goto 4, 3) := by decide +kernel
theorem dX10_isNumeric_22 : decode cX10_isNumeric 22 = .ok (.iconst 0, 1) := by decide +kernel
theorem dX10_isNumeric_23 : decode cX10_isNumeric 23 = .ok (.ireturn, 1) := by decide +kernel
set_option maxRecDepth 20000 in
theorem ggX10_isSameAs_X10_isNumeric : GoodIn wsX10_isSameAs wsX10_isNumeric := goodIn_r _ [5, 6, 7, 8, 9, 4, 10, 11, 20, 21] (by decide +kernel) (by decide +kernel)
set_option maxRecDepth 20000 in
theorem gX10_isSameAs_X10_isNumeric : GoodIn wsX10_isSameAs (wsV RX10 37 RX10 yX10_isNumeric wsX10_isNumeric) := goodIn_app (goodIn_of _ (by decide +kernel)) ggX10_isSameAs_X10_isNumeric
set_option maxRecDepth 20000 in
theorem ggX10_isSameAs_X10_asNumber : GoodIn wsX10_isSameAs wsX10_asNumber := goodIn_r _ [15, 11, 7, 8, 9, 4, 10, 6, 16, 17, 18, 19, 20, 21] (by decide +kernel) (by decide +kernel)
set_option maxRecDepth 20000 in
theorem gX10_isSameAs_X10_asNumber : GoodIn wsX10_isSameAs (wsV RX10 41 RX10 yX10_asNumber wsX10_asNumber) := goodIn_app (goodIn_of _ (by decide +kernel)) ggX10_isSameAs_X10_asNumber
theorem dX10_isSameAs_0 : decode cX10_isSameAs 0 = .ok (.aload_n 0, 1) := by decide +kernel
theorem dX10_isSameAs_1 : decode cX10_isSameAs 1 = .ok (.invokevirtual 37, 3) := by decide +kernel
theorem dX10_isSameAs_4 : decode cX10_isSameAs 4 = .ok (.ifCond .eq 15, 3) := by decide +kernel
theorem dX10_isSameAs_7 : decode cX10_isSameAs 7 = .ok (.aload_n 0, 1) := by decide +kernel
theorem dX10_isSameAs_8 : decode cX10_isSameAs 8 = .ok (.invokevirtual 41, 3) := by decide +kernel
theorem dX10_isSameAs_11 : decode cX10_isSameAs 11 = .ok (.iload_n 1, 1) := by decide +kernel
theorem dX10_isSameAs_12 : decode cX10_isSameAs 12 = .ok (.if_icmp .ne 7, 3) := by decide +kernel
theorem dX10_isSameAs_15 : decode cX10_isSameAs 15 = .ok (.iconst 1, 1) := by decide +kernel
theorem dX10_isSameAs_16 : decode cX10_isSameAs 16 = .ok (.goto 4, 3) := by decide +kernel
theorem dX10_isSameAs_19 : decode cX10_isSameAs 19 = .ok (.iconst 0, 1) := by decide +kernel
theorem dX10_isSameAs_20 : decode cX10_isSameAs 20 = .ok (.ireturn, 1) := by decide +kernel
set_option maxRecDepth 20000 in
theorem ggX10_isLessThan_X10_isNumeric : GoodIn wsX10_isLessThan wsX10_isNumeric := goodIn_r _ [7, 1, 8, 9, 10, 6, 11, 2, 27, 28] (by decide +kernel) (by decide +kernel)
set_option maxRecDepth 20000 in
theorem gX10_isLessThan_X10_isNumeric : GoodIn wsX10_isLessThan (wsV RX10 37 RX10 yX10_isNumeric wsX10_isNumeric) := goodIn_app (goodIn_of _ (by decide +kernel)) ggX10_isLessThan_X10_isNumeric
set_option maxRecDepth 20000 in
theorem ggX10_isLessThan_X10_asNumber : GoodIn wsX10_isLessThan wsX10_asNumber := goodIn_r _ [15, 2, 8, 9, 10, 6, 11, 1, 16, 17, 18, 19, 27, 28] (by decide +kernel) (by decide +kernel)
set_option maxRecDepth 20000 in
theorem gX10_isLessThan_X10_asNumber : GoodIn wsX10_isLessThan (wsV RX10 41 RX10 yX10_asNumber wsX10_asNumber) := goodIn_app (goodIn_of _ (by decide +kernel)) ggX10_isLessThan_X10_asNumber
set_option maxRecDepth 20000 in
theorem ggX10_isLessThan_X10_firstDifference : GoodIn wsX10_isLessThan wsX10_firstDifference := goodIn_r _ [23, 1, 2, 27, 28] (by decide +kernel) (by decide +kernel)
set_option maxRecDepth 20000 in
theorem gX10_isLessThan_X10_firstDifference : GoodIn wsX10_isLessThan (wsV RX10 44 RX10 yX10_firstDifference wsX10_firstDifference) := goodIn_app (goodIn_of _ (by decide +kernel)) ggX10_isLessThan_X10_firstDifference
set_option maxRecDepth 20000 in
theorem ggX10_isLessThan_X11_rankOf : GoodIn wsX10_isLessThan wsX11_rankOf := goodIn_r _ [26] (by decide +kernel) (by decide +kernel)
set_option maxRecDepth 20000 in
theorem gX10_isLessThan_X11_rankOf_n48 : GoodIn wsX10_isLessThan (wsX11_rankOf) := ggX10_isLessThan_X11_rankOf
theorem dX10_isLessThan_0 : decode cX10_isLessThan 0 = .ok (.aload_n 0, 1) := by decide +kernel
theorem dX10_isLessThan_1 : decode cX10_isLessThan 1 = .ok (.invokevirtual 37, 3) := by decide +kernel
theorem dX10_isLessThan_4 : decode cX10_isLessThan 4 = .ok (.ifCond .eq 27, 3) := by decide +kernel
theorem dX10_isLessThan_7 : decode cX10_isLessThan 7 = .ok (.aload_n 1, 1) := by decide +kernel
theorem dX10_isLessThan_8 : decode cX10_isLessThan 8 = .ok (.invokevirtual 37, 3) := by decide +kernel
theorem dX10_isLessThan_11 : decode cX10_isLessThan 11 = .ok (.ifCond .eq 20, 3) := by decide +kernel
theorem dX10_isLessThan_14 : decode cX10_isLessThan 14 = .ok (.aload_n 0, 1) := by decide +kernel
theorem dX10_isLessThan_15 : decode cX10_isLessThan 15 = .ok (.invokevirtual 41, 3) := by decide +kernel
theorem dX10_isLessThan_18 : decode cX10_isLessThan 18 = .ok (.aload_n 1, 1) := by decide +kernel
theorem dX10_isLessThan_19 : decode cX10_isLessThan 19 = .ok (.invokevirtual 41, 3) := by decide +kernel
theorem dX10_isLessThan_22 : decode cX10_isLessThan 22 = .ok (.if_icmp .ge 7, 3) := by decide +kernel
theorem dX10_isLessThan_25 : decode cX10_isLessThan 25 = .ok (.iconst 1, 1) := by decide +kernel
theorem dX10_isLessThan_26 : decode cX10_isLessThan 26 = .ok (.goto 4, 3) := by decide +kernel
theorem dX10_isLessThan_29 : decode cX10_isLessThan 29 = .ok (.iconst 0, 1) := by decide +kernel
theorem dX10_isLessThan_30 : decode cX10_isLessThan 30 = .ok (.ireturn, 1) := by decide +kernel
theorem dX10_isLessThan_31 : decode cX10_isLessThan 31 = .ok (.aload_n 0, 1) := by decide +kernel
theorem dX10_isLessThan_32 : decode cX10_isLessThan 32 = .ok (.aload_n 1, 1) := by decide +kernel
theorem dX10_isLessThan_33 : decode cX10_isLessThan 33 = .ok (.invokevirtual 44, 3) := by decide +kernel
theorem dX10_isLessThan_36 : decode cX10_isLessThan 36 = .ok (.istore_n 2, 1) := by decide +kernel
theorem dX10_isLessThan_37 : decode cX10_isLessThan 37 = .ok (.iload_n 2, 1) := by decide +kernel
theorem dX10_isLessThan_38 : decode cX10_isLessThan 38 = .ok (.aload_n 0, 1) := by decide +kernel
theorem dX10_isLessThan_39 : decode cX10_isLessThan 39 = .ok (.getfield 15, 3) := by decide +kernel
theorem dX10_isLessThan_42 : decode cX10_isLessThan 42 = .ok (.if_icmp .ge 38, 3) := by decide +kernel
theorem dX10_isLessThan_45 : decode cX10_isLessThan 45 = .ok (.iload_n 2, 1) := by decide +kernel
theorem dX10_isLessThan_46 : decode cX10_isLessThan 46 = .ok (.aload_n 1, 1) := by decide +kernel
theorem dX10_isLessThan_47 : decode cX10_isLessThan 47 = .ok (.getfield 15, 3) := by decide +kernel
theorem dX10_isLessThan_50 : decode cX10_isLessThan 50 = .ok (.if_icmp .ge 30, 3) := by decide +kernel
theorem dX10_isLessThan_53 : decode cX10_isLessThan 53 = .ok (.aload_n 0, 1) := by decide +kernel
theorem dX10_isLessThan_54 : decode cX10_isLessThan 54 = .ok (.getfield 9, 3) := by decide +kernel
theorem dX10_isLessThan_57 : decode cX10_isLessThan 57 = .ok (.iload_n 2, 1) := by decide +kernel
theorem dX10_isLessThan_58 : decode cX10_isLessThan 58 = .ok (.caload, 1) := by decide +kernel
theorem dX10_isLessThan_59 : decode cX10_isLessThan 59 = .ok (.invokestatic 48, 3) := by decide +kernel
theorem dX10_isLessThan_62 : decode cX10_isLessThan 62 = .ok (.aload_n 1, 1) := by decide +kernel
theorem dX10_isLessThan_63 : decode cX10_isLessThan 63 = .ok (.getfield 9, 3) := by decide +kernel
theorem dX10_isLessThan_66 : decode cX10_isLessThan 66 = .ok (.iload_n 2, 1) := by decide +kernel
theorem dX10_isLessThan_67 : decode cX10_isLessThan 67 = .ok (.caload, 1) := by decide +kernel
theorem dX10_isLessThan_68 : decode cX10_isLessThan 68 = .ok (.invokestatic 48, 3) := by decide +kernel
theorem dX10_isLessThan_71 : decode cX10_isLessThan 71 = .ok (.if_icmp .ge 7, 3) := by decide +kernel
theorem dX10_isLessThan_74 : decode cX10_isLessThan 74 = .ok (.iconst 1, 1) := by decide +kernel
theorem dX10_isLessThan_75 : decode cX10_isLessThan 75 = .ok (.goto 4, 3) := by decide +kernel
theorem dX10_isLessThan_78 : decode cX10_isLessThan 78 = .ok (.iconst 0, 1) := by decide +kernel
theorem dX10_isLessThan_79 : decode cX10_isLessThan 79 = .ok (.ireturn, 1) := by decide +kernel
theorem dX10_isLessThan_80 : decode cX10_isLessThan 80 = .ok (.aload_n 0, 1) := by decide +kernel
theorem dX10_isLessThan_81 : decode cX10_isLessThan 81 = .ok (.getfield 15, 3) := by decide +kernel
theorem dX10_isLessThan_84 : decode cX10_isLessThan 84 = .ok (.aload_n 1, 1) := by decide +kernel
theorem dX10_isLessThan_85 : decode cX10_isLessThan 85 = .ok (.getfield 15, 3) := by decide +kernel
theorem dX10_isLessThan_88 : decode cX10_isLessThan 88 = .ok (.if_icmp .ge 7, 3) := by decide +kernel
theorem dX10_isLessThan_91 : decode cX10_isLessThan 91 = .ok (.iconst 1, 1) := by decide +kernel
theorem dX10_isLessThan_92 : decode cX10_isLessThan 92 = .ok (.goto 4, 3) := by decide +kernel
theorem dX10_isLessThan_95 : decode cX10_isLessThan 95 = .ok (.iconst 0, 1) := by decide +kernel
theorem dX10_isLessThan_96 : decode cX10_isLessThan 96 = .ok (.ireturn, 1) := by decide +kernel
set_option maxRecDepth 20000 in
theorem ggX10_hasSignsOf_X10_firstDifference : GoodIn wsX10_hasSignsOf wsX10_firstDifference := goodIn_r _ [6, 1, 7, 8, 9] (by decide +kernel) (by decide +kernel)
set_option maxRecDepth 20000 in
theorem gX10_hasSignsOf_X10_firstDifference : GoodIn wsX10_hasSignsOf (wsV RX10 44 RX10 yX10_firstDifference wsX10_firstDifference) := goodIn_app (goodIn_of _ (by decide +kernel)) ggX10_hasSignsOf_X10_firstDifference
theorem dX10_hasSignsOf_0 : decode cX10_hasSignsOf 0 = .ok (.aload_n 0, 1) := by decide +kernel
theorem dX10_hasSignsOf_1 : decode cX10_hasSignsOf 1 = .ok (.getfield 15, 3) := by decide +kernel
theorem dX10_hasSignsOf_4 : decode cX10_hasSignsOf 4 = .ok (.aload_n 1, 1) := by decide +kernel
theorem dX10_hasSignsOf_5 : decode cX10_hasSignsOf 5 = .ok (.getfield 15, 3) := by decide +kernel
theorem dX10_hasSignsOf_8 : decode cX10_hasSignsOf 8 = .ok (.if_icmp .ne 19, 3) := by decide +kernel
theorem dX10_hasSignsOf_11 : decode cX10_hasSignsOf 11 = .ok (.aload_n 0, 1) := by decide +kernel
theorem dX10_hasSignsOf_12 : decode cX10_hasSignsOf 12 = .ok (.aload_n 1, 1) := by decide +kernel
theorem dX10_hasSignsOf_13 : decode cX10_hasSignsOf 13 = .ok (.invokevirtual 44, 3) := by decide +kernel
theorem dX10_hasSignsOf_16 : decode cX10_hasSignsOf 16 = .ok (.aload_n 0, 1) := by decide +kernel
theorem dX10_hasSignsOf_17 : decode cX10_hasSignsOf 17 = .ok (.getfield 15, 3) := by decide +kernel
theorem dX10_hasSignsOf_20 : decode cX10_hasSignsOf 20 = .ok (.if_icmp .ne 7, 3) := by decide +kernel
theorem dX10_hasSignsOf_23 : decode cX10_hasSignsOf 23 = .ok (.iconst 1, 1) := by decide +kernel
theorem dX10_hasSignsOf_24 : decode cX10_hasSignsOf 24 = .ok (.goto 4, 3) := by decide +kernel
theorem dX10_hasSignsOf_27 : decode cX10_hasSignsOf 27 = .ok (.iconst 0, 1) := by decide +kernel
theorem dX10_hasSignsOf_28 : decode cX10_hasSignsOf 28 = .ok (.ireturn, 1) := by decide +kernel
theorem dX10_firstDifference_0 : decode cX10_firstDifference 0 = .ok (.iconst 0, 1) := by decide +kernel
theorem dX10_firstDifference_1 : decode cX10_firstDifference 1 = .ok (.istore_n 2, 1) := by decide +kernel
theorem dX10_firstDifference_2 : decode cX10_firstDifference 2 = .ok (.iload_n 2, 1) := by decide +kernel
theorem dX10_firstDifference_3 : decode cX10_firstDifference 3 = .ok (.aload_n 0, 1) := by decide +kernel
theorem dX10_firstDifference_4 : decode cX10_firstDifference 4 = .ok (.getfield 15, 3) := by decide +kernel
theorem dX10_firstDifference_7 : decode cX10_firstDifference 7 = .ok (.if_icmp .ge 32, 3) := by decide +kernel
theorem dX10_firstDifference_10 : decode cX10_firstDifference 10 = .ok (.iload_n 2, 1) := by decide +kernel
theorem dX10_firstDifference_11 : decode cX10_firstDifference 11 = .ok (.aload_n 1, 1) := by decide +kernel
theorem dX10_firstDifference_12 : decode cX10_firstDifference 12 = .ok (.getfield 15, 3) := by decide +kernel
theorem dX10_firstDifference_15 : decode cX10_firstDifference 15 = .ok (.if_icmp .ge 24, 3) := by decide +kernel
theorem dX10_firstDifference_18 : decode cX10_firstDifference 18 = .ok (.aload_n 0, 1) := by decide +kernel
theorem dX10_firstDifference_19 : decode cX10_firstDifference 19 = .ok (.getfield 9, 3) := by decide +kernel
theorem dX10_firstDifference_22 : decode cX10_firstDifference 22 = .ok (.iload_n 2, 1) := by decide +kernel
theorem dX10_firstDifference_23 : decode cX10_firstDifference 23 = .ok (.caload, 1) := by decide +kernel
theorem dX10_firstDifference_24 : decode cX10_firstDifference 24 = .ok (.aload_n 1, 1) := by decide +kernel
theorem dX10_firstDifference_25 : decode cX10_firstDifference 25 = .ok (.getfield 9, 3) := by decide +kernel
theorem dX10_firstDifference_28 : decode cX10_firstDifference 28 = .ok (.iload_n 2, 1) := by decide +kernel
theorem dX10_firstDifference_29 : decode cX10_firstDifference 29 = .ok (.caload, 1) := by decide +kernel
theorem dX10_firstDifference_30 : decode cX10_firstDifference 30 = .ok (.if_icmp .ne 9, 3) := by decide +kernel
theorem dX10_firstDifference_33 : decode cX10_firstDifference 33 = .ok (.iinc 2 1, 3) := by decide +kernel
theorem dX10_firstDifference_36 : decode cX10_firstDifference 36 = .ok (.goto (-34), 3) := by decide +kernel
theorem dX10_firstDifference_39 : decode cX10_firstDifference 39 = .ok (.iload_n 2, 1) := by decide +kernel
theorem dX10_firstDifference_40 : decode cX10_firstDifference 40 = .ok (.ireturn, 1) := by decide +kernel
set_option maxRecDepth 20000 in
theorem ggX11_init_Jx4a65c_init_da8c8 : GoodIn wsX11_init wsJx4a65c_init_da8c8 := goodIn_r _ [31, 32, 33, 34, 35, 36, 37, 38, 39, 40, 41, 42, 43, 2, 3, 82, 83, 84] (by decide +kernel) (by decide +kernel)
set_option maxRecDepth 20000 in
theorem gX11_init_Jx4a65c_init_da8c8 : GoodIn wsX11_init (wsJx4a65c_init_da8c8) := ggX11_init_Jx4a65c_init_da8c8
set_option maxRecDepth 20000 in
theorem ggX11_init_X4_init : GoodIn wsX11_init wsX4_init := goodIn_r _ [46, 47, 2, 3, 48, 25, 26, 49, 50, 51, 52, 53, 54, 55, 56, 105, 106, 94, 95, 96, 97, 98] (by decide +kernel) (by decide +kernel)
set_option maxRecDepth 20000 in
theorem gX11_init_X4_init : GoodIn wsX11_init (wsX4_init) := ggX11_init_X4_init
set_option maxRecDepth 20000 in
theorem ggX11_init_X9_init : GoodIn wsX11_init wsX9_init := goodIn_r _ [59, 60, 2, 3, 61, 62, 63, 64, 65, 66, 67, 68, 25, 26, 69, 52, 53, 54, 55, 56, 99, 100, 107, 108, 105, 106] (by decide +kernel) (by decide +kernel)
set_option maxRecDepth 20000 in
theorem gX11_init_X9_init : GoodIn wsX11_init (wsX9_init) := ggX11_init_X9_init
set_option maxRecDepth 20000 in
theorem ggX11_init_X5_init : GoodIn wsX11_init wsX5_init := goodIn_r _ [72, 73, 2, 3, 74, 75, 25, 26, 52, 53, 54, 55, 56, 101, 102, 103, 105, 106] (by decide +kernel) (by decide +kernel)
set_option maxRecDepth 20000 in
theorem gX11_init_X5_init : GoodIn wsX11_init (wsX5_init) := ggX11_init_X5_init
set_option maxRecDepth 20000 in
theorem ggX11_init_X8_init : GoodIn wsX11_init wsX8_init := goodIn_r _ [78, 79, 2, 3, 80, 81, 25, 26, 52, 53, 54, 55, 56, 104, 105, 106] (by decide +kernel) (by decide +kernel)
set_option maxRecDepth 20000 in
theorem gX11_init_X8_init : GoodIn wsX11_init (wsX8_init) := ggX11_init_X8_init
set_option maxRecDepth 20000 in
theorem ggX11_init_X10_init : GoodIn wsX11_init wsX10_init := goodIn_r _ [53, 54, 2, 3, 55, 56, 105, 106] (by decide +kernel) (by decide +kernel)
set_option maxRecDepth 20000 in
theorem gX11_init_X10_init_n46 : GoodIn wsX11_init (wsX10_init) := ggX11_init_X10_init
theorem dX11_init_0 : decode cX11_init 0 = .ok (.aload_n 0, 1) := by decide +kernel
theorem dX11_init_1 : decode cX11_init 1 = .ok (.invokespecial 3, 3) := by decide +kernel
theorem dX11_init_4 : decode cX11_init 4 = .ok (.aload_n 0, 1) := by decide +kernel
theorem dX11_init_5 : decode cX11_init 5 = .ok (.new 9, 3) := by decide +kernel
theorem dX11_init_8 : decode cX11_init 8 = .ok (.dup, 1) := by decide +kernel
theorem dX11_init_9 : decode cX11_init 9 = .ok (.invokespecial 11, 3) := by decide +kernel
theorem dX11_init_12 : decode cX11_init 12 = .ok (.putfield 12, 3) := by decide +kernel
theorem dX11_init_15 : decode cX11_init 15 = .ok (.aload_n 0, 1) := by decide +kernel
theorem dX11_init_16 : decode cX11_init 16 = .ok (.new 16, 3) := by decide +kernel
theorem dX11_init_19 : decode cX11_init 19 = .ok (.dup, 1) := by decide +kernel
theorem dX11_init_20 : decode cX11_init 20 = .ok (.invokespecial 18, 3) := by decide +kernel
theorem dX11_init_23 : decode cX11_init 23 = .ok (.putfield 19, 3) := by decide +kernel
theorem dX11_init_26 : decode cX11_init 26 = .ok (.aload_n 0, 1) := by decide +kernel
theorem dX11_init_27 : decode cX11_init 27 = .ok (.new 23, 3) := by decide +kernel
theorem dX11_init_30 : decode cX11_init 30 = .ok (.dup, 1) := by decide +kernel
theorem dX11_init_31 : decode cX11_init 31 = .ok (.invokespecial 25, 3) := by decide +kernel
theorem dX11_init_34 : decode cX11_init 34 = .ok (.putfield 26, 3) := by decide +kernel
theorem dX11_init_37 : decode cX11_init 37 = .ok (.aload_n 0, 1) := by decide +kernel
theorem dX11_init_38 : decode cX11_init 38 = .ok (.new 30, 3) := by decide +kernel
theorem dX11_init_41 : decode cX11_init 41 = .ok (.dup, 1) := by decide +kernel
theorem dX11_init_42 : decode cX11_init 42 = .ok (.invokespecial 32, 3) := by decide +kernel
theorem dX11_init_45 : decode cX11_init 45 = .ok (.putfield 33, 3) := by decide +kernel
theorem dX11_init_48 : decode cX11_init 48 = .ok (.aload_n 0, 1) := by decide +kernel
theorem dX11_init_49 : decode cX11_init 49 = .ok (.new 37, 3) := by decide +kernel
theorem dX11_init_52 : decode cX11_init 52 = .ok (.dup, 1) := by decide +kernel
theorem dX11_init_53 : decode cX11_init 53 = .ok (.invokespecial 39, 3) := by decide +kernel
theorem dX11_init_56 : decode cX11_init 56 = .ok (.putfield 40, 3) := by decide +kernel
theorem dX11_init_59 : decode cX11_init 59 = .ok (.aload_n 0, 1) := by decide +kernel
theorem dX11_init_60 : decode cX11_init 60 = .ok (.new 44, 3) := by decide +kernel
theorem dX11_init_63 : decode cX11_init 63 = .ok (.dup, 1) := by decide +kernel
theorem dX11_init_64 : decode cX11_init 64 = .ok (.invokespecial 46, 3) := by decide +kernel
theorem dX11_init_67 : decode cX11_init 67 = .ok (.putfield 47, 3) := by decide +kernel
theorem dX11_init_70 : decode cX11_init 70 = .ok (.aload_n 0, 1) := by decide +kernel
theorem dX11_init_71 : decode cX11_init 71 = .ok (.new 44, 3) := by decide +kernel
theorem dX11_init_74 : decode cX11_init 74 = .ok (.dup, 1) := by decide +kernel
theorem dX11_init_75 : decode cX11_init 75 = .ok (.invokespecial 46, 3) := by decide +kernel
theorem dX11_init_78 : decode cX11_init 78 = .ok (.putfield 51, 3) := by decide +kernel
theorem dX11_init_81 : decode cX11_init 81 = .ok (.return_, 1) := by decide +kernel
set_option maxRecDepth 20000 in
theorem ggX11_rule_X11_isPattern : GoodIn wsX11_rule wsX11_isPattern := goodIn_r _ [12, 13, 14, 11, 15, 16, 17, 18] (by decide +kernel) (by decide +kernel)
set_option maxRecDepth 20000 in
theorem gX11_rule_X11_isPattern : GoodIn wsX11_rule (va_wsS RX11 54 yX11_isPattern wsX11_isPattern) := goodIn_app (goodIn_of _ (by decide +kernel)) ggX11_rule_X11_isPattern
set_option maxRecDepth 20000 in
theorem ggX11_rule_Jx4a65c_size_8abf5 : GoodIn wsX11_rule wsJx4a65c_size_8abf5 := goodIn_r _ [23, 24, 118, 119, 120] (by decide +kernel) (by decide +kernel)
set_option maxRecDepth 20000 in
theorem gX11_rule_Jx4a65c_size_8abf5 : GoodIn wsX11_rule (wsV RX11 65 RJx4a65c yJx4a65c_size_8abf5 wsJx4a65c_size_8abf5) := goodIn_app (goodIn_of _ (by decide +kernel)) ggX11_rule_Jx4a65c_size_8abf5
set_option maxRecDepth 20000 in
theorem ggX11_rule_X7_init : GoodIn wsX11_rule wsX7_init := goodIn_r _ [27, 28, 29, 30, 31, 32, 22, 33, 34, 35, 36, 37, 38, 39, 40, 41, 42, 43, 44, 45, 46, 47, 48, 49, 50, 51, 118, 119, 120, 113, 114, 115, 116, 117] (by decide +kernel) (by decide +kernel)
set_option maxRecDepth 20000 in
theorem gX11_rule_X7_init : GoodIn wsX11_rule (wsX7_init) := ggX11_rule_X7_init
set_option maxRecDepth 20000 in
theorem ggX11_rule_Jx4a65c_add_9ea2d : GoodIn wsX11_rule wsJx4a65c_add_9ea2d := goodIn_r _ [55, 56, 57, 41, 24, 58, 59, 60, 22, 61, 62, 63, 64, 65, 66, 67, 68, 69, 40, 70, 71, 72, 73, 74, 75, 76, 77, 78, 79, 80, 81, 82, 83, 84, 85, 86, 87, 88, 89, 90, 91, 92, 93, 94, 95, 96, 97, 98, 99, 100, 101, 102, 103, 118, 119, 120] (by decide +kernel) (by decide +kernel)
set_option maxRecDepth 20000 in
theorem gX11_rule_Jx4a65c_add_9ea2d : GoodIn wsX11_rule (wsV RX11 79 RJx4a65c yJx4a65c_add_9ea2d wsJx4a65c_add_9ea2d) := goodIn_app (goodIn_of _ (by decide +kernel)) ggX11_rule_Jx4a65c_add_9ea2d
theorem dX11_rule_0 : decode cX11_rule 0 = .ok (.iload_n 1, 1) := by decide +kernel
theorem dX11_rule_1 : decode cX11_rule 1 = .ok (.iload_n 2, 1) := by decide +kernel
theorem dX11_rule_2 : decode cX11_rule 2 = .ok (.iload_n 3, 1) := by decide +kernel
theorem dX11_rule_3 : decode cX11_rule 3 = .ok (.invokestatic 54, 3) := by decide +kernel
theorem dX11_rule_6 : decode cX11_rule 6 = .ok (.ifCond .ne 13, 3) := by decide +kernel
theorem dX11_rule_9 : decode cX11_rule 9 = .ok (.new 58, 3) := by decide +kernel
theorem dX11_rule_12 : decode cX11_rule 12 = .ok (.dup, 1) := by decide +kernel
theorem dX11_rule_13 : decode cX11_rule 13 = .ok (.ldc 60, 2) := by decide +kernel
theorem dX11_rule_15 : decode cX11_rule 15 = .ok (.invokespecial 62, 3) := by decide +kernel
theorem dX11_rule_18 : decode cX11_rule 18 = .ok (.athrow, 1) := by decide +kernel
theorem dX11_rule_19 : decode cX11_rule 19 = .ok (.aload_n 0, 1) := by decide +kernel
theorem dX11_rule_20 : decode cX11_rule 20 = .ok (.getfield 12, 3) := by decide +kernel
theorem dX11_rule_23 : decode cX11_rule 23 = .ok (.invokevirtual 65, 3) := by decide +kernel
theorem dX11_rule_26 : decode cX11_rule 26 = .ok (.bipush 8, 2) := by decide +kernel
theorem dX11_rule_28 : decode cX11_rule 28 = .ok (.if_icmp .lt 13, 3) := by decide +kernel
theorem dX11_rule_31 : decode cX11_rule 31 = .ok (.new 69, 3) := by decide +kernel
theorem dX11_rule_34 : decode cX11_rule 34 = .ok (.dup, 1) := by decide +kernel
theorem dX11_rule_35 : decode cX11_rule 35 = .ok (.ldc 71, 2) := by decide +kernel
theorem dX11_rule_37 : decode cX11_rule 37 = .ok (.invokespecial 73, 3) := by decide +kernel
theorem dX11_rule_40 : decode cX11_rule 40 = .ok (.athrow, 1) := by decide +kernel
theorem dX11_rule_41 : decode cX11_rule 41 = .ok (.aload_n 0, 1) := by decide +kernel
theorem dX11_rule_42 : decode cX11_rule 42 = .ok (.getfield 12, 3) := by decide +kernel
theorem dX11_rule_45 : decode cX11_rule 45 = .ok (.new 74, 3) := by decide +kernel
theorem dX11_rule_48 : decode cX11_rule 48 = .ok (.dup, 1) := by decide +kernel
theorem dX11_rule_49 : decode cX11_rule 49 = .ok (.iload_n 1, 1) := by decide +kernel
theorem dX11_rule_50 : decode cX11_rule 50 = .ok (.iload_n 2, 1) := by decide +kernel
theorem dX11_rule_51 : decode cX11_rule 51 = .ok (.iload_n 3, 1) := by decide +kernel
theorem dX11_rule_52 : decode cX11_rule 52 = .ok (.invokespecial 76, 3) := by decide +kernel
theorem dX11_rule_55 : decode cX11_rule 55 = .ok (.invokevirtual 79, 3) := by decide +kernel
theorem dX11_rule_58 : decode cX11_rule 58 = .ok (.pop, 1) := by decide +kernel
theorem dX11_rule_59 : decode cX11_rule 59 = .ok (.aload_n 0, 1) := by decide +kernel
theorem dX11_rule_60 : decode cX11_rule 60 = .ok (.getfield 12, 3) := by decide +kernel
theorem dX11_rule_63 : decode cX11_rule 63 = .ok (.invokevirtual 65, 3) := by decide +kernel
theorem dX11_rule_66 : decode cX11_rule 66 = .ok (.iconst 1, 1) := by decide +kernel
