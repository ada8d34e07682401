theorem dX11_perform_60 : decode cX11_perform 60 = .ok (.aload_n 0, 1) := by decide +kernel
theorem dX11_perform_61 : decode cX11_perform 61 = .ok (.getfield 19, 3) := by decide +kernel
theorem dX11_perform_64 : decode cX11_perform 64 = .ok (.aload_n 0, 1) := by decide +kernel
theorem dX11_perform_65 : decode cX11_perform 65 = .ok (.getfield 51, 3) := by decide +kernel
theorem dX11_perform_68 : decode cX11_perform 68 = .ok (.invokevirtual 238, 3) := by decide +kernel
theorem dX11_perform_71 : decode cX11_perform 71 = .ok (.goto 18, 3) := by decide +kernel
theorem dX11_perform_74 : decode cX11_perform 74 = .ok (.aload_n 1, 1) := by decide +kernel
theorem dX11_perform_75 : decode cX11_perform 75 = .ok (.getfield 242, 3) := by decide +kernel
theorem dX11_perform_78 : decode cX11_perform 78 = .ok (.aload_n 0, 1) := by decide +kernel
theorem dX11_perform_79 : decode cX11_perform 79 = .ok (.getfield 19, 3) := by decide +kernel
theorem dX11_perform_82 : decode cX11_perform 82 = .ok (.aload_n 0, 1) := by decide +kernel
theorem dX11_perform_83 : decode cX11_perform 83 = .ok (.getfield 51, 3) := by decide +kernel
theorem dX11_perform_86 : decode cX11_perform 86 = .ok (.invokevirtual 246, 3) := by decide +kernel
theorem dX11_perform_89 : decode cX11_perform 89 = .ok (.iadd, 1) := by decide +kernel
theorem dX11_perform_90 : decode cX11_perform 90 = .ok (.putfield 205, 3) := by decide +kernel
theorem dX11_perform_93 : decode cX11_perform 93 = .ok (.aload_n 1, 1) := by decide +kernel
theorem dX11_perform_94 : decode cX11_perform 94 = .ok (.getfield 224, 3) := by decide +kernel
theorem dX11_perform_97 : decode cX11_perform 97 = .ok (.ifCond .ne 21, 3) := by decide +kernel
theorem dX11_perform_100 : decode cX11_perform 100 = .ok (.aload_n 0, 1) := by decide +kernel
theorem dX11_perform_101 : decode cX11_perform 101 = .ok (.getfield 19, 3) := by decide +kernel
theorem dX11_perform_104 : decode cX11_perform 104 = .ok (.aload_n 1, 1) := by decide +kernel
theorem dX11_perform_105 : decode cX11_perform 105 = .ok (.getfield 227, 3) := by decide +kernel
theorem dX11_perform_108 : decode cX11_perform 108 = .ok (.aload_n 0, 1) := by decide +kernel
theorem dX11_perform_109 : decode cX11_perform 109 = .ok (.getfield 51, 3) := by decide +kernel
theorem dX11_perform_112 : decode cX11_perform 112 = .ok (.invokevirtual 156, 3) := by decide +kernel
theorem dX11_perform_115 : decode cX11_perform 115 = .ok (.goto 57, 3) := by decide +kernel
theorem dX11_perform_118 : decode cX11_perform 118 = .ok (.aload_n 1, 1) := by decide +kernel
theorem dX11_perform_119 : decode cX11_perform 119 = .ok (.getfield 224, 3) := by decide +kernel
theorem dX11_perform_122 : decode cX11_perform 122 = .ok (.iconst 1, 1) := by decide +kernel
theorem dX11_perform_123 : decode cX11_perform 123 = .ok (.if_icmp .ne 30, 3) := by decide +kernel
theorem dX11_perform_126 : decode cX11_perform 126 = .ok (.aload_n 0, 1) := by decide +kernel
theorem dX11_perform_127 : decode cX11_perform 127 = .ok (.dup, 1) := by decide +kernel
theorem dX11_perform_128 : decode cX11_perform 128 = .ok (.getfield 205, 3) := by decide +kernel
theorem dX11_perform_131 : decode cX11_perform 131 = .ok (.aload_n 0, 1) := by decide +kernel
theorem dX11_perform_132 : decode cX11_perform 132 = .ok (.getfield 26, 3) := by decide +kernel
theorem dX11_perform_135 : decode cX11_perform 135 = .ok (.aload_n 2, 1) := by decide +kernel
theorem dX11_perform_136 : decode cX11_perform 136 = .ok (.aload_n 0, 1) := by decide +kernel
theorem dX11_perform_137 : decode cX11_perform 137 = .ok (.getfield 51, 3) := by decide +kernel
theorem dX11_perform_140 : decode cX11_perform 140 = .ok (.invokevirtual 180, 3) := by decide +kernel
theorem dX11_perform_143 : decode cX11_perform 143 = .ok (.invokevirtual 252, 3) := by decide +kernel
theorem dX11_perform_146 : decode cX11_perform 146 = .ok (.iadd, 1) := by decide +kernel
theorem dX11_perform_147 : decode cX11_perform 147 = .ok (.putfield 205, 3) := by decide +kernel
theorem dX11_perform_150 : decode cX11_perform 150 = .ok (.goto 22, 3) := by decide +kernel
theorem dX11_perform_153 : decode cX11_perform 153 = .ok (.aload_n 1, 1) := by decide +kernel
theorem dX11_perform_154 : decode cX11_perform 154 = .ok (.getfield 224, 3) := by decide +kernel
theorem dX11_perform_157 : decode cX11_perform 157 = .ok (.iconst 2, 1) := by decide +kernel
theorem dX11_perform_158 : decode cX11_perform 158 = .ok (.if_icmp .ne 14, 3) := by decide +kernel
theorem dX11_perform_161 : decode cX11_perform 161 = .ok (.aload_n 0, 1) := by decide +kernel
theorem dX11_perform_162 : decode cX11_perform 162 = .ok (.getfield 33, 3) := by decide +kernel
theorem dX11_perform_165 : decode cX11_perform 165 = .ok (.aload_n 0, 1) := by decide +kernel
theorem dX11_perform_166 : decode cX11_perform 166 = .ok (.getfield 51, 3) := by decide +kernel
theorem dX11_perform_169 : decode cX11_perform 169 = .ok (.invokevirtual 256, 3) := by decide +kernel
theorem dX11_perform_172 : decode cX11_perform 172 = .ok (.iconst 1, 1) := by decide +kernel
theorem dX11_perform_173 : decode cX11_perform 173 = .ok (.ireturn, 1) := by decide +kernel
set_option maxRecDepth 20000 in
theorem ggX11_treeOf_X2_init : GoodIn wsX11_treeOf wsX2_init := goodIn_r _ [9, 10, 11, 12, 13, 14, 15, 16, 32] (by decide +kernel) (by decide +kernel)
set_option maxRecDepth 20000 in
theorem gX11_treeOf_X2_init : GoodIn wsX11_treeOf (wsX2_init) := ggX11_treeOf_X2_init
set_option maxRecDepth 20000 in
theorem ggX11_treeOf_X1_init : GoodIn wsX11_treeOf wsX1_init := goodIn_r _ [19, 20, 21, 22, 23, 24, 25, 26, 11, 12, 13, 14, 15, 16, 27, 28, 29, 30, 31, 37, 38, 33, 34, 35, 36] (by decide +kernel) (by decide +kernel)
set_option maxRecDepth 20000 in
theorem gX11_treeOf_X1_init : GoodIn wsX11_treeOf (wsX1_init) := ggX11_treeOf_X1_init
theorem dX11_treeOf_0 : decode cX11_treeOf 0 = .ok (.iload_n 0, 1) := by decide +kernel
theorem dX11_treeOf_1 : decode cX11_treeOf 1 = .ok (.ifCond .ne 12, 3) := by decide +kernel
theorem dX11_treeOf_4 : decode cX11_treeOf 4 = .ok (.new 259, 3) := by decide +kernel
theorem dX11_treeOf_7 : decode cX11_treeOf 7 = .ok (.dup, 1) := by decide +kernel
theorem dX11_treeOf_8 : decode cX11_treeOf 8 = .ok (.iload_n 1, 1) := by decide +kernel
theorem dX11_treeOf_9 : decode cX11_treeOf 9 = .ok (.invokespecial 261, 3) := by decide +kernel
theorem dX11_treeOf_12 : decode cX11_treeOf 12 = .ok (.areturn, 1) := by decide +kernel
theorem dX11_treeOf_13 : decode cX11_treeOf 13 = .ok (.new 263, 3) := by decide +kernel
theorem dX11_treeOf_16 : decode cX11_treeOf 16 = .ok (.dup, 1) := by decide +kernel
theorem dX11_treeOf_17 : decode cX11_treeOf 17 = .ok (.iload_n 0, 1) := by decide +kernel
theorem dX11_treeOf_18 : decode cX11_treeOf 18 = .ok (.new 259, 3) := by decide +kernel
theorem dX11_treeOf_21 : decode cX11_treeOf 21 = .ok (.dup, 1) := by decide +kernel
theorem dX11_treeOf_22 : decode cX11_treeOf 22 = .ok (.iload_n 1, 1) := by decide +kernel
theorem dX11_treeOf_23 : decode cX11_treeOf 23 = .ok (.invokespecial 261, 3) := by decide +kernel
theorem dX11_treeOf_26 : decode cX11_treeOf 26 = .ok (.new 259, 3) := by decide +kernel
theorem dX11_treeOf_29 : decode cX11_treeOf 29 = .ok (.dup, 1) := by decide +kernel
theorem dX11_treeOf_30 : decode cX11_treeOf 30 = .ok (.iload_n 2, 1) := by decide +kernel
theorem dX11_treeOf_31 : decode cX11_treeOf 31 = .ok (.invokespecial 261, 3) := by decide +kernel
theorem dX11_treeOf_34 : decode cX11_treeOf 34 = .ok (.invokespecial 265, 3) := by decide +kernel
theorem dX11_treeOf_37 : decode cX11_treeOf 37 = .ok (.areturn, 1) := by decide +kernel
theorem dX11_codeOf_0 : decode cX11_codeOf 0 = .ok (.iload_n 0, 1) := by decide +kernel
theorem dX11_codeOf_1 : decode cX11_codeOf 1 = .ok (.ifCond .ne 15, 3) := by decide +kernel
theorem dX11_codeOf_4 : decode cX11_codeOf 4 = .ok (.iconst 2, 1) := by decide +kernel
theorem dX11_codeOf_5 : decode cX11_codeOf 5 = .ok (.newarray .int, 2) := by decide +kernel
theorem dX11_codeOf_7 : decode cX11_codeOf 7 = .ok (.dup, 1) := by decide +kernel
theorem dX11_codeOf_8 : decode cX11_codeOf 8 = .ok (.iconst 0, 1) := by decide +kernel
theorem dX11_codeOf_9 : decode cX11_codeOf 9 = .ok (.iconst 0, 1) := by decide +kernel
theorem dX11_codeOf_10 : decode cX11_codeOf 10 = .ok (.iastore, 1) := by decide +kernel
theorem dX11_codeOf_11 : decode cX11_codeOf 11 = .ok (.dup, 1) := by decide +kernel
theorem dX11_codeOf_12 : decode cX11_codeOf 12 = .ok (.iconst 1, 1) := by decide +kernel
theorem dX11_codeOf_13 : decode cX11_codeOf 13 = .ok (.iload_n 1, 1) := by decide +kernel
theorem dX11_codeOf_14 : decode cX11_codeOf 14 = .ok (.iastore, 1) := by decide +kernel
theorem dX11_codeOf_15 : decode cX11_codeOf 15 = .ok (.areturn, 1) := by decide +kernel
theorem dX11_codeOf_16 : decode cX11_codeOf 16 = .ok (.bipush 6, 2) := by decide +kernel
theorem dX11_codeOf_18 : decode cX11_codeOf 18 = .ok (.newarray .int, 2) := by decide +kernel
theorem dX11_codeOf_20 : decode cX11_codeOf 20 = .ok (.dup, 1) := by decide +kernel
theorem dX11_codeOf_21 : decode cX11_codeOf 21 = .ok (.iconst 0, 1) := by decide +kernel
theorem dX11_codeOf_22 : decode cX11_codeOf 22 = .ok (.iconst 0, 1) := by decide +kernel
theorem dX11_codeOf_23 : decode cX11_codeOf 23 = .ok (.iastore, 1) := by decide +kernel
theorem dX11_codeOf_24 : decode cX11_codeOf 24 = .ok (.dup, 1) := by decide +kernel
theorem dX11_codeOf_25 : decode cX11_codeOf 25 = .ok (.iconst 1, 1) := by decide +kernel
theorem dX11_codeOf_26 : decode cX11_codeOf 26 = .ok (.iload_n 1, 1) := by decide +kernel
theorem dX11_codeOf_27 : decode cX11_codeOf 27 = .ok (.iastore, 1) := by decide +kernel
theorem dX11_codeOf_28 : decode cX11_codeOf 28 = .ok (.dup, 1) := by decide +kernel
theorem dX11_codeOf_29 : decode cX11_codeOf 29 = .ok (.iconst 2, 1) := by decide +kernel
theorem dX11_codeOf_30 : decode cX11_codeOf 30 = .ok (.iconst 0, 1) := by decide +kernel
theorem dX11_codeOf_31 : decode cX11_codeOf 31 = .ok (.iastore, 1) := by decide +kernel
theorem dX11_codeOf_32 : decode cX11_codeOf 32 = .ok (.dup, 1) := by decide +kernel
theorem dX11_codeOf_33 : decode cX11_codeOf 33 = .ok (.iconst 3, 1) := by decide +kernel
theorem dX11_codeOf_34 : decode cX11_codeOf 34 = .ok (.iload_n 2, 1) := by decide +kernel
theorem dX11_codeOf_35 : decode cX11_codeOf 35 = .ok (.iastore, 1) := by decide +kernel
theorem dX11_codeOf_36 : decode cX11_codeOf 36 = .ok (.dup, 1) := by decide +kernel
theorem dX11_codeOf_37 : decode cX11_codeOf 37 = .ok (.iconst 4, 1) := by decide +kernel
theorem dX11_codeOf_38 : decode cX11_codeOf 38 = .ok (.iload_n 0, 1) := by decide +kernel
theorem dX11_codeOf_39 : decode cX11_codeOf 39 = .ok (.iastore, 1) := by decide +kernel
theorem dX11_codeOf_40 : decode cX11_codeOf 40 = .ok (.dup, 1) := by decide +kernel
theorem dX11_codeOf_41 : decode cX11_codeOf 41 = .ok (.iconst 5, 1) := by decide +kernel
theorem dX11_codeOf_42 : decode cX11_codeOf 42 = .ok (.iconst 0, 1) := by decide +kernel
theorem dX11_codeOf_43 : decode cX11_codeOf 43 = .ok (.iastore, 1) := by decide +kernel
theorem dX11_codeOf_44 : decode cX11_codeOf 44 = .ok (.areturn, 1) := by decide +kernel
set_option maxRecDepth 20000 in
theorem ggX11_combine_X10_add : GoodIn wsX11_combine wsX10_add := goodIn_r _ [5, 6, 7, 8, 9, 10, 4, 11, 40, 41] (by decide +kernel) (by decide +kernel)
set_option maxRecDepth 20000 in
theorem gX11_combine_X10_add : GoodIn wsX11_combine (wsV RX11 268 RX10 yX10_add wsX10_add) := goodIn_app (goodIn_of _ (by decide +kernel)) ggX11_combine_X10_add
set_option maxRecDepth 20000 in
theorem ggX11_combine_X10_asNumber : GoodIn wsX11_combine wsX10_asNumber := goodIn_r _ [15, 7, 16, 17, 18, 4, 19, 6, 20, 21, 22, 23, 40, 41] (by decide +kernel) (by decide +kernel)
set_option maxRecDepth 20000 in
theorem gX11_combine_X10_asNumber : GoodIn wsX11_combine (wsV RX11 180 RX10 yX10_asNumber wsX10_asNumber) := goodIn_app (goodIn_of _ (by decide +kernel)) ggX11_combine_X10_asNumber
set_option maxRecDepth 20000 in
theorem ggX11_combine_X11_calculate : GoodIn wsX11_combine wsX11_calculate := goodIn_r _ [27] (by decide +kernel) (by decide +kernel)
set_option maxRecDepth 20000 in
theorem gX11_combine_X11_calculate : GoodIn wsX11_combine (va_wsS RX11 270 yX11_calculate wsX11_calculate) := goodIn_app (goodIn_of _ (by decide +kernel)) ggX11_combine_X11_calculate
set_option maxRecDepth 20000 in
theorem ggX11_combine_X11_isInt : GoodIn wsX11_combine wsX11_isInt := goodIn_r _ [30, 31, 32] (by decide +kernel) (by decide +kernel)
set_option maxRecDepth 20000 in
theorem gX11_combine_X11_isInt : GoodIn wsX11_combine (va_wsS RX11 274 yX11_isInt wsX11_isInt) := goodIn_app (goodIn_of _ (by decide +kernel)) ggX11_combine_X11_isInt
set_option maxRecDepth 20000 in
theorem ggX11_combine_X10_write : GoodIn wsX11_combine wsX10_write := goodIn_r _ [36, 6, 7, 37, 38, 39, 40, 41] (by decide +kernel) (by decide +kernel)
set_option maxRecDepth 20000 in
theorem gX11_combine_X10_write : GoodIn wsX11_combine (wsV RX11 174 RX10 yX10_write wsX10_write) := goodIn_app (goodIn_of _ (by decide +kernel)) ggX11_combine_X10_write
theorem dX11_combine_0 : decode cX11_combine 0 = .ok (.iload_n 0, 1) := by decide +kernel
theorem dX11_combine_1 : decode cX11_combine 1 = .ok (.iconst 4, 1) := by decide +kernel
theorem dX11_combine_2 : decode cX11_combine 2 = .ok (.if_icmp .ne 10, 3) := by decide +kernel
theorem dX11_combine_5 : decode cX11_combine 5 = .ok (.aload_n 1, 1) := by decide +kernel
theorem dX11_combine_6 : decode cX11_combine 6 = .ok (.aload_n 2, 1) := by decide +kernel
theorem dX11_combine_7 : decode cX11_combine 7 = .ok (.invokevirtual 268, 3) := by decide +kernel
theorem dX11_combine_10 : decode cX11_combine 10 = .ok (.iconst 0, 1) := by decide +kernel
theorem dX11_combine_11 : decode cX11_combine 11 = .ok (.ireturn, 1) := by decide +kernel
theorem dX11_combine_12 : decode cX11_combine 12 = .ok (.iload_n 0, 1) := by decide +kernel
theorem dX11_combine_13 : decode cX11_combine 13 = .ok (.aload_n 1, 1) := by decide +kernel
theorem dX11_combine_14 : decode cX11_combine 14 = .ok (.invokevirtual 180, 3) := by decide +kernel
theorem dX11_combine_17 : decode cX11_combine 17 = .ok (.i2l, 1) := by decide +kernel
theorem dX11_combine_18 : decode cX11_combine 18 = .ok (.aload_n 2, 1) := by decide +kernel
theorem dX11_combine_19 : decode cX11_combine 19 = .ok (.invokevirtual 180, 3) := by decide +kernel
theorem dX11_combine_22 : decode cX11_combine 22 = .ok (.i2l, 1) := by decide +kernel
theorem dX11_combine_23 : decode cX11_combine 23 = .ok (.invokestatic 270, 3) := by decide +kernel
theorem dX11_combine_26 : decode cX11_combine 26 = .ok (.lstore_n 3, 1) := by decide +kernel
theorem dX11_combine_27 : decode cX11_combine 27 = .ok (.lload_n 3, 1) := by decide +kernel
theorem dX11_combine_28 : decode cX11_combine 28 = .ok (.invokestatic 274, 3) := by decide +kernel
theorem dX11_combine_31 : decode cX11_combine 31 = .ok (.istore 5, 2) := by decide +kernel
theorem dX11_combine_33 : decode cX11_combine 33 = .ok (.aload_n 1, 1) := by decide +kernel
theorem dX11_combine_34 : decode cX11_combine 34 = .ok (.iload 5, 2) := by decide +kernel
theorem dX11_combine_36 : decode cX11_combine 36 = .ok (.ifCond .eq 8, 3) := by decide +kernel
theorem dX11_combine_39 : decode cX11_combine 39 = .ok (.lload_n 3, 1) := by decide +kernel
theorem dX11_combine_40 : decode cX11_combine 40 = .ok (.l2i, 1) := by decide +kernel
theorem dX11_combine_41 : decode cX11_combine 41 = .ok (.goto 4, 3) := by decide +kernel
theorem dX11_combine_44 : decode cX11_combine 44 = .ok (.iconst 0, 1) := by decide +kernel
theorem dX11_combine_45 : decode cX11_combine 45 = .ok (.invokevirtual 174, 3) := by decide +kernel
theorem dX11_combine_48 : decode cX11_combine 48 = .ok (.iload 5, 2) := by decide +kernel
theorem dX11_combine_50 : decode cX11_combine 50 = .ok (.ifCond .eq 7, 3) := by decide +kernel
theorem dX11_combine_53 : decode cX11_combine 53 = .ok (.iconst 0, 1) := by decide +kernel
theorem dX11_combine_54 : decode cX11_combine 54 = .ok (.goto 4, 3) := by decide +kernel
theorem dX11_combine_57 : decode cX11_combine 57 = .ok (.iconst 1, 1) := by decide +kernel
theorem dX11_combine_58 : decode cX11_combine 58 = .ok (.ireturn, 1) := by decide +kernel
theorem dX11_calculate_0 : decode cX11_calculate 0 = .ok (.iload_n 0, 1) := by decide +kernel
theorem dX11_calculate_1 : decode cX11_calculate 1 = .ok (.tableswitch 39 1 3 #[27, 31, 35], 27) := by decide +kernel
theorem dX11_calculate_28 : decode cX11_calculate 28 = .ok (.lload_n 1, 1) := by decide +kernel
theorem dX11_calculate_29 : decode cX11_calculate 29 = .ok (.lload_n 3, 1) := by decide +kernel
theorem dX11_calculate_30 : decode cX11_calculate 30 = .ok (.ladd, 1) := by decide +kernel
theorem dX11_calculate_31 : decode cX11_calculate 31 = .ok (.lreturn, 1) := by decide +kernel
theorem dX11_calculate_32 : decode cX11_calculate 32 = .ok (.lload_n 1, 1) := by decide +kernel
theorem dX11_calculate_33 : decode cX11_calculate 33 = .ok (.lload_n 3, 1) := by decide +kernel
theorem dX11_calculate_34 : decode cX11_calculate 34 = .ok (.lsub, 1) := by decide +kernel
theorem dX11_calculate_35 : decode cX11_calculate 35 = .ok (.lreturn, 1) := by decide +kernel
theorem dX11_calculate_36 : decode cX11_calculate 36 = .ok (.lload_n 1, 1) := by decide +kernel
theorem dX11_calculate_37 : decode cX11_calculate 37 = .ok (.lload_n 3, 1) := by decide +kernel
theorem dX11_calculate_38 : decode cX11_calculate 38 = .ok (.lmul, 1) := by decide +kernel
theorem dX11_calculate_39 : decode cX11_calculate 39 = .ok (.lreturn, 1) := by decide +kernel
theorem dX11_calculate_40 : decode cX11_calculate 40 = .ok (.lload_n 1, 1) := by decide +kernel
theorem dX11_calculate_41 : decode cX11_calculate 41 = .ok (.lreturn, 1) := by decide +kernel
theorem dX11_isInt_0 : decode cX11_isInt 0 = .ok (.lload_n 0, 1) := by decide +kernel
theorem dX11_isInt_1 : decode cX11_isInt 1 = .ok (.ldc2_w 280, 3) := by decide +kernel
theorem dX11_isInt_4 : decode cX11_isInt 4 = .ok (.lcmp, 1) := by decide +kernel
theorem dX11_isInt_5 : decode cX11_isInt 5 = .ok (.ifCond .lt 15, 3) := by decide +kernel
theorem dX11_isInt_8 : decode cX11_isInt 8 = .ok (.lload_n 0, 1) := by decide +kernel
theorem dX11_isInt_9 : decode cX11_isInt 9 = .ok (.ldc2_w 282, 3) := by decide +kernel
theorem dX11_isInt_12 : decode cX11_isInt 12 = .ok (.lcmp, 1) := by decide +kernel
theorem dX11_isInt_13 : decode cX11_isInt 13 = .ok (.ifCond .gt 7, 3) := by decide +kernel
theorem dX11_isInt_16 : decode cX11_isInt 16 = .ok (.iconst 1, 1) := by decide +kernel
theorem dX11_isInt_17 : decode cX11_isInt 17 = .ok (.goto 4, 3) := by decide +kernel
theorem dX11_isInt_20 : decode cX11_isInt 20 = .ok (.iconst 0, 1) := by decide +kernel
theorem dX11_isInt_21 : decode cX11_isInt 21 = .ok (.ireturn, 1) := by decide +kernel
theorem dJ9_max_7cf53_0 : decode cJ9_max_7cf53 0 = .ok (.iload_n 0, 1) := by decide +kernel
theorem dJ9_max_7cf53_1 : decode cJ9_max_7cf53 1 = .ok (.iload_n 1, 1) := by decide +kernel
theorem dJ9_max_7cf53_2 : decode cJ9_max_7cf53 2 = .ok (.if_icmp .lt 7, 3) := by decide +kernel
theorem dJ9_max_7cf53_5 : decode cJ9_max_7cf53 5 = .ok (.iload_n 0, 1) := by decide +kernel
theorem dJ9_max_7cf53_6 : decode cJ9_max_7cf53 6 = .ok (.goto 4, 3) := by decide +kernel
theorem dJ9_max_7cf53_9 : decode cJ9_max_7cf53 9 = .ok (.iload_n 1, 1) := by decide +kernel
theorem dJ9_max_7cf53_10 : decode cJ9_max_7cf53 10 = .ok (.ireturn, 1) := by decide +kernel
theorem dJ9_min_7cf53_0 : decode cJ9_min_7cf53 0 = .ok (.iload_n 0, 1) := by decide +kernel
theorem dJ9_min_7cf53_1 : decode cJ9_min_7cf53 1 = .ok (.iload_n 1, 1) := by decide +kernel
theorem dJ9_min_7cf53_2 : decode cJ9_min_7cf53 2 = .ok (.if_icmp .gt 7, 3) := by decide +kernel
theorem dJ9_min_7cf53_5 : decode cJ9_min_7cf53 5 = .ok (.iload_n 0, 1) := by decide +kernel
theorem dJ9_min_7cf53_6 : decode cJ9_min_7cf53 6 = .ok (.goto 4, 3) := by decide +kernel
theorem dJ9_min_7cf53_9 : decode cJ9_min_7cf53 9 = .ok (.iload_n 1, 1) := by decide +kernel
theorem dJ9_min_7cf53_10 : decode cJ9_min_7cf53 10 = .ok (.ireturn, 1) := by decide +kernel
theorem dJxa1e45_init_da8c8_0 : decode cJxa1e45_init_da8c8 0 = .ok (.aload_n 0, 1) := by decide +kernel
theorem dJxa1e45_init_da8c8_1 : decode cJxa1e45_init_da8c8 1 = .ok (.invokespecial 1, 3) := by decide +kernel
theorem dJxa1e45_init_da8c8_4 : decode cJxa1e45_init_da8c8 4 = .ok (.return_, 1) := by decide +kernel
set_option maxRecDepth 20000 in
theorem ggJxc12de_init_da8c8_Jxa1e45_init_da8c8 : GoodIn wsJxc12de_init_da8c8 wsJxa1e45_init_da8c8 := goodIn_r _ [5, 6, 7, 8] (by decide +kernel) (by decide +kernel)
set_option maxRecDepth 20000 in
theorem gJxc12de_init_da8c8_Jxa1e45_init_da8c8 : GoodIn wsJxc12de_init_da8c8 (wsJxa1e45_init_da8c8) := ggJxc12de_init_da8c8_Jxa1e45_init_da8c8
theorem dJxc12de_init_da8c8_0 : decode cJxc12de_init_da8c8 0 = .ok (.aload_n 0, 1) := by decide +kernel
theorem dJxc12de_init_da8c8_1 : decode cJxc12de_init_da8c8 1 = .ok (.invokespecial 1, 3) := by decide +kernel
theorem dJxc12de_init_da8c8_4 : decode cJxc12de_init_da8c8 4 = .ok (.aload_n 0, 1) := by decide +kernel
theorem dJxc12de_init_da8c8_5 : decode cJxc12de_init_da8c8 5 = .ok (.iconst 0, 1) := by decide +kernel
theorem dJxc12de_init_da8c8_6 : decode cJxc12de_init_da8c8 6 = .ok (.putfield 7, 3) := by decide +kernel
theorem dJxc12de_init_da8c8_9 : decode cJxc12de_init_da8c8 9 = .ok (.return_, 1) := by decide +kernel
set_option maxRecDepth 20000 in
theorem ggJx4a65c_init_da8c8_Jxc12de_init_da8c8 : GoodIn wsJx4a65c_init_da8c8 wsJxc12de_init_da8c8 := goodIn_r _ [6, 7, 8, 9, 10, 11, 12, 13, 14, 15, 16, 17] (by decide +kernel) (by decide +kernel)
set_option maxRecDepth 20000 in
theorem gJx4a65c_init_da8c8_Jxc12de_init_da8c8 : GoodIn wsJx4a65c_init_da8c8 (wsJxc12de_init_da8c8) := ggJx4a65c_init_da8c8_Jxc12de_init_da8c8
theorem dJx4a65c_init_da8c8_0 : decode cJx4a65c_init_da8c8 0 = .ok (.aload_n 0, 1) := by decide +kernel
theorem dJx4a65c_init_da8c8_1 : decode cJx4a65c_init_da8c8 1 = .ok (.invokespecial 1, 3) := by decide +kernel
theorem dJx4a65c_init_da8c8_4 : decode cJx4a65c_init_da8c8 4 = .ok (.aload_n 0, 1) := by decide +kernel
theorem dJx4a65c_init_da8c8_5 : decode cJx4a65c_init_da8c8 5 = .ok (.getstatic 39, 3) := by decide +kernel
theorem dJx4a65c_init_da8c8_8 : decode cJx4a65c_init_da8c8 8 = .ok (.putfield 9, 3) := by decide +kernel
theorem dJx4a65c_init_da8c8_11 : decode cJx4a65c_init_da8c8 11 = .ok (.return_, 1) := by decide +kernel
set_option maxRecDepth 20000 in
theorem ggJx4a65c_grow_92f84_J8_newLength_cabcc : GoodIn wsJx4a65c_grow_92f84 wsJ8_newLength_cabcc := goodIn_r _ [11, 12, 4, 5, 6, 13, 14, 15, 10, 16] (by decide +kernel) (by decide +kernel)
set_option maxRecDepth 20000 in
theorem gJx4a65c_grow_92f84_J8_newLength_cabcc : GoodIn wsJx4a65c_grow_92f84 (va_wsS RJx4a65c 73 yJ8_newLength_cabcc wsJ8_newLength_cabcc) := goodIn_app (goodIn_of _ (by decide +kernel)) ggJx4a65c_grow_92f84_J8_newLength_cabcc
set_option maxRecDepth 20000 in
theorem ggJx4a65c_grow_92f84_J7_copyOf_1904c : GoodIn wsJx4a65c_grow_92f84 wsJ7_copyOf_1904c := goodIn_r _ [20, 21, 22, 23, 24, 25, 26, 19, 27, 28, 29, 30, 31, 5, 32, 33, 34, 35, 36] (by decide +kernel) (by decide +kernel)
set_option maxRecDepth 20000 in
theorem gJx4a65c_grow_92f84_J7_copyOf_1904c : GoodIn wsJx4a65c_grow_92f84 (va_wsS RJx4a65c 66 yJ7_copyOf_1904c wsJ7_copyOf_1904c) := goodIn_app (goodIn_of _ (by decide +kernel)) ggJx4a65c_grow_92f84_J7_copyOf_1904c
theorem dJx4a65c_grow_92f84_0 : decode cJx4a65c_grow_92f84 0 = .ok (.aload_n 0, 1) := by decide +kernel
theorem dJx4a65c_grow_92f84_1 : decode cJx4a65c_grow_92f84 1 = .ok (.getfield 9, 3) := by decide +kernel
theorem dJx4a65c_grow_92f84_4 : decode cJx4a65c_grow_92f84 4 = .ok (.arraylength, 1) := by decide +kernel
theorem dJx4a65c_grow_92f84_5 : decode cJx4a65c_grow_92f84 5 = .ok (.istore_n 2, 1) := by decide +kernel
theorem dJx4a65c_grow_92f84_6 : decode cJx4a65c_grow_92f84 6 = .ok (.iload_n 2, 1) := by decide +kernel
theorem dJx4a65c_grow_92f84_7 : decode cJx4a65c_grow_92f84 7 = .ok (.ifCond .gt 13, 3) := by decide +kernel
theorem dJx4a65c_grow_92f84_10 : decode cJx4a65c_grow_92f84 10 = .ok (.aload_n 0, 1) := by decide +kernel
theorem dJx4a65c_grow_92f84_11 : decode cJx4a65c_grow_92f84 11 = .ok (.getfield 9, 3) := by decide +kernel
theorem dJx4a65c_grow_92f84_14 : decode cJx4a65c_grow_92f84 14 = .ok (.getstatic 39, 3) := by decide +kernel
theorem dJx4a65c_grow_92f84_17 : decode cJx4a65c_grow_92f84 17 = .ok (.if_acmp .eq 28, 3) := by decide +kernel
theorem dJx4a65c_grow_92f84_20 : decode cJx4a65c_grow_92f84 20 = .ok (.iload_n 2, 1) := by decide +kernel
theorem dJx4a65c_grow_92f84_21 : decode cJx4a65c_grow_92f84 21 = .ok (.iload_n 1, 1) := by decide +kernel
theorem dJx4a65c_grow_92f84_22 : decode cJx4a65c_grow_92f84 22 = .ok (.iload_n 2, 1) := by decide +kernel
theorem dJx4a65c_grow_92f84_23 : decode cJx4a65c_grow_92f84 23 = .ok (.isub, 1) := by decide +kernel
theorem dJx4a65c_grow_92f84_24 : decode cJx4a65c_grow_92f84 24 = .ok (.iload_n 2, 1) := by decide +kernel
theorem dJx4a65c_grow_92f84_25 : decode cJx4a65c_grow_92f84 25 = .ok (.iconst 1, 1) := by decide +kernel
theorem dJx4a65c_grow_92f84_26 : decode cJx4a65c_grow_92f84 26 = .ok (.ishr, 1) := by decide +kernel
theorem dJx4a65c_grow_92f84_27 : decode cJx4a65c_grow_92f84 27 = .ok (.invokestatic 73, 3) := by decide +kernel
theorem dJx4a65c_grow_92f84_30 : decode cJx4a65c_grow_92f84 30 = .ok (.istore_n 3, 1) := by decide +kernel
theorem dJx4a65c_grow_92f84_31 : decode cJx4a65c_grow_92f84 31 = .ok (.aload_n 0, 1) := by decide +kernel
theorem dJx4a65c_grow_92f84_32 : decode cJx4a65c_grow_92f84 32 = .ok (.aload_n 0, 1) := by decide +kernel
theorem dJx4a65c_grow_92f84_33 : decode cJx4a65c_grow_92f84 33 = .ok (.getfield 9, 3) := by decide +kernel
theorem dJx4a65c_grow_92f84_36 : decode cJx4a65c_grow_92f84 36 = .ok (.iload_n 3, 1) := by decide +kernel
theorem dJx4a65c_grow_92f84_37 : decode cJx4a65c_grow_92f84 37 = .ok (.invokestatic 66, 3) := by decide +kernel
theorem dJx4a65c_grow_92f84_40 : decode cJx4a65c_grow_92f84 40 = .ok (.dup_x1, 1) := by decide +kernel
theorem dJx4a65c_grow_92f84_41 : decode cJx4a65c_grow_92f84 41 = .ok (.putfield 9, 3) := by decide +kernel
theorem dJx4a65c_grow_92f84_44 : decode cJx4a65c_grow_92f84 44 = .ok (.areturn, 1) := by decide +kernel
theorem dJx4a65c_grow_92f84_45 : decode cJx4a65c_grow_92f84 45 = .ok (.aload_n 0, 1) := by decide +kernel
theorem dJx4a65c_grow_92f84_46 : decode cJx4a65c_grow_92f84 46 = .ok (.bipush 10, 2) := by decide +kernel
theorem dJx4a65c_grow_92f84_48 : decode cJx4a65c_grow_92f84 48 = .ok (.iload_n 1, 1) := by decide +kernel
theorem dJx4a65c_grow_92f84_49 : decode cJx4a65c_grow_92f84 49 = .ok (.invokestatic 79, 3) := by decide +kernel
theorem dJx4a65c_grow_92f84_52 : decode cJx4a65c_grow_92f84 52 = .ok (.anewarray 7, 3) := by decide +kernel
theorem dJx4a65c_grow_92f84_55 : decode cJx4a65c_grow_92f84 55 = .ok (.dup_x1, 1) := by decide +kernel
theorem dJx4a65c_grow_92f84_56 : decode cJx4a65c_grow_92f84 56 = .ok (.putfield 9, 3) := by decide +kernel
theorem dJx4a65c_grow_92f84_59 : decode cJx4a65c_grow_92f84 59 = .ok (.areturn, 1) := by decide +kernel
set_option maxRecDepth 20000 in
theorem ggJx4a65c_grow_d5877_Jx4a65c_grow_92f84 : GoodIn wsJx4a65c_grow_d5877 wsJx4a65c_grow_92f84 := goodIn_r _ [6, 7, 8, 9, 10, 11, 12, 13, 14, 15, 16, 17, 18, 19, 20, 21, 22, 23, 24, 25, 26, 27, 28, 29, 30, 31, 32, 33, 34, 35, 36, 37, 38, 39, 40, 41, 42, 43, 44, 45] (by decide +kernel) (by decide +kernel)
set_option maxRecDepth 20000 in
theorem gJx4a65c_grow_d5877_Jx4a65c_grow_92f84 : GoodIn wsJx4a65c_grow_d5877 (wsV RJx4a65c 69 RJx4a65c yJx4a65c_grow_92f84 wsJx4a65c_grow_92f84) := goodIn_app (goodIn_of _ (by decide +kernel)) ggJx4a65c_grow_d5877_Jx4a65c_grow_92f84
theorem dJx4a65c_grow_d5877_0 : decode cJx4a65c_grow_d5877 0 = .ok (.aload_n 0, 1) := by decide +kernel
theorem dJx4a65c_grow_d5877_1 : decode cJx4a65c_grow_d5877 1 = .ok (.aload_n 0, 1) := by decide +kernel
theorem dJx4a65c_grow_d5877_2 : decode cJx4a65c_grow_d5877 2 = .ok (.getfield 48, 3) := by decide +kernel
theorem dJx4a65c_grow_d5877_5 : decode cJx4a65c_grow_d5877 5 = .ok (.iconst 1, 1) := by decide +kernel
theorem dJx4a65c_grow_d5877_6 : decode cJx4a65c_grow_d5877 6 = .ok (.iadd, 1) := by decide +kernel
theorem dJx4a65c_grow_d5877_7 : decode cJx4a65c_grow_d5877 7 = .ok (.invokevirtual 69, 3) := by decide +kernel
theorem dJx4a65c_grow_d5877_10 : decode cJx4a65c_grow_d5877 10 = .ok (.areturn, 1) := by decide +kernel
theorem dJx4a65c_size_8abf5_0 : decode cJx4a65c_size_8abf5 0 = .ok (.aload_n 0, 1) := by decide +kernel
theorem dJx4a65c_size_8abf5_1 : decode cJx4a65c_size_8abf5 1 = .ok (.getfield 48, 3) := by decide +kernel
theorem dJx4a65c_size_8abf5_4 : decode cJx4a65c_size_8abf5 4 = .ok (.ireturn, 1) := by decide +kernel
theorem dJx4a65c_elementData_915e3_0 : decode cJx4a65c_elementData_915e3 0 = .ok (.aload_n 0, 1) := by decide +kernel
theorem dJx4a65c_elementData_915e3_1 : decode cJx4a65c_elementData_915e3 1 = .ok (.getfield 9, 3) := by decide +kernel
theorem dJx4a65c_elementData_915e3_4 : decode cJx4a65c_elementData_915e3 4 = .ok (.iload_n 1, 1) := by decide +kernel
theorem dJx4a65c_elementData_915e3_5 : decode cJx4a65c_elementData_915e3 5 = .ok (.aaload, 1) := by decide +kernel
theorem dJx4a65c_elementData_915e3_6 : decode cJx4a65c_elementData_915e3 6 = .ok (.areturn, 1) := by decide +kernel
set_option maxRecDepth 20000 in
theorem ggJx4a65c_get_915e3_J15_checkIndex_7cf53 : GoodIn wsJx4a65c_get_915e3 wsJ15_checkIndex_7cf53 := goodIn_r _ [5, 6, 7, 8, 9] (by decide +kernel) (by decide +kernel)
set_option maxRecDepth 20000 in
theorem gJx4a65c_get_915e3_J15_checkIndex_7cf53 : GoodIn wsJx4a65c_get_915e3 (va_wsS RJx4a65c 118 yJ15_checkIndex_7cf53 wsJ15_checkIndex_7cf53) := goodIn_app (goodIn_of _ (by decide +kernel)) ggJx4a65c_get_915e3_J15_checkIndex_7cf53
set_option maxRecDepth 20000 in
theorem ggJx4a65c_get_915e3_Jx4a65c_elementData_915e3 : GoodIn wsJx4a65c_get_915e3 wsJx4a65c_elementData_915e3 := goodIn_r _ [14, 15, 16, 17, 18] (by decide +kernel) (by decide +kernel)
set_option maxRecDepth 20000 in
theorem gJx4a65c_get_915e3_Jx4a65c_elementData_915e3 : GoodIn wsJx4a65c_get_915e3 (wsV RJx4a65c 123 RJx4a65c yJx4a65c_elementData_915e3 wsJx4a65c_elementData_915e3) := goodIn_app (goodIn_of _ (by decide +kernel)) ggJx4a65c_get_915e3_Jx4a65c_elementData_915e3
theorem dJx4a65c_get_915e3_0 : decode cJx4a65c_get_915e3 0 = .ok (.iload_n 1, 1) := by decide +kernel
theorem dJx4a65c_get_915e3_1 : decode cJx4a65c_get_915e3 1 = .ok (.aload_n 0, 1) := by decide +kernel
theorem dJx4a65c_get_915e3_2 : decode cJx4a65c_get_915e3 2 = .ok (.getfield 48, 3) := by decide +kernel
theorem dJx4a65c_get_915e3_5 : decode cJx4a65c_get_915e3 5 = .ok (.invokestatic 118, 3) := by decide +kernel
theorem dJx4a65c_get_915e3_8 : decode cJx4a65c_get_915e3 8 = .ok (.pop, 1) := by decide +kernel
theorem dJx4a65c_get_915e3_9 : decode cJx4a65c_get_915e3 9 = .ok (.aload_n 0, 1) := by decide +kernel
theorem dJx4a65c_get_915e3_10 : decode cJx4a65c_get_915e3 10 = .ok (.iload_n 1, 1) := by decide +kernel
theorem dJx4a65c_get_915e3_11 : decode cJx4a65c_get_915e3 11 = .ok (.invokevirtual 123, 3) := by decide +kernel
theorem dJx4a65c_get_915e3_14 : decode cJx4a65c_get_915e3 14 = .ok (.areturn, 1) := by decide +kernel
set_option maxRecDepth 20000 in
theorem ggJx4a65c_add_72be8_Jx4a65c_grow_d5877 : GoodIn wsJx4a65c_add_72be8 wsJx4a65c_grow_d5877 := goodIn_r _ [6, 1, 7, 8, 9, 5, 10, 11, 12, 13, 14, 15, 16, 17, 18, 19, 20, 21, 22, 23, 24, 25, 26, 27, 28, 29, 30, 31, 32, 33, 34, 35, 36, 37, 38, 39, 40, 41, 42, 43, 44, 45, 46, 47, 48, 49] (by decide +kernel) (by decide +kernel)
set_option maxRecDepth 20000 in
theorem gJx4a65c_add_72be8_Jx4a65c_grow_d5877 : GoodIn wsJx4a65c_add_72be8 (wsV RJx4a65c 129 RJx4a65c yJx4a65c_grow_d5877 wsJx4a65c_grow_d5877) := goodIn_app (goodIn_of _ (by decide +kernel)) ggJx4a65c_add_72be8_Jx4a65c_grow_d5877
theorem dJx4a65c_add_72be8_0 : decode cJx4a65c_add_72be8 0 = .ok (.iload_n 3, 1) := by decide +kernel
theorem dJx4a65c_add_72be8_1 : decode cJx4a65c_add_72be8 1 = .ok (.aload_n 2, 1) := by decide +kernel
theorem dJx4a65c_add_72be8_2 : decode cJx4a65c_add_72be8 2 = .ok (.arraylength, 1) := by decide +kernel
theorem dJx4a65c_add_72be8_3 : decode cJx4a65c_add_72be8 3 = .ok (.if_icmp .ne 8, 3) := by decide +kernel
theorem dJx4a65c_add_72be8_6 : decode cJx4a65c_add_72be8 6 = .ok (.aload_n 0, 1) := by decide +kernel
theorem dJx4a65c_add_72be8_7 : decode cJx4a65c_add_72be8 7 = .ok (.invokevirtual 129, 3) := by decide +kernel
theorem dJx4a65c_add_72be8_10 : decode cJx4a65c_add_72be8 10 = .ok (.astore_n 2, 1) := by decide +kernel
theorem dJx4a65c_add_72be8_11 : decode cJx4a65c_add_72be8 11 = .ok (.aload_n 2, 1) := by decide +kernel
theorem dJx4a65c_add_72be8_12 : decode cJx4a65c_add_72be8 12 = .ok (.iload_n 3, 1) := by decide +kernel
theorem dJx4a65c_add_72be8_13 : decode cJx4a65c_add_72be8 13 = .ok (.aload_n 1, 1) := by decide +kernel
theorem dJx4a65c_add_72be8_14 : decode cJx4a65c_add_72be8 14 = .ok (.aastore, 1) := by decide +kernel
theorem dJx4a65c_add_72be8_15 : decode cJx4a65c_add_72be8 15 = .ok (.aload_n 0, 1) := by decide +kernel
theorem dJx4a65c_add_72be8_16 : decode cJx4a65c_add_72be8 16 = .ok (.iload_n 3, 1) := by decide +kernel
theorem dJx4a65c_add_72be8_17 : decode cJx4a65c_add_72be8 17 = .ok (.iconst 1, 1) := by decide +kernel
theorem dJx4a65c_add_72be8_18 : decode cJx4a65c_add_72be8 18 = .ok (.iadd, 1) := by decide +kernel
theorem dJx4a65c_add_72be8_19 : decode cJx4a65c_add_72be8 19 = .ok (.putfield 48, 3) := by decide +kernel
theorem dJx4a65c_add_72be8_22 : decode cJx4a65c_add_72be8 22 = .ok (.return_, 1) := by decide +kernel
set_option maxRecDepth 20000 in
theorem ggJx4a65c_add_9ea2d_Jx4a65c_add_72be8 : GoodIn wsJx4a65c_add_9ea2d wsJx4a65c_add_72be8 := goodIn_r _ [9, 4, 10, 11, 12, 8, 13, 14, 15, 16, 17, 3, 18, 19, 20, 21, 22, 23, 24, 25, 26, 27, 28, 29, 30, 31, 32, 33, 34, 35, 36, 37, 38, 39, 40, 41, 42, 43, 44, 45, 46, 47, 48, 49, 50, 51, 52, 53, 54, 55] (by decide +kernel) (by decide +kernel)
set_option maxRecDepth 20000 in
theorem gJx4a65c_add_9ea2d_Jx4a65c_add_72be8 : GoodIn wsJx4a65c_add_9ea2d (wsV RJx4a65c 131 RJx4a65c yJx4a65c_add_72be8 wsJx4a65c_add_72be8) := goodIn_app (goodIn_of _ (by decide +kernel)) ggJx4a65c_add_9ea2d_Jx4a65c_add_72be8
theorem dJx4a65c_add_9ea2d_0 : decode cJx4a65c_add_9ea2d 0 = .ok (.aload_n 0, 1) := by decide +kernel
theorem dJx4a65c_add_9ea2d_1 : decode cJx4a65c_add_9ea2d 1 = .ok (.dup, 1) := by decide +kernel
theorem dJx4a65c_add_9ea2d_2 : decode cJx4a65c_add_9ea2d 2 = .ok (.getfield 63, 3) := by decide +kernel
theorem dJx4a65c_add_9ea2d_5 : decode cJx4a65c_add_9ea2d 5 = .ok (.iconst 1, 1) := by decide +kernel
theorem dJx4a65c_add_9ea2d_6 : decode cJx4a65c_add_9ea2d 6 = .ok (.iadd, 1) := by decide +kernel
theorem dJx4a65c_add_9ea2d_7 : decode cJx4a65c_add_9ea2d 7 = .ok (.putfield 63, 3) := by decide +kernel
theorem dJx4a65c_add_9ea2d_10 : decode cJx4a65c_add_9ea2d 10 = .ok (.aload_n 0, 1) := by decide +kernel
theorem dJx4a65c_add_9ea2d_11 : decode cJx4a65c_add_9ea2d 11 = .ok (.aload_n 1, 1) := by decide +kernel
theorem dJx4a65c_add_9ea2d_12 : decode cJx4a65c_add_9ea2d 12 = .ok (.aload_n 0, 1) := by decide +kernel
theorem dJx4a65c_add_9ea2d_13 : decode cJx4a65c_add_9ea2d 13 = .ok (.getfield 9, 3) := by decide +kernel
theorem dJx4a65c_add_9ea2d_16 : decode cJx4a65c_add_9ea2d 16 = .ok (.aload_n 0, 1) := by decide +kernel
theorem dJx4a65c_add_9ea2d_17 : decode cJx4a65c_add_9ea2d 17 = .ok (.getfield 48, 3) := by decide +kernel
theorem dJx4a65c_add_9ea2d_20 : decode cJx4a65c_add_9ea2d 20 = .ok (.invokevirtual 131, 3) := by decide +kernel
theorem dJx4a65c_add_9ea2d_23 : decode cJx4a65c_add_9ea2d 23 = .ok (.iconst 1, 1) := by decide +kernel
theorem dJx4a65c_add_9ea2d_24 : decode cJx4a65c_add_9ea2d 24 = .ok (.ireturn, 1) := by decide +kernel
set_option maxRecDepth 20000 in
theorem ggJ7_copyOf_1904c_J7_copyOf_6403c : GoodIn wsJ7_copyOf_1904c wsJ7_copyOf_6403c := goodIn_r _ [8, 9, 10, 11, 12, 13, 14, 15, 16, 17, 18] (by decide +kernel) (by decide +kernel)
set_option maxRecDepth 20000 in
theorem gJ7_copyOf_1904c_J7_copyOf_6403c : GoodIn wsJ7_copyOf_1904c (va_wsS RJ7 300 yJ7_copyOf_6403c wsJ7_copyOf_6403c) := goodIn_app (goodIn_of _ (by decide +kernel)) ggJ7_copyOf_1904c_J7_copyOf_6403c
theorem dJ7_copyOf_1904c_0 : decode cJ7_copyOf_1904c 0 = .ok (.aload_n 0, 1) := by decide +kernel
theorem dJ7_copyOf_1904c_1 : decode cJ7_copyOf_1904c 1 = .ok (.iload_n 1, 1) := by decide +kernel
theorem dJ7_copyOf_1904c_2 : decode cJ7_copyOf_1904c 2 = .ok (.aload_n 0, 1) := by decide +kernel
theorem dJ7_copyOf_1904c_3 : decode cJ7_copyOf_1904c 3 = .ok (.invokevirtual 86, 3) := by decide +kernel
theorem dJ7_copyOf_1904c_6 : decode cJ7_copyOf_1904c 6 = .ok (.invokestatic 300, 3) := by decide +kernel
theorem dJ7_copyOf_1904c_9 : decode cJ7_copyOf_1904c 9 = .ok (.areturn, 1) := by decide +kernel
theorem dJ7_copyOf_6403c_0 : decode cJ7_copyOf_6403c 0 = .ok (.aload_n 2, 1) := by decide +kernel
theorem dJ7_copyOf_6403c_1 : decode cJ7_copyOf_6403c 1 = .ok (.ldc 110, 2) := by decide +kernel
theorem dJ7_copyOf_6403c_3 : decode cJ7_copyOf_6403c 3 = .ok (.if_acmp .ne 10, 3) := by decide +kernel
theorem dJ7_copyOf_6403c_6 : decode cJ7_copyOf_6403c 6 = .ok (.iload_n 1, 1) := by decide +kernel
theorem dJ7_copyOf_6403c_7 : decode cJ7_copyOf_6403c 7 = .ok (.anewarray 2, 3) := by decide +kernel
theorem dJ7_copyOf_6403c_10 : decode cJ7_copyOf_6403c 10 = .ok (.goto 14, 3) := by decide +kernel
theorem dJ7_copyOf_6403c_13 : decode cJ7_copyOf_6403c 13 = .ok (.aload_n 2, 1) := by decide +kernel
theorem dJ7_copyOf_6403c_14 : decode cJ7_copyOf_6403c 14 = .ok (.invokevirtual 90, 3) := by decide +kernel
theorem dJ7_copyOf_6403c_17 : decode cJ7_copyOf_6403c 17 = .ok (.iload_n 1, 1) := by decide +kernel
theorem dJ7_copyOf_6403c_18 : decode cJ7_copyOf_6403c 18 = .ok (.invokestatic 95, 3) := by decide +kernel
theorem dJ7_copyOf_6403c_21 : decode cJ7_copyOf_6403c 21 = .ok (.checkcast 110, 3) := by decide +kernel
theorem dJ7_copyOf_6403c_24 : decode cJ7_copyOf_6403c 24 = .ok (.astore_n 3, 1) := by decide +kernel
theorem dJ7_copyOf_6403c_25 : decode cJ7_copyOf_6403c 25 = .ok (.aload_n 0, 1) := by decide +kernel
theorem dJ7_copyOf_6403c_26 : decode cJ7_copyOf_6403c 26 = .ok (.iconst 0, 1) := by decide +kernel
theorem dJ7_copyOf_6403c_27 : decode cJ7_copyOf_6403c 27 = .ok (.aload_n 3, 1) := by decide +kernel
theorem dJ7_copyOf_6403c_28 : decode cJ7_copyOf_6403c 28 = .ok (.iconst 0, 1) := by decide +kernel
theorem dJ7_copyOf_6403c_29 : decode cJ7_copyOf_6403c 29 = .ok (.aload_n 0, 1) := by decide +kernel
theorem dJ7_copyOf_6403c_30 : decode cJ7_copyOf_6403c 30 = .ok (.arraylength, 1) := by decide +kernel
theorem dJ7_copyOf_6403c_31 : decode cJ7_copyOf_6403c 31 = .ok (.iload_n 1, 1) := by decide +kernel
theorem dJ7_copyOf_6403c_32 : decode cJ7_copyOf_6403c 32 = .ok (.invokestatic 304, 3) := by decide +kernel
theorem dJ7_copyOf_6403c_35 : decode cJ7_copyOf_6403c 35 = .ok (.invokestatic 150, 3) := by decide +kernel
theorem dJ7_copyOf_6403c_38 : decode cJ7_copyOf_6403c 38 = .ok (.aload_n 3, 1) := by decide +kernel
theorem dJ7_copyOf_6403c_39 : decode cJ7_copyOf_6403c 39 = .ok (.areturn, 1) := by decide +kernel
set_option maxRecDepth 20000 in
theorem ggJ15_checkIndex_7cf53_J3_checkIndex_8e157 : GoodIn wsJ15_checkIndex_7cf53 wsJ3_checkIndex_8e157 := goodIn_r _ [4] (by decide +kernel) (by decide +kernel)
set_option maxRecDepth 20000 in
theorem gJ15_checkIndex_7cf53_J3_checkIndex_8e157 : GoodIn wsJ15_checkIndex_7cf53 (va_wsS RJ15 105 yJ3_checkIndex_8e157 wsJ3_checkIndex_8e157) := goodIn_app (goodIn_of _ (by decide +kernel)) ggJ15_checkIndex_7cf53_J3_checkIndex_8e157
theorem dJ15_checkIndex_7cf53_0 : decode cJ15_checkIndex_7cf53 0 = .ok (.iload_n 0, 1) := by decide +kernel
theorem dJ15_checkIndex_7cf53_1 : decode cJ15_checkIndex_7cf53 1 = .ok (.iload_n 1, 1) := by decide +kernel
theorem dJ15_checkIndex_7cf53_2 : decode cJ15_checkIndex_7cf53 2 = .ok (.aconst_null, 1) := by decide +kernel
theorem dJ15_checkIndex_7cf53_3 : decode cJ15_checkIndex_7cf53 3 = .ok (.invokestatic 105, 3) := by decide +kernel
theorem dJ15_checkIndex_7cf53_6 : decode cJ15_checkIndex_7cf53 6 = .ok (.ireturn, 1) := by decide +kernel
set_option maxRecDepth 20000 in
theorem ggJ8_newLength_cabcc_J8_hugeLength_7cf53 : GoodIn wsJ8_newLength_cabcc wsJ8_hugeLength_7cf53 := goodIn_r _ [9, 5] (by decide +kernel) (by decide +kernel)
set_option maxRecDepth 20000 in
theorem gJ8_newLength_cabcc_J8_hugeLength_7cf53 : GoodIn wsJ8_newLength_cabcc (va_wsS RJ8 201 yJ8_hugeLength_7cf53 wsJ8_hugeLength_7cf53) := goodIn_app (goodIn_of _ (by decide +kernel)) ggJ8_newLength_cabcc_J8_hugeLength_7cf53
theorem dJ8_newLength_cabcc_0 : decode cJ8_newLength_cabcc 0 = .ok (.iload_n 0, 1) := by decide +kernel
theorem dJ8_newLength_cabcc_1 : decode cJ8_newLength_cabcc 1 = .ok (.iload_n 1, 1) := by decide +kernel
theorem dJ8_newLength_cabcc_2 : decode cJ8_newLength_cabcc 2 = .ok (.iload_n 2, 1) := by decide +kernel
theorem dJ8_newLength_cabcc_3 : decode cJ8_newLength_cabcc 3 = .ok (.invokestatic 194, 3) := by decide +kernel
theorem dJ8_newLength_cabcc_6 : decode cJ8_newLength_cabcc 6 = .ok (.iadd, 1) := by decide +kernel
theorem dJ8_newLength_cabcc_7 : decode cJ8_newLength_cabcc 7 = .ok (.istore_n 3, 1) := by decide +kernel
theorem dJ8_newLength_cabcc_8 : decode cJ8_newLength_cabcc 8 = .ok (.iconst 0, 1) := by decide +kernel
theorem dJ8_newLength_cabcc_9 : decode cJ8_newLength_cabcc 9 = .ok (.iload_n 3, 1) := by decide +kernel
theorem dJ8_newLength_cabcc_10 : decode cJ8_newLength_cabcc 10 = .ok (.if_icmp .ge 11, 3) := by decide +kernel
theorem dJ8_newLength_cabcc_13 : decode cJ8_newLength_cabcc 13 = .ok (.iload_n 3, 1) := by decide +kernel
theorem dJ8_newLength_cabcc_14 : decode cJ8_newLength_cabcc 14 = .ok (.ldc 200, 2) := by decide +kernel
theorem dJ8_newLength_cabcc_16 : decode cJ8_newLength_cabcc 16 = .ok (.if_icmp .gt 5, 3) := by decide +kernel
theorem dJ8_newLength_cabcc_19 : decode cJ8_newLength_cabcc 19 = .ok (.iload_n 3, 1) := by decide +kernel
theorem dJ8_newLength_cabcc_20 : decode cJ8_newLength_cabcc 20 = .ok (.ireturn, 1) := by decide +kernel
theorem dJ8_newLength_cabcc_21 : decode cJ8_newLength_cabcc 21 = .ok (.iload_n 0, 1) := by decide +kernel
theorem dJ8_newLength_cabcc_22 : decode cJ8_newLength_cabcc 22 = .ok (.iload_n 1, 1) := by decide +kernel
theorem dJ8_newLength_cabcc_23 : decode cJ8_newLength_cabcc 23 = .ok (.invokestatic 201, 3) := by decide +kernel
theorem dJ8_newLength_cabcc_26 : decode cJ8_newLength_cabcc 26 = .ok (.ireturn, 1) := by decide +kernel
theorem dJ8_hugeLength_7cf53_0 : decode cJ8_hugeLength_7cf53 0 = .ok (.iload_n 0, 1) := by decide +kernel
theorem dJ8_hugeLength_7cf53_1 : decode cJ8_hugeLength_7cf53 1 = .ok (.iload_n 1, 1) := by decide +kernel
theorem dJ8_hugeLength_7cf53_2 : decode cJ8_hugeLength_7cf53 2 = .ok (.iadd, 1) := by decide +kernel
theorem dJ8_hugeLength_7cf53_3 : decode cJ8_hugeLength_7cf53 3 = .ok (.istore_n 2, 1) := by decide +kernel
theorem dJ8_hugeLength_7cf53_4 : decode cJ8_hugeLength_7cf53 4 = .ok (.iload_n 2, 1) := by decide +kernel
theorem dJ8_hugeLength_7cf53_5 : decode cJ8_hugeLength_7cf53 5 = .ok (.ifCond .ge 44, 3) := by decide +kernel
theorem dJ8_hugeLength_7cf53_8 : decode cJ8_hugeLength_7cf53 8 = .ok (.new 204, 3) := by decide +kernel
theorem dJ8_hugeLength_7cf53_11 : decode cJ8_hugeLength_7cf53 11 = .ok (.dup, 1) := by decide +kernel
theorem dJ8_hugeLength_7cf53_12 : decode cJ8_hugeLength_7cf53 12 = .ok (.new 89, 3) := by decide +kernel
theorem dJ8_hugeLength_7cf53_15 : decode cJ8_hugeLength_7cf53 15 = .ok (.dup, 1) := by decide +kernel
theorem dJ8_hugeLength_7cf53_16 : decode cJ8_hugeLength_7cf53 16 = .ok (.invokespecial 91, 3) := by decide +kernel
theorem dJ8_hugeLength_7cf53_19 : decode cJ8_hugeLength_7cf53 19 = .ok (.ldc 206, 2) := by decide +kernel
theorem dJ8_hugeLength_7cf53_21 : decode cJ8_hugeLength_7cf53 21 = .ok (.invokevirtual 94, 3) := by decide +kernel
theorem dJ8_hugeLength_7cf53_24 : decode cJ8_hugeLength_7cf53 24 = .ok (.iload_n 0, 1) := by decide +kernel
theorem dJ8_hugeLength_7cf53_25 : decode cJ8_hugeLength_7cf53 25 = .ok (.invokevirtual 98, 3) := by decide +kernel
theorem dJ8_hugeLength_7cf53_28 : decode cJ8_hugeLength_7cf53 28 = .ok (.ldc 208, 2) := by decide +kernel
theorem dJ8_hugeLength_7cf53_30 : decode cJ8_hugeLength_7cf53 30 = .ok (.invokevirtual 94, 3) := by decide +kernel
theorem dJ8_hugeLength_7cf53_33 : decode cJ8_hugeLength_7cf53 33 = .ok (.iload_n 1, 1) := by decide +kernel
theorem dJ8_hugeLength_7cf53_34 : decode cJ8_hugeLength_7cf53 34 = .ok (.invokevirtual 98, 3) := by decide +kernel
theorem dJ8_hugeLength_7cf53_37 : decode cJ8_hugeLength_7cf53 37 = .ok (.ldc 210, 2) := by decide +kernel
theorem dJ8_hugeLength_7cf53_39 : decode cJ8_hugeLength_7cf53 39 = .ok (.invokevirtual 94, 3) := by decide +kernel
theorem dJ8_hugeLength_7cf53_42 : decode cJ8_hugeLength_7cf53 42 = .ok (.invokevirtual 101, 3) := by decide +kernel
theorem dJ8_hugeLength_7cf53_45 : decode cJ8_hugeLength_7cf53 45 = .ok (.invokespecial 212, 3) := by decide +kernel
theorem dJ8_hugeLength_7cf53_48 : decode cJ8_hugeLength_7cf53 48 = .ok (.athrow, 1) := by decide +kernel
theorem dJ8_hugeLength_7cf53_49 : decode cJ8_hugeLength_7cf53 49 = .ok (.iload_n 2, 1) := by decide +kernel
theorem dJ8_hugeLength_7cf53_50 : decode cJ8_hugeLength_7cf53 50 = .ok (.ldc 200, 2) := by decide +kernel
theorem dJ8_hugeLength_7cf53_52 : decode cJ8_hugeLength_7cf53 52 = .ok (.if_icmp .gt 6, 3) := by decide +kernel
theorem dJ8_hugeLength_7cf53_55 : decode cJ8_hugeLength_7cf53 55 = .ok (.ldc 200, 2) := by decide +kernel
theorem dJ8_hugeLength_7cf53_57 : decode cJ8_hugeLength_7cf53 57 = .ok (.ireturn, 1) := by decide +kernel
theorem dJ8_hugeLength_7cf53_58 : decode cJ8_hugeLength_7cf53 58 = .ok (.iload_n 2, 1) := by decide +kernel
theorem dJ8_hugeLength_7cf53_59 : decode cJ8_hugeLength_7cf53 59 = .ok (.ireturn, 1) := by decide +kernel
theorem dJ3_checkIndex_8e157_0 : decode cJ3_checkIndex_8e157 0 = .ok (.iload_n 0, 1) := by decide +kernel
theorem dJ3_checkIndex_8e157_1 : decode cJ3_checkIndex_8e157 1 = .ok (.ifCond .lt 8, 3) := by decide +kernel
theorem dJ3_checkIndex_8e157_4 : decode cJ3_checkIndex_8e157 4 = .ok (.iload_n 0, 1) := by decide +kernel
theorem dJ3_checkIndex_8e157_5 : decode cJ3_checkIndex_8e157 5 = .ok (.iload_n 1, 1) := by decide +kernel
theorem dJ3_checkIndex_8e157_6 : decode cJ3_checkIndex_8e157 6 = .ok (.if_icmp .lt 10, 3) := by decide +kernel
theorem dJ3_checkIndex_8e157_9 : decode cJ3_checkIndex_8e157 9 = .ok (.aload_n 2, 1) := by decide +kernel
theorem dJ3_checkIndex_8e157_10 : decode cJ3_checkIndex_8e157 10 = .ok (.iload_n 0, 1) := by decide +kernel
theorem dJ3_checkIndex_8e157_11 : decode cJ3_checkIndex_8e157 11 = .ok (.iload_n 1, 1) := by decide +kernel
theorem dJ3_checkIndex_8e157_12 : decode cJ3_checkIndex_8e157 12 = .ok (.invokestatic 95, 3) := by decide +kernel
theorem dJ3_checkIndex_8e157_15 : decode cJ3_checkIndex_8e157 15 = .ok (.athrow, 1) := by decide +kernel
theorem dJ3_checkIndex_8e157_16 : decode cJ3_checkIndex_8e157 16 = .ok (.iload_n 0, 1) := by decide +kernel
theorem dJ3_checkIndex_8e157_17 : decode cJ3_checkIndex_8e157 17 = .ok (.ireturn, 1) := by decide +kernel
theorem dL_part_0 : decode cL_part 0 = .ok (.iload_n 1, 1) := by decide +kernel
theorem dL_part_1 : decode cL_part 1 = .ok (.aload_n 0, 1) := by decide +kernel
theorem dL_part_2 : decode cL_part 2 = .ok (.arraylength, 1) := by decide +kernel
theorem dL_part_3 : decode cL_part 3 = .ok (.if_icmp .ge 9, 3) := by decide +kernel
theorem dL_part_6 : decode cL_part 6 = .ok (.aload_n 0, 1) := by decide +kernel
theorem dL_part_7 : decode cL_part 7 = .ok (.iload_n 1, 1) := by decide +kernel
theorem dL_part_8 : decode cL_part 8 = .ok (.iaload, 1) := by decide +kernel
theorem dL_part_9 : decode cL_part 9 = .ok (.goto 16, 3) := by decide +kernel
theorem dL_part_12 : decode cL_part 12 = .ok (.sipush 547, 3) := by decide +kernel
theorem dL_part_15 : decode cL_part 15 = .ok (.iload_n 1, 1) := by decide +kernel
theorem dL_part_16 : decode cL_part 16 = .ok (.imul, 1) := by decide +kernel
theorem dL_part_17 : decode cL_part 17 = .ok (.sipush 401, 3) := by decide +kernel
theorem dL_part_20 : decode cL_part 20 = .ok (.iload_n 1, 1) := by decide +kernel
theorem dL_part_21 : decode cL_part 21 = .ok (.imul, 1) := by decide +kernel
theorem dL_part_22 : decode cL_part 22 = .ok (.iload_n 1, 1) := by decide +kernel
theorem dL_part_23 : decode cL_part 23 = .ok (.imul, 1) := by decide +kernel
theorem dL_part_24 : decode cL_part 24 = .ok (.iadd, 1) := by decide +kernel
theorem dL_part_25 : decode cL_part 25 = .ok (.istore_n 3, 1) := by decide +kernel
theorem dL_part_26 : decode cL_part 26 = .ok (.iload_n 3, 1) := by decide +kernel
theorem dL_part_27 : decode cL_part 27 = .ok (.ldc 7, 2) := by decide +kernel
theorem dL_part_29 : decode cL_part 29 = .ok (.iand, 1) := by decide +kernel
theorem dL_part_30 : decode cL_part 30 = .ok (.iload_n 2, 1) := by decide +kernel
theorem dL_part_31 : decode cL_part 31 = .ok (.irem, 1) := by decide +kernel
theorem dL_part_32 : decode cL_part 32 = .ok (.ireturn, 1) := by decide +kernel
set_option maxRecDepth 20000 in
theorem ggL_does_X11_rule : GoodIn wsL_does wsX11_rule := goodIn_ca (goodIn_ca (goodIn_r _ [11, 12, 13, 14, 15, 16, 17, 18, 19, 20, 21, 10, 22, 23, 24, 25, 26, 27, 28, 29, 30, 31, 32, 33, 34, 35, 36, 37, 38, 39, 40, 41, 42, 43, 44, 45, 46, 47, 48, 49, 50, 51, 52, 53, 54, 55, 56, 57, 58, 59, 60, 61, 62, 63, 64, 65, 66, 67, 68, 69, 70, 71, 72, 73, 74, 75, 76, 77, 78, 79, 80, 81, 82, 83, 84, 85, 86, 87, 88, 89, 90, 91, 92, 93, 94, 95, 96, 97, 98, 99, 100, 101, 102, 103, 104, 105, 106, 107, 108, 109, 110, 111, 112, 113, 316, 317, 318, 319, 320, 321, 322, 323, 324, 325, 326, 327, 328, 329, 330, 331, 332] (by decide +kernel) (by decide +kernel)) (goodIn_sub (fun _ h => List.mem_cons_of_mem _ (List.mem_append_left _ (List.mem_append_left _ (List.mem_append_right _ h)))) (by decide +kernel))) (goodIn_sub (fun _ h => List.mem_cons_of_mem _ (List.mem_append_left _ (List.mem_append_right _ h))) (by decide +kernel))
set_option maxRecDepth 20000 in
theorem gL_does_X11_rule : GoodIn wsL_does (wsV RL 8 RX11 yX11_rule wsX11_rule) := goodIn_app (goodIn_of _ (by decide +kernel)) ggL_does_X11_rule
set_option maxRecDepth 20000 in
theorem ggL_does_X11_act : GoodIn wsL_does wsX11_act := goodIn_ca (goodIn_ca (goodIn_ca (goodIn_r _ [117, 118, 119, 12, 13, 14, 15, 16, 120, 121, 122, 123, 29, 30, 31, 32, 33, 34, 23, 24, 10, 25, 124, 125, 126, 26, 27, 28, 127, 128, 129, 130, 131, 132, 133, 134, 135, 136, 137, 138, 139, 140, 141, 142, 51, 143, 144, 145, 146, 147, 148, 149, 150, 151, 152, 153, 154, 155, 156, 157, 158, 159, 39, 40, 160, 161, 162, 163, 164, 165, 166, 167, 168, 169, 170, 171, 172, 173, 174, 175, 176, 177, 178, 179, 180, 181, 182, 183, 184, 185, 186, 62, 63, 64, 65, 66, 67, 68, 69, 70, 71, 72, 73, 74, 75, 76, 77, 78, 79, 50, 80, 81, 82, 83, 84, 85, 86, 87, 88, 89, 90, 91, 92, 93, 94, 95, 96, 97, 98, 99, 100, 101, 102, 103, 104, 105, 106, 107, 108, 109, 110, 111, 112, 113, 316, 317, 318, 319, 320, 321, 322, 323, 324, 325, 326, 327, 328, 329, 333, 334, 335, 336, 330, 331, 332, 337, 338, 339, 340, 341, 342, 343] (by decide +kernel) (by decide +kernel)) (goodIn_sub (fun _ h => List.mem_cons_of_mem _ (List.mem_append_right _ h)) (by decide +kernel))) (goodIn_sub (fun _ h => List.mem_cons_of_mem _ (List.mem_append_left _ (List.mem_append_left _ (List.mem_append_right _ h)))) (by decide +kernel))) (goodIn_sub (fun _ h => List.mem_cons_of_mem _ (List.mem_append_left _ (List.mem_append_right _ h))) (by decide +kernel))
set_option maxRecDepth 20000 in
theorem gL_does_X11_act : GoodIn wsL_does (wsV RL 14 RX11 yX11_act wsX11_act) := goodIn_app (goodIn_of _ (by decide +kernel)) ggL_does_X11_act
set_option maxRecDepth 20000 in
theorem ggL_does_X11_setSeparator : GoodIn wsL_does wsX11_setSeparator := goodIn_ca (goodIn_r _ [190, 191, 192, 193, 10, 194, 12, 13, 195, 196, 197, 198, 199, 200, 201, 202, 203, 204, 205, 206, 207, 208, 209, 165, 210, 211, 212, 213, 214, 215, 174, 216, 217, 218, 219, 220, 221, 222, 223, 316, 317, 318, 319, 320, 321, 322, 323, 324, 344, 345, 346, 347, 348, 342, 343] (by decide +kernel) (by decide +kernel)) (goodIn_sub (fun _ h => List.mem_cons_of_mem _ (List.mem_append_left _ (List.mem_append_left _ (List.mem_append_right _ h)))) (by decide +kernel))
set_option maxRecDepth 20000 in
theorem gL_does_X11_setSeparator : GoodIn wsL_does (wsV RL 18 RX11 yX11_setSeparator wsX11_setSeparator) := goodIn_app (goodIn_of _ (by decide +kernel)) ggL_does_X11_setSeparator
set_option maxRecDepth 20000 in
theorem ggL_does_X11_type : GoodIn wsL_does wsX11_type := goodIn_ca (goodIn_ca (goodIn_r _ [227, 14, 15, 228, 192, 193, 10, 194, 12, 13, 195, 196, 197, 229, 221, 222, 165, 223, 211, 174, 316, 317, 318, 319, 320, 321, 322, 323, 324, 342, 343] (by decide +kernel) (by decide +kernel)) (goodIn_sub (fun _ h => List.mem_cons_of_mem _ (List.mem_append_left _ (List.mem_append_right _ h))) (by decide +kernel))) (goodIn_sub (fun _ h => List.mem_cons_of_mem _ (List.mem_append_left _ (List.mem_append_left _ (List.mem_append_right _ h)))) (by decide +kernel))
set_option maxRecDepth 20000 in
theorem gL_does_X11_type : GoodIn wsL_does (wsV RL 22 RX11 yX11_type wsX11_type) := goodIn_app (goodIn_of _ (by decide +kernel)) ggL_does_X11_type
set_option maxRecDepth 20000 in
theorem ggL_does_X11_setField : GoodIn wsL_does wsX11_setField := goodIn_ca (goodIn_r _ [233, 234, 191, 235, 236, 10, 237, 118, 119, 23, 24, 25, 238, 239, 240, 165, 241, 211, 174, 242, 243, 244, 245, 246, 247, 201, 248, 205, 249, 81, 82, 83, 216, 217, 218, 219, 203, 204, 250, 251, 252, 253, 254, 255, 256, 257, 206, 207, 208, 209, 210, 220, 221, 222, 223, 258, 259, 260, 261, 262, 263, 199, 200, 202, 212, 213, 214, 215, 316, 317, 318, 319, 320, 321, 322, 323, 324, 344, 345, 346, 347, 348, 342, 343] (by decide +kernel) (by decide +kernel)) (goodIn_sub (fun _ h => List.mem_cons_of_mem _ (List.mem_append_right _ h)) (by decide +kernel))
set_option maxRecDepth 20000 in
theorem gL_does_X11_setField : GoodIn wsL_does (wsV RL 25 RX11 yX11_setField wsX11_setField) := goodIn_app (goodIn_of _ (by decide +kernel)) ggL_does_X11_setField
set_option maxRecDepth 20000 in
theorem ggL_does_X11_number : GoodIn wsL_does wsX11_number := goodIn_ca (goodIn_r _ [267, 191, 235, 236, 10, 237, 118, 119, 23, 24, 25, 268, 217, 218, 201, 219, 203, 204, 269, 270, 271, 165, 272, 174, 273, 274, 275, 276, 211, 277, 213, 214, 215, 316, 317, 318, 319, 320, 321, 322, 323, 324, 344, 345, 346, 347, 348, 342, 343] (by decide +kernel) (by decide +kernel)) (goodIn_sub (fun _ h => List.mem_cons_of_mem _ (List.mem_append_right _ h)) (by decide +kernel))
set_option maxRecDepth 20000 in
theorem gL_does_X11_number : GoodIn wsL_does (wsV RL 29 RX11 yX11_number wsX11_number) := goodIn_app (goodIn_of _ (by decide +kernel)) ggL_does_X11_number
set_option maxRecDepth 20000 in
theorem ggL_does_X11_character : GoodIn wsL_does wsX11_character := goodIn_ca (goodIn_r _ [281, 191, 235, 236, 10, 237, 118, 119, 23, 24, 25, 268, 217, 218, 201, 219, 203, 204, 282, 283, 284, 285, 286, 287, 288, 213, 214, 165, 215, 211, 174, 316, 317, 318, 319, 320, 321, 322, 323, 324, 344, 345, 346, 347, 348, 342, 343] (by decide +kernel) (by decide +kernel)) (goodIn_sub (fun _ h => List.mem_cons_of_mem _ (List.mem_append_right _ h)) (by decide +kernel))
set_option maxRecDepth 20000 in
theorem gL_does_X11_character : GoodIn wsL_does (wsV RL 32 RX11 yX11_character wsX11_character) := goodIn_app (goodIn_of _ (by decide +kernel)) ggL_does_X11_character
set_option maxRecDepth 20000 in
theorem ggL_does_X11_row : GoodIn wsL_does wsX11_row := goodIn_ca (goodIn_r _ [292, 293, 285, 286, 10, 287, 118, 119, 294, 295, 296, 297, 298, 299, 316, 317, 318, 319, 320, 321, 322, 323, 324, 349, 350, 351, 352] (by decide +kernel) (by decide +kernel)) (goodIn_sub (fun _ h => List.mem_cons_of_mem _ (List.mem_append_right _ h)) (by decide +kernel))
set_option maxRecDepth 20000 in
theorem gL_does_X11_row : GoodIn wsL_does (wsV RL 36 RX11 yX11_row wsX11_row) := goodIn_app (goodIn_of _ (by decide +kernel)) ggL_does_X11_row
set_option maxRecDepth 20000 in
theorem ggL_does_X11_key : GoodIn wsL_does wsX11_key := goodIn_ca (goodIn_r _ [303, 293, 285, 286, 10, 287, 118, 119, 294, 295, 296, 297, 298, 299, 282, 283, 284, 288, 213, 214, 165, 215, 211, 174, 316, 317, 318, 319, 320, 321, 322, 323, 324, 349, 350, 351, 352, 342, 343] (by decide +kernel) (by decide +kernel)) (goodIn_sub (fun _ h => List.mem_cons_of_mem _ (List.mem_append_right _ h)) (by decide +kernel))
set_option maxRecDepth 20000 in
theorem gL_does_X11_key : GoodIn wsL_does (wsV RL 39 RX11 yX11_key wsX11_key) := goodIn_app (goodIn_of _ (by decide +kernel)) ggL_does_X11_key
set_option maxRecDepth 20000 in
theorem ggL_does_X11_line : GoodIn wsL_does wsX11_line := goodIn_ca (goodIn_r _ [307, 308, 285, 286, 10, 287, 118, 119, 309, 310, 311, 312, 313, 314, 315, 282, 283, 284, 288, 213, 214, 165, 215, 211, 174, 316, 317, 318, 319, 320, 321, 322, 323, 324, 353, 354, 355, 342, 343] (by decide +kernel) (by decide +kernel)) (goodIn_sub (fun _ h => List.mem_cons_of_mem _ (List.mem_append_right _ h)) (by decide +kernel))
set_option maxRecDepth 20000 in
theorem gL_does_X11_line : GoodIn wsL_does (wsV RL 42 RX11 yX11_line wsX11_line) := goodIn_app (goodIn_of _ (by decide +kernel)) ggL_does_X11_line
theorem dL_does_0 : decode cL_does 0 = .ok (.iload_n 1, 1) := by decide +kernel
theorem dL_does_1 : decode cL_does 1 = .ok (.ifCond .ne 14, 3) := by decide +kernel
theorem dL_does_4 : decode cL_does 4 = .ok (.aload_n 0, 1) := by decide +kernel
theorem dL_does_5 : decode cL_does 5 = .ok (.iload_n 2, 1) := by decide +kernel
theorem dL_does_6 : decode cL_does 6 = .ok (.iload_n 3, 1) := by decide +kernel
theorem dL_does_7 : decode cL_does 7 = .ok (.iload 4, 2) := by decide +kernel
theorem dL_does_9 : decode cL_does 9 = .ok (.invokevirtual 8, 3) := by decide +kernel
theorem dL_does_12 : decode cL_does 12 = .ok (.goto 125, 3) := by decide +kernel
theorem dL_does_15 : decode cL_does 15 = .ok (.iload_n 1, 1) := by decide +kernel
theorem dL_does_16 : decode cL_does 16 = .ok (.iconst 1, 1) := by decide +kernel
theorem dL_does_17 : decode cL_does 17 = .ok (.if_icmp .ne 17, 3) := by decide +kernel
theorem dL_does_20 : decode cL_does 20 = .ok (.aload_n 0, 1) := by decide +kernel
theorem dL_does_21 : decode cL_does 21 = .ok (.iload_n 2, 1) := by decide +kernel
theorem dL_does_22 : decode cL_does 22 = .ok (.iload_n 3, 1) := by decide +kernel
theorem dL_does_23 : decode cL_does 23 = .ok (.iload 4, 2) := by decide +kernel
theorem dL_does_25 : decode cL_does 25 = .ok (.iconst 0, 1) := by decide +kernel
theorem dL_does_26 : decode cL_does 26 = .ok (.iconst 0, 1) := by decide +kernel
theorem dL_does_27 : decode cL_does 27 = .ok (.iconst 0, 1) := by decide +kernel
theorem dL_does_28 : decode cL_does 28 = .ok (.invokevirtual 14, 3) := by decide +kernel
theorem dL_does_31 : decode cL_does 31 = .ok (.goto 106, 3) := by decide +kernel
theorem dL_does_34 : decode cL_does 34 = .ok (.iload_n 1, 1) := by decide +kernel
theorem dL_does_35 : decode cL_does 35 = .ok (.iconst 2, 1) := by decide +kernel
theorem dL_does_36 : decode cL_does 36 = .ok (.if_icmp .ne 11, 3) := by decide +kernel
theorem dL_does_39 : decode cL_does 39 = .ok (.aload_n 0, 1) := by decide +kernel
theorem dL_does_40 : decode cL_does 40 = .ok (.iload_n 2, 1) := by decide +kernel
theorem dL_does_41 : decode cL_does 41 = .ok (.invokevirtual 18, 3) := by decide +kernel
theorem dL_does_44 : decode cL_does 44 = .ok (.goto 93, 3) := by decide +kernel
theorem dL_does_47 : decode cL_does 47 = .ok (.iload_n 1, 1) := by decide +kernel
theorem dL_does_48 : decode cL_does 48 = .ok (.iconst 3, 1) := by decide +kernel
theorem dL_does_49 : decode cL_does 49 = .ok (.if_icmp .ne 11, 3) := by decide +kernel
theorem dL_does_52 : decode cL_does 52 = .ok (.aload_n 0, 1) := by decide +kernel
theorem dL_does_53 : decode cL_does 53 = .ok (.iload_n 2, 1) := by decide +kernel
theorem dL_does_54 : decode cL_does 54 = .ok (.invokevirtual 22, 3) := by decide +kernel
theorem dL_does_57 : decode cL_does 57 = .ok (.goto 80, 3) := by decide +kernel
theorem dL_does_60 : decode cL_does 60 = .ok (.iload_n 1, 1) := by decide +kernel
theorem dL_does_61 : decode cL_does 61 = .ok (.iconst 4, 1) := by decide +kernel
theorem dL_does_62 : decode cL_does 62 = .ok (.if_icmp .ne 12, 3) := by decide +kernel
theorem dL_does_65 : decode cL_does 65 = .ok (.aload_n 0, 1) := by decide +kernel
theorem dL_does_66 : decode cL_does 66 = .ok (.iload_n 2, 1) := by decide +kernel
theorem dL_does_67 : decode cL_does 67 = .ok (.iload_n 3, 1) := by decide +kernel
theorem dL_does_68 : decode cL_does 68 = .ok (.invokevirtual 25, 3) := by decide +kernel
theorem dL_does_71 : decode cL_does 71 = .ok (.goto 66, 3) := by decide +kernel
theorem dL_does_74 : decode cL_does 74 = .ok (.iload_n 1, 1) := by decide +kernel
theorem dL_does_75 : decode cL_does 75 = .ok (.iconst 5, 1) := by decide +kernel
theorem dL_does_76 : decode cL_does 76 = .ok (.if_icmp .ne 11, 3) := by decide +kernel
theorem dL_does_79 : decode cL_does 79 = .ok (.aload_n 0, 1) := by decide +kernel
theorem dL_does_80 : decode cL_does 80 = .ok (.iload_n 2, 1) := by decide +kernel
theorem dL_does_81 : decode cL_does 81 = .ok (.invokevirtual 29, 3) := by decide +kernel
theorem dL_does_84 : decode cL_does 84 = .ok (.goto 53, 3) := by decide +kernel
theorem dL_does_87 : decode cL_does 87 = .ok (.iload_n 1, 1) := by decide +kernel
theorem dL_does_88 : decode cL_does 88 = .ok (.bipush 6, 2) := by decide +kernel
theorem dL_does_90 : decode cL_does 90 = .ok (.if_icmp .ne 12, 3) := by decide +kernel
theorem dL_does_93 : decode cL_does 93 = .ok (.aload_n 0, 1) := by decide +kernel
theorem dL_does_94 : decode cL_does 94 = .ok (.iload_n 2, 1) := by decide +kernel
theorem dL_does_95 : decode cL_does 95 = .ok (.iload_n 3, 1) := by decide +kernel
theorem dL_does_96 : decode cL_does 96 = .ok (.invokevirtual 32, 3) := by decide +kernel
theorem dL_does_99 : decode cL_does 99 = .ok (.goto 38, 3) := by decide +kernel
theorem dL_does_102 : decode cL_does 102 = .ok (.iload_n 1, 1) := by decide +kernel
theorem dL_does_103 : decode cL_does 103 = .ok (.bipush 7, 2) := by decide +kernel
theorem dL_does_105 : decode cL_does 105 = .ok (.if_icmp .ne 11, 3) := by decide +kernel
theorem dL_does_108 : decode cL_does 108 = .ok (.aload_n 0, 1) := by decide +kernel
theorem dL_does_109 : decode cL_does 109 = .ok (.iload_n 2, 1) := by decide +kernel
theorem dL_does_110 : decode cL_does 110 = .ok (.invokevirtual 36, 3) := by decide +kernel
theorem dL_does_113 : decode cL_does 113 = .ok (.goto 24, 3) := by decide +kernel
theorem dL_does_116 : decode cL_does 116 = .ok (.iload_n 1, 1) := by decide +kernel
theorem dL_does_117 : decode cL_does 117 = .ok (.bipush 8, 2) := by decide +kernel
theorem dL_does_119 : decode cL_does 119 = .ok (.if_icmp .ne 12, 3) := by decide +kernel
theorem dL_does_122 : decode cL_does 122 = .ok (.aload_n 0, 1) := by decide +kernel
theorem dL_does_123 : decode cL_does 123 = .ok (.iload_n 2, 1) := by decide +kernel
theorem dL_does_124 : decode cL_does 124 = .ok (.iload_n 3, 1) := by decide +kernel
theorem dL_does_125 : decode cL_does 125 = .ok (.invokevirtual 39, 3) := by decide +kernel
theorem dL_does_128 : decode cL_does 128 = .ok (.goto 9, 3) := by decide +kernel
theorem dL_does_131 : decode cL_does 131 = .ok (.aload_n 0, 1) := by decide +kernel
theorem dL_does_132 : decode cL_does 132 = .ok (.iload_n 2, 1) := by decide +kernel
theorem dL_does_133 : decode cL_does 133 = .ok (.iload_n 3, 1) := by decide +kernel
theorem dL_does_134 : decode cL_does 134 = .ok (.invokevirtual 42, 3) := by decide +kernel
theorem dL_does_137 : decode cL_does 137 = .ok (.ireturn, 1) := by decide +kernel
theorem dL_does_138 : decode cL_does 138 = .ok (.astore 5, 2) := by decide +kernel
theorem dL_does_140 : decode cL_does 140 = .ok (.ldc 47, 2) := by decide +kernel
theorem dL_does_142 : decode cL_does 142 = .ok (.ireturn, 1) := by decide +kernel
theorem dL_does_143 : decode cL_does 143 = .ok (.astore 5, 2) := by decide +kernel
theorem dL_does_145 : decode cL_does 145 = .ok (.ldc 50, 2) := by decide +kernel
theorem dL_does_147 : decode cL_does 147 = .ok (.ireturn, 1) := by decide +kernel
theorem dL_does_148 : decode cL_does 148 = .ok (.astore 5, 2) := by decide +kernel
theorem dL_does_150 : decode cL_does 150 = .ok (.ldc 53, 2) := by decide +kernel
theorem dL_does_152 : decode cL_does 152 = .ok (.ireturn, 1) := by decide +kernel
set_option maxRecDepth 20000 in
theorem ggL_acted_X11_act : GoodIn wsL_acted wsX11_act := goodIn_ca (goodIn_ca (goodIn_ca (goodIn_r _ [11, 12, 13, 14, 15, 16, 17, 18, 19, 20, 21, 22, 23, 24, 25, 26, 27, 28, 29, 30, 10, 31, 32, 33, 34, 35, 36, 37, 38, 39, 40, 41, 42, 43, 44, 45, 46, 47, 48, 49, 50, 51, 52, 53, 54, 55, 56, 57, 58, 59, 60, 61, 62, 63, 64, 65, 66, 67, 68, 69, 70, 71, 72, 73, 74, 75, 76, 77, 78, 79, 80, 81, 82, 83, 84, 85, 86, 87, 88, 89, 90, 91, 92, 93, 94, 95, 96, 97, 98, 99, 100, 101, 102, 103, 104, 105, 106, 107, 108, 109, 110, 111, 112, 113, 114, 115, 116, 117, 118, 119, 120, 121, 122, 123, 124, 125, 126, 127, 128, 129, 130, 131, 132, 133, 134, 135, 136, 137, 138, 139, 140, 141, 142, 143, 144, 145, 146, 147, 148, 149, 150, 151, 152, 153, 154, 155, 156, 157, 158, 159, 160, 161, 162, 163, 164, 165, 166, 167, 168, 169, 170, 171, 172, 173, 174, 175, 176, 177, 178, 179, 180, 181] (by decide +kernel) (by decide +kernel)) (goodIn_sub (fun _ h => List.mem_cons_of_mem _ (List.mem_append_left _ (List.mem_append_left _ (List.mem_append_right _ h)))) (by decide +kernel))) (goodIn_sub (fun _ h => List.mem_cons_of_mem _ (List.mem_append_left _ (List.mem_append_right _ h))) (by decide +kernel))) (goodIn_sub (fun _ h => List.mem_cons_of_mem _ (List.mem_append_right _ h)) (by decide +kernel))
set_option maxRecDepth 20000 in
theorem gL_acted_X11_act : GoodIn wsL_acted (wsV RL 14 RX11 yX11_act wsX11_act) := goodIn_app (goodIn_of _ (by decide +kernel)) ggL_acted_X11_act
theorem dL_acted_0 : decode cL_acted 0 = .ok (.aload_n 0, 1) := by decide +kernel
theorem dL_acted_1 : decode cL_acted 1 = .ok (.iload_n 1, 1) := by decide +kernel
theorem dL_acted_2 : decode cL_acted 2 = .ok (.iload_n 2, 1) := by decide +kernel
theorem dL_acted_3 : decode cL_acted 3 = .ok (.iload_n 3, 1) := by decide +kernel
theorem dL_acted_4 : decode cL_acted 4 = .ok (.iload 4, 2) := by decide +kernel
theorem dL_acted_6 : decode cL_acted 6 = .ok (.iload 5, 2) := by decide +kernel
theorem dL_acted_8 : decode cL_acted 8 = .ok (.iload 6, 2) := by decide +kernel
theorem dL_acted_10 : decode cL_acted 10 = .ok (.invokevirtual 14, 3) := by decide +kernel
theorem dL_acted_13 : decode cL_acted 13 = .ok (.ireturn, 1) := by decide +kernel
theorem dL_acted_14 : decode cL_acted 14 = .ok (.astore 7, 2) := by decide +kernel
theorem dL_acted_16 : decode cL_acted 16 = .ok (.ldc 47, 2) := by decide +kernel
theorem dL_acted_18 : decode cL_acted 18 = .ok (.ireturn, 1) := by decide +kernel
theorem dL_acted_19 : decode cL_acted 19 = .ok (.astore 7, 2) := by decide +kernel
theorem dL_acted_21 : decode cL_acted 21 = .ok (.ldc 50, 2) := by decide +kernel
theorem dL_acted_23 : decode cL_acted 23 = .ok (.ireturn, 1) := by decide +kernel
theorem dL_acted_24 : decode cL_acted 24 = .ok (.astore 7, 2) := by decide +kernel
theorem dL_acted_26 : decode cL_acted 26 = .ok (.ldc 53, 2) := by decide +kernel
theorem dL_acted_28 : decode cL_acted 28 = .ok (.ireturn, 1) := by decide +kernel
theorem dL_sign_0 : decode cL_sign 0 = .ok (.iload_n 0, 1) := by decide +kernel
theorem dL_sign_1 : decode cL_sign 1 = .ok (.bipush 10, 2) := by decide +kernel
theorem dL_sign_3 : decode cL_sign 3 = .ok (.if_icmp .ge 11, 3) := by decide +kernel
theorem dL_sign_6 : decode cL_sign 6 = .ok (.bipush 48, 2) := by decide +kernel
theorem dL_sign_8 : decode cL_sign 8 = .ok (.iload_n 0, 1) := by decide +kernel
theorem dL_sign_9 : decode cL_sign 9 = .ok (.iadd, 1) := by decide +kernel
theorem dL_sign_10 : decode cL_sign 10 = .ok (.i2c, 1) := by decide +kernel
theorem dL_sign_11 : decode cL_sign 11 = .ok (.goto 33, 3) := by decide +kernel
theorem dL_sign_14 : decode cL_sign 14 = .ok (.iload_n 0, 1) := by decide +kernel
theorem dL_sign_15 : decode cL_sign 15 = .ok (.bipush 36, 2) := by decide +kernel
theorem dL_sign_17 : decode cL_sign 17 = .ok (.if_icmp .ge 14, 3) := by decide +kernel
theorem dL_sign_20 : decode cL_sign 20 = .ok (.bipush 97, 2) := by decide +kernel
theorem dL_sign_22 : decode cL_sign 22 = .ok (.iload_n 0, 1) := by decide +kernel
theorem dL_sign_23 : decode cL_sign 23 = .ok (.iadd, 1) := by decide +kernel
theorem dL_sign_24 : decode cL_sign 24 = .ok (.bipush 10, 2) := by decide +kernel
theorem dL_sign_26 : decode cL_sign 26 = .ok (.isub, 1) := by decide +kernel
theorem dL_sign_27 : decode cL_sign 27 = .ok (.i2c, 1) := by decide +kernel
theorem dL_sign_28 : decode cL_sign 28 = .ok (.goto 16, 3) := by decide +kernel
theorem dL_sign_31 : decode cL_sign 31 = .ok (.iload_n 0, 1) := by decide +kernel
theorem dL_sign_32 : decode cL_sign 32 = .ok (.bipush 37, 2) := by decide +kernel
theorem dL_sign_34 : decode cL_sign 34 = .ok (.if_icmp .ge 8, 3) := by decide +kernel
theorem dL_sign_37 : decode cL_sign 37 = .ok (.bipush 32, 2) := by decide +kernel
theorem dL_sign_39 : decode cL_sign 39 = .ok (.goto 5, 3) := by decide +kernel
theorem dL_sign_42 : decode cL_sign 42 = .ok (.bipush 44, 2) := by decide +kernel
theorem dL_sign_44 : decode cL_sign 44 = .ok (.ireturn, 1) := by decide +kernel
theorem dL_fields_0 : decode cL_fields 0 = .ok (.aload_n 0, 1) := by decide +kernel
theorem dL_fields_1 : decode cL_fields 1 = .ok (.bipush 60, 2) := by decide +kernel
theorem dL_fields_3 : decode cL_fields 3 = .ok (.iaload, 1) := by decide +kernel
theorem dL_fields_4 : decode cL_fields 4 = .ok (.ifCond .ne 7, 3) := by decide +kernel
theorem dL_fields_7 : decode cL_fields 7 = .ok (.iconst 0, 1) := by decide +kernel
theorem dL_fields_8 : decode cL_fields 8 = .ok (.goto 4, 3) := by decide +kernel
theorem dL_fields_11 : decode cL_fields 11 = .ok (.iconst 1, 1) := by decide +kernel
theorem dL_fields_12 : decode cL_fields 12 = .ok (.istore_n 2, 1) := by decide +kernel
theorem dL_fields_13 : decode cL_fields 13 = .ok (.iconst 0, 1) := by decide +kernel
