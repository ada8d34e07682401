theorem dX11_treeOf_30 : decode cX11_treeOf 30 = .ok (.iload_n 2, 1) := by decide +kernel
theorem dX11_treeOf_31 : decode cX11_treeOf 31 = .ok (.invokespecial 261, 3) := by decide +kernel
theorem dX11_treeOf_34 : decode cX11_treeOf 34 = .ok (.invokespecial 265, 3) := by decide +kernel
theorem dX11_treeOf_37 : decode cX11_treeOf 37 = .ok (.areturn, 1) := by decide +kernel
theorem dX11_codeOf_0 : decode cX11_codeOf 0 = .ok (.iload_n 0, 1) := by decide +kernel
theorem dX11_codeOf_1 : decode cX11_codeOf 1 = .ok (.ifCond .ne 15, 3) := by decide +kernel
theorem dX11_codeOf_4 : decode cX11_codeOf 4 = .ok (.iconst 2, 1) := by decide +kernel
theorem dX11_codeOf_5 : decode cX11_codeOf 5 = .ok (.newarray .int, 2) := by decide +kernel
theorem dX11_codeOf_7 : decode cX11_codeOf 7 = .ok (.dup, 1) := by decide +kernel
theorem dX11_codeOf_8 : decode cX11_codeOf 8 = .ok (.iconst 0, 1) := by decide +kernel
theorem dX11_codeOf_9 : decode cX11_codeOf 9 = .ok (.iconst 0, 1) := by decide +kernel
theorem dX11_codeOf_10 : decode cX11_codeOf 10 = .ok (.iastore, 1) := by decide +kernel
theorem dX11_codeOf_11 : decode cX11_codeOf 11 = .ok (.dup, 1) := by decide +kernel
theorem dX11_codeOf_12 : decode cX11_codeOf 12 = .ok (.iconst 1, 1) := by decide +kernel
theorem dX11_codeOf_13 : decode cX11_codeOf 13 = .ok (.iload_n 1, 1) := by decide +kernel
theorem dX11_codeOf_14 : decode cX11_codeOf 14 = .ok (.iastore, 1) := by decide +kernel
theorem dX11_codeOf_15 : decode cX11_codeOf 15 = .ok (.areturn, 1) := by decide +kernel
theorem dX11_codeOf_16 : decode cX11_codeOf 16 = .ok (.bipush 6, 2) := by decide +kernel
theorem dX11_codeOf_18 : decode cX11_codeOf 18 = .ok (.newarray .int, 2) := by decide +kernel
theorem dX11_codeOf_20 : decode cX11_codeOf 20 = .ok (.dup, 1) := by decide +kernel
theorem dX11_codeOf_21 : decode cX11_codeOf 21 = .ok (.iconst 0, 1) := by decide +kernel
theorem dX11_codeOf_22 : decode cX11_codeOf 22 = .ok (.iconst 0, 1) := by decide +kernel
theorem dX11_codeOf_23 : decode cX11_codeOf 23 = .ok (.iastore, 1) := by decide +kernel
theorem dX11_codeOf_24 : decode cX11_codeOf 24 = .ok (.dup, 1) := by decide +kernel
theorem dX11_codeOf_25 : decode cX11_codeOf 25 = .ok (.iconst 1, 1) := by decide +kernel
theorem dX11_codeOf_26 : decode cX11_codeOf 26 = .ok (.iload_n 1, 1) := by decide +kernel
theorem dX11_codeOf_27 : decode cX11_codeOf 27 = .ok (.iastore, 1) := by decide +kernel
theorem dX11_codeOf_28 : decode cX11_codeOf 28 = .ok (.dup, 1) := by decide +kernel
theorem dX11_codeOf_29 : decode cX11_codeOf 29 = .ok (.iconst 2, 1) := by decide +kernel
theorem dX11_codeOf_30 : decode cX11_codeOf 30 = .ok (.iconst 0, 1) := by decide +kernel
theorem dX11_codeOf_31 : decode cX11_codeOf 31 = .ok (.iastore, 1) := by decide +kernel
theorem dX11_codeOf_32 : decode cX11_codeOf 32 = .ok (.dup, 1) := by decide +kernel
theorem dX11_codeOf_33 : decode cX11_codeOf 33 = .ok (.iconst 3, 1) := by decide +kernel
theorem dX11_codeOf_34 : decode cX11_codeOf 34 = .ok (.iload_n 2, 1) := by decide +kernel
theorem dX11_codeOf_35 : decode cX11_codeOf 35 = .ok (.iastore, 1) := by decide +kernel
theorem dX11_codeOf_36 : decode cX11_codeOf 36 = .ok (.dup, 1) := by decide +kernel
theorem dX11_codeOf_37 : decode cX11_codeOf 37 = .ok (.iconst 4, 1) := by decide +kernel
theorem dX11_codeOf_38 : decode cX11_codeOf 38 = .ok (.iload_n 0, 1) := by decide +kernel
theorem dX11_codeOf_39 : decode cX11_codeOf 39 = .ok (.iastore, 1) := by decide +kernel
theorem dX11_codeOf_40 : decode cX11_codeOf 40 = .ok (.dup, 1) := by decide +kernel
theorem dX11_codeOf_41 : decode cX11_codeOf 41 = .ok (.iconst 5, 1) := by decide +kernel
theorem dX11_codeOf_42 : decode cX11_codeOf 42 = .ok (.iconst 0, 1) := by decide +kernel
theorem dX11_codeOf_43 : decode cX11_codeOf 43 = .ok (.iastore, 1) := by decide +kernel
theorem dX11_codeOf_44 : decode cX11_codeOf 44 = .ok (.areturn, 1) := by decide +kernel
set_option maxRecDepth 20000 in
theorem ggX11_combine_X10_add : GoodIn wsX11_combine wsX10_add := goodIn_r _ [5, 6, 7, 8, 9, 10, 4, 11, 40, 41] (by decide +kernel) (by decide +kernel)
set_option maxRecDepth 20000 in
theorem gX11_combine_X10_add : GoodIn wsX11_combine (wsV RX11 268 RX10 yX10_add wsX10_add) := goodIn_app (goodIn_of _ (by decide +kernel)) ggX11_combine_X10_add
set_option maxRecDepth 20000 in
theorem ggX11_combine_X10_asNumber : GoodIn wsX11_combine wsX10_asNumber := goodIn_r _ [15, 7, 16, 17, 18, 4, 19, 6, 20, 21, 22, 23, 40, 41] (by decide +kernel) (by decide +kernel)
set_option maxRecDepth 20000 in
theorem gX11_combine_X10_asNumber : GoodIn wsX11_combine (wsV RX11 180 RX10 yX10_asNumber wsX10_asNumber) := goodIn_app (goodIn_of _ (by decide +kernel)) ggX11_combine_X10_asNumber
set_option maxRecDepth 20000 in
theorem ggX11_combine_X11_calculate : GoodIn wsX11_combine wsX11_calculate := goodIn_r _ [27] (by decide +kernel) (by decide +kernel)
set_option maxRecDepth 20000 in
theorem gX11_combine_X11_calculate : GoodIn wsX11_combine (va_wsS RX11 270 yX11_calculate wsX11_calculate) := goodIn_app (goodIn_of _ (by decide +kernel)) ggX11_combine_X11_calculate
set_option maxRecDepth 20000 in
theorem ggX11_combine_X11_isInt : GoodIn wsX11_combine wsX11_isInt := goodIn_r _ [30, 31, 32] (by decide +kernel) (by decide +kernel)
set_option maxRecDepth 20000 in
theorem gX11_combine_X11_isInt : GoodIn wsX11_combine (va_wsS RX11 274 yX11_isInt wsX11_isInt) := goodIn_app (goodIn_of _ (by decide +kernel)) ggX11_combine_X11_isInt
set_option maxRecDepth 20000 in
theorem ggX11_combine_X10_write : GoodIn wsX11_combine wsX10_write := goodIn_r _ [36, 6, 7, 37, 38, 39, 40, 41] (by decide +kernel) (by decide +kernel)
set_option maxRecDepth 20000 in
theorem gX11_combine_X10_write : GoodIn wsX11_combine (wsV RX11 174 RX10 yX10_write wsX10_write) := goodIn_app (goodIn_of _ (by decide +kernel)) ggX11_combine_X10_write
theorem dX11_combine_0 : decode cX11_combine 0 = .ok (.iload_n 0, 1) := by decide +kernel
theorem dX11_combine_1 : decode cX11_combine 1 = .ok (.iconst 4, 1) := by decide +kernel
theorem dX11_combine_2 : decode cX11_combine 2 = .ok (.if_icmp .ne 10, 3) := by decide +kernel
theorem dX11_combine_5 : decode cX11_combine 5 = .ok (.aload_n 1, 1) := by decide +kernel
theorem dX11_combine_6 : decode cX11_combine 6 = .ok (.aload_n 2, 1) := by decide +kernel
theorem dX11_combine_7 : decode cX11_combine 7 = .ok (.invokevirtual 268, 3) := by decide +kernel
theorem dX11_combine_10 : decode cX11_combine 10 = .ok (.iconst 0, 1) := by decide +kernel
theorem dX11_combine_11 : decode cX11_combine 11 = .ok (.ireturn, 1) := by decide +kernel
theorem dX11_combine_12 : decode cX11_combine 12 = .ok (.iload_n 0, 1) := by decide +kernel
theorem dX11_combine_13 : decode cX11_combine 13 = .ok (.aload_n 1, 1) := by decide +kernel
theorem dX11_combine_14 : decode cX11_combine 14 = .ok (.invokevirtual 180, 3) := by decide +kernel
theorem dX11_combine_17 : decode cX11_combine 17 = .ok (.i2l, 1) := by decide +kernel
theorem dX11_combine_18 : decode cX11_combine 18 = .ok (.aload_n 2, 1) := by decide +kernel
theorem dX11_combine_19 : decode cX11_combine 19 = .ok (.invokevirtual 180, 3) := by decide +kernel
theorem dX11_combine_22 : decode cX11_combine 22 = .ok (.i2l, 1) := by decide +kernel
theorem dX11_combine_23 : decode cX11_combine 23 = .ok (.invokestatic 270, 3) := by decide +kernel
theorem dX11_combine_26 : decode cX11_combine 26 = .ok (.lstore_n 3, 1) := by decide +kernel
theorem dX11_combine_27 : decode cX11_combine 27 = .ok (.lload_n 3, 1) := by decide +kernel
theorem dX11_combine_28 : decode cX11_combine 28 = .ok (.invokestatic 274, 3) := by decide +kernel
theorem dX11_combine_31 : decode cX11_combine 31 = .ok (.istore 5, 2) := by decide +kernel
theorem dX11_combine_33 : decode cX11_combine 33 = .ok (.aload_n 1, 1) := by decide +kernel
theorem dX11_combine_34 : decode cX11_combine 34 = .ok (.iload 5, 2) := by decide +kernel
theorem dX11_combine_36 : decode cX11_combine 36 = .ok (.ifCond .eq 8, 3) := by decide +kernel
theorem dX11_combine_39 : decode cX11_combine 39 = .ok (.lload_n 3, 1) := by decide +kernel
theorem dX11_combine_40 : decode cX11_combine 40 = .ok (.l2i, 1) := by decide +kernel
theorem dX11_combine_41 : decode cX11_combine 41 = .ok (.goto 4, 3) := by decide +kernel
theorem dX11_combine_44 : decode cX11_combine 44 = .ok (.iconst 0, 1) := by decide +kernel
theorem dX11_combine_45 : decode cX11_combine 45 = .ok (.invokevirtual 174, 3) := by decide +kernel
theorem dX11_combine_48 : decode cX11_combine 48 = .ok (.iload 5, 2) := by decide +kernel
theorem dX11_combine_50 : decode cX11_combine 50 = .ok (.ifCond .eq 7, 3) := by decide +kernel
theorem dX11_combine_53 : decode cX11_combine 53 = .ok (.iconst 0, 1) := by decide +kernel
theorem dX11_combine_54 : decode cX11_combine 54 = .ok (.goto 4, 3) := by decide +kernel
theorem dX11_combine_57 : decode cX11_combine 57 = .ok (.iconst 1, 1) := by decide +kernel
theorem dX11_combine_58 : decode cX11_combine 58 = .ok (.ireturn, 1) := by decide +kernel
theorem dX11_calculate_0 : decode cX11_calculate 0 = .ok (.iload_n 0, 1) := by decide +kernel
theorem dX11_calculate_1 : decode cX11_calculate 1 = .ok (.tableswitch 39 1 3 #[27, 31, 35], 27) := by decide +kernel
theorem dX11_calculate_28 : decode cX11_calculate 28 = .ok (.lload_n 1, 1) := by decide +kernel
theorem dX11_calculate_29 : decode cX11_calculate 29 = .ok (.lload_n 3, 1) := by decide +kernel
theorem dX11_calculate_30 : decode cX11_calculate 30 = .ok (.ladd, 1) := by decide +kernel
theorem dX11_calculate_31 : decode cX11_calculate 31 = .ok (.lreturn, 1) := by decide +kernel
theorem dX11_calculate_32 : decode cX11_calculate 32 = .ok (.lload_n 1, 1) := by decide +kernel
theorem dX11_calculate_33 : decode cX11_calculate 33 = .ok (.lload_n 3, 1) := by decide +kernel
theorem dX11_calculate_34 : decode cX11_calculate 34 = .ok (.lsub, 1) := by decide +kernel
theorem dX11_calculate_35 : decode cX11_calculate 35 = .ok (.lreturn, 1) := by decide +kernel
theorem dX11_calculate_36 : decode cX11_calculate 36 = .ok (.lload_n 1, 1) := by decide +kernel
theorem dX11_calculate_37 : decode cX11_calculate 37 = .ok (.lload_n 3, 1) := by decide +kernel
theorem dX11_calculate_38 : decode cX11_calculate 38 = .ok (.lmul, 1) := by decide +kernel
theorem dX11_calculate_39 : decode cX11_calculate 39 = .ok (.lreturn, 1) := by decide +kernel
theorem dX11_calculate_40 : decode cX11_calculate 40 = .ok (.lload_n 1, 1) := by decide +kernel
theorem dX11_calculate_41 : decode cX11_calculate 41 = .ok (.lreturn, 1) := by decide +kernel
theorem dX11_isInt_0 : decode cX11_isInt 0 = .ok (.lload_n 0, 1) := by decide +kernel
theorem dX11_isInt_1 : decode cX11_isInt 1 = .ok (.ldc2_w 280, 3) := by decide +kernel
theorem dX11_isInt_4 : decode cX11_isInt 4 = .ok (.lcmp, 1) := by decide +kernel
theorem dX11_isInt_5 : decode cX11_isInt 5 = .ok (.ifCond .lt 15, 3) := by decide +kernel
theorem dX11_isInt_8 : decode cX11_isInt 8 = .ok (.lload_n 0, 1) := by decide +kernel
theorem dX11_isInt_9 : decode cX11_isInt 9 = .ok (.ldc2_w 282, 3) := by decide +kernel
theorem dX11_isInt_12 : decode cX11_isInt 12 = .ok (.lcmp, 1) := by decide +kernel
theorem dX11_isInt_13 : decode cX11_isInt 13 = .ok (.ifCond .gt 7, 3) := by decide +kernel
theorem dX11_isInt_16 : decode cX11_isInt 16 = .ok (.iconst 1, 1) := by decide +kernel
theorem dX11_isInt_17 : decode cX11_isInt 17 = .ok (.goto 4, 3) := by decide +kernel
theorem dX11_isInt_20 : decode cX11_isInt 20 = .ok (.iconst 0, 1) := by decide +kernel
theorem dX11_isInt_21 : decode cX11_isInt 21 = .ok (.ireturn, 1) := by decide +kernel
theorem dX12_init_0 : decode cX12_init 0 = .ok (.aload_n 0, 1) := by decide +kernel
theorem dX12_init_1 : decode cX12_init 1 = .ok (.invokespecial 1, 3) := by decide +kernel
theorem dX12_init_4 : decode cX12_init 4 = .ok (.aload_n 0, 1) := by decide +kernel
theorem dX12_init_5 : decode cX12_init 5 = .ok (.bipush 32, 2) := by decide +kernel
theorem dX12_init_7 : decode cX12_init 7 = .ok (.putfield 7, 3) := by decide +kernel
theorem dX12_init_10 : decode cX12_init 10 = .ok (.aload_n 0, 1) := by decide +kernel
theorem dX12_init_11 : decode cX12_init 11 = .ok (.bipush 60, 2) := by decide +kernel
theorem dX12_init_13 : decode cX12_init 13 = .ok (.newarray .int, 2) := by decide +kernel
theorem dX12_init_15 : decode cX12_init 15 = .ok (.putfield 13, 3) := by decide +kernel
theorem dX12_init_18 : decode cX12_init 18 = .ok (.aload_n 0, 1) := by decide +kernel
theorem dX12_init_19 : decode cX12_init 19 = .ok (.bipush 12, 2) := by decide +kernel
theorem dX12_init_21 : decode cX12_init 21 = .ok (.newarray .int, 2) := by decide +kernel
theorem dX12_init_23 : decode cX12_init 23 = .ok (.putfield 17, 3) := by decide +kernel
theorem dX12_init_26 : decode cX12_init 26 = .ok (.aload_n 0, 1) := by decide +kernel
theorem dX12_init_27 : decode cX12_init 27 = .ok (.bipush 12, 2) := by decide +kernel
theorem dX12_init_29 : decode cX12_init 29 = .ok (.newarray .int, 2) := by decide +kernel
theorem dX12_init_31 : decode cX12_init 31 = .ok (.putfield 20, 3) := by decide +kernel
theorem dX12_init_34 : decode cX12_init 34 = .ok (.aload_n 0, 1) := by decide +kernel
theorem dX12_init_35 : decode cX12_init 35 = .ok (.bipush 60, 2) := by decide +kernel
theorem dX12_init_37 : decode cX12_init 37 = .ok (.newarray .int, 2) := by decide +kernel
theorem dX12_init_39 : decode cX12_init 39 = .ok (.putfield 23, 3) := by decide +kernel
theorem dX12_init_42 : decode cX12_init 42 = .ok (.aload_n 0, 1) := by decide +kernel
theorem dX12_init_43 : decode cX12_init 43 = .ok (.bipush 8, 2) := by decide +kernel
theorem dX12_init_45 : decode cX12_init 45 = .ok (.newarray .int, 2) := by decide +kernel
theorem dX12_init_47 : decode cX12_init 47 = .ok (.putfield 26, 3) := by decide +kernel
theorem dX12_init_50 : decode cX12_init 50 = .ok (.aload_n 0, 1) := by decide +kernel
theorem dX12_init_51 : decode cX12_init 51 = .ok (.bipush 8, 2) := by decide +kernel
theorem dX12_init_53 : decode cX12_init 53 = .ok (.newarray .int, 2) := by decide +kernel
theorem dX12_init_55 : decode cX12_init 55 = .ok (.putfield 29, 3) := by decide +kernel
theorem dX12_init_58 : decode cX12_init 58 = .ok (.aload_n 0, 1) := by decide +kernel
theorem dX12_init_59 : decode cX12_init 59 = .ok (.bipush 8, 2) := by decide +kernel
theorem dX12_init_61 : decode cX12_init 61 = .ok (.newarray .int, 2) := by decide +kernel
theorem dX12_init_63 : decode cX12_init 63 = .ok (.putfield 32, 3) := by decide +kernel
theorem dX12_init_66 : decode cX12_init 66 = .ok (.aload_n 0, 1) := by decide +kernel
theorem dX12_init_67 : decode cX12_init 67 = .ok (.bipush 8, 2) := by decide +kernel
theorem dX12_init_69 : decode cX12_init 69 = .ok (.newarray .boolean, 2) := by decide +kernel
theorem dX12_init_71 : decode cX12_init 71 = .ok (.putfield 35, 3) := by decide +kernel
theorem dX12_init_74 : decode cX12_init 74 = .ok (.aload_n 0, 1) := by decide +kernel
theorem dX12_init_75 : decode cX12_init 75 = .ok (.bipush 8, 2) := by decide +kernel
theorem dX12_init_77 : decode cX12_init 77 = .ok (.newarray .int, 2) := by decide +kernel
theorem dX12_init_79 : decode cX12_init 79 = .ok (.putfield 39, 3) := by decide +kernel
theorem dX12_init_82 : decode cX12_init 82 = .ok (.aload_n 0, 1) := by decide +kernel
theorem dX12_init_83 : decode cX12_init 83 = .ok (.bipush 48, 2) := by decide +kernel
theorem dX12_init_85 : decode cX12_init 85 = .ok (.newarray .int, 2) := by decide +kernel
theorem dX12_init_87 : decode cX12_init 87 = .ok (.putfield 42, 3) := by decide +kernel
theorem dX12_init_90 : decode cX12_init 90 = .ok (.aload_n 0, 1) := by decide +kernel
theorem dX12_init_91 : decode cX12_init 91 = .ok (.bipush 48, 2) := by decide +kernel
theorem dX12_init_93 : decode cX12_init 93 = .ok (.newarray .int, 2) := by decide +kernel
theorem dX12_init_95 : decode cX12_init 95 = .ok (.putfield 45, 3) := by decide +kernel
theorem dX12_init_98 : decode cX12_init 98 = .ok (.aload_n 0, 1) := by decide +kernel
theorem dX12_init_99 : decode cX12_init 99 = .ok (.bipush 48, 2) := by decide +kernel
theorem dX12_init_101 : decode cX12_init 101 = .ok (.newarray .int, 2) := by decide +kernel
theorem dX12_init_103 : decode cX12_init 103 = .ok (.putfield 48, 3) := by decide +kernel
theorem dX12_init_106 : decode cX12_init 106 = .ok (.aload_n 0, 1) := by decide +kernel
theorem dX12_init_107 : decode cX12_init 107 = .ok (.bipush 48, 2) := by decide +kernel
theorem dX12_init_109 : decode cX12_init 109 = .ok (.newarray .int, 2) := by decide +kernel
theorem dX12_init_111 : decode cX12_init 111 = .ok (.putfield 51, 3) := by decide +kernel
theorem dX12_init_114 : decode cX12_init 114 = .ok (.aload_n 0, 1) := by decide +kernel
theorem dX12_init_115 : decode cX12_init 115 = .ok (.bipush 48, 2) := by decide +kernel
theorem dX12_init_117 : decode cX12_init 117 = .ok (.newarray .int, 2) := by decide +kernel
theorem dX12_init_119 : decode cX12_init 119 = .ok (.putfield 54, 3) := by decide +kernel
theorem dX12_init_122 : decode cX12_init 122 = .ok (.aload_n 0, 1) := by decide +kernel
theorem dX12_init_123 : decode cX12_init 123 = .ok (.sipush 1200, 3) := by decide +kernel
theorem dX12_init_126 : decode cX12_init 126 = .ok (.newarray .int, 2) := by decide +kernel
theorem dX12_init_128 : decode cX12_init 128 = .ok (.putfield 57, 3) := by decide +kernel
theorem dX12_init_131 : decode cX12_init 131 = .ok (.aload_n 0, 1) := by decide +kernel
theorem dX12_init_132 : decode cX12_init 132 = .ok (.bipush 20, 2) := by decide +kernel
theorem dX12_init_134 : decode cX12_init 134 = .ok (.newarray .int, 2) := by decide +kernel
theorem dX12_init_136 : decode cX12_init 136 = .ok (.putfield 60, 3) := by decide +kernel
theorem dX12_init_139 : decode cX12_init 139 = .ok (.aload_n 0, 1) := by decide +kernel
theorem dX12_init_140 : decode cX12_init 140 = .ok (.bipush 20, 2) := by decide +kernel
theorem dX12_init_142 : decode cX12_init 142 = .ok (.newarray .int, 2) := by decide +kernel
theorem dX12_init_144 : decode cX12_init 144 = .ok (.putfield 63, 3) := by decide +kernel
theorem dX12_init_147 : decode cX12_init 147 = .ok (.aload_n 0, 1) := by decide +kernel
theorem dX12_init_148 : decode cX12_init 148 = .ok (.sipush 2400, 3) := by decide +kernel
theorem dX12_init_151 : decode cX12_init 151 = .ok (.newarray .int, 2) := by decide +kernel
theorem dX12_init_153 : decode cX12_init 153 = .ok (.putfield 66, 3) := by decide +kernel
theorem dX12_init_156 : decode cX12_init 156 = .ok (.aload_n 0, 1) := by decide +kernel
theorem dX12_init_157 : decode cX12_init 157 = .ok (.bipush 40, 2) := by decide +kernel
theorem dX12_init_159 : decode cX12_init 159 = .ok (.newarray .int, 2) := by decide +kernel
theorem dX12_init_161 : decode cX12_init 161 = .ok (.putfield 69, 3) := by decide +kernel
theorem dX12_init_164 : decode cX12_init 164 = .ok (.aload_n 0, 1) := by decide +kernel
theorem dX12_init_165 : decode cX12_init 165 = .ok (.bipush 60, 2) := by decide +kernel
theorem dX12_init_167 : decode cX12_init 167 = .ok (.newarray .int, 2) := by decide +kernel
theorem dX12_init_169 : decode cX12_init 169 = .ok (.putfield 72, 3) := by decide +kernel
theorem dX12_init_172 : decode cX12_init 172 = .ok (.aload_n 0, 1) := by decide +kernel
theorem dX12_init_173 : decode cX12_init 173 = .ok (.bipush 60, 2) := by decide +kernel
theorem dX12_init_175 : decode cX12_init 175 = .ok (.newarray .int, 2) := by decide +kernel
theorem dX12_init_177 : decode cX12_init 177 = .ok (.putfield 75, 3) := by decide +kernel
theorem dX12_init_180 : decode cX12_init 180 = .ok (.aload_n 0, 1) := by decide +kernel
theorem dX12_init_181 : decode cX12_init 181 = .ok (.bipush 12, 2) := by decide +kernel
theorem dX12_init_183 : decode cX12_init 183 = .ok (.newarray .int, 2) := by decide +kernel
theorem dX12_init_185 : decode cX12_init 185 = .ok (.putfield 78, 3) := by decide +kernel
theorem dX12_init_188 : decode cX12_init 188 = .ok (.return_, 1) := by decide +kernel
theorem dX12_thrown_0 : decode cX12_thrown 0 = .ok (.aload_n 0, 1) := by decide +kernel
theorem dX12_thrown_1 : decode cX12_thrown 1 = .ok (.getfield 81, 3) := by decide +kernel
theorem dX12_thrown_4 : decode cX12_thrown 4 = .ok (.ireturn, 1) := by decide +kernel
theorem dX12_fails_0 : decode cX12_fails 0 = .ok (.aload_n 0, 1) := by decide +kernel
theorem dX12_fails_1 : decode cX12_fails 1 = .ok (.iload_n 1, 1) := by decide +kernel
theorem dX12_fails_2 : decode cX12_fails 2 = .ok (.putfield 81, 3) := by decide +kernel
theorem dX12_fails_5 : decode cX12_fails 5 = .ok (.iload_n 1, 1) := by decide +kernel
theorem dX12_fails_6 : decode cX12_fails 6 = .ok (.ifCond .le 7, 3) := by decide +kernel
theorem dX12_fails_9 : decode cX12_fails 9 = .ok (.iconst 1, 1) := by decide +kernel
theorem dX12_fails_10 : decode cX12_fails 10 = .ok (.goto 4, 3) := by decide +kernel
theorem dX12_fails_13 : decode cX12_fails 13 = .ok (.iconst 0, 1) := by decide +kernel
theorem dX12_fails_14 : decode cX12_fails 14 = .ok (.ireturn, 1) := by decide +kernel
theorem dX12_isIn_0 : decode cX12_isIn 0 = .ok (.iload_n 0, 1) := by decide +kernel
theorem dX12_isIn_1 : decode cX12_isIn 1 = .ok (.iload_n 1, 1) := by decide +kernel
theorem dX12_isIn_2 : decode cX12_isIn 2 = .ok (.if_icmp .lt 12, 3) := by decide +kernel
theorem dX12_isIn_5 : decode cX12_isIn 5 = .ok (.iload_n 0, 1) := by decide +kernel
theorem dX12_isIn_6 : decode cX12_isIn 6 = .ok (.iload_n 2, 1) := by decide +kernel
theorem dX12_isIn_7 : decode cX12_isIn 7 = .ok (.if_icmp .gt 7, 3) := by decide +kernel
theorem dX12_isIn_10 : decode cX12_isIn 10 = .ok (.iconst 1, 1) := by decide +kernel
theorem dX12_isIn_11 : decode cX12_isIn 11 = .ok (.goto 4, 3) := by decide +kernel
theorem dX12_isIn_14 : decode cX12_isIn 14 = .ok (.iconst 0, 1) := by decide +kernel
theorem dX12_isIn_15 : decode cX12_isIn 15 = .ok (.ireturn, 1) := by decide +kernel
theorem dX12_letter_0 : decode cX12_letter 0 = .ok (.iload_n 0, 1) := by decide +kernel
theorem dX12_letter_1 : decode cX12_letter 1 = .ok (.bipush 10, 2) := by decide +kernel
theorem dX12_letter_3 : decode cX12_letter 3 = .ok (.if_icmp .ge 10, 3) := by decide +kernel
theorem dX12_letter_6 : decode cX12_letter 6 = .ok (.bipush 48, 2) := by decide +kernel
theorem dX12_letter_8 : decode cX12_letter 8 = .ok (.iload_n 0, 1) := by decide +kernel
theorem dX12_letter_9 : decode cX12_letter 9 = .ok (.iadd, 1) := by decide +kernel
theorem dX12_letter_10 : decode cX12_letter 10 = .ok (.goto 32, 3) := by decide +kernel
theorem dX12_letter_13 : decode cX12_letter 13 = .ok (.iload_n 0, 1) := by decide +kernel
theorem dX12_letter_14 : decode cX12_letter 14 = .ok (.bipush 36, 2) := by decide +kernel
theorem dX12_letter_16 : decode cX12_letter 16 = .ok (.if_icmp .ge 13, 3) := by decide +kernel
theorem dX12_letter_19 : decode cX12_letter 19 = .ok (.bipush 97, 2) := by decide +kernel
theorem dX12_letter_21 : decode cX12_letter 21 = .ok (.iload_n 0, 1) := by decide +kernel
theorem dX12_letter_22 : decode cX12_letter 22 = .ok (.iadd, 1) := by decide +kernel
theorem dX12_letter_23 : decode cX12_letter 23 = .ok (.bipush 10, 2) := by decide +kernel
theorem dX12_letter_25 : decode cX12_letter 25 = .ok (.isub, 1) := by decide +kernel
theorem dX12_letter_26 : decode cX12_letter 26 = .ok (.goto 16, 3) := by decide +kernel
theorem dX12_letter_29 : decode cX12_letter 29 = .ok (.iload_n 0, 1) := by decide +kernel
theorem dX12_letter_30 : decode cX12_letter 30 = .ok (.bipush 36, 2) := by decide +kernel
theorem dX12_letter_32 : decode cX12_letter 32 = .ok (.if_icmp .ne 8, 3) := by decide +kernel
theorem dX12_letter_35 : decode cX12_letter 35 = .ok (.bipush 32, 2) := by decide +kernel
theorem dX12_letter_37 : decode cX12_letter 37 = .ok (.goto 5, 3) := by decide +kernel
theorem dX12_letter_40 : decode cX12_letter 40 = .ok (.bipush 44, 2) := by decide +kernel
theorem dX12_letter_42 : decode cX12_letter 42 = .ok (.ireturn, 1) := by decide +kernel
set_option maxRecDepth 20000 in
theorem ggX12_isField_X12_isIn : GoodIn wsX12_isField wsX12_isIn := goodIn_r _ [4] (by decide +kernel) (by decide +kernel)
set_option maxRecDepth 20000 in
theorem gX12_isField_X12_isIn : GoodIn wsX12_isField (va_wsS RX12 84 yX12_isIn wsX12_isIn) := goodIn_app (goodIn_of _ (by decide +kernel)) ggX12_isField_X12_isIn
theorem dX12_isField_0 : decode cX12_isField 0 = .ok (.iload_n 0, 1) := by decide +kernel
theorem dX12_isField_1 : decode cX12_isField 1 = .ok (.iconst 0, 1) := by decide +kernel
theorem dX12_isField_2 : decode cX12_isField 2 = .ok (.bipush 12, 2) := by decide +kernel
theorem dX12_isField_4 : decode cX12_isField 4 = .ok (.invokestatic 84, 3) := by decide +kernel
theorem dX12_isField_7 : decode cX12_isField 7 = .ok (.ireturn, 1) := by decide +kernel
theorem dX12_from_0 : decode cX12_from 0 = .ok (.iload_n 1, 1) := by decide +kernel
theorem dX12_from_1 : decode cX12_from 1 = .ok (.ifCond .eq 11, 3) := by decide +kernel
theorem dX12_from_4 : decode cX12_from 4 = .ok (.iload_n 1, 1) := by decide +kernel
theorem dX12_from_5 : decode cX12_from 5 = .ok (.aload_n 0, 1) := by decide +kernel
theorem dX12_from_6 : decode cX12_from 6 = .ok (.getfield 88, 3) := by decide +kernel
theorem dX12_from_9 : decode cX12_from 9 = .ok (.if_icmp .le 7, 3) := by decide +kernel
theorem dX12_from_12 : decode cX12_from 12 = .ok (.iconst 0, 1) := by decide +kernel
theorem dX12_from_13 : decode cX12_from 13 = .ok (.goto 11, 3) := by decide +kernel
theorem dX12_from_16 : decode cX12_from 16 = .ok (.aload_n 0, 1) := by decide +kernel
theorem dX12_from_17 : decode cX12_from 17 = .ok (.getfield 17, 3) := by decide +kernel
theorem dX12_from_20 : decode cX12_from 20 = .ok (.iload_n 1, 1) := by decide +kernel
theorem dX12_from_21 : decode cX12_from 21 = .ok (.iconst 1, 1) := by decide +kernel
theorem dX12_from_22 : decode cX12_from 22 = .ok (.isub, 1) := by decide +kernel
theorem dX12_from_23 : decode cX12_from 23 = .ok (.iaload, 1) := by decide +kernel
theorem dX12_from_24 : decode cX12_from 24 = .ok (.ireturn, 1) := by decide +kernel
theorem dX12_to_0 : decode cX12_to 0 = .ok (.iload_n 1, 1) := by decide +kernel
theorem dX12_to_1 : decode cX12_to 1 = .ok (.ifCond .ne 10, 3) := by decide +kernel
theorem dX12_to_4 : decode cX12_to 4 = .ok (.aload_n 0, 1) := by decide +kernel
theorem dX12_to_5 : decode cX12_to 5 = .ok (.getfield 91, 3) := by decide +kernel
theorem dX12_to_8 : decode cX12_to 8 = .ok (.goto 23, 3) := by decide +kernel
theorem dX12_to_11 : decode cX12_to 11 = .ok (.iload_n 1, 1) := by decide +kernel
theorem dX12_to_12 : decode cX12_to 12 = .ok (.aload_n 0, 1) := by decide +kernel
theorem dX12_to_13 : decode cX12_to 13 = .ok (.getfield 88, 3) := by decide +kernel
theorem dX12_to_16 : decode cX12_to 16 = .ok (.if_icmp .le 7, 3) := by decide +kernel
theorem dX12_to_19 : decode cX12_to 19 = .ok (.iconst 0, 1) := by decide +kernel
theorem dX12_to_20 : decode cX12_to 20 = .ok (.goto 11, 3) := by decide +kernel
theorem dX12_to_23 : decode cX12_to 23 = .ok (.aload_n 0, 1) := by decide +kernel
theorem dX12_to_24 : decode cX12_to 24 = .ok (.getfield 20, 3) := by decide +kernel
theorem dX12_to_27 : decode cX12_to 27 = .ok (.iload_n 1, 1) := by decide +kernel
theorem dX12_to_28 : decode cX12_to 28 = .ok (.iconst 1, 1) := by decide +kernel
theorem dX12_to_29 : decode cX12_to 29 = .ok (.isub, 1) := by decide +kernel
theorem dX12_to_30 : decode cX12_to 30 = .ok (.iaload, 1) := by decide +kernel
theorem dX12_to_31 : decode cX12_to 31 = .ok (.ireturn, 1) := by decide +kernel
theorem dX12_cuts_0 : decode cX12_cuts 0 = .ok (.aload_n 0, 1) := by decide +kernel
theorem dX12_cuts_1 : decode cX12_cuts 1 = .ok (.aload_n 0, 1) := by decide +kernel
theorem dX12_cuts_2 : decode cX12_cuts 2 = .ok (.getfield 91, 3) := by decide +kernel
theorem dX12_cuts_5 : decode cX12_cuts 5 = .ok (.ifCond .ne 7, 3) := by decide +kernel
theorem dX12_cuts_8 : decode cX12_cuts 8 = .ok (.iconst 0, 1) := by decide +kernel
theorem dX12_cuts_9 : decode cX12_cuts 9 = .ok (.goto 4, 3) := by decide +kernel
theorem dX12_cuts_12 : decode cX12_cuts 12 = .ok (.iconst 1, 1) := by decide +kernel
theorem dX12_cuts_13 : decode cX12_cuts 13 = .ok (.putfield 88, 3) := by decide +kernel
theorem dX12_cuts_16 : decode cX12_cuts 16 = .ok (.aload_n 0, 1) := by decide +kernel
theorem dX12_cuts_17 : decode cX12_cuts 17 = .ok (.getfield 17, 3) := by decide +kernel
theorem dX12_cuts_20 : decode cX12_cuts 20 = .ok (.iconst 0, 1) := by decide +kernel
theorem dX12_cuts_21 : decode cX12_cuts 21 = .ok (.iconst 0, 1) := by decide +kernel
theorem dX12_cuts_22 : decode cX12_cuts 22 = .ok (.iastore, 1) := by decide +kernel
theorem dX12_cuts_23 : decode cX12_cuts 23 = .ok (.iconst 0, 1) := by decide +kernel
theorem dX12_cuts_24 : decode cX12_cuts 24 = .ok (.istore_n 1, 1) := by decide +kernel
theorem dX12_cuts_25 : decode cX12_cuts 25 = .ok (.iload_n 1, 1) := by decide +kernel
theorem dX12_cuts_26 : decode cX12_cuts 26 = .ok (.aload_n 0, 1) := by decide +kernel
theorem dX12_cuts_27 : decode cX12_cuts 27 = .ok (.getfield 91, 3) := by decide +kernel
theorem dX12_cuts_30 : decode cX12_cuts 30 = .ok (.if_icmp .ge 65, 3) := by decide +kernel
theorem dX12_cuts_33 : decode cX12_cuts 33 = .ok (.aload_n 0, 1) := by decide +kernel
theorem dX12_cuts_34 : decode cX12_cuts 34 = .ok (.getfield 13, 3) := by decide +kernel
theorem dX12_cuts_37 : decode cX12_cuts 37 = .ok (.iload_n 1, 1) := by decide +kernel
theorem dX12_cuts_38 : decode cX12_cuts 38 = .ok (.iaload, 1) := by decide +kernel
theorem dX12_cuts_39 : decode cX12_cuts 39 = .ok (.aload_n 0, 1) := by decide +kernel
theorem dX12_cuts_40 : decode cX12_cuts 40 = .ok (.getfield 7, 3) := by decide +kernel
theorem dX12_cuts_43 : decode cX12_cuts 43 = .ok (.if_icmp .ne 46, 3) := by decide +kernel
theorem dX12_cuts_46 : decode cX12_cuts 46 = .ok (.aload_n 0, 1) := by decide +kernel
theorem dX12_cuts_47 : decode cX12_cuts 47 = .ok (.getfield 88, 3) := by decide +kernel
theorem dX12_cuts_50 : decode cX12_cuts 50 = .ok (.bipush 12, 2) := by decide +kernel
theorem dX12_cuts_52 : decode cX12_cuts 52 = .ok (.if_icmp .ge 37, 3) := by decide +kernel
theorem dX12_cuts_55 : decode cX12_cuts 55 = .ok (.aload_n 0, 1) := by decide +kernel
theorem dX12_cuts_56 : decode cX12_cuts 56 = .ok (.getfield 20, 3) := by decide +kernel
theorem dX12_cuts_59 : decode cX12_cuts 59 = .ok (.aload_n 0, 1) := by decide +kernel
theorem dX12_cuts_60 : decode cX12_cuts 60 = .ok (.getfield 88, 3) := by decide +kernel
theorem dX12_cuts_63 : decode cX12_cuts 63 = .ok (.iconst 1, 1) := by decide +kernel
theorem dX12_cuts_64 : decode cX12_cuts 64 = .ok (.isub, 1) := by decide +kernel
theorem dX12_cuts_65 : decode cX12_cuts 65 = .ok (.iload_n 1, 1) := by decide +kernel
theorem dX12_cuts_66 : decode cX12_cuts 66 = .ok (.iastore, 1) := by decide +kernel
theorem dX12_cuts_67 : decode cX12_cuts 67 = .ok (.aload_n 0, 1) := by decide +kernel
theorem dX12_cuts_68 : decode cX12_cuts 68 = .ok (.getfield 17, 3) := by decide +kernel
theorem dX12_cuts_71 : decode cX12_cuts 71 = .ok (.aload_n 0, 1) := by decide +kernel
theorem dX12_cuts_72 : decode cX12_cuts 72 = .ok (.getfield 88, 3) := by decide +kernel
theorem dX12_cuts_75 : decode cX12_cuts 75 = .ok (.iload_n 1, 1) := by decide +kernel
theorem dX12_cuts_76 : decode cX12_cuts 76 = .ok (.iconst 1, 1) := by decide +kernel
theorem dX12_cuts_77 : decode cX12_cuts 77 = .ok (.iadd, 1) := by decide +kernel
theorem dX12_cuts_78 : decode cX12_cuts 78 = .ok (.iastore, 1) := by decide +kernel
theorem dX12_cuts_79 : decode cX12_cuts 79 = .ok (.aload_n 0, 1) := by decide +kernel
theorem dX12_cuts_80 : decode cX12_cuts 80 = .ok (.dup, 1) := by decide +kernel
theorem dX12_cuts_81 : decode cX12_cuts 81 = .ok (.getfield 88, 3) := by decide +kernel
theorem dX12_cuts_84 : decode cX12_cuts 84 = .ok (.iconst 1, 1) := by decide +kernel
theorem dX12_cuts_85 : decode cX12_cuts 85 = .ok (.iadd, 1) := by decide +kernel
theorem dX12_cuts_86 : decode cX12_cuts 86 = .ok (.putfield 88, 3) := by decide +kernel
theorem dX12_cuts_89 : decode cX12_cuts 89 = .ok (.iinc 1 1, 3) := by decide +kernel
theorem dX12_cuts_92 : decode cX12_cuts 92 = .ok (.goto (-67), 3) := by decide +kernel
theorem dX12_cuts_95 : decode cX12_cuts 95 = .ok (.aload_n 0, 1) := by decide +kernel
theorem dX12_cuts_96 : decode cX12_cuts 96 = .ok (.getfield 88, 3) := by decide +kernel
theorem dX12_cuts_99 : decode cX12_cuts 99 = .ok (.ifCond .le 18, 3) := by decide +kernel
theorem dX12_cuts_102 : decode cX12_cuts 102 = .ok (.aload_n 0, 1) := by decide +kernel
theorem dX12_cuts_103 : decode cX12_cuts 103 = .ok (.getfield 20, 3) := by decide +kernel
theorem dX12_cuts_106 : decode cX12_cuts 106 = .ok (.aload_n 0, 1) := by decide +kernel
theorem dX12_cuts_107 : decode cX12_cuts 107 = .ok (.getfield 88, 3) := by decide +kernel
theorem dX12_cuts_110 : decode cX12_cuts 110 = .ok (.iconst 1, 1) := by decide +kernel
theorem dX12_cuts_111 : decode cX12_cuts 111 = .ok (.isub, 1) := by decide +kernel
theorem dX12_cuts_112 : decode cX12_cuts 112 = .ok (.aload_n 0, 1) := by decide +kernel
theorem dX12_cuts_113 : decode cX12_cuts 113 = .ok (.getfield 91, 3) := by decide +kernel
theorem dX12_cuts_116 : decode cX12_cuts 116 = .ok (.iastore, 1) := by decide +kernel
theorem dX12_cuts_117 : decode cX12_cuts 117 = .ok (.return_, 1) := by decide +kernel
theorem dX12_adds_0 : decode cX12_adds 0 = .ok (.aload_n 0, 1) := by decide +kernel
theorem dX12_adds_1 : decode cX12_adds 1 = .ok (.getfield 94, 3) := by decide +kernel
theorem dX12_adds_4 : decode cX12_adds 4 = .ok (.bipush 60, 2) := by decide +kernel
theorem dX12_adds_6 : decode cX12_adds 6 = .ok (.if_icmp .ge 23, 3) := by decide +kernel
theorem dX12_adds_9 : decode cX12_adds 9 = .ok (.aload_n 0, 1) := by decide +kernel
theorem dX12_adds_10 : decode cX12_adds 10 = .ok (.getfield 75, 3) := by decide +kernel
theorem dX12_adds_13 : decode cX12_adds 13 = .ok (.aload_n 0, 1) := by decide +kernel
theorem dX12_adds_14 : decode cX12_adds 14 = .ok (.getfield 94, 3) := by decide +kernel
theorem dX12_adds_17 : decode cX12_adds 17 = .ok (.iload_n 1, 1) := by decide +kernel
theorem dX12_adds_18 : decode cX12_adds 18 = .ok (.iastore, 1) := by decide +kernel
theorem dX12_adds_19 : decode cX12_adds 19 = .ok (.aload_n 0, 1) := by decide +kernel
theorem dX12_adds_20 : decode cX12_adds 20 = .ok (.dup, 1) := by decide +kernel
theorem dX12_adds_21 : decode cX12_adds 21 = .ok (.getfield 94, 3) := by decide +kernel
theorem dX12_adds_24 : decode cX12_adds 24 = .ok (.iconst 1, 1) := by decide +kernel
theorem dX12_adds_25 : decode cX12_adds 25 = .ok (.iadd, 1) := by decide +kernel
theorem dX12_adds_26 : decode cX12_adds 26 = .ok (.putfield 94, 3) := by decide +kernel
theorem dX12_adds_29 : decode cX12_adds 29 = .ok (.return_, 1) := by decide +kernel
set_option maxRecDepth 20000 in
theorem ggX12_becomes_X12_cuts : GoodIn wsX12_becomes wsX12_cuts := goodIn_r _ [9, 2, 10, 11, 3, 12, 13, 14, 15, 16, 17, 18, 19, 20, 21, 22, 23, 24, 25, 26, 27, 28, 29, 30, 31, 32, 33, 34, 35, 36, 37, 38, 39, 40, 41, 42, 43, 44, 45, 46, 47] (by decide +kernel) (by decide +kernel)
set_option maxRecDepth 20000 in
theorem gX12_becomes_X12_cuts : GoodIn wsX12_becomes (wsV RX12 97 RX12 yX12_cuts wsX12_cuts) := goodIn_app (goodIn_of _ (by decide +kernel)) ggX12_becomes_X12_cuts
theorem dX12_becomes_0 : decode cX12_becomes 0 = .ok (.aload_n 0, 1) := by decide +kernel
theorem dX12_becomes_1 : decode cX12_becomes 1 = .ok (.aload_n 0, 1) := by decide +kernel
theorem dX12_becomes_2 : decode cX12_becomes 2 = .ok (.getfield 94, 3) := by decide +kernel
theorem dX12_becomes_5 : decode cX12_becomes 5 = .ok (.putfield 91, 3) := by decide +kernel
theorem dX12_becomes_8 : decode cX12_becomes 8 = .ok (.iconst 0, 1) := by decide +kernel
theorem dX12_becomes_9 : decode cX12_becomes 9 = .ok (.istore_n 1, 1) := by decide +kernel
theorem dX12_becomes_10 : decode cX12_becomes 10 = .ok (.iload_n 1, 1) := by decide +kernel
theorem dX12_becomes_11 : decode cX12_becomes 11 = .ok (.aload_n 0, 1) := by decide +kernel
theorem dX12_becomes_12 : decode cX12_becomes 12 = .ok (.getfield 91, 3) := by decide +kernel
theorem dX12_becomes_15 : decode cX12_becomes 15 = .ok (.if_icmp .ge 21, 3) := by decide +kernel
theorem dX12_becomes_18 : decode cX12_becomes 18 = .ok (.aload_n 0, 1) := by decide +kernel
theorem dX12_becomes_19 : decode cX12_becomes 19 = .ok (.getfield 13, 3) := by decide +kernel
theorem dX12_becomes_22 : decode cX12_becomes 22 = .ok (.iload_n 1, 1) := by decide +kernel
theorem dX12_becomes_23 : decode cX12_becomes 23 = .ok (.aload_n 0, 1) := by decide +kernel
theorem dX12_becomes_24 : decode cX12_becomes 24 = .ok (.getfield 75, 3) := by decide +kernel
theorem dX12_becomes_27 : decode cX12_becomes 27 = .ok (.iload_n 1, 1) := by decide +kernel
theorem dX12_becomes_28 : decode cX12_becomes 28 = .ok (.iaload, 1) := by decide +kernel
theorem dX12_becomes_29 : decode cX12_becomes 29 = .ok (.iastore, 1) := by decide +kernel
theorem dX12_becomes_30 : decode cX12_becomes 30 = .ok (.iinc 1 1, 3) := by decide +kernel
theorem dX12_becomes_33 : decode cX12_becomes 33 = .ok (.goto (-23), 3) := by decide +kernel
theorem dX12_becomes_36 : decode cX12_becomes 36 = .ok (.aload_n 0, 1) := by decide +kernel
theorem dX12_becomes_37 : decode cX12_becomes 37 = .ok (.invokevirtual 97, 3) := by decide +kernel
theorem dX12_becomes_40 : decode cX12_becomes 40 = .ok (.return_, 1) := by decide +kernel
set_option maxRecDepth 20000 in
theorem ggX12_addsValue_X12_adds : GoodIn wsX12_addsValue wsX12_adds := goodIn_r _ [7, 8, 9, 10, 11, 12, 13, 14, 15, 16, 17, 18, 19, 20, 21, 22, 23, 24, 25, 26, 27, 28, 29, 30, 31, 32, 33, 34, 35, 36, 37, 38, 39, 40, 41, 42, 43] (by decide +kernel) (by decide +kernel)
set_option maxRecDepth 20000 in
theorem gX12_addsValue_X12_adds : GoodIn wsX12_addsValue (wsV RX12 103 RX12 yX12_adds wsX12_adds) := goodIn_app (goodIn_of _ (by decide +kernel)) ggX12_addsValue_X12_adds
theorem dX12_addsValue_0 : decode cX12_addsValue 0 = .ok (.iconst 0, 1) := by decide +kernel
theorem dX12_addsValue_1 : decode cX12_addsValue 1 = .ok (.istore_n 1, 1) := by decide +kernel
theorem dX12_addsValue_2 : decode cX12_addsValue 2 = .ok (.iload_n 1, 1) := by decide +kernel
theorem dX12_addsValue_3 : decode cX12_addsValue 3 = .ok (.aload_n 0, 1) := by decide +kernel
theorem dX12_addsValue_4 : decode cX12_addsValue 4 = .ok (.getfield 100, 3) := by decide +kernel
theorem dX12_addsValue_7 : decode cX12_addsValue 7 = .ok (.if_icmp .ge 19, 3) := by decide +kernel
theorem dX12_addsValue_10 : decode cX12_addsValue 10 = .ok (.aload_n 0, 1) := by decide +kernel
theorem dX12_addsValue_11 : decode cX12_addsValue 11 = .ok (.aload_n 0, 1) := by decide +kernel
theorem dX12_addsValue_12 : decode cX12_addsValue 12 = .ok (.getfield 72, 3) := by decide +kernel
theorem dX12_addsValue_15 : decode cX12_addsValue 15 = .ok (.iload_n 1, 1) := by decide +kernel
theorem dX12_addsValue_16 : decode cX12_addsValue 16 = .ok (.iaload, 1) := by decide +kernel
theorem dX12_addsValue_17 : decode cX12_addsValue 17 = .ok (.invokevirtual 103, 3) := by decide +kernel
theorem dX12_addsValue_20 : decode cX12_addsValue 20 = .ok (.iinc 1 1, 3) := by decide +kernel
theorem dX12_addsValue_23 : decode cX12_addsValue 23 = .ok (.goto (-21), 3) := by decide +kernel
theorem dX12_addsValue_26 : decode cX12_addsValue 26 = .ok (.return_, 1) := by decide +kernel
set_option maxRecDepth 20000 in
theorem ggX12_sets_X12_addsValue : GoodIn wsX12_sets wsX12_addsValue := goodIn_r _ [9, 10, 11, 12, 13, 14, 8, 15, 1, 16, 36, 37, 38, 39, 40, 41, 42, 43, 44, 45, 46, 47, 48, 49, 50, 51, 52, 53, 54, 55, 56, 57, 58, 59, 60, 61, 62, 63, 64, 65, 66, 67, 68, 69] (by decide +kernel) (by decide +kernel)
set_option maxRecDepth 20000 in
theorem gX12_sets_X12_addsValue : GoodIn wsX12_sets (wsV RX12 107 RX12 yX12_addsValue wsX12_addsValue) := goodIn_app (goodIn_of _ (by decide +kernel)) ggX12_sets_X12_addsValue
set_option maxRecDepth 20000 in
theorem ggX12_sets_X12_adds : GoodIn wsX12_sets wsX12_adds := goodIn_r _ [15, 1, 16, 36, 37, 38, 39, 40, 41, 42, 43, 44, 45, 46, 47, 48, 49, 50, 51, 52, 53, 54, 55, 56, 57, 58, 59, 60, 61, 62, 63, 64, 65, 66, 67, 68, 69] (by decide +kernel) (by decide +kernel)
set_option maxRecDepth 20000 in
theorem gX12_sets_X12_adds : GoodIn wsX12_sets (wsV RX12 103 RX12 yX12_adds wsX12_adds) := goodIn_app (goodIn_of _ (by decide +kernel)) ggX12_sets_X12_adds
set_option maxRecDepth 20000 in
theorem ggX12_sets_X12_from : GoodIn wsX12_sets wsX12_from := goodIn_r _ [20, 2, 21, 36, 37, 38, 39, 40, 41, 42, 43, 44, 45, 46, 47, 48, 49, 50, 51, 52, 53, 54, 55, 56, 57, 58, 59, 60, 61, 62, 63, 64, 65, 66, 67, 68, 69] (by decide +kernel) (by decide +kernel)
set_option maxRecDepth 20000 in
theorem gX12_sets_X12_from : GoodIn wsX12_sets (wsV RX12 110 RX12 yX12_from wsX12_from) := goodIn_app (goodIn_of _ (by decide +kernel)) ggX12_sets_X12_from
set_option maxRecDepth 20000 in
theorem ggX12_sets_X12_to : GoodIn wsX12_sets wsX12_to := goodIn_r _ [25, 26, 2, 27, 36, 37, 38, 39, 40, 41, 42, 43, 44, 45, 46, 47, 48, 49, 50, 51, 52, 53, 54, 55, 56, 57, 58, 59, 60, 61, 62, 63, 64, 65, 66, 67, 68, 69] (by decide +kernel) (by decide +kernel)
set_option maxRecDepth 20000 in
theorem gX12_sets_X12_to : GoodIn wsX12_sets (wsV RX12 114 RX12 yX12_to wsX12_to) := goodIn_app (goodIn_of _ (by decide +kernel)) ggX12_sets_X12_to
set_option maxRecDepth 20000 in
theorem ggX12_sets_X12_becomes : GoodIn wsX12_sets wsX12_becomes := goodIn_r _ [31, 1, 26, 4, 16, 32, 33, 34, 8, 35, 2, 21, 3, 27, 36, 37, 38, 39, 40, 41, 42, 43, 44, 45, 46, 47, 48, 49, 50, 51, 52, 53, 54, 55, 56, 57, 58, 59, 60, 61, 62, 63, 64, 65, 66, 67, 68, 69] (by decide +kernel) (by decide +kernel)
set_option maxRecDepth 20000 in
theorem gX12_sets_X12_becomes : GoodIn wsX12_sets (wsV RX12 117 RX12 yX12_becomes wsX12_becomes) := goodIn_app (goodIn_of _ (by decide +kernel)) ggX12_sets_X12_becomes
theorem dX12_sets_0 : decode cX12_sets 0 = .ok (.aload_n 0, 1) := by decide +kernel
theorem dX12_sets_1 : decode cX12_sets 1 = .ok (.iconst 0, 1) := by decide +kernel
theorem dX12_sets_2 : decode cX12_sets 2 = .ok (.putfield 94, 3) := by decide +kernel
theorem dX12_sets_5 : decode cX12_sets 5 = .ok (.iload_n 1, 1) := by decide +kernel
theorem dX12_sets_6 : decode cX12_sets 6 = .ok (.aload_n 0, 1) := by decide +kernel
theorem dX12_sets_7 : decode cX12_sets 7 = .ok (.getfield 88, 3) := by decide +kernel
theorem dX12_sets_10 : decode cX12_sets 10 = .ok (.if_icmp .le 7, 3) := by decide +kernel
theorem dX12_sets_13 : decode cX12_sets 13 = .ok (.iload_n 1, 1) := by decide +kernel
theorem dX12_sets_14 : decode cX12_sets 14 = .ok (.goto 7, 3) := by decide +kernel
theorem dX12_sets_17 : decode cX12_sets 17 = .ok (.aload_n 0, 1) := by decide +kernel
theorem dX12_sets_18 : decode cX12_sets 18 = .ok (.getfield 88, 3) := by decide +kernel
theorem dX12_sets_21 : decode cX12_sets 21 = .ok (.istore_n 2, 1) := by decide +kernel
theorem dX12_sets_22 : decode cX12_sets 22 = .ok (.iload_n 1, 1) := by decide +kernel
theorem dX12_sets_23 : decode cX12_sets 23 = .ok (.ifCond .ne 7, 3) := by decide +kernel
theorem dX12_sets_26 : decode cX12_sets 26 = .ok (.aload_n 0, 1) := by decide +kernel
theorem dX12_sets_27 : decode cX12_sets 27 = .ok (.invokevirtual 107, 3) := by decide +kernel
theorem dX12_sets_30 : decode cX12_sets 30 = .ok (.iconst 1, 1) := by decide +kernel
theorem dX12_sets_31 : decode cX12_sets 31 = .ok (.istore_n 3, 1) := by decide +kernel
theorem dX12_sets_32 : decode cX12_sets 32 = .ok (.iload_n 3, 1) := by decide +kernel
theorem dX12_sets_33 : decode cX12_sets 33 = .ok (.iload_n 2, 1) := by decide +kernel
theorem dX12_sets_34 : decode cX12_sets 34 = .ok (.if_icmp .gt 72, 3) := by decide +kernel
theorem dX12_sets_37 : decode cX12_sets 37 = .ok (.iload_n 1, 1) := by decide +kernel
theorem dX12_sets_38 : decode cX12_sets 38 = .ok (.ifCond .le 68, 3) := by decide +kernel
theorem dX12_sets_41 : decode cX12_sets 41 = .ok (.iload_n 3, 1) := by decide +kernel
theorem dX12_sets_42 : decode cX12_sets 42 = .ok (.iconst 1, 1) := by decide +kernel
theorem dX12_sets_43 : decode cX12_sets 43 = .ok (.if_icmp .le 11, 3) := by decide +kernel
theorem dX12_sets_46 : decode cX12_sets 46 = .ok (.aload_n 0, 1) := by decide +kernel
theorem dX12_sets_47 : decode cX12_sets 47 = .ok (.aload_n 0, 1) := by decide +kernel
theorem dX12_sets_48 : decode cX12_sets 48 = .ok (.getfield 7, 3) := by decide +kernel
theorem dX12_sets_51 : decode cX12_sets 51 = .ok (.invokevirtual 103, 3) := by decide +kernel
theorem dX12_sets_54 : decode cX12_sets 54 = .ok (.iload_n 3, 1) := by decide +kernel
theorem dX12_sets_55 : decode cX12_sets 55 = .ok (.iload_n 1, 1) := by decide +kernel
theorem dX12_sets_56 : decode cX12_sets 56 = .ok (.if_icmp .ne 10, 3) := by decide +kernel
theorem dX12_sets_59 : decode cX12_sets 59 = .ok (.aload_n 0, 1) := by decide +kernel
theorem dX12_sets_60 : decode cX12_sets 60 = .ok (.invokevirtual 107, 3) := by decide +kernel
theorem dX12_sets_63 : decode cX12_sets 63 = .ok (.goto 37, 3) := by decide +kernel
theorem dX12_sets_66 : decode cX12_sets 66 = .ok (.aload_n 0, 1) := by decide +kernel
theorem dX12_sets_67 : decode cX12_sets 67 = .ok (.iload_n 3, 1) := by decide +kernel
theorem dX12_sets_68 : decode cX12_sets 68 = .ok (.invokevirtual 110, 3) := by decide +kernel
theorem dX12_sets_71 : decode cX12_sets 71 = .ok (.istore 4, 2) := by decide +kernel
theorem dX12_sets_73 : decode cX12_sets 73 = .ok (.iload 4, 2) := by decide +kernel
theorem dX12_sets_75 : decode cX12_sets 75 = .ok (.aload_n 0, 1) := by decide +kernel
theorem dX12_sets_76 : decode cX12_sets 76 = .ok (.iload_n 3, 1) := by decide +kernel
theorem dX12_sets_77 : decode cX12_sets 77 = .ok (.invokevirtual 114, 3) := by decide +kernel
theorem dX12_sets_80 : decode cX12_sets 80 = .ok (.if_icmp .ge 20, 3) := by decide +kernel
theorem dX12_sets_83 : decode cX12_sets 83 = .ok (.aload_n 0, 1) := by decide +kernel
theorem dX12_sets_84 : decode cX12_sets 84 = .ok (.aload_n 0, 1) := by decide +kernel
theorem dX12_sets_85 : decode cX12_sets 85 = .ok (.getfield 13, 3) := by decide +kernel
theorem dX12_sets_88 : decode cX12_sets 88 = .ok (.iload 4, 2) := by decide +kernel
theorem dX12_sets_90 : decode cX12_sets 90 = .ok (.iaload, 1) := by decide +kernel
theorem dX12_sets_91 : decode cX12_sets 91 = .ok (.invokevirtual 103, 3) := by decide +kernel
theorem dX12_sets_94 : decode cX12_sets 94 = .ok (.iinc 4 1, 3) := by decide +kernel
theorem dX12_sets_97 : decode cX12_sets 97 = .ok (.goto (-24), 3) := by decide +kernel
theorem dX12_sets_100 : decode cX12_sets 100 = .ok (.iinc 3 1, 3) := by decide +kernel
theorem dX12_sets_103 : decode cX12_sets 103 = .ok (.goto (-71), 3) := by decide +kernel
theorem dX12_sets_106 : decode cX12_sets 106 = .ok (.aload_n 0, 1) := by decide +kernel
theorem dX12_sets_107 : decode cX12_sets 107 = .ok (.invokevirtual 117, 3) := by decide +kernel
theorem dX12_sets_110 : decode cX12_sets 110 = .ok (.return_, 1) := by decide +kernel
set_option maxRecDepth 20000 in
theorem ggX12_isDigit_X12_isIn : GoodIn wsX12_isDigit wsX12_isIn := goodIn_r _ [4] (by decide +kernel) (by decide +kernel)
set_option maxRecDepth 20000 in
theorem gX12_isDigit_X12_isIn : GoodIn wsX12_isDigit (va_wsS RX12 84 yX12_isIn wsX12_isIn) := goodIn_app (goodIn_of _ (by decide +kernel)) ggX12_isDigit_X12_isIn
theorem dX12_isDigit_0 : decode cX12_isDigit 0 = .ok (.iload_n 0, 1) := by decide +kernel
theorem dX12_isDigit_1 : decode cX12_isDigit 1 = .ok (.bipush 48, 2) := by decide +kernel
theorem dX12_isDigit_3 : decode cX12_isDigit 3 = .ok (.bipush 57, 2) := by decide +kernel
theorem dX12_isDigit_5 : decode cX12_isDigit 5 = .ok (.invokestatic 84, 3) := by decide +kernel
theorem dX12_isDigit_8 : decode cX12_isDigit 8 = .ok (.ireturn, 1) := by decide +kernel
set_option maxRecDepth 20000 in
theorem ggX12_numeric_X12_from : GoodIn wsX12_numeric wsX12_from := goodIn_r _ [6, 7, 8, 21, 22, 23, 24, 25, 26, 27, 28, 29, 30, 31, 32, 33, 34, 35, 36, 37, 38, 39, 40, 41, 42, 43, 44, 45, 46, 47, 48, 49, 50, 51, 52, 53, 54] (by decide +kernel) (by decide +kernel)
set_option maxRecDepth 20000 in
theorem gX12_numeric_X12_from : GoodIn wsX12_numeric (wsV RX12 110 RX12 yX12_from wsX12_from) := goodIn_app (goodIn_of _ (by decide +kernel)) ggX12_numeric_X12_from
set_option maxRecDepth 20000 in
theorem ggX12_numeric_X12_to : GoodIn wsX12_numeric wsX12_to := goodIn_r _ [12, 13, 7, 14, 21, 22, 23, 24, 25, 26, 27, 28, 29, 30, 31, 32, 33, 34, 35, 36, 37, 38, 39, 40, 41, 42, 43, 44, 45, 46, 47, 48, 49, 50, 51, 52, 53, 54] (by decide +kernel) (by decide +kernel)
set_option maxRecDepth 20000 in
theorem gX12_numeric_X12_to : GoodIn wsX12_numeric (wsV RX12 114 RX12 yX12_to wsX12_to) := goodIn_app (goodIn_of _ (by decide +kernel)) ggX12_numeric_X12_to
set_option maxRecDepth 20000 in
theorem ggX12_numeric_X12_isDigit : GoodIn wsX12_numeric wsX12_isDigit := goodIn_r _ [17, 18, 19, 5, 20] (by decide +kernel) (by decide +kernel)
set_option maxRecDepth 20000 in
theorem gX12_numeric_X12_isDigit : GoodIn wsX12_numeric (va_wsS RX12 120 yX12_isDigit wsX12_isDigit) := goodIn_app (goodIn_of _ (by decide +kernel)) ggX12_numeric_X12_isDigit
theorem dX12_numeric_0 : decode cX12_numeric 0 = .ok (.aload_n 0, 1) := by decide +kernel
theorem dX12_numeric_1 : decode cX12_numeric 1 = .ok (.iload_n 1, 1) := by decide +kernel
theorem dX12_numeric_2 : decode cX12_numeric 2 = .ok (.invokevirtual 110, 3) := by decide +kernel
theorem dX12_numeric_5 : decode cX12_numeric 5 = .ok (.istore_n 2, 1) := by decide +kernel
theorem dX12_numeric_6 : decode cX12_numeric 6 = .ok (.iload_n 2, 1) := by decide +kernel
theorem dX12_numeric_7 : decode cX12_numeric 7 = .ok (.aload_n 0, 1) := by decide +kernel
theorem dX12_numeric_8 : decode cX12_numeric 8 = .ok (.iload_n 1, 1) := by decide +kernel
theorem dX12_numeric_9 : decode cX12_numeric 9 = .ok (.invokevirtual 114, 3) := by decide +kernel
theorem dX12_numeric_12 : decode cX12_numeric 12 = .ok (.if_icmp .ge 18, 3) := by decide +kernel
theorem dX12_numeric_15 : decode cX12_numeric 15 = .ok (.aload_n 0, 1) := by decide +kernel
theorem dX12_numeric_16 : decode cX12_numeric 16 = .ok (.getfield 13, 3) := by decide +kernel
theorem dX12_numeric_19 : decode cX12_numeric 19 = .ok (.iload_n 2, 1) := by decide +kernel
theorem dX12_numeric_20 : decode cX12_numeric 20 = .ok (.iaload, 1) := by decide +kernel
theorem dX12_numeric_21 : decode cX12_numeric 21 = .ok (.bipush 45, 2) := by decide +kernel
theorem dX12_numeric_23 : decode cX12_numeric 23 = .ok (.if_icmp .ne 7, 3) := by decide +kernel
theorem dX12_numeric_26 : decode cX12_numeric 26 = .ok (.iconst 1, 1) := by decide +kernel
theorem dX12_numeric_27 : decode cX12_numeric 27 = .ok (.goto 4, 3) := by decide +kernel
theorem dX12_numeric_30 : decode cX12_numeric 30 = .ok (.iconst 0, 1) := by decide +kernel
theorem dX12_numeric_31 : decode cX12_numeric 31 = .ok (.istore_n 3, 1) := by decide +kernel
theorem dX12_numeric_32 : decode cX12_numeric 32 = .ok (.iload_n 3, 1) := by decide +kernel
theorem dX12_numeric_33 : decode cX12_numeric 33 = .ok (.ifCond .eq 9, 3) := by decide +kernel
theorem dX12_numeric_36 : decode cX12_numeric 36 = .ok (.iload_n 2, 1) := by decide +kernel
theorem dX12_numeric_37 : decode cX12_numeric 37 = .ok (.iconst 1, 1) := by decide +kernel
theorem dX12_numeric_38 : decode cX12_numeric 38 = .ok (.iadd, 1) := by decide +kernel
theorem dX12_numeric_39 : decode cX12_numeric 39 = .ok (.goto 4, 3) := by decide +kernel
theorem dX12_numeric_42 : decode cX12_numeric 42 = .ok (.iload_n 2, 1) := by decide +kernel
theorem dX12_numeric_43 : decode cX12_numeric 43 = .ok (.istore 4, 2) := by decide +kernel
theorem dX12_numeric_45 : decode cX12_numeric 45 = .ok (.iload 4, 2) := by decide +kernel
theorem dX12_numeric_47 : decode cX12_numeric 47 = .ok (.istore 5, 2) := by decide +kernel
theorem dX12_numeric_49 : decode cX12_numeric 49 = .ok (.iload 5, 2) := by decide +kernel
theorem dX12_numeric_51 : decode cX12_numeric 51 = .ok (.aload_n 0, 1) := by decide +kernel
theorem dX12_numeric_52 : decode cX12_numeric 52 = .ok (.iload_n 1, 1) := by decide +kernel
theorem dX12_numeric_53 : decode cX12_numeric 53 = .ok (.invokevirtual 114, 3) := by decide +kernel
theorem dX12_numeric_56 : decode cX12_numeric 56 = .ok (.if_icmp .ge 32, 3) := by decide +kernel
theorem dX12_numeric_59 : decode cX12_numeric 59 = .ok (.iload 5, 2) := by decide +kernel
theorem dX12_numeric_61 : decode cX12_numeric 61 = .ok (.iload 4, 2) := by decide +kernel
theorem dX12_numeric_63 : decode cX12_numeric 63 = .ok (.bipush 9, 2) := by decide +kernel
theorem dX12_numeric_65 : decode cX12_numeric 65 = .ok (.iadd, 1) := by decide +kernel
theorem dX12_numeric_66 : decode cX12_numeric 66 = .ok (.if_icmp .ge 22, 3) := by decide +kernel
theorem dX12_numeric_69 : decode cX12_numeric 69 = .ok (.aload_n 0, 1) := by decide +kernel
theorem dX12_numeric_70 : decode cX12_numeric 70 = .ok (.getfield 13, 3) := by decide +kernel
theorem dX12_numeric_73 : decode cX12_numeric 73 = .ok (.iload 5, 2) := by decide +kernel
theorem dX12_numeric_75 : decode cX12_numeric 75 = .ok (.iaload, 1) := by decide +kernel
theorem dX12_numeric_76 : decode cX12_numeric 76 = .ok (.invokestatic 120, 3) := by decide +kernel
theorem dX12_numeric_79 : decode cX12_numeric 79 = .ok (.ifCond .eq 9, 3) := by decide +kernel
theorem dX12_numeric_82 : decode cX12_numeric 82 = .ok (.iinc 5 1, 3) := by decide +kernel
theorem dX12_numeric_85 : decode cX12_numeric 85 = .ok (.goto (-36), 3) := by decide +kernel
theorem dX12_numeric_88 : decode cX12_numeric 88 = .ok (.iload 5, 2) := by decide +kernel
theorem dX12_numeric_90 : decode cX12_numeric 90 = .ok (.iload 4, 2) := by decide +kernel
theorem dX12_numeric_92 : decode cX12_numeric 92 = .ok (.if_icmp .ne 7, 3) := by decide +kernel
theorem dX12_numeric_95 : decode cX12_numeric 95 = .ok (.iload_n 2, 1) := by decide +kernel
theorem dX12_numeric_96 : decode cX12_numeric 96 = .ok (.goto 5, 3) := by decide +kernel
theorem dX12_numeric_99 : decode cX12_numeric 99 = .ok (.iload 5, 2) := by decide +kernel
theorem dX12_numeric_101 : decode cX12_numeric 101 = .ok (.ireturn, 1) := by decide +kernel
set_option maxRecDepth 20000 in
theorem ggX12_isNumeric_X12_numeric : GoodIn wsX12_isNumeric wsX12_numeric := goodIn_r _ [5, 6, 7, 8, 9, 4, 10, 11, 12, 13, 14, 15, 16, 17, 18, 19, 20, 21, 22, 23, 24, 25, 26, 27, 28, 29, 30, 31, 32, 33, 34, 35, 36, 37, 38, 39, 40, 41, 42, 43, 44, 45, 46, 47, 48, 49, 50, 51, 52, 53, 54, 55, 56, 57, 58] (by decide +kernel) (by decide +kernel)
set_option maxRecDepth 20000 in
theorem gX12_isNumeric_X12_numeric : GoodIn wsX12_isNumeric (wsV RX12 124 RX12 yX12_numeric wsX12_numeric) := goodIn_app (goodIn_of _ (by decide +kernel)) ggX12_isNumeric_X12_numeric
set_option maxRecDepth 20000 in
theorem ggX12_isNumeric_X12_from : GoodIn wsX12_isNumeric wsX12_from := goodIn_r _ [10, 11, 12, 25, 26, 27, 28, 29, 30, 31, 32, 33, 34, 35, 36, 37, 38, 39, 40, 41, 42, 43, 44, 45, 46, 47, 48, 49, 50, 51, 52, 53, 54, 55, 56, 57, 58] (by decide +kernel) (by decide +kernel)
set_option maxRecDepth 20000 in
theorem gX12_isNumeric_X12_from : GoodIn wsX12_isNumeric (wsV RX12 110 RX12 yX12_from wsX12_from) := goodIn_app (goodIn_of _ (by decide +kernel)) ggX12_isNumeric_X12_from
set_option maxRecDepth 20000 in
theorem ggX12_isNumeric_X12_to : GoodIn wsX12_isNumeric wsX12_to := goodIn_r _ [16, 17, 11, 18, 25, 26, 27, 28, 29, 30, 31, 32, 33, 34, 35, 36, 37, 38, 39, 40, 41, 42, 43, 44, 45, 46, 47, 48, 49, 50, 51, 52, 53, 54, 55, 56, 57, 58] (by decide +kernel) (by decide +kernel)
set_option maxRecDepth 20000 in
theorem gX12_isNumeric_X12_to : GoodIn wsX12_isNumeric (wsV RX12 114 RX12 yX12_to wsX12_to) := goodIn_app (goodIn_of _ (by decide +kernel)) ggX12_isNumeric_X12_to
theorem dX12_isNumeric_0 : decode cX12_isNumeric 0 = .ok (.aload_n 0, 1) := by decide +kernel
theorem dX12_isNumeric_1 : decode cX12_isNumeric 1 = .ok (.iload_n 1, 1) := by decide +kernel
theorem dX12_isNumeric_2 : decode cX12_isNumeric 2 = .ok (.invokevirtual 124, 3) := by decide +kernel
theorem dX12_isNumeric_5 : decode cX12_isNumeric 5 = .ok (.aload_n 0, 1) := by decide +kernel
theorem dX12_isNumeric_6 : decode cX12_isNumeric 6 = .ok (.iload_n 1, 1) := by decide +kernel
theorem dX12_isNumeric_7 : decode cX12_isNumeric 7 = .ok (.invokevirtual 110, 3) := by decide +kernel
theorem dX12_isNumeric_10 : decode cX12_isNumeric 10 = .ok (.if_icmp .le 20, 3) := by decide +kernel
theorem dX12_isNumeric_13 : decode cX12_isNumeric 13 = .ok (.aload_n 0, 1) := by decide +kernel
theorem dX12_isNumeric_14 : decode cX12_isNumeric 14 = .ok (.iload_n 1, 1) := by decide +kernel
theorem dX12_isNumeric_15 : decode cX12_isNumeric 15 = .ok (.invokevirtual 124, 3) := by decide +kernel
theorem dX12_isNumeric_18 : decode cX12_isNumeric 18 = .ok (.aload_n 0, 1) := by decide +kernel
theorem dX12_isNumeric_19 : decode cX12_isNumeric 19 = .ok (.iload_n 1, 1) := by decide +kernel
theorem dX12_isNumeric_20 : decode cX12_isNumeric 20 = .ok (.invokevirtual 114, 3) := by decide +kernel
theorem dX12_isNumeric_23 : decode cX12_isNumeric 23 = .ok (.if_icmp .ne 7, 3) := by decide +kernel
theorem dX12_isNumeric_26 : decode cX12_isNumeric 26 = .ok (.iconst 1, 1) := by decide +kernel
theorem dX12_isNumeric_27 : decode cX12_isNumeric 27 = .ok (.goto 4, 3) := by decide +kernel
theorem dX12_isNumeric_30 : decode cX12_isNumeric 30 = .ok (.iconst 0, 1) := by decide +kernel
theorem dX12_isNumeric_31 : decode cX12_isNumeric 31 = .ok (.ireturn, 1) := by decide +kernel
set_option maxRecDepth 20000 in
theorem ggX12_numberOf_X12_from : GoodIn wsX12_numberOf wsX12_from := goodIn_r _ [6, 7, 8, 25, 26, 27, 28, 29, 30, 31, 32, 33, 34, 35, 36, 37, 38, 39, 40, 41, 42, 43, 44, 45, 46, 47, 48, 49, 50, 51, 52, 53, 54, 55, 56, 57, 58] (by decide +kernel) (by decide +kernel)
set_option maxRecDepth 20000 in
theorem gX12_numberOf_X12_from : GoodIn wsX12_numberOf (wsV RX12 110 RX12 yX12_from wsX12_from) := goodIn_app (goodIn_of _ (by decide +kernel)) ggX12_numberOf_X12_from
set_option maxRecDepth 20000 in
theorem ggX12_numberOf_X12_to : GoodIn wsX12_numberOf wsX12_to := goodIn_r _ [12, 13, 7, 14, 25, 26, 27, 28, 29, 30, 31, 32, 33, 34, 35, 36, 37, 38, 39, 40, 41, 42, 43, 44, 45, 46, 47, 48, 49, 50, 51, 52, 53, 54, 55, 56, 57, 58] (by decide +kernel) (by decide +kernel)
set_option maxRecDepth 20000 in
theorem gX12_numberOf_X12_to : GoodIn wsX12_numberOf (wsV RX12 114 RX12 yX12_to wsX12_to) := goodIn_app (goodIn_of _ (by decide +kernel)) ggX12_numberOf_X12_to
set_option maxRecDepth 20000 in
theorem ggX12_numberOf_X12_numeric : GoodIn wsX12_numberOf wsX12_numeric := goodIn_r _ [18, 1, 2, 3, 4, 5, 6, 7, 8, 9, 10, 11, 12, 13, 14, 19, 20, 21, 22, 23, 24, 25, 26, 27, 28, 29, 30, 31, 32, 33, 34, 35, 36, 37, 38, 39, 40, 41, 42, 43, 44, 45, 46, 47, 48, 49, 50, 51, 52, 53, 54, 55, 56, 57, 58] (by decide +kernel) (by decide +kernel)
set_option maxRecDepth 20000 in
theorem gX12_numberOf_X12_numeric : GoodIn wsX12_numberOf (wsV RX12 124 RX12 yX12_numeric wsX12_numeric) := goodIn_app (goodIn_of _ (by decide +kernel)) ggX12_numberOf_X12_numeric
theorem dX12_numberOf_0 : decode cX12_numberOf 0 = .ok (.aload_n 0, 1) := by decide +kernel
theorem dX12_numberOf_1 : decode cX12_numberOf 1 = .ok (.iload_n 1, 1) := by decide +kernel
theorem dX12_numberOf_2 : decode cX12_numberOf 2 = .ok (.invokevirtual 110, 3) := by decide +kernel
theorem dX12_numberOf_5 : decode cX12_numberOf 5 = .ok (.istore_n 2, 1) := by decide +kernel
theorem dX12_numberOf_6 : decode cX12_numberOf 6 = .ok (.iload_n 2, 1) := by decide +kernel
theorem dX12_numberOf_7 : decode cX12_numberOf 7 = .ok (.aload_n 0, 1) := by decide +kernel
theorem dX12_numberOf_8 : decode cX12_numberOf 8 = .ok (.iload_n 1, 1) := by decide +kernel
theorem dX12_numberOf_9 : decode cX12_numberOf 9 = .ok (.invokevirtual 114, 3) := by decide +kernel
theorem dX12_numberOf_12 : decode cX12_numberOf 12 = .ok (.if_icmp .ge 18, 3) := by decide +kernel
theorem dX12_numberOf_15 : decode cX12_numberOf 15 = .ok (.aload_n 0, 1) := by decide +kernel
theorem dX12_numberOf_16 : decode cX12_numberOf 16 = .ok (.getfield 13, 3) := by decide +kernel
theorem dX12_numberOf_19 : decode cX12_numberOf 19 = .ok (.iload_n 2, 1) := by decide +kernel
theorem dX12_numberOf_20 : decode cX12_numberOf 20 = .ok (.iaload, 1) := by decide +kernel
theorem dX12_numberOf_21 : decode cX12_numberOf 21 = .ok (.bipush 45, 2) := by decide +kernel
theorem dX12_numberOf_23 : decode cX12_numberOf 23 = .ok (.if_icmp .ne 7, 3) := by decide +kernel
theorem dX12_numberOf_26 : decode cX12_numberOf 26 = .ok (.iconst 1, 1) := by decide +kernel
theorem dX12_numberOf_27 : decode cX12_numberOf 27 = .ok (.goto 4, 3) := by decide +kernel
theorem dX12_numberOf_30 : decode cX12_numberOf 30 = .ok (.iconst 0, 1) := by decide +kernel
theorem dX12_numberOf_31 : decode cX12_numberOf 31 = .ok (.istore_n 3, 1) := by decide +kernel
theorem dX12_numberOf_32 : decode cX12_numberOf 32 = .ok (.iconst 0, 1) := by decide +kernel
theorem dX12_numberOf_33 : decode cX12_numberOf 33 = .ok (.istore 4, 2) := by decide +kernel
theorem dX12_numberOf_35 : decode cX12_numberOf 35 = .ok (.iload_n 3, 1) := by decide +kernel
theorem dX12_numberOf_36 : decode cX12_numberOf 36 = .ok (.ifCond .eq 9, 3) := by decide +kernel
theorem dX12_numberOf_39 : decode cX12_numberOf 39 = .ok (.iload_n 2, 1) := by decide +kernel
theorem dX12_numberOf_40 : decode cX12_numberOf 40 = .ok (.iconst 1, 1) := by decide +kernel
theorem dX12_numberOf_41 : decode cX12_numberOf 41 = .ok (.iadd, 1) := by decide +kernel
theorem dX12_numberOf_42 : decode cX12_numberOf 42 = .ok (.goto 4, 3) := by decide +kernel
theorem dX12_numberOf_45 : decode cX12_numberOf 45 = .ok (.iload_n 2, 1) := by decide +kernel
theorem dX12_numberOf_46 : decode cX12_numberOf 46 = .ok (.istore 5, 2) := by decide +kernel
theorem dX12_numberOf_48 : decode cX12_numberOf 48 = .ok (.iload 5, 2) := by decide +kernel
theorem dX12_numberOf_50 : decode cX12_numberOf 50 = .ok (.aload_n 0, 1) := by decide +kernel
theorem dX12_numberOf_51 : decode cX12_numberOf 51 = .ok (.iload_n 1, 1) := by decide +kernel
theorem dX12_numberOf_52 : decode cX12_numberOf 52 = .ok (.invokevirtual 124, 3) := by decide +kernel
theorem dX12_numberOf_55 : decode cX12_numberOf 55 = .ok (.if_icmp .ge 27, 3) := by decide +kernel
theorem dX12_numberOf_58 : decode cX12_numberOf 58 = .ok (.bipush 10, 2) := by decide +kernel
theorem dX12_numberOf_60 : decode cX12_numberOf 60 = .ok (.iload 4, 2) := by decide +kernel
theorem dX12_numberOf_62 : decode cX12_numberOf 62 = .ok (.imul, 1) := by decide +kernel
theorem dX12_numberOf_63 : decode cX12_numberOf 63 = .ok (.aload_n 0, 1) := by decide +kernel
theorem dX12_numberOf_64 : decode cX12_numberOf 64 = .ok (.getfield 13, 3) := by decide +kernel
theorem dX12_numberOf_67 : decode cX12_numberOf 67 = .ok (.iload 5, 2) := by decide +kernel
theorem dX12_numberOf_69 : decode cX12_numberOf 69 = .ok (.iaload, 1) := by decide +kernel
theorem dX12_numberOf_70 : decode cX12_numberOf 70 = .ok (.iadd, 1) := by decide +kernel
theorem dX12_numberOf_71 : decode cX12_numberOf 71 = .ok (.bipush 48, 2) := by decide +kernel
theorem dX12_numberOf_73 : decode cX12_numberOf 73 = .ok (.isub, 1) := by decide +kernel
theorem dX12_numberOf_74 : decode cX12_numberOf 74 = .ok (.istore 4, 2) := by decide +kernel
theorem dX12_numberOf_76 : decode cX12_numberOf 76 = .ok (.iinc 5 1, 3) := by decide +kernel
theorem dX12_numberOf_79 : decode cX12_numberOf 79 = .ok (.goto (-31), 3) := by decide +kernel
theorem dX12_numberOf_82 : decode cX12_numberOf 82 = .ok (.iload_n 3, 1) := by decide +kernel
theorem dX12_numberOf_83 : decode cX12_numberOf 83 = .ok (.ifCond .eq 9, 3) := by decide +kernel
theorem dX12_numberOf_86 : decode cX12_numberOf 86 = .ok (.iload 4, 2) := by decide +kernel
theorem dX12_numberOf_88 : decode cX12_numberOf 88 = .ok (.ineg, 1) := by decide +kernel
theorem dX12_numberOf_89 : decode cX12_numberOf 89 = .ok (.goto 5, 3) := by decide +kernel
theorem dX12_numberOf_92 : decode cX12_numberOf 92 = .ok (.iload 4, 2) := by decide +kernel
theorem dX12_numberOf_94 : decode cX12_numberOf 94 = .ok (.ireturn, 1) := by decide +kernel
theorem dX12_rank_0 : decode cX12_rank 0 = .ok (.iload_n 0, 1) := by decide +kernel
theorem dX12_rank_1 : decode cX12_rank 1 = .ok (.bipush 32, 2) := by decide +kernel
theorem dX12_rank_3 : decode cX12_rank 3 = .ok (.if_icmp .ne 7, 3) := by decide +kernel
theorem dX12_rank_6 : decode cX12_rank 6 = .ok (.iconst 0, 1) := by decide +kernel
theorem dX12_rank_7 : decode cX12_rank 7 = .ok (.goto 24, 3) := by decide +kernel
theorem dX12_rank_10 : decode cX12_rank 10 = .ok (.iload_n 0, 1) := by decide +kernel
theorem dX12_rank_11 : decode cX12_rank 11 = .ok (.bipush 45, 2) := by decide +kernel
theorem dX12_rank_13 : decode cX12_rank 13 = .ok (.if_icmp .ne 7, 3) := by decide +kernel
theorem dX12_rank_16 : decode cX12_rank 16 = .ok (.iconst 1, 1) := by decide +kernel
theorem dX12_rank_17 : decode cX12_rank 17 = .ok (.goto 14, 3) := by decide +kernel
theorem dX12_rank_20 : decode cX12_rank 20 = .ok (.iload_n 0, 1) := by decide +kernel
theorem dX12_rank_21 : decode cX12_rank 21 = .ok (.bipush 44, 2) := by decide +kernel
theorem dX12_rank_23 : decode cX12_rank 23 = .ok (.if_icmp .ne 7, 3) := by decide +kernel
